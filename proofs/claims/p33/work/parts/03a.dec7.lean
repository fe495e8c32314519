theorem dX0_init_0 : decode cX0_init 0 = .ok (.aload_n 0, 1) := by decide +kernel
theorem dX0_init_1 : decode cX0_init 1 = .ok (.invokespecial 3, 3) := by decide +kernel
theorem dX0_init_4 : decode cX0_init 4 = .ok (.aload_n 0, 1) := by decide +kernel
theorem dX0_init_5 : decode cX0_init 5 = .ok (.iconst 1, 1) := by decide +kernel
theorem dX0_init_6 : decode cX0_init 6 = .ok (.putfield 9, 3) := by decide +kernel
theorem dX0_init_9 : decode cX0_init 9 = .ok (.aload_n 0, 1) := by decide +kernel
theorem dX0_init_10 : decode cX0_init 10 = .ok (.iconst (-1), 1) := by decide +kernel
theorem dX0_init_11 : decode cX0_init 11 = .ok (.putfield 15, 3) := by decide +kernel
theorem dX0_init_14 : decode cX0_init 14 = .ok (.aload_n 0, 1) := by decide +kernel
theorem dX0_init_15 : decode cX0_init 15 = .ok (.iconst (-1), 1) := by decide +kernel
theorem dX0_init_16 : decode cX0_init 16 = .ok (.putfield 19, 3) := by decide +kernel
theorem dX0_init_19 : decode cX0_init 19 = .ok (.aload_n 0, 1) := by decide +kernel
theorem dX0_init_20 : decode cX0_init 20 = .ok (.iconst 0, 1) := by decide +kernel
theorem dX0_init_21 : decode cX0_init 21 = .ok (.putfield 22, 3) := by decide +kernel
theorem dX0_init_24 : decode cX0_init 24 = .ok (.aload_n 0, 1) := by decide +kernel
theorem dX0_init_25 : decode cX0_init 25 = .ok (.iconst 0, 1) := by decide +kernel
theorem dX0_init_26 : decode cX0_init 26 = .ok (.putfield 25, 3) := by decide +kernel
theorem dX0_init_29 : decode cX0_init 29 = .ok (.aload_n 0, 1) := by decide +kernel
theorem dX0_init_30 : decode cX0_init 30 = .ok (.iconst 0, 1) := by decide +kernel
theorem dX0_init_31 : decode cX0_init 31 = .ok (.putfield 28, 3) := by decide +kernel
theorem dX0_init_34 : decode cX0_init 34 = .ok (.aload_n 0, 1) := by decide +kernel
theorem dX0_init_35 : decode cX0_init 35 = .ok (.iload_n 1, 1) := by decide +kernel
theorem dX0_init_36 : decode cX0_init 36 = .ok (.putfield 31, 3) := by decide +kernel
theorem dX0_init_39 : decode cX0_init 39 = .ok (.aload_n 0, 1) := by decide +kernel
theorem dX0_init_40 : decode cX0_init 40 = .ok (.iload_n 2, 1) := by decide +kernel
theorem dX0_init_41 : decode cX0_init 41 = .ok (.putfield 34, 3) := by decide +kernel
theorem dX0_init_44 : decode cX0_init 44 = .ok (.aload_n 0, 1) := by decide +kernel
theorem dX0_init_45 : decode cX0_init 45 = .ok (.iload_n 3, 1) := by decide +kernel
theorem dX0_init_46 : decode cX0_init 46 = .ok (.putfield 37, 3) := by decide +kernel
theorem dX0_init_49 : decode cX0_init 49 = .ok (.aload_n 0, 1) := by decide +kernel
theorem dX0_init_50 : decode cX0_init 50 = .ok (.iload 4, 2) := by decide +kernel
theorem dX0_init_52 : decode cX0_init 52 = .ok (.putfield 40, 3) := by decide +kernel
theorem dX0_init_55 : decode cX0_init 55 = .ok (.aload_n 0, 1) := by decide +kernel
theorem dX0_init_56 : decode cX0_init 56 = .ok (.iload 5, 2) := by decide +kernel
theorem dX0_init_58 : decode cX0_init 58 = .ok (.putfield 43, 3) := by decide +kernel
theorem dX0_init_61 : decode cX0_init 61 = .ok (.return_, 1) := by decide +kernel
theorem dX0_covers_0 : decode cX0_covers 0 = .ok (.iload_n 1, 1) := by decide +kernel
theorem dX0_covers_1 : decode cX0_covers 1 = .ok (.aload_n 0, 1) := by decide +kernel
theorem dX0_covers_2 : decode cX0_covers 2 = .ok (.getfield 34, 3) := by decide +kernel
theorem dX0_covers_5 : decode cX0_covers 5 = .ok (.if_icmp .lt 20, 3) := by decide +kernel
theorem dX0_covers_8 : decode cX0_covers 8 = .ok (.iload_n 1, 1) := by decide +kernel
theorem dX0_covers_9 : decode cX0_covers 9 = .ok (.aload_n 0, 1) := by decide +kernel
theorem dX0_covers_10 : decode cX0_covers 10 = .ok (.getfield 34, 3) := by decide +kernel
theorem dX0_covers_13 : decode cX0_covers 13 = .ok (.aload_n 0, 1) := by decide +kernel
theorem dX0_covers_14 : decode cX0_covers 14 = .ok (.getfield 37, 3) := by decide +kernel
theorem dX0_covers_17 : decode cX0_covers 17 = .ok (.iadd, 1) := by decide +kernel
theorem dX0_covers_18 : decode cX0_covers 18 = .ok (.if_icmp .ge 7, 3) := by decide +kernel
theorem dX0_covers_21 : decode cX0_covers 21 = .ok (.iconst 1, 1) := by decide +kernel
theorem dX0_covers_22 : decode cX0_covers 22 = .ok (.goto 4, 3) := by decide +kernel
theorem dX0_covers_25 : decode cX0_covers 25 = .ok (.iconst 0, 1) := by decide +kernel
theorem dX0_covers_26 : decode cX0_covers 26 = .ok (.ireturn, 1) := by decide +kernel
theorem dX0_sellTo_0 : decode cX0_sellTo 0 = .ok (.aload_n 0, 1) := by decide +kernel
theorem dX0_sellTo_1 : decode cX0_sellTo 1 = .ok (.aload_n 0, 1) := by decide +kernel
theorem dX0_sellTo_2 : decode cX0_sellTo 2 = .ok (.getfield 31, 3) := by decide +kernel
theorem dX0_sellTo_5 : decode cX0_sellTo 5 = .ok (.putfield 15, 3) := by decide +kernel
theorem dX0_sellTo_8 : decode cX0_sellTo 8 = .ok (.aload_n 0, 1) := by decide +kernel
theorem dX0_sellTo_9 : decode cX0_sellTo 9 = .ok (.iload_n 1, 1) := by decide +kernel
theorem dX0_sellTo_10 : decode cX0_sellTo 10 = .ok (.putfield 31, 3) := by decide +kernel
theorem dX0_sellTo_13 : decode cX0_sellTo 13 = .ok (.aload_n 0, 1) := by decide +kernel
theorem dX0_sellTo_14 : decode cX0_sellTo 14 = .ok (.iload_n 3, 1) := by decide +kernel
theorem dX0_sellTo_15 : decode cX0_sellTo 15 = .ok (.putfield 19, 3) := by decide +kernel
theorem dX0_sellTo_18 : decode cX0_sellTo 18 = .ok (.aload_n 0, 1) := by decide +kernel
theorem dX0_sellTo_19 : decode cX0_sellTo 19 = .ok (.iload_n 2, 1) := by decide +kernel
theorem dX0_sellTo_20 : decode cX0_sellTo 20 = .ok (.putfield 22, 3) := by decide +kernel
theorem dX0_sellTo_23 : decode cX0_sellTo 23 = .ok (.aload_n 0, 1) := by decide +kernel
theorem dX0_sellTo_24 : decode cX0_sellTo 24 = .ok (.iload 4, 2) := by decide +kernel
theorem dX0_sellTo_26 : decode cX0_sellTo 26 = .ok (.putfield 25, 3) := by decide +kernel
theorem dX0_sellTo_29 : decode cX0_sellTo 29 = .ok (.aload_n 0, 1) := by decide +kernel
theorem dX0_sellTo_30 : decode cX0_sellTo 30 = .ok (.iconst 0, 1) := by decide +kernel
theorem dX0_sellTo_31 : decode cX0_sellTo 31 = .ok (.putfield 28, 3) := by decide +kernel
theorem dX0_sellTo_34 : decode cX0_sellTo 34 = .ok (.return_, 1) := by decide +kernel
theorem dX1_init_0 : decode cX1_init 0 = .ok (.aload_n 0, 1) := by decide +kernel
theorem dX1_init_1 : decode cX1_init 1 = .ok (.invokespecial 3, 3) := by decide +kernel
theorem dX1_init_4 : decode cX1_init 4 = .ok (.aload_n 0, 1) := by decide +kernel
theorem dX1_init_5 : decode cX1_init 5 = .ok (.bipush 40, 2) := by decide +kernel
theorem dX1_init_7 : decode cX1_init 7 = .ok (.newarray .int, 2) := by decide +kernel
theorem dX1_init_9 : decode cX1_init 9 = .ok (.putfield 9, 3) := by decide +kernel
theorem dX1_init_12 : decode cX1_init 12 = .ok (.aload_n 0, 1) := by decide +kernel
theorem dX1_init_13 : decode cX1_init 13 = .ok (.bipush 40, 2) := by decide +kernel
theorem dX1_init_15 : decode cX1_init 15 = .ok (.newarray .int, 2) := by decide +kernel
theorem dX1_init_17 : decode cX1_init 17 = .ok (.putfield 15, 3) := by decide +kernel
theorem dX1_init_20 : decode cX1_init 20 = .ok (.aload_n 0, 1) := by decide +kernel
theorem dX1_init_21 : decode cX1_init 21 = .ok (.iconst 0, 1) := by decide +kernel
theorem dX1_init_22 : decode cX1_init 22 = .ok (.putfield 18, 3) := by decide +kernel
theorem dX1_init_25 : decode cX1_init 25 = .ok (.aload_n 0, 1) := by decide +kernel
theorem dX1_init_26 : decode cX1_init 26 = .ok (.iconst 0, 1) := by decide +kernel
theorem dX1_init_27 : decode cX1_init 27 = .ok (.putfield 22, 3) := by decide +kernel
theorem dX1_init_30 : decode cX1_init 30 = .ok (.return_, 1) := by decide +kernel
theorem dX1_grainsAt_0 : decode cX1_grainsAt 0 = .ok (.iload_n 1, 1) := by decide +kernel
theorem dX1_grainsAt_1 : decode cX1_grainsAt 1 = .ok (.invokestatic 26, 3) := by decide +kernel
theorem dX1_grainsAt_4 : decode cX1_grainsAt 4 = .ok (.ifCond .eq 12, 3) := by decide +kernel
theorem dX1_grainsAt_7 : decode cX1_grainsAt 7 = .ok (.aload_n 0, 1) := by decide +kernel
theorem dX1_grainsAt_8 : decode cX1_grainsAt 8 = .ok (.getfield 9, 3) := by decide +kernel
theorem dX1_grainsAt_11 : decode cX1_grainsAt 11 = .ok (.iload_n 1, 1) := by decide +kernel
theorem dX1_grainsAt_12 : decode cX1_grainsAt 12 = .ok (.iaload, 1) := by decide +kernel
theorem dX1_grainsAt_13 : decode cX1_grainsAt 13 = .ok (.goto 4, 3) := by decide +kernel
theorem dX1_grainsAt_16 : decode cX1_grainsAt 16 = .ok (.iconst 0, 1) := by decide +kernel
theorem dX1_grainsAt_17 : decode cX1_grainsAt 17 = .ok (.ireturn, 1) := by decide +kernel
theorem dX1_clayAt_0 : decode cX1_clayAt 0 = .ok (.iload_n 1, 1) := by decide +kernel
theorem dX1_clayAt_1 : decode cX1_clayAt 1 = .ok (.invokestatic 26, 3) := by decide +kernel
theorem dX1_clayAt_4 : decode cX1_clayAt 4 = .ok (.ifCond .eq 12, 3) := by decide +kernel
theorem dX1_clayAt_7 : decode cX1_clayAt 7 = .ok (.aload_n 0, 1) := by decide +kernel
theorem dX1_clayAt_8 : decode cX1_clayAt 8 = .ok (.getfield 15, 3) := by decide +kernel
theorem dX1_clayAt_11 : decode cX1_clayAt 11 = .ok (.iload_n 1, 1) := by decide +kernel
theorem dX1_clayAt_12 : decode cX1_clayAt 12 = .ok (.iaload, 1) := by decide +kernel
theorem dX1_clayAt_13 : decode cX1_clayAt 13 = .ok (.goto 4, 3) := by decide +kernel
theorem dX1_clayAt_16 : decode cX1_clayAt 16 = .ok (.iconst 0, 1) := by decide +kernel
theorem dX1_clayAt_17 : decode cX1_clayAt 17 = .ok (.ireturn, 1) := by decide +kernel
theorem dX1_lay_0 : decode cX1_lay 0 = .ok (.iload_n 1, 1) := by decide +kernel
theorem dX1_lay_1 : decode cX1_lay 1 = .ok (.invokestatic 26, 3) := by decide +kernel
theorem dX1_lay_4 : decode cX1_lay 4 = .ok (.ifCond .eq 17, 3) := by decide +kernel
theorem dX1_lay_7 : decode cX1_lay 7 = .ok (.aload_n 0, 1) := by decide +kernel
theorem dX1_lay_8 : decode cX1_lay 8 = .ok (.getfield 9, 3) := by decide +kernel
theorem dX1_lay_11 : decode cX1_lay 11 = .ok (.iload_n 1, 1) := by decide +kernel
theorem dX1_lay_12 : decode cX1_lay 12 = .ok (.iload_n 2, 1) := by decide +kernel
theorem dX1_lay_13 : decode cX1_lay 13 = .ok (.iastore, 1) := by decide +kernel
theorem dX1_lay_14 : decode cX1_lay 14 = .ok (.aload_n 0, 1) := by decide +kernel
theorem dX1_lay_15 : decode cX1_lay 15 = .ok (.getfield 15, 3) := by decide +kernel
theorem dX1_lay_18 : decode cX1_lay 18 = .ok (.iload_n 1, 1) := by decide +kernel
theorem dX1_lay_19 : decode cX1_lay 19 = .ok (.iload_n 3, 1) := by decide +kernel
theorem dX1_lay_20 : decode cX1_lay 20 = .ok (.iastore, 1) := by decide +kernel
theorem dX1_lay_21 : decode cX1_lay 21 = .ok (.return_, 1) := by decide +kernel
theorem dX1_drop_0 : decode cX1_drop 0 = .ok (.iload_n 1, 1) := by decide +kernel
theorem dX1_drop_1 : decode cX1_drop 1 = .ok (.invokestatic 26, 3) := by decide +kernel
theorem dX1_drop_4 : decode cX1_drop 4 = .ok (.ifCond .eq 16, 3) := by decide +kernel
theorem dX1_drop_7 : decode cX1_drop 7 = .ok (.aload_n 0, 1) := by decide +kernel
theorem dX1_drop_8 : decode cX1_drop 8 = .ok (.getfield 9, 3) := by decide +kernel
theorem dX1_drop_11 : decode cX1_drop 11 = .ok (.iload_n 1, 1) := by decide +kernel
theorem dX1_drop_12 : decode cX1_drop 12 = .ok (.dup2, 1) := by decide +kernel
theorem dX1_drop_13 : decode cX1_drop 13 = .ok (.iaload, 1) := by decide +kernel
theorem dX1_drop_14 : decode cX1_drop 14 = .ok (.iload_n 2, 1) := by decide +kernel
theorem dX1_drop_15 : decode cX1_drop 15 = .ok (.iadd, 1) := by decide +kernel
theorem dX1_drop_16 : decode cX1_drop 16 = .ok (.iastore, 1) := by decide +kernel
theorem dX1_drop_17 : decode cX1_drop 17 = .ok (.goto 13, 3) := by decide +kernel
theorem dX1_drop_20 : decode cX1_drop 20 = .ok (.aload_n 0, 1) := by decide +kernel
theorem dX1_drop_21 : decode cX1_drop 21 = .ok (.dup, 1) := by decide +kernel
theorem dX1_drop_22 : decode cX1_drop 22 = .ok (.getfield 18, 3) := by decide +kernel
theorem dX1_drop_25 : decode cX1_drop 25 = .ok (.iload_n 2, 1) := by decide +kernel
theorem dX1_drop_26 : decode cX1_drop 26 = .ok (.iadd, 1) := by decide +kernel
theorem dX1_drop_27 : decode cX1_drop 27 = .ok (.putfield 18, 3) := by decide +kernel
theorem dX1_drop_30 : decode cX1_drop 30 = .ok (.return_, 1) := by decide +kernel
theorem dX1_dig_0 : decode cX1_dig 0 = .ok (.aload_n 0, 1) := by decide +kernel
theorem dX1_dig_1 : decode cX1_dig 1 = .ok (.iload_n 1, 1) := by decide +kernel
theorem dX1_dig_2 : decode cX1_dig 2 = .ok (.invokevirtual 30, 3) := by decide +kernel
theorem dX1_dig_5 : decode cX1_dig 5 = .ok (.aload_n 2, 1) := by decide +kernel
theorem dX1_dig_6 : decode cX1_dig 6 = .ok (.getfield 34, 3) := by decide +kernel
theorem dX1_dig_9 : decode cX1_dig 9 = .ok (.invokestatic 39, 3) := by decide +kernel
theorem dX1_dig_12 : decode cX1_dig 12 = .ok (.istore_n 3, 1) := by decide +kernel
theorem dX1_dig_13 : decode cX1_dig 13 = .ok (.aload_n 2, 1) := by decide +kernel
theorem dX1_dig_14 : decode cX1_dig 14 = .ok (.iload_n 3, 1) := by decide +kernel
theorem dX1_dig_15 : decode cX1_dig 15 = .ok (.aload_n 0, 1) := by decide +kernel
theorem dX1_dig_16 : decode cX1_dig 16 = .ok (.iload_n 1, 1) := by decide +kernel
theorem dX1_dig_17 : decode cX1_dig 17 = .ok (.invokevirtual 45, 3) := by decide +kernel
theorem dX1_dig_20 : decode cX1_dig 20 = .ok (.invokevirtual 48, 3) := by decide +kernel
theorem dX1_dig_23 : decode cX1_dig 23 = .ok (.istore 4, 2) := by decide +kernel
theorem dX1_dig_25 : decode cX1_dig 25 = .ok (.aload_n 0, 1) := by decide +kernel
theorem dX1_dig_26 : decode cX1_dig 26 = .ok (.iload_n 1, 1) := by decide +kernel
theorem dX1_dig_27 : decode cX1_dig 27 = .ok (.iload_n 3, 1) := by decide +kernel
theorem dX1_dig_28 : decode cX1_dig 28 = .ok (.ineg, 1) := by decide +kernel
theorem dX1_dig_29 : decode cX1_dig 29 = .ok (.invokevirtual 51, 3) := by decide +kernel
theorem dX1_dig_32 : decode cX1_dig 32 = .ok (.aload_n 0, 1) := by decide +kernel
theorem dX1_dig_33 : decode cX1_dig 33 = .ok (.iload_n 1, 1) := by decide +kernel
theorem dX1_dig_34 : decode cX1_dig 34 = .ok (.iconst 1, 1) := by decide +kernel
theorem dX1_dig_35 : decode cX1_dig 35 = .ok (.iadd, 1) := by decide +kernel
theorem dX1_dig_36 : decode cX1_dig 36 = .ok (.iload_n 3, 1) := by decide +kernel
theorem dX1_dig_37 : decode cX1_dig 37 = .ok (.iload 4, 2) := by decide +kernel
theorem dX1_dig_39 : decode cX1_dig 39 = .ok (.isub, 1) := by decide +kernel
theorem dX1_dig_40 : decode cX1_dig 40 = .ok (.invokevirtual 51, 3) := by decide +kernel
theorem dX1_dig_43 : decode cX1_dig 43 = .ok (.iload 4, 2) := by decide +kernel
theorem dX1_dig_45 : decode cX1_dig 45 = .ok (.ireturn, 1) := by decide +kernel
theorem dX1_yieldDownwards_0 : decode cX1_yieldDownwards 0 = .ok (.iconst 0, 1) := by decide +kernel
theorem dX1_yieldDownwards_1 : decode cX1_yieldDownwards 1 = .ok (.istore 4, 2) := by decide +kernel
theorem dX1_yieldDownwards_3 : decode cX1_yieldDownwards 3 = .ok (.iconst 0, 1) := by decide +kernel
theorem dX1_yieldDownwards_4 : decode cX1_yieldDownwards 4 = .ok (.istore 5, 2) := by decide +kernel
theorem dX1_yieldDownwards_6 : decode cX1_yieldDownwards 6 = .ok (.iload_n 1, 1) := by decide +kernel
theorem dX1_yieldDownwards_7 : decode cX1_yieldDownwards 7 = .ok (.istore 6, 2) := by decide +kernel
theorem dX1_yieldDownwards_9 : decode cX1_yieldDownwards 9 = .ok (.iload 6, 2) := by decide +kernel
theorem dX1_yieldDownwards_11 : decode cX1_yieldDownwards 11 = .ok (.iload_n 1, 1) := by decide +kernel
theorem dX1_yieldDownwards_12 : decode cX1_yieldDownwards 12 = .ok (.iload_n 2, 1) := by decide +kernel
theorem dX1_yieldDownwards_13 : decode cX1_yieldDownwards 13 = .ok (.iadd, 1) := by decide +kernel
theorem dX1_yieldDownwards_14 : decode cX1_yieldDownwards 14 = .ok (.if_icmp .ge 55, 3) := by decide +kernel
theorem dX1_yieldDownwards_17 : decode cX1_yieldDownwards 17 = .ok (.aload_n 0, 1) := by decide +kernel
theorem dX1_yieldDownwards_18 : decode cX1_yieldDownwards 18 = .ok (.iload 6, 2) := by decide +kernel
theorem dX1_yieldDownwards_20 : decode cX1_yieldDownwards 20 = .ok (.invokevirtual 30, 3) := by decide +kernel
theorem dX1_yieldDownwards_23 : decode cX1_yieldDownwards 23 = .ok (.iload 5, 2) := by decide +kernel
theorem dX1_yieldDownwards_25 : decode cX1_yieldDownwards 25 = .ok (.iadd, 1) := by decide +kernel
theorem dX1_yieldDownwards_26 : decode cX1_yieldDownwards 26 = .ok (.aload_n 3, 1) := by decide +kernel
theorem dX1_yieldDownwards_27 : decode cX1_yieldDownwards 27 = .ok (.getfield 34, 3) := by decide +kernel
theorem dX1_yieldDownwards_30 : decode cX1_yieldDownwards 30 = .ok (.invokestatic 39, 3) := by decide +kernel
theorem dX1_yieldDownwards_33 : decode cX1_yieldDownwards 33 = .ok (.istore 7, 2) := by decide +kernel
theorem dX1_yieldDownwards_35 : decode cX1_yieldDownwards 35 = .ok (.aload_n 3, 1) := by decide +kernel
theorem dX1_yieldDownwards_36 : decode cX1_yieldDownwards 36 = .ok (.iload 7, 2) := by decide +kernel
theorem dX1_yieldDownwards_38 : decode cX1_yieldDownwards 38 = .ok (.aload_n 0, 1) := by decide +kernel
theorem dX1_yieldDownwards_39 : decode cX1_yieldDownwards 39 = .ok (.iload 6, 2) := by decide +kernel
theorem dX1_yieldDownwards_41 : decode cX1_yieldDownwards 41 = .ok (.invokevirtual 45, 3) := by decide +kernel
theorem dX1_yieldDownwards_44 : decode cX1_yieldDownwards 44 = .ok (.invokevirtual 48, 3) := by decide +kernel
theorem dX1_yieldDownwards_47 : decode cX1_yieldDownwards 47 = .ok (.istore 8, 2) := by decide +kernel
theorem dX1_yieldDownwards_49 : decode cX1_yieldDownwards 49 = .ok (.iload 4, 2) := by decide +kernel
theorem dX1_yieldDownwards_51 : decode cX1_yieldDownwards 51 = .ok (.iload 8, 2) := by decide +kernel
theorem dX1_yieldDownwards_53 : decode cX1_yieldDownwards 53 = .ok (.iadd, 1) := by decide +kernel
theorem dX1_yieldDownwards_54 : decode cX1_yieldDownwards 54 = .ok (.istore 4, 2) := by decide +kernel
theorem dX1_yieldDownwards_56 : decode cX1_yieldDownwards 56 = .ok (.iload 7, 2) := by decide +kernel
theorem dX1_yieldDownwards_58 : decode cX1_yieldDownwards 58 = .ok (.iload 8, 2) := by decide +kernel
theorem dX1_yieldDownwards_60 : decode cX1_yieldDownwards 60 = .ok (.isub, 1) := by decide +kernel
theorem dX1_yieldDownwards_61 : decode cX1_yieldDownwards 61 = .ok (.istore 5, 2) := by decide +kernel
theorem dX1_yieldDownwards_63 : decode cX1_yieldDownwards 63 = .ok (.iinc 6 1, 3) := by decide +kernel
theorem dX1_yieldDownwards_66 : decode cX1_yieldDownwards 66 = .ok (.goto (-57), 3) := by decide +kernel
theorem dX1_yieldDownwards_69 : decode cX1_yieldDownwards 69 = .ok (.iload 4, 2) := by decide +kernel
theorem dX1_yieldDownwards_71 : decode cX1_yieldDownwards 71 = .ok (.ireturn, 1) := by decide +kernel
theorem dX1_goldInGround_0 : decode cX1_goldInGround 0 = .ok (.iconst 0, 1) := by decide +kernel
theorem dX1_goldInGround_1 : decode cX1_goldInGround 1 = .ok (.istore_n 1, 1) := by decide +kernel
theorem dX1_goldInGround_2 : decode cX1_goldInGround 2 = .ok (.iconst 0, 1) := by decide +kernel
theorem dX1_goldInGround_3 : decode cX1_goldInGround 3 = .ok (.istore_n 2, 1) := by decide +kernel
theorem dX1_goldInGround_4 : decode cX1_goldInGround 4 = .ok (.iload_n 2, 1) := by decide +kernel
theorem dX1_goldInGround_5 : decode cX1_goldInGround 5 = .ok (.aload_n 0, 1) := by decide +kernel
theorem dX1_goldInGround_6 : decode cX1_goldInGround 6 = .ok (.getfield 9, 3) := by decide +kernel
theorem dX1_goldInGround_9 : decode cX1_goldInGround 9 = .ok (.arraylength, 1) := by decide +kernel
theorem dX1_goldInGround_10 : decode cX1_goldInGround 10 = .ok (.if_icmp .ge 18, 3) := by decide +kernel
theorem dX1_goldInGround_13 : decode cX1_goldInGround 13 = .ok (.iload_n 1, 1) := by decide +kernel
theorem dX1_goldInGround_14 : decode cX1_goldInGround 14 = .ok (.aload_n 0, 1) := by decide +kernel
theorem dX1_goldInGround_15 : decode cX1_goldInGround 15 = .ok (.getfield 9, 3) := by decide +kernel
theorem dX1_goldInGround_18 : decode cX1_goldInGround 18 = .ok (.iload_n 2, 1) := by decide +kernel
theorem dX1_goldInGround_19 : decode cX1_goldInGround 19 = .ok (.iaload, 1) := by decide +kernel
theorem dX1_goldInGround_20 : decode cX1_goldInGround 20 = .ok (.iadd, 1) := by decide +kernel
theorem dX1_goldInGround_21 : decode cX1_goldInGround 21 = .ok (.istore_n 1, 1) := by decide +kernel
theorem dX1_goldInGround_22 : decode cX1_goldInGround 22 = .ok (.iinc 2 1, 3) := by decide +kernel
theorem dX1_goldInGround_25 : decode cX1_goldInGround 25 = .ok (.goto (-21), 3) := by decide +kernel
theorem dX1_goldInGround_28 : decode cX1_goldInGround 28 = .ok (.iload_n 1, 1) := by decide +kernel
theorem dX1_goldInGround_29 : decode cX1_goldInGround 29 = .ok (.ireturn, 1) := by decide +kernel
theorem dX2_recoveredOf_0 : decode cX2_recoveredOf 0 = .ok (.iload_n 1, 1) := by decide +kernel
theorem dX2_recoveredOf_1 : decode cX2_recoveredOf 1 = .ok (.aload_n 0, 1) := by decide +kernel
theorem dX2_recoveredOf_2 : decode cX2_recoveredOf 2 = .ok (.getfield 42, 3) := by decide +kernel
theorem dX2_recoveredOf_5 : decode cX2_recoveredOf 5 = .ok (.iconst 3, 1) := by decide +kernel
theorem dX2_recoveredOf_6 : decode cX2_recoveredOf 6 = .ok (.iload_n 2, 1) := by decide +kernel
theorem dX2_recoveredOf_7 : decode cX2_recoveredOf 7 = .ok (.imul, 1) := by decide +kernel
theorem dX2_recoveredOf_8 : decode cX2_recoveredOf 8 = .ok (.isub, 1) := by decide +kernel
theorem dX2_recoveredOf_9 : decode cX2_recoveredOf 9 = .ok (.imul, 1) := by decide +kernel
theorem dX2_recoveredOf_10 : decode cX2_recoveredOf 10 = .ok (.bipush 100, 2) := by decide +kernel
theorem dX2_recoveredOf_12 : decode cX2_recoveredOf 12 = .ok (.idiv, 1) := by decide +kernel
theorem dX2_recoveredOf_13 : decode cX2_recoveredOf 13 = .ok (.ireturn, 1) := by decide +kernel
theorem dX3_init_0 : decode cX3_init 0 = .ok (.aload_n 0, 1) := by decide +kernel
theorem dX3_init_1 : decode cX3_init 1 = .ok (.invokespecial 3, 3) := by decide +kernel
theorem dX3_init_4 : decode cX3_init 4 = .ok (.aload_n 0, 1) := by decide +kernel
theorem dX3_init_5 : decode cX3_init 5 = .ok (.bipush 12, 2) := by decide +kernel
theorem dX3_init_7 : decode cX3_init 7 = .ok (.newarray .int, 2) := by decide +kernel
theorem dX3_init_9 : decode cX3_init 9 = .ok (.putfield 9, 3) := by decide +kernel
theorem dX3_init_12 : decode cX3_init 12 = .ok (.aload_n 0, 1) := by decide +kernel
theorem dX3_init_13 : decode cX3_init 13 = .ok (.bipush 40, 2) := by decide +kernel
theorem dX3_init_15 : decode cX3_init 15 = .ok (.newarray .int, 2) := by decide +kernel
theorem dX3_init_17 : decode cX3_init 17 = .ok (.putfield 15, 3) := by decide +kernel
theorem dX3_init_20 : decode cX3_init 20 = .ok (.aload_n 0, 1) := by decide +kernel
theorem dX3_init_21 : decode cX3_init 21 = .ok (.iconst 0, 1) := by decide +kernel
theorem dX3_init_22 : decode cX3_init 22 = .ok (.putfield 18, 3) := by decide +kernel
theorem dX3_init_25 : decode cX3_init 25 = .ok (.aload_n 0, 1) := by decide +kernel
theorem dX3_init_26 : decode cX3_init 26 = .ok (.iconst 0, 1) := by decide +kernel
theorem dX3_init_27 : decode cX3_init 27 = .ok (.putfield 22, 3) := by decide +kernel
theorem dX3_init_30 : decode cX3_init 30 = .ok (.aload_n 0, 1) := by decide +kernel
theorem dX3_init_31 : decode cX3_init 31 = .ok (.bipush 10, 2) := by decide +kernel
theorem dX3_init_33 : decode cX3_init 33 = .ok (.putfield 25, 3) := by decide +kernel
theorem dX3_init_36 : decode cX3_init 36 = .ok (.aload_n 0, 1) := by decide +kernel
theorem dX3_init_37 : decode cX3_init 37 = .ok (.iconst 0, 1) := by decide +kernel
theorem dX3_init_38 : decode cX3_init 38 = .ok (.putfield 28, 3) := by decide +kernel
theorem dX3_init_41 : decode cX3_init 41 = .ok (.aload_n 0, 1) := by decide +kernel
theorem dX3_init_42 : decode cX3_init 42 = .ok (.iconst (-1), 1) := by decide +kernel
theorem dX3_init_43 : decode cX3_init 43 = .ok (.putfield 31, 3) := by decide +kernel
theorem dX3_init_46 : decode cX3_init 46 = .ok (.aload_n 0, 1) := by decide +kernel
theorem dX3_init_47 : decode cX3_init 47 = .ok (.iload_n 1, 1) := by decide +kernel
theorem dX3_init_48 : decode cX3_init 48 = .ok (.putfield 34, 3) := by decide +kernel
theorem dX3_init_51 : decode cX3_init 51 = .ok (.aload_n 0, 1) := by decide +kernel
theorem dX3_init_52 : decode cX3_init 52 = .ok (.iload_n 2, 1) := by decide +kernel
theorem dX3_init_53 : decode cX3_init 53 = .ok (.putfield 37, 3) := by decide +kernel
theorem dX3_init_56 : decode cX3_init 56 = .ok (.iconst 0, 1) := by decide +kernel
theorem dX3_init_57 : decode cX3_init 57 = .ok (.istore_n 3, 1) := by decide +kernel
theorem dX3_init_58 : decode cX3_init 58 = .ok (.iload_n 3, 1) := by decide +kernel
theorem dX3_init_59 : decode cX3_init 59 = .ok (.aload_n 0, 1) := by decide +kernel
theorem dX3_init_60 : decode cX3_init 60 = .ok (.getfield 15, 3) := by decide +kernel
theorem dX3_init_63 : decode cX3_init 63 = .ok (.arraylength, 1) := by decide +kernel
theorem dX3_init_64 : decode cX3_init 64 = .ok (.if_icmp .ge 16, 3) := by decide +kernel
theorem dX3_init_67 : decode cX3_init 67 = .ok (.aload_n 0, 1) := by decide +kernel
theorem dX3_init_68 : decode cX3_init 68 = .ok (.getfield 15, 3) := by decide +kernel
theorem dX3_init_71 : decode cX3_init 71 = .ok (.iload_n 3, 1) := by decide +kernel
theorem dX3_init_72 : decode cX3_init 72 = .ok (.iconst (-1), 1) := by decide +kernel
theorem dX3_init_73 : decode cX3_init 73 = .ok (.iastore, 1) := by decide +kernel
theorem dX3_init_74 : decode cX3_init 74 = .ok (.iinc 3 1, 3) := by decide +kernel
theorem dX3_init_77 : decode cX3_init 77 = .ok (.goto (-19), 3) := by decide +kernel
theorem dX3_init_80 : decode cX3_init 80 = .ok (.return_, 1) := by decide +kernel
theorem dX3_isDead_0 : decode cX3_isDead 0 = .ok (.aload_n 0, 1) := by decide +kernel
theorem dX3_isDead_1 : decode cX3_isDead 1 = .ok (.getfield 25, 3) := by decide +kernel
theorem dX3_isDead_4 : decode cX3_isDead 4 = .ok (.ifCond .ne 7, 3) := by decide +kernel
theorem dX3_isDead_7 : decode cX3_isDead 7 = .ok (.iconst 1, 1) := by decide +kernel
theorem dX3_isDead_8 : decode cX3_isDead 8 = .ok (.goto 4, 3) := by decide +kernel
theorem dX3_isDead_11 : decode cX3_isDead 11 = .ok (.iconst 0, 1) := by decide +kernel
theorem dX3_isDead_12 : decode cX3_isDead 12 = .ok (.ireturn, 1) := by decide +kernel
theorem dX3_liveOneDay_0 : decode cX3_liveOneDay 0 = .ok (.aload_n 0, 1) := by decide +kernel
theorem dX3_liveOneDay_1 : decode cX3_liveOneDay 1 = .ok (.invokevirtual 40, 3) := by decide +kernel
theorem dX3_liveOneDay_4 : decode cX3_liveOneDay 4 = .ok (.ifCond .eq 4, 3) := by decide +kernel
theorem dX3_liveOneDay_7 : decode cX3_liveOneDay 7 = .ok (.return_, 1) := by decide +kernel
theorem dX3_liveOneDay_8 : decode cX3_liveOneDay 8 = .ok (.aload_n 0, 1) := by decide +kernel
theorem dX3_liveOneDay_9 : decode cX3_liveOneDay 9 = .ok (.getfield 34, 3) := by decide +kernel
theorem dX3_liveOneDay_12 : decode cX3_liveOneDay 12 = .ok (.ifCond .le 31, 3) := by decide +kernel
theorem dX3_liveOneDay_15 : decode cX3_liveOneDay 15 = .ok (.aload_n 0, 1) := by decide +kernel
theorem dX3_liveOneDay_16 : decode cX3_liveOneDay 16 = .ok (.dup, 1) := by decide +kernel
theorem dX3_liveOneDay_17 : decode cX3_liveOneDay 17 = .ok (.getfield 34, 3) := by decide +kernel
theorem dX3_liveOneDay_20 : decode cX3_liveOneDay 20 = .ok (.iconst 1, 1) := by decide +kernel
theorem dX3_liveOneDay_21 : decode cX3_liveOneDay 21 = .ok (.isub, 1) := by decide +kernel
theorem dX3_liveOneDay_22 : decode cX3_liveOneDay 22 = .ok (.putfield 34, 3) := by decide +kernel
theorem dX3_liveOneDay_25 : decode cX3_liveOneDay 25 = .ok (.aload_n 0, 1) := by decide +kernel
theorem dX3_liveOneDay_26 : decode cX3_liveOneDay 26 = .ok (.bipush 10, 2) := by decide +kernel
theorem dX3_liveOneDay_28 : decode cX3_liveOneDay 28 = .ok (.aload_n 0, 1) := by decide +kernel
theorem dX3_liveOneDay_29 : decode cX3_liveOneDay 29 = .ok (.getfield 25, 3) := by decide +kernel
theorem dX3_liveOneDay_32 : decode cX3_liveOneDay 32 = .ok (.iconst 1, 1) := by decide +kernel
theorem dX3_liveOneDay_33 : decode cX3_liveOneDay 33 = .ok (.iadd, 1) := by decide +kernel
theorem dX3_liveOneDay_34 : decode cX3_liveOneDay 34 = .ok (.invokestatic 44, 3) := by decide +kernel
theorem dX3_liveOneDay_37 : decode cX3_liveOneDay 37 = .ok (.putfield 25, 3) := by decide +kernel
theorem dX3_liveOneDay_40 : decode cX3_liveOneDay 40 = .ok (.goto 17, 3) := by decide +kernel
theorem dX3_liveOneDay_43 : decode cX3_liveOneDay 43 = .ok (.aload_n 0, 1) := by decide +kernel
theorem dX3_liveOneDay_44 : decode cX3_liveOneDay 44 = .ok (.iconst 0, 1) := by decide +kernel
theorem dX3_liveOneDay_45 : decode cX3_liveOneDay 45 = .ok (.aload_n 0, 1) := by decide +kernel
theorem dX3_liveOneDay_46 : decode cX3_liveOneDay 46 = .ok (.getfield 25, 3) := by decide +kernel
theorem dX3_liveOneDay_49 : decode cX3_liveOneDay 49 = .ok (.iconst 2, 1) := by decide +kernel
theorem dX3_liveOneDay_50 : decode cX3_liveOneDay 50 = .ok (.isub, 1) := by decide +kernel
theorem dX3_liveOneDay_51 : decode cX3_liveOneDay 51 = .ok (.invokestatic 50, 3) := by decide +kernel
theorem dX3_liveOneDay_54 : decode cX3_liveOneDay 54 = .ok (.putfield 25, 3) := by decide +kernel
theorem dX3_liveOneDay_57 : decode cX3_liveOneDay 57 = .ok (.return_, 1) := by decide +kernel
theorem dX3_dust_0 : decode cX3_dust 0 = .ok (.aload_n 0, 1) := by decide +kernel
theorem dX3_dust_1 : decode cX3_dust 1 = .ok (.getfield 18, 3) := by decide +kernel
theorem dX3_dust_4 : decode cX3_dust 4 = .ok (.aload_n 0, 1) := by decide +kernel
theorem dX3_dust_5 : decode cX3_dust 5 = .ok (.getfield 22, 3) := by decide +kernel
theorem dX3_dust_8 : decode cX3_dust 8 = .ok (.iadd, 1) := by decide +kernel
theorem dX3_dust_9 : decode cX3_dust 9 = .ok (.ireturn, 1) := by decide +kernel
theorem dX3_isSuspect_0 : decode cX3_isSuspect 0 = .ok (.aload_n 0, 1) := by decide +kernel
theorem dX3_isSuspect_1 : decode cX3_isSuspect 1 = .ok (.getfield 22, 3) := by decide +kernel
theorem dX3_isSuspect_4 : decode cX3_isSuspect 4 = .ok (.bipush 20, 2) := by decide +kernel
theorem dX3_isSuspect_6 : decode cX3_isSuspect 6 = .ok (.imul, 1) := by decide +kernel
theorem dX3_isSuspect_7 : decode cX3_isSuspect 7 = .ok (.aload_n 0, 1) := by decide +kernel
theorem dX3_isSuspect_8 : decode cX3_isSuspect 8 = .ok (.invokevirtual 53, 3) := by decide +kernel
theorem dX3_isSuspect_11 : decode cX3_isSuspect 11 = .ok (.if_icmp .le 7, 3) := by decide +kernel
theorem dX3_isSuspect_14 : decode cX3_isSuspect 14 = .ok (.iconst 1, 1) := by decide +kernel
theorem dX3_isSuspect_15 : decode cX3_isSuspect 15 = .ok (.goto 4, 3) := by decide +kernel
theorem dX3_isSuspect_18 : decode cX3_isSuspect 18 = .ok (.iconst 0, 1) := by decide +kernel
theorem dX3_isSuspect_19 : decode cX3_isSuspect 19 = .ok (.ireturn, 1) := by decide +kernel
theorem dX3_brassIn_0 : decode cX3_brassIn 0 = .ok (.aload_n 0, 1) := by decide +kernel
theorem dX3_brassIn_1 : decode cX3_brassIn 1 = .ok (.invokevirtual 53, 3) := by decide +kernel
theorem dX3_brassIn_4 : decode cX3_brassIn 4 = .ok (.istore_n 2, 1) := by decide +kernel
theorem dX3_brassIn_5 : decode cX3_brassIn 5 = .ok (.iload_n 2, 1) := by decide +kernel
theorem dX3_brassIn_6 : decode cX3_brassIn 6 = .ok (.ifCond .le 18, 3) := by decide +kernel
theorem dX3_brassIn_9 : decode cX3_brassIn 9 = .ok (.iload_n 1, 1) := by decide +kernel
theorem dX3_brassIn_10 : decode cX3_brassIn 10 = .ok (.i2l, 1) := by decide +kernel
theorem dX3_brassIn_11 : decode cX3_brassIn 11 = .ok (.aload_n 0, 1) := by decide +kernel
theorem dX3_brassIn_12 : decode cX3_brassIn 12 = .ok (.getfield 22, 3) := by decide +kernel
theorem dX3_brassIn_15 : decode cX3_brassIn 15 = .ok (.i2l, 1) := by decide +kernel
theorem dX3_brassIn_16 : decode cX3_brassIn 16 = .ok (.lmul, 1) := by decide +kernel
theorem dX3_brassIn_17 : decode cX3_brassIn 17 = .ok (.iload_n 2, 1) := by decide +kernel
theorem dX3_brassIn_18 : decode cX3_brassIn 18 = .ok (.i2l, 1) := by decide +kernel
theorem dX3_brassIn_19 : decode cX3_brassIn 19 = .ok (.ldiv, 1) := by decide +kernel
theorem dX3_brassIn_20 : decode cX3_brassIn 20 = .ok (.l2i, 1) := by decide +kernel
theorem dX3_brassIn_21 : decode cX3_brassIn 21 = .ok (.goto 4, 3) := by decide +kernel
theorem dX3_brassIn_24 : decode cX3_brassIn 24 = .ok (.iconst 0, 1) := by decide +kernel
theorem dX3_brassIn_25 : decode cX3_brassIn 25 = .ok (.ireturn, 1) := by decide +kernel
theorem dX3_percentOf_0 : decode cX3_percentOf 0 = .ok (.iload_n 1, 1) := by decide +kernel
theorem dX3_percentOf_1 : decode cX3_percentOf 1 = .ok (.ifCond .lt 21, 3) := by decide +kernel
theorem dX3_percentOf_4 : decode cX3_percentOf 4 = .ok (.iload_n 1, 1) := by decide +kernel
theorem dX3_percentOf_5 : decode cX3_percentOf 5 = .ok (.aload_n 0, 1) := by decide +kernel
theorem dX3_percentOf_6 : decode cX3_percentOf 6 = .ok (.getfield 9, 3) := by decide +kernel
theorem dX3_percentOf_9 : decode cX3_percentOf 9 = .ok (.arraylength, 1) := by decide +kernel
theorem dX3_percentOf_10 : decode cX3_percentOf 10 = .ok (.if_icmp .ge 12, 3) := by decide +kernel
theorem dX3_percentOf_13 : decode cX3_percentOf 13 = .ok (.aload_n 0, 1) := by decide +kernel
theorem dX3_percentOf_14 : decode cX3_percentOf 14 = .ok (.getfield 9, 3) := by decide +kernel
theorem dX3_percentOf_17 : decode cX3_percentOf 17 = .ok (.iload_n 1, 1) := by decide +kernel
theorem dX3_percentOf_18 : decode cX3_percentOf 18 = .ok (.iaload, 1) := by decide +kernel
theorem dX3_percentOf_19 : decode cX3_percentOf 19 = .ok (.goto 4, 3) := by decide +kernel
theorem dX3_percentOf_22 : decode cX3_percentOf 22 = .ok (.iconst 0, 1) := by decide +kernel
theorem dX3_percentOf_23 : decode cX3_percentOf 23 = .ok (.ireturn, 1) := by decide +kernel
theorem dX3_setPercent_0 : decode cX3_setPercent 0 = .ok (.iload_n 1, 1) := by decide +kernel
theorem dX3_setPercent_1 : decode cX3_setPercent 1 = .ok (.ifCond .lt 19, 3) := by decide +kernel
theorem dX3_setPercent_4 : decode cX3_setPercent 4 = .ok (.iload_n 1, 1) := by decide +kernel
theorem dX3_setPercent_5 : decode cX3_setPercent 5 = .ok (.aload_n 0, 1) := by decide +kernel
theorem dX3_setPercent_6 : decode cX3_setPercent 6 = .ok (.getfield 9, 3) := by decide +kernel
theorem dX3_setPercent_9 : decode cX3_setPercent 9 = .ok (.arraylength, 1) := by decide +kernel
theorem dX3_setPercent_10 : decode cX3_setPercent 10 = .ok (.if_icmp .ge 10, 3) := by decide +kernel
theorem dX3_setPercent_13 : decode cX3_setPercent 13 = .ok (.aload_n 0, 1) := by decide +kernel
theorem dX3_setPercent_14 : decode cX3_setPercent 14 = .ok (.getfield 9, 3) := by decide +kernel
theorem dX3_setPercent_17 : decode cX3_setPercent 17 = .ok (.iload_n 1, 1) := by decide +kernel
theorem dX3_setPercent_18 : decode cX3_setPercent 18 = .ok (.iload_n 2, 1) := by decide +kernel
theorem dX3_setPercent_19 : decode cX3_setPercent 19 = .ok (.iastore, 1) := by decide +kernel
theorem dX3_setPercent_20 : decode cX3_setPercent 20 = .ok (.return_, 1) := by decide +kernel
theorem dX3_percentBacked_0 : decode cX3_percentBacked 0 = .ok (.iconst 0, 1) := by decide +kernel
theorem dX3_percentBacked_1 : decode cX3_percentBacked 1 = .ok (.istore_n 1, 1) := by decide +kernel
theorem dX3_percentBacked_2 : decode cX3_percentBacked 2 = .ok (.iconst 0, 1) := by decide +kernel
theorem dX3_percentBacked_3 : decode cX3_percentBacked 3 = .ok (.istore_n 2, 1) := by decide +kernel
theorem dX3_percentBacked_4 : decode cX3_percentBacked 4 = .ok (.iload_n 2, 1) := by decide +kernel
theorem dX3_percentBacked_5 : decode cX3_percentBacked 5 = .ok (.aload_n 0, 1) := by decide +kernel
theorem dX3_percentBacked_6 : decode cX3_percentBacked 6 = .ok (.getfield 9, 3) := by decide +kernel
theorem dX3_percentBacked_9 : decode cX3_percentBacked 9 = .ok (.arraylength, 1) := by decide +kernel
theorem dX3_percentBacked_10 : decode cX3_percentBacked 10 = .ok (.if_icmp .ge 18, 3) := by decide +kernel
theorem dX3_percentBacked_13 : decode cX3_percentBacked 13 = .ok (.iload_n 1, 1) := by decide +kernel
theorem dX3_percentBacked_14 : decode cX3_percentBacked 14 = .ok (.aload_n 0, 1) := by decide +kernel
theorem dX3_percentBacked_15 : decode cX3_percentBacked 15 = .ok (.getfield 9, 3) := by decide +kernel
theorem dX3_percentBacked_18 : decode cX3_percentBacked 18 = .ok (.iload_n 2, 1) := by decide +kernel
theorem dX3_percentBacked_19 : decode cX3_percentBacked 19 = .ok (.iaload, 1) := by decide +kernel
theorem dX3_percentBacked_20 : decode cX3_percentBacked 20 = .ok (.iadd, 1) := by decide +kernel
theorem dX3_percentBacked_21 : decode cX3_percentBacked 21 = .ok (.istore_n 1, 1) := by decide +kernel
theorem dX3_percentBacked_22 : decode cX3_percentBacked 22 = .ok (.iinc 2 1, 3) := by decide +kernel
theorem dX3_percentBacked_25 : decode cX3_percentBacked 25 = .ok (.goto (-21), 3) := by decide +kernel
theorem dX3_percentBacked_28 : decode cX3_percentBacked 28 = .ok (.iload_n 1, 1) := by decide +kernel
theorem dX3_percentBacked_29 : decode cX3_percentBacked 29 = .ok (.ireturn, 1) := by decide +kernel
theorem dX3_noteSalting_0 : decode cX3_noteSalting 0 = .ok (.iload_n 1, 1) := by decide +kernel
theorem dX3_noteSalting_1 : decode cX3_noteSalting 1 = .ok (.ifCond .lt 19, 3) := by decide +kernel
theorem dX3_noteSalting_4 : decode cX3_noteSalting 4 = .ok (.iload_n 1, 1) := by decide +kernel
theorem dX3_noteSalting_5 : decode cX3_noteSalting 5 = .ok (.aload_n 0, 1) := by decide +kernel
theorem dX3_noteSalting_6 : decode cX3_noteSalting 6 = .ok (.getfield 15, 3) := by decide +kernel
theorem dX3_noteSalting_9 : decode cX3_noteSalting 9 = .ok (.arraylength, 1) := by decide +kernel
theorem dX3_noteSalting_10 : decode cX3_noteSalting 10 = .ok (.if_icmp .ge 10, 3) := by decide +kernel
theorem dX3_noteSalting_13 : decode cX3_noteSalting 13 = .ok (.aload_n 0, 1) := by decide +kernel
theorem dX3_noteSalting_14 : decode cX3_noteSalting 14 = .ok (.getfield 15, 3) := by decide +kernel
theorem dX3_noteSalting_17 : decode cX3_noteSalting 17 = .ok (.iload_n 1, 1) := by decide +kernel
theorem dX3_noteSalting_18 : decode cX3_noteSalting 18 = .ok (.iload_n 2, 1) := by decide +kernel
theorem dX3_noteSalting_19 : decode cX3_noteSalting 19 = .ok (.iastore, 1) := by decide +kernel
theorem dX3_noteSalting_20 : decode cX3_noteSalting 20 = .ok (.return_, 1) := by decide +kernel
theorem dX3_saltedLately_0 : decode cX3_saltedLately 0 = .ok (.iconst 0, 1) := by decide +kernel
theorem dX3_saltedLately_1 : decode cX3_saltedLately 1 = .ok (.iload_n 1, 1) := by decide +kernel
theorem dX3_saltedLately_2 : decode cX3_saltedLately 2 = .ok (.invokestatic 50, 3) := by decide +kernel
theorem dX3_saltedLately_5 : decode cX3_saltedLately 5 = .ok (.istore 4, 2) := by decide +kernel
theorem dX3_saltedLately_7 : decode cX3_saltedLately 7 = .ok (.iload 4, 2) := by decide +kernel
theorem dX3_saltedLately_9 : decode cX3_saltedLately 9 = .ok (.iload_n 1, 1) := by decide +kernel
theorem dX3_saltedLately_10 : decode cX3_saltedLately 10 = .ok (.iload_n 2, 1) := by decide +kernel
theorem dX3_saltedLately_11 : decode cX3_saltedLately 11 = .ok (.iadd, 1) := by decide +kernel
theorem dX3_saltedLately_12 : decode cX3_saltedLately 12 = .ok (.if_icmp .ge 46, 3) := by decide +kernel
theorem dX3_saltedLately_15 : decode cX3_saltedLately 15 = .ok (.iload 4, 2) := by decide +kernel
theorem dX3_saltedLately_17 : decode cX3_saltedLately 17 = .ok (.aload_n 0, 1) := by decide +kernel
theorem dX3_saltedLately_18 : decode cX3_saltedLately 18 = .ok (.getfield 15, 3) := by decide +kernel
theorem dX3_saltedLately_21 : decode cX3_saltedLately 21 = .ok (.arraylength, 1) := by decide +kernel
theorem dX3_saltedLately_22 : decode cX3_saltedLately 22 = .ok (.if_icmp .ge 36, 3) := by decide +kernel
theorem dX3_saltedLately_25 : decode cX3_saltedLately 25 = .ok (.aload_n 0, 1) := by decide +kernel
theorem dX3_saltedLately_26 : decode cX3_saltedLately 26 = .ok (.getfield 15, 3) := by decide +kernel
theorem dX3_saltedLately_29 : decode cX3_saltedLately 29 = .ok (.iload 4, 2) := by decide +kernel
theorem dX3_saltedLately_31 : decode cX3_saltedLately 31 = .ok (.iaload, 1) := by decide +kernel
theorem dX3_saltedLately_32 : decode cX3_saltedLately 32 = .ok (.iconst (-1), 1) := by decide +kernel
theorem dX3_saltedLately_33 : decode cX3_saltedLately 33 = .ok (.if_icmp .eq 19, 3) := by decide +kernel
theorem dX3_saltedLately_36 : decode cX3_saltedLately 36 = .ok (.iload_n 3, 1) := by decide +kernel
theorem dX3_saltedLately_37 : decode cX3_saltedLately 37 = .ok (.aload_n 0, 1) := by decide +kernel
theorem dX3_saltedLately_38 : decode cX3_saltedLately 38 = .ok (.getfield 15, 3) := by decide +kernel
theorem dX3_saltedLately_41 : decode cX3_saltedLately 41 = .ok (.iload 4, 2) := by decide +kernel
theorem dX3_saltedLately_43 : decode cX3_saltedLately 43 = .ok (.iaload, 1) := by decide +kernel
theorem dX3_saltedLately_44 : decode cX3_saltedLately 44 = .ok (.isub, 1) := by decide +kernel
theorem dX3_saltedLately_45 : decode cX3_saltedLately 45 = .ok (.bipush 30, 2) := by decide +kernel
theorem dX3_saltedLately_47 : decode cX3_saltedLately 47 = .ok (.if_icmp .gt 5, 3) := by decide +kernel
theorem dX3_saltedLately_50 : decode cX3_saltedLately 50 = .ok (.iconst 1, 1) := by decide +kernel
theorem dX3_saltedLately_51 : decode cX3_saltedLately 51 = .ok (.ireturn, 1) := by decide +kernel
theorem dX3_saltedLately_52 : decode cX3_saltedLately 52 = .ok (.iinc 4 1, 3) := by decide +kernel
theorem dX3_saltedLately_55 : decode cX3_saltedLately 55 = .ok (.goto (-48), 3) := by decide +kernel
theorem dX3_saltedLately_58 : decode cX3_saltedLately 58 = .ok (.iconst 0, 1) := by decide +kernel
theorem dX3_saltedLately_59 : decode cX3_saltedLately 59 = .ok (.ireturn, 1) := by decide +kernel
theorem dX4_init_0 : decode cX4_init 0 = .ok (.aload_n 0, 1) := by decide +kernel
theorem dX4_init_1 : decode cX4_init 1 = .ok (.invokespecial 1, 3) := by decide +kernel
theorem dX4_init_4 : decode cX4_init 4 = .ok (.aload_n 0, 1) := by decide +kernel
theorem dX4_init_5 : decode cX4_init 5 = .ok (.iload_n 1, 1) := by decide +kernel
theorem dX4_init_6 : decode cX4_init 6 = .ok (.putfield 7, 3) := by decide +kernel
theorem dX4_init_9 : decode cX4_init 9 = .ok (.aload_n 0, 1) := by decide +kernel
theorem dX4_init_10 : decode cX4_init 10 = .ok (.iload_n 2, 1) := by decide +kernel
theorem dX4_init_11 : decode cX4_init 11 = .ok (.putfield 13, 3) := by decide +kernel
theorem dX4_init_14 : decode cX4_init 14 = .ok (.return_, 1) := by decide +kernel
theorem dX5_init_0 : decode cX5_init 0 = .ok (.aload_n 0, 1) := by decide +kernel
theorem dX5_init_1 : decode cX5_init 1 = .ok (.invokespecial 3, 3) := by decide +kernel
theorem dX5_init_4 : decode cX5_init 4 = .ok (.aload_n 0, 1) := by decide +kernel
theorem dX5_init_5 : decode cX5_init 5 = .ok (.bipush 40, 2) := by decide +kernel
theorem dX5_init_7 : decode cX5_init 7 = .ok (.newarray .int, 2) := by decide +kernel
theorem dX5_init_9 : decode cX5_init 9 = .ok (.putfield 9, 3) := by decide +kernel
theorem dX5_init_12 : decode cX5_init 12 = .ok (.return_, 1) := by decide +kernel
theorem dX5_beliefOf_0 : decode cX5_beliefOf 0 = .ok (.iload_n 1, 1) := by decide +kernel
theorem dX5_beliefOf_1 : decode cX5_beliefOf 1 = .ok (.invokestatic 15, 3) := by decide +kernel
theorem dX5_beliefOf_4 : decode cX5_beliefOf 4 = .ok (.ifCond .eq 12, 3) := by decide +kernel
theorem dX5_beliefOf_7 : decode cX5_beliefOf 7 = .ok (.aload_n 0, 1) := by decide +kernel
theorem dX5_beliefOf_8 : decode cX5_beliefOf 8 = .ok (.getfield 9, 3) := by decide +kernel
theorem dX5_beliefOf_11 : decode cX5_beliefOf 11 = .ok (.iload_n 1, 1) := by decide +kernel
theorem dX5_beliefOf_12 : decode cX5_beliefOf 12 = .ok (.iaload, 1) := by decide +kernel
theorem dX5_beliefOf_13 : decode cX5_beliefOf 13 = .ok (.goto 4, 3) := by decide +kernel
theorem dX5_beliefOf_16 : decode cX5_beliefOf 16 = .ok (.iconst 0, 1) := by decide +kernel
theorem dX5_beliefOf_17 : decode cX5_beliefOf 17 = .ok (.ireturn, 1) := by decide +kernel
theorem dX5_tell_0 : decode cX5_tell 0 = .ok (.iload_n 1, 1) := by decide +kernel
theorem dX5_tell_1 : decode cX5_tell 1 = .ok (.invokestatic 15, 3) := by decide +kernel
theorem dX5_tell_4 : decode cX5_tell 4 = .ok (.ifCond .eq 10, 3) := by decide +kernel
theorem dX5_tell_7 : decode cX5_tell 7 = .ok (.aload_n 0, 1) := by decide +kernel
theorem dX5_tell_8 : decode cX5_tell 8 = .ok (.getfield 9, 3) := by decide +kernel
theorem dX5_tell_11 : decode cX5_tell 11 = .ok (.iload_n 1, 1) := by decide +kernel
theorem dX5_tell_12 : decode cX5_tell 12 = .ok (.iload_n 2, 1) := by decide +kernel
theorem dX5_tell_13 : decode cX5_tell 13 = .ok (.iastore, 1) := by decide +kernel
theorem dX5_tell_14 : decode cX5_tell 14 = .ok (.return_, 1) := by decide +kernel
theorem dX5_fade_0 : decode cX5_fade 0 = .ok (.iconst 0, 1) := by decide +kernel
theorem dX5_fade_1 : decode cX5_fade 1 = .ok (.istore_n 1, 1) := by decide +kernel
theorem dX5_fade_2 : decode cX5_fade 2 = .ok (.iload_n 1, 1) := by decide +kernel
theorem dX5_fade_3 : decode cX5_fade 3 = .ok (.aload_n 0, 1) := by decide +kernel
theorem dX5_fade_4 : decode cX5_fade 4 = .ok (.getfield 9, 3) := by decide +kernel
theorem dX5_fade_7 : decode cX5_fade 7 = .ok (.arraylength, 1) := by decide +kernel
theorem dX5_fade_8 : decode cX5_fade 8 = .ok (.if_icmp .ge 37, 3) := by decide +kernel
theorem dX5_fade_11 : decode cX5_fade 11 = .ok (.aload_n 0, 1) := by decide +kernel
theorem dX5_fade_12 : decode cX5_fade 12 = .ok (.getfield 9, 3) := by decide +kernel
theorem dX5_fade_15 : decode cX5_fade 15 = .ok (.iload_n 1, 1) := by decide +kernel
theorem dX5_fade_16 : decode cX5_fade 16 = .ok (.iconst 0, 1) := by decide +kernel
theorem dX5_fade_17 : decode cX5_fade 17 = .ok (.aload_n 0, 1) := by decide +kernel
theorem dX5_fade_18 : decode cX5_fade 18 = .ok (.getfield 9, 3) := by decide +kernel
theorem dX5_fade_21 : decode cX5_fade 21 = .ok (.iload_n 1, 1) := by decide +kernel
theorem dX5_fade_22 : decode cX5_fade 22 = .ok (.iaload, 1) := by decide +kernel
theorem dX5_fade_23 : decode cX5_fade 23 = .ok (.aload_n 0, 1) := by decide +kernel
theorem dX5_fade_24 : decode cX5_fade 24 = .ok (.getfield 9, 3) := by decide +kernel
theorem dX5_fade_27 : decode cX5_fade 27 = .ok (.iload_n 1, 1) := by decide +kernel
theorem dX5_fade_28 : decode cX5_fade 28 = .ok (.iaload, 1) := by decide +kernel
theorem dX5_fade_29 : decode cX5_fade 29 = .ok (.bipush 10, 2) := by decide +kernel
theorem dX5_fade_31 : decode cX5_fade 31 = .ok (.idiv, 1) := by decide +kernel
theorem dX5_fade_32 : decode cX5_fade 32 = .ok (.isub, 1) := by decide +kernel
theorem dX5_fade_33 : decode cX5_fade 33 = .ok (.iconst 1, 1) := by decide +kernel
theorem dX5_fade_34 : decode cX5_fade 34 = .ok (.isub, 1) := by decide +kernel
theorem dX5_fade_35 : decode cX5_fade 35 = .ok (.invokestatic 19, 3) := by decide +kernel
theorem dX5_fade_38 : decode cX5_fade 38 = .ok (.iastore, 1) := by decide +kernel
theorem dX5_fade_39 : decode cX5_fade 39 = .ok (.iinc 1 1, 3) := by decide +kernel
theorem dX5_fade_42 : decode cX5_fade 42 = .ok (.goto (-40), 3) := by decide +kernel
theorem dX5_fade_45 : decode cX5_fade 45 = .ok (.return_, 1) := by decide +kernel
theorem dX6_init_0 : decode cX6_init 0 = .ok (.aload_n 0, 1) := by decide +kernel
theorem dX6_init_1 : decode cX6_init 1 = .ok (.invokespecial 3, 3) := by decide +kernel
theorem dX6_init_4 : decode cX6_init 4 = .ok (.aload_n 0, 1) := by decide +kernel
theorem dX6_init_5 : decode cX6_init 5 = .ok (.bipush 20, 2) := by decide +kernel
theorem dX6_init_7 : decode cX6_init 7 = .ok (.newarray .int, 2) := by decide +kernel
theorem dX6_init_9 : decode cX6_init 9 = .ok (.putfield 9, 3) := by decide +kernel
theorem dX6_init_12 : decode cX6_init 12 = .ok (.aload_n 0, 1) := by decide +kernel
theorem dX6_init_13 : decode cX6_init 13 = .ok (.bipush 20, 2) := by decide +kernel
theorem dX6_init_15 : decode cX6_init 15 = .ok (.newarray .int, 2) := by decide +kernel
theorem dX6_init_17 : decode cX6_init 17 = .ok (.putfield 15, 3) := by decide +kernel
theorem dX6_init_20 : decode cX6_init 20 = .ok (.aload_n 0, 1) := by decide +kernel
theorem dX6_init_21 : decode cX6_init 21 = .ok (.bipush 50, 2) := by decide +kernel
theorem dX6_init_23 : decode cX6_init 23 = .ok (.putfield 18, 3) := by decide +kernel
theorem dX6_init_26 : decode cX6_init 26 = .ok (.return_, 1) := by decide +kernel
theorem dX6_price_0 : decode cX6_price 0 = .ok (.aload_n 0, 1) := by decide +kernel
theorem dX6_price_1 : decode cX6_price 1 = .ok (.getfield 18, 3) := by decide +kernel
theorem dX6_price_4 : decode cX6_price 4 = .ok (.bipush 100, 2) := by decide +kernel
theorem dX6_price_6 : decode cX6_price 6 = .ok (.if_icmp .ge 17, 3) := by decide +kernel
theorem dX6_price_9 : decode cX6_price 9 = .ok (.iconst 5, 1) := by decide +kernel
theorem dX6_price_10 : decode cX6_price 10 = .ok (.bipush 100, 2) := by decide +kernel
theorem dX6_price_12 : decode cX6_price 12 = .ok (.aload_n 0, 1) := by decide +kernel
theorem dX6_price_13 : decode cX6_price 13 = .ok (.getfield 18, 3) := by decide +kernel
theorem dX6_price_16 : decode cX6_price 16 = .ok (.isub, 1) := by decide +kernel
theorem dX6_price_17 : decode cX6_price 17 = .ok (.iconst 5, 1) := by decide +kernel
theorem dX6_price_18 : decode cX6_price 18 = .ok (.idiv, 1) := by decide +kernel
theorem dX6_price_19 : decode cX6_price 19 = .ok (.iadd, 1) := by decide +kernel
theorem dX6_price_20 : decode cX6_price 20 = .ok (.goto 4, 3) := by decide +kernel
theorem dX6_price_23 : decode cX6_price 23 = .ok (.iconst 5, 1) := by decide +kernel
theorem dX6_price_24 : decode cX6_price 24 = .ok (.ireturn, 1) := by decide +kernel
theorem dX6_freightsUnderWay_0 : decode cX6_freightsUnderWay 0 = .ok (.iconst 0, 1) := by decide +kernel
theorem dX6_freightsUnderWay_1 : decode cX6_freightsUnderWay 1 = .ok (.istore_n 1, 1) := by decide +kernel
theorem dX6_freightsUnderWay_2 : decode cX6_freightsUnderWay 2 = .ok (.iconst 0, 1) := by decide +kernel
theorem dX6_freightsUnderWay_3 : decode cX6_freightsUnderWay 3 = .ok (.istore_n 2, 1) := by decide +kernel
theorem dX6_freightsUnderWay_4 : decode cX6_freightsUnderWay 4 = .ok (.iload_n 2, 1) := by decide +kernel
theorem dX6_freightsUnderWay_5 : decode cX6_freightsUnderWay 5 = .ok (.aload_n 0, 1) := by decide +kernel
theorem dX6_freightsUnderWay_6 : decode cX6_freightsUnderWay 6 = .ok (.getfield 9, 3) := by decide +kernel
theorem dX6_freightsUnderWay_9 : decode cX6_freightsUnderWay 9 = .ok (.arraylength, 1) := by decide +kernel
theorem dX6_freightsUnderWay_10 : decode cX6_freightsUnderWay 10 = .ok (.if_icmp .ge 21, 3) := by decide +kernel
theorem dX6_freightsUnderWay_13 : decode cX6_freightsUnderWay 13 = .ok (.aload_n 0, 1) := by decide +kernel
theorem dX6_freightsUnderWay_14 : decode cX6_freightsUnderWay 14 = .ok (.getfield 9, 3) := by decide +kernel
theorem dX6_freightsUnderWay_17 : decode cX6_freightsUnderWay 17 = .ok (.iload_n 2, 1) := by decide +kernel
theorem dX6_freightsUnderWay_18 : decode cX6_freightsUnderWay 18 = .ok (.iaload, 1) := by decide +kernel
theorem dX6_freightsUnderWay_19 : decode cX6_freightsUnderWay 19 = .ok (.ifCond .le 6, 3) := by decide +kernel
theorem dX6_freightsUnderWay_22 : decode cX6_freightsUnderWay 22 = .ok (.iinc 1 1, 3) := by decide +kernel
theorem dX6_freightsUnderWay_25 : decode cX6_freightsUnderWay 25 = .ok (.iinc 2 1, 3) := by decide +kernel
theorem dX6_freightsUnderWay_28 : decode cX6_freightsUnderWay 28 = .ok (.goto (-24), 3) := by decide +kernel
theorem dX6_freightsUnderWay_31 : decode cX6_freightsUnderWay 31 = .ok (.iload_n 1, 1) := by decide +kernel
theorem dX6_freightsUnderWay_32 : decode cX6_freightsUnderWay 32 = .ok (.ireturn, 1) := by decide +kernel
theorem dX6_send_0 : decode cX6_send 0 = .ok (.iconst 0, 1) := by decide +kernel
theorem dX6_send_1 : decode cX6_send 1 = .ok (.istore_n 3, 1) := by decide +kernel
theorem dX6_send_2 : decode cX6_send 2 = .ok (.iload_n 3, 1) := by decide +kernel
theorem dX6_send_3 : decode cX6_send 3 = .ok (.bipush 20, 2) := by decide +kernel
theorem dX6_send_5 : decode cX6_send 5 = .ok (.if_icmp .ge 33, 3) := by decide +kernel
theorem dX6_send_8 : decode cX6_send 8 = .ok (.aload_n 0, 1) := by decide +kernel
theorem dX6_send_9 : decode cX6_send 9 = .ok (.getfield 9, 3) := by decide +kernel
theorem dX6_send_12 : decode cX6_send 12 = .ok (.iload_n 3, 1) := by decide +kernel
theorem dX6_send_13 : decode cX6_send 13 = .ok (.iaload, 1) := by decide +kernel
theorem dX6_send_14 : decode cX6_send 14 = .ok (.ifCond .ne 18, 3) := by decide +kernel
theorem dX6_send_17 : decode cX6_send 17 = .ok (.aload_n 0, 1) := by decide +kernel
theorem dX6_send_18 : decode cX6_send 18 = .ok (.getfield 9, 3) := by decide +kernel
theorem dX6_send_21 : decode cX6_send 21 = .ok (.iload_n 3, 1) := by decide +kernel
theorem dX6_send_22 : decode cX6_send 22 = .ok (.iload_n 1, 1) := by decide +kernel
theorem dX6_send_23 : decode cX6_send 23 = .ok (.iastore, 1) := by decide +kernel
theorem dX6_send_24 : decode cX6_send 24 = .ok (.aload_n 0, 1) := by decide +kernel
theorem dX6_send_25 : decode cX6_send 25 = .ok (.getfield 15, 3) := by decide +kernel
theorem dX6_send_28 : decode cX6_send 28 = .ok (.iload_n 3, 1) := by decide +kernel
theorem dX6_send_29 : decode cX6_send 29 = .ok (.iload_n 2, 1) := by decide +kernel
theorem dX6_send_30 : decode cX6_send 30 = .ok (.iastore, 1) := by decide +kernel
theorem dX6_send_31 : decode cX6_send 31 = .ok (.return_, 1) := by decide +kernel
theorem dX6_send_32 : decode cX6_send 32 = .ok (.iinc 3 1, 3) := by decide +kernel
theorem dX6_send_35 : decode cX6_send 35 = .ok (.goto (-33), 3) := by decide +kernel
theorem dX6_send_38 : decode cX6_send 38 = .ok (.return_, 1) := by decide +kernel
theorem dX6_unload_0 : decode cX6_unload 0 = .ok (.iconst 0, 1) := by decide +kernel
theorem dX6_unload_1 : decode cX6_unload 1 = .ok (.istore_n 2, 1) := by decide +kernel
theorem dX6_unload_2 : decode cX6_unload 2 = .ok (.iload_n 2, 1) := by decide +kernel
theorem dX6_unload_3 : decode cX6_unload 3 = .ok (.bipush 20, 2) := by decide +kernel
theorem dX6_unload_5 : decode cX6_unload 5 = .ok (.if_icmp .ge 50, 3) := by decide +kernel
theorem dX6_unload_8 : decode cX6_unload 8 = .ok (.aload_n 0, 1) := by decide +kernel
theorem dX6_unload_9 : decode cX6_unload 9 = .ok (.getfield 9, 3) := by decide +kernel
theorem dX6_unload_12 : decode cX6_unload 12 = .ok (.iload_n 2, 1) := by decide +kernel
theorem dX6_unload_13 : decode cX6_unload 13 = .ok (.iaload, 1) := by decide +kernel
theorem dX6_unload_14 : decode cX6_unload 14 = .ok (.ifCond .le 35, 3) := by decide +kernel
theorem dX6_unload_17 : decode cX6_unload 17 = .ok (.aload_n 0, 1) := by decide +kernel
theorem dX6_unload_18 : decode cX6_unload 18 = .ok (.getfield 15, 3) := by decide +kernel
theorem dX6_unload_21 : decode cX6_unload 21 = .ok (.iload_n 2, 1) := by decide +kernel
theorem dX6_unload_22 : decode cX6_unload 22 = .ok (.iaload, 1) := by decide +kernel
theorem dX6_unload_23 : decode cX6_unload 23 = .ok (.iload_n 1, 1) := by decide +kernel
theorem dX6_unload_24 : decode cX6_unload 24 = .ok (.if_icmp .ne 25, 3) := by decide +kernel
theorem dX6_unload_27 : decode cX6_unload 27 = .ok (.aload_n 0, 1) := by decide +kernel
theorem dX6_unload_28 : decode cX6_unload 28 = .ok (.dup, 1) := by decide +kernel
theorem dX6_unload_29 : decode cX6_unload 29 = .ok (.getfield 18, 3) := by decide +kernel
theorem dX6_unload_32 : decode cX6_unload 32 = .ok (.aload_n 0, 1) := by decide +kernel
theorem dX6_unload_33 : decode cX6_unload 33 = .ok (.getfield 9, 3) := by decide +kernel
theorem dX6_unload_36 : decode cX6_unload 36 = .ok (.iload_n 2, 1) := by decide +kernel
theorem dX6_unload_37 : decode cX6_unload 37 = .ok (.iaload, 1) := by decide +kernel
theorem dX6_unload_38 : decode cX6_unload 38 = .ok (.iadd, 1) := by decide +kernel
theorem dX6_unload_39 : decode cX6_unload 39 = .ok (.putfield 18, 3) := by decide +kernel
theorem dX6_unload_42 : decode cX6_unload 42 = .ok (.aload_n 0, 1) := by decide +kernel
theorem dX6_unload_43 : decode cX6_unload 43 = .ok (.getfield 9, 3) := by decide +kernel
theorem dX6_unload_46 : decode cX6_unload 46 = .ok (.iload_n 2, 1) := by decide +kernel
theorem dX6_unload_47 : decode cX6_unload 47 = .ok (.iconst 0, 1) := by decide +kernel
theorem dX6_unload_48 : decode cX6_unload 48 = .ok (.iastore, 1) := by decide +kernel
theorem dX6_unload_49 : decode cX6_unload 49 = .ok (.iinc 2 1, 3) := by decide +kernel
theorem dX6_unload_52 : decode cX6_unload 52 = .ok (.goto (-50), 3) := by decide +kernel
theorem dX6_unload_55 : decode cX6_unload 55 = .ok (.return_, 1) := by decide +kernel
theorem dX7_init_0 : decode cX7_init 0 = .ok (.aload_n 0, 1) := by decide +kernel
theorem dX7_init_1 : decode cX7_init 1 = .ok (.invokespecial 1, 3) := by decide +kernel
theorem dX7_init_4 : decode cX7_init 4 = .ok (.aload_n 0, 1) := by decide +kernel
theorem dX7_init_5 : decode cX7_init 5 = .ok (.new 7, 3) := by decide +kernel
theorem dX7_init_8 : decode cX7_init 8 = .ok (.dup, 1) := by decide +kernel
theorem dX7_init_9 : decode cX7_init 9 = .ok (.invokespecial 9, 3) := by decide +kernel
theorem dX7_init_12 : decode cX7_init 12 = .ok (.putfield 10, 3) := by decide +kernel
theorem dX7_init_15 : decode cX7_init 15 = .ok (.aload_n 0, 1) := by decide +kernel
theorem dX7_init_16 : decode cX7_init 16 = .ok (.new 16, 3) := by decide +kernel
theorem dX7_init_19 : decode cX7_init 19 = .ok (.dup, 1) := by decide +kernel
theorem dX7_init_20 : decode cX7_init 20 = .ok (.invokespecial 18, 3) := by decide +kernel
theorem dX7_init_23 : decode cX7_init 23 = .ok (.putfield 19, 3) := by decide +kernel
theorem dX7_init_26 : decode cX7_init 26 = .ok (.aload_n 0, 1) := by decide +kernel
theorem dX7_init_27 : decode cX7_init 27 = .ok (.new 23, 3) := by decide +kernel
theorem dX7_init_30 : decode cX7_init 30 = .ok (.dup, 1) := by decide +kernel
theorem dX7_init_31 : decode cX7_init 31 = .ok (.invokespecial 25, 3) := by decide +kernel
theorem dX7_init_34 : decode cX7_init 34 = .ok (.putfield 26, 3) := by decide +kernel
theorem dX7_init_37 : decode cX7_init 37 = .ok (.aload_n 0, 1) := by decide +kernel
theorem dX7_init_38 : decode cX7_init 38 = .ok (.new 30, 3) := by decide +kernel
theorem dX7_init_41 : decode cX7_init 41 = .ok (.dup, 1) := by decide +kernel
theorem dX7_init_42 : decode cX7_init 42 = .ok (.invokespecial 32, 3) := by decide +kernel
theorem dX7_init_45 : decode cX7_init 45 = .ok (.putfield 33, 3) := by decide +kernel
theorem dX7_init_48 : decode cX7_init 48 = .ok (.aload_n 0, 1) := by decide +kernel
theorem dX7_init_49 : decode cX7_init 49 = .ok (.new 30, 3) := by decide +kernel
theorem dX7_init_52 : decode cX7_init 52 = .ok (.dup, 1) := by decide +kernel
theorem dX7_init_53 : decode cX7_init 53 = .ok (.invokespecial 32, 3) := by decide +kernel
theorem dX7_init_56 : decode cX7_init 56 = .ok (.putfield 37, 3) := by decide +kernel
theorem dX7_init_59 : decode cX7_init 59 = .ok (.aload_n 0, 1) := by decide +kernel
theorem dX7_init_60 : decode cX7_init 60 = .ok (.new 30, 3) := by decide +kernel
theorem dX7_init_63 : decode cX7_init 63 = .ok (.dup, 1) := by decide +kernel
theorem dX7_init_64 : decode cX7_init 64 = .ok (.invokespecial 32, 3) := by decide +kernel
theorem dX7_init_67 : decode cX7_init 67 = .ok (.putfield 40, 3) := by decide +kernel
theorem dX7_init_70 : decode cX7_init 70 = .ok (.aload_n 0, 1) := by decide +kernel
theorem dX7_init_71 : decode cX7_init 71 = .ok (.iconst 0, 1) := by decide +kernel
theorem dX7_init_72 : decode cX7_init 72 = .ok (.putfield 43, 3) := by decide +kernel
theorem dX7_init_75 : decode cX7_init 75 = .ok (.aload_n 0, 1) := by decide +kernel
theorem dX7_init_76 : decode cX7_init 76 = .ok (.bipush 100, 2) := by decide +kernel
theorem dX7_init_78 : decode cX7_init 78 = .ok (.putfield 47, 3) := by decide +kernel
theorem dX7_init_81 : decode cX7_init 81 = .ok (.aload_n 0, 1) := by decide +kernel
theorem dX7_init_82 : decode cX7_init 82 = .ok (.iconst 3, 1) := by decide +kernel
theorem dX7_init_83 : decode cX7_init 83 = .ok (.putfield 50, 3) := by decide +kernel
theorem dX7_init_86 : decode cX7_init 86 = .ok (.aload_n 0, 1) := by decide +kernel
theorem dX7_init_87 : decode cX7_init 87 = .ok (.bipush 7, 2) := by decide +kernel
theorem dX7_init_89 : decode cX7_init 89 = .ok (.putfield 53, 3) := by decide +kernel
theorem dX7_init_92 : decode cX7_init 92 = .ok (.aload_n 0, 1) := by decide +kernel
theorem dX7_init_93 : decode cX7_init 93 = .ok (.bipush 10, 2) := by decide +kernel
theorem dX7_init_95 : decode cX7_init 95 = .ok (.putfield 56, 3) := by decide +kernel
theorem dX7_init_98 : decode cX7_init 98 = .ok (.aload_n 0, 1) := by decide +kernel
theorem dX7_init_99 : decode cX7_init 99 = .ok (.iconst 0, 1) := by decide +kernel
theorem dX7_init_100 : decode cX7_init 100 = .ok (.putfield 59, 3) := by decide +kernel
theorem dX7_init_103 : decode cX7_init 103 = .ok (.return_, 1) := by decide +kernel
theorem dX7_ground_0 : decode cX7_ground 0 = .ok (.iload_n 1, 1) := by decide +kernel
theorem dX7_ground_1 : decode cX7_ground 1 = .ok (.invokestatic 62, 3) := by decide +kernel
theorem dX7_ground_4 : decode cX7_ground 4 = .ok (.iload_n 2, 1) := by decide +kernel
theorem dX7_ground_5 : decode cX7_ground 5 = .ok (.iconst 0, 1) := by decide +kernel
theorem dX7_ground_6 : decode cX7_ground 6 = .ok (.ldc 66, 2) := by decide +kernel
theorem dX7_ground_8 : decode cX7_ground 8 = .ok (.invokestatic 67, 3) := by decide +kernel
theorem dX7_ground_11 : decode cX7_ground 11 = .ok (.iload_n 3, 1) := by decide +kernel
theorem dX7_ground_12 : decode cX7_ground 12 = .ok (.iconst 0, 1) := by decide +kernel
theorem dX7_ground_13 : decode cX7_ground 13 = .ok (.bipush 9, 2) := by decide +kernel
theorem dX7_ground_15 : decode cX7_ground 15 = .ok (.invokestatic 67, 3) := by decide +kernel
theorem dX7_ground_18 : decode cX7_ground 18 = .ok (.aload_n 0, 1) := by decide +kernel
theorem dX7_ground_19 : decode cX7_ground 19 = .ok (.getfield 43, 3) := by decide +kernel
theorem dX7_ground_22 : decode cX7_ground 22 = .ok (.ifCond .ne 17, 3) := by decide +kernel
theorem dX7_ground_25 : decode cX7_ground 25 = .ok (.aload_n 0, 1) := by decide +kernel
theorem dX7_ground_26 : decode cX7_ground 26 = .ok (.getfield 10, 3) := by decide +kernel
theorem dX7_ground_29 : decode cX7_ground 29 = .ok (.getfield 71, 3) := by decide +kernel
theorem dX7_ground_32 : decode cX7_ground 32 = .ok (.ifCond .ne 7, 3) := by decide +kernel
theorem dX7_ground_35 : decode cX7_ground 35 = .ok (.iconst 1, 1) := by decide +kernel
theorem dX7_ground_36 : decode cX7_ground 36 = .ok (.goto 4, 3) := by decide +kernel
theorem dX7_ground_39 : decode cX7_ground 39 = .ok (.iconst 0, 1) := by decide +kernel
theorem dX7_ground_40 : decode cX7_ground 40 = .ok (.invokestatic 75, 3) := by decide +kernel
theorem dX7_ground_43 : decode cX7_ground 43 = .ok (.aload_n 0, 1) := by decide +kernel
theorem dX7_ground_44 : decode cX7_ground 44 = .ok (.getfield 10, 3) := by decide +kernel
theorem dX7_ground_47 : decode cX7_ground 47 = .ok (.iload_n 1, 1) := by decide +kernel
theorem dX7_ground_48 : decode cX7_ground 48 = .ok (.invokevirtual 79, 3) := by decide +kernel
theorem dX7_ground_51 : decode cX7_ground 51 = .ok (.istore 4, 2) := by decide +kernel
theorem dX7_ground_53 : decode cX7_ground 53 = .ok (.aload_n 0, 1) := by decide +kernel
theorem dX7_ground_54 : decode cX7_ground 54 = .ok (.getfield 10, 3) := by decide +kernel
theorem dX7_ground_57 : decode cX7_ground 57 = .ok (.iload_n 1, 1) := by decide +kernel
theorem dX7_ground_58 : decode cX7_ground 58 = .ok (.iload_n 2, 1) := by decide +kernel
theorem dX7_ground_59 : decode cX7_ground 59 = .ok (.iload_n 3, 1) := by decide +kernel
theorem dX7_ground_60 : decode cX7_ground 60 = .ok (.invokevirtual 83, 3) := by decide +kernel
theorem dX7_ground_63 : decode cX7_ground 63 = .ok (.iload 4, 2) := by decide +kernel
theorem dX7_ground_65 : decode cX7_ground 65 = .ok (.ireturn, 1) := by decide +kernel
theorem dX7_flow_0 : decode cX7_flow 0 = .ok (.iload_n 1, 1) := by decide +kernel
theorem dX7_flow_1 : decode cX7_flow 1 = .ok (.iconst 0, 1) := by decide +kernel
theorem dX7_flow_2 : decode cX7_flow 2 = .ok (.sipush 1000, 3) := by decide +kernel
theorem dX7_flow_5 : decode cX7_flow 5 = .ok (.invokestatic 67, 3) := by decide +kernel
theorem dX7_flow_8 : decode cX7_flow 8 = .ok (.aload_n 0, 1) := by decide +kernel
theorem dX7_flow_9 : decode cX7_flow 9 = .ok (.getfield 47, 3) := by decide +kernel
theorem dX7_flow_12 : decode cX7_flow 12 = .ok (.istore_n 2, 1) := by decide +kernel
theorem dX7_flow_13 : decode cX7_flow 13 = .ok (.aload_n 0, 1) := by decide +kernel
theorem dX7_flow_14 : decode cX7_flow 14 = .ok (.iload_n 1, 1) := by decide +kernel
theorem dX7_flow_15 : decode cX7_flow 15 = .ok (.putfield 47, 3) := by decide +kernel
theorem dX7_flow_18 : decode cX7_flow 18 = .ok (.iload_n 2, 1) := by decide +kernel
theorem dX7_flow_19 : decode cX7_flow 19 = .ok (.ireturn, 1) := by decide +kernel
theorem dX7_miner_0 : decode cX7_miner 0 = .ok (.iload_n 1, 1) := by decide +kernel
theorem dX7_miner_1 : decode cX7_miner 1 = .ok (.iconst 0, 1) := by decide +kernel
theorem dX7_miner_2 : decode cX7_miner 2 = .ok (.sipush 1000, 3) := by decide +kernel
theorem dX7_miner_5 : decode cX7_miner 5 = .ok (.invokestatic 67, 3) := by decide +kernel
theorem dX7_miner_8 : decode cX7_miner 8 = .ok (.iload_n 2, 1) := by decide +kernel
theorem dX7_miner_9 : decode cX7_miner 9 = .ok (.iconst 0, 1) := by decide +kernel
theorem dX7_miner_10 : decode cX7_miner 10 = .ok (.ldc 66, 2) := by decide +kernel
theorem dX7_miner_12 : decode cX7_miner 12 = .ok (.invokestatic 67, 3) := by decide +kernel
theorem dX7_miner_15 : decode cX7_miner 15 = .ok (.aload_n 0, 1) := by decide +kernel
theorem dX7_miner_16 : decode cX7_miner 16 = .ok (.getfield 33, 3) := by decide +kernel
theorem dX7_miner_19 : decode cX7_miner 19 = .ok (.invokevirtual 86, 3) := by decide +kernel
theorem dX7_miner_22 : decode cX7_miner 22 = .ok (.bipush 12, 2) := by decide +kernel
theorem dX7_miner_24 : decode cX7_miner 24 = .ok (.if_icmp .ge 7, 3) := by decide +kernel
theorem dX7_miner_27 : decode cX7_miner 27 = .ok (.iconst 1, 1) := by decide +kernel
theorem dX7_miner_28 : decode cX7_miner 28 = .ok (.goto 4, 3) := by decide +kernel
theorem dX7_miner_31 : decode cX7_miner 31 = .ok (.iconst 0, 1) := by decide +kernel
theorem dX7_miner_32 : decode cX7_miner 32 = .ok (.invokestatic 75, 3) := by decide +kernel
theorem dX7_miner_35 : decode cX7_miner 35 = .ok (.aload_n 0, 1) := by decide +kernel
theorem dX7_miner_36 : decode cX7_miner 36 = .ok (.getfield 33, 3) := by decide +kernel
theorem dX7_miner_39 : decode cX7_miner 39 = .ok (.new 90, 3) := by decide +kernel
theorem dX7_miner_42 : decode cX7_miner 42 = .ok (.dup, 1) := by decide +kernel
theorem dX7_miner_43 : decode cX7_miner 43 = .ok (.iload_n 1, 1) := by decide +kernel
theorem dX7_miner_44 : decode cX7_miner 44 = .ok (.iload_n 2, 1) := by decide +kernel
theorem dX7_miner_45 : decode cX7_miner 45 = .ok (.invokespecial 92, 3) := by decide +kernel
theorem dX7_miner_48 : decode cX7_miner 48 = .ok (.invokevirtual 95, 3) := by decide +kernel
theorem dX7_miner_51 : decode cX7_miner 51 = .ok (.pop, 1) := by decide +kernel
theorem dX7_miner_52 : decode cX7_miner 52 = .ok (.aload_n 0, 1) := by decide +kernel
theorem dX7_miner_53 : decode cX7_miner 53 = .ok (.getfield 33, 3) := by decide +kernel
theorem dX7_miner_56 : decode cX7_miner 56 = .ok (.invokevirtual 86, 3) := by decide +kernel
theorem dX7_miner_59 : decode cX7_miner 59 = .ok (.iconst 1, 1) := by decide +kernel
theorem dX7_miner_60 : decode cX7_miner 60 = .ok (.isub, 1) := by decide +kernel
theorem dX7_miner_61 : decode cX7_miner 61 = .ok (.ireturn, 1) := by decide +kernel
theorem dX7_pass_0 : decode cX7_pass 0 = .ok (.iload_n 1, 1) := by decide +kernel
theorem dX7_pass_1 : decode cX7_pass 1 = .ok (.iconst 1, 1) := by decide +kernel
theorem dX7_pass_2 : decode cX7_pass 2 = .ok (.sipush 200, 3) := by decide +kernel
theorem dX7_pass_5 : decode cX7_pass 5 = .ok (.invokestatic 67, 3) := by decide +kernel
theorem dX7_pass_8 : decode cX7_pass 8 = .ok (.aload_n 0, 1) := by decide +kernel
theorem dX7_pass_9 : decode cX7_pass 9 = .ok (.getfield 43, 3) := by decide +kernel
theorem dX7_pass_12 : decode cX7_pass 12 = .ok (.iload_n 1, 1) := by decide +kernel
theorem dX7_pass_13 : decode cX7_pass 13 = .ok (.iadd, 1) := by decide +kernel
theorem dX7_pass_14 : decode cX7_pass 14 = .ok (.sipush 5000, 3) := by decide +kernel
theorem dX7_pass_17 : decode cX7_pass 17 = .ok (.if_icmp .gt 7, 3) := by decide +kernel
theorem dX7_pass_20 : decode cX7_pass 20 = .ok (.iconst 1, 1) := by decide +kernel
theorem dX7_pass_21 : decode cX7_pass 21 = .ok (.goto 4, 3) := by decide +kernel
theorem dX7_pass_24 : decode cX7_pass 24 = .ok (.iconst 0, 1) := by decide +kernel
theorem dX7_pass_25 : decode cX7_pass 25 = .ok (.invokestatic 75, 3) := by decide +kernel
theorem dX7_pass_28 : decode cX7_pass 28 = .ok (.iconst 0, 1) := by decide +kernel
theorem dX7_pass_29 : decode cX7_pass 29 = .ok (.istore_n 2, 1) := by decide +kernel
theorem dX7_pass_30 : decode cX7_pass 30 = .ok (.iload_n 2, 1) := by decide +kernel
theorem dX7_pass_31 : decode cX7_pass 31 = .ok (.iload_n 1, 1) := by decide +kernel
theorem dX7_pass_32 : decode cX7_pass 32 = .ok (.if_icmp .ge 13, 3) := by decide +kernel
theorem dX7_pass_35 : decode cX7_pass 35 = .ok (.aload_n 0, 1) := by decide +kernel
theorem dX7_pass_36 : decode cX7_pass 36 = .ok (.invokevirtual 99, 3) := by decide +kernel
theorem dX7_pass_39 : decode cX7_pass 39 = .ok (.iinc 2 1, 3) := by decide +kernel
theorem dX7_pass_42 : decode cX7_pass 42 = .ok (.goto (-12), 3) := by decide +kernel
theorem dX7_pass_45 : decode cX7_pass 45 = .ok (.aload_n 0, 1) := by decide +kernel
theorem dX7_pass_46 : decode cX7_pass 46 = .ok (.getfield 43, 3) := by decide +kernel
theorem dX7_pass_49 : decode cX7_pass 49 = .ok (.ireturn, 1) := by decide +kernel
theorem dX7_meet_0 : decode cX7_meet 0 = .ok (.iload_n 1, 1) := by decide +kernel
theorem dX7_meet_1 : decode cX7_meet 1 = .ok (.iconst 1, 1) := by decide +kernel
theorem dX7_meet_2 : decode cX7_meet 2 = .ok (.bipush 10, 2) := by decide +kernel
theorem dX7_meet_4 : decode cX7_meet 4 = .ok (.invokestatic 67, 3) := by decide +kernel
theorem dX7_meet_7 : decode cX7_meet 7 = .ok (.iload_n 2, 1) := by decide +kernel
theorem dX7_meet_8 : decode cX7_meet 8 = .ok (.iconst 1, 1) := by decide +kernel
theorem dX7_meet_9 : decode cX7_meet 9 = .ok (.bipush 100, 2) := by decide +kernel
theorem dX7_meet_11 : decode cX7_meet 11 = .ok (.invokestatic 67, 3) := by decide +kernel
theorem dX7_meet_14 : decode cX7_meet 14 = .ok (.iload_n 3, 1) := by decide +kernel
theorem dX7_meet_15 : decode cX7_meet 15 = .ok (.iconst 0, 1) := by decide +kernel
theorem dX7_meet_16 : decode cX7_meet 16 = .ok (.bipush 12, 2) := by decide +kernel
theorem dX7_meet_18 : decode cX7_meet 18 = .ok (.invokestatic 67, 3) := by decide +kernel
theorem dX7_meet_21 : decode cX7_meet 21 = .ok (.iload 4, 2) := by decide +kernel
theorem dX7_meet_23 : decode cX7_meet 23 = .ok (.iconst 0, 1) := by decide +kernel
theorem dX7_meet_24 : decode cX7_meet 24 = .ok (.bipush 12, 2) := by decide +kernel
theorem dX7_meet_26 : decode cX7_meet 26 = .ok (.invokestatic 67, 3) := by decide +kernel
theorem dX7_meet_29 : decode cX7_meet 29 = .ok (.iload_n 3, 1) := by decide +kernel
theorem dX7_meet_30 : decode cX7_meet 30 = .ok (.iload 4, 2) := by decide +kernel
theorem dX7_meet_32 : decode cX7_meet 32 = .ok (.iadd, 1) := by decide +kernel
theorem dX7_meet_33 : decode cX7_meet 33 = .ok (.aload_n 0, 1) := by decide +kernel
theorem dX7_meet_34 : decode cX7_meet 34 = .ok (.invokevirtual 102, 3) := by decide +kernel
theorem dX7_meet_37 : decode cX7_meet 37 = .ok (.if_icmp .gt 7, 3) := by decide +kernel
theorem dX7_meet_40 : decode cX7_meet 40 = .ok (.iconst 1, 1) := by decide +kernel
theorem dX7_meet_41 : decode cX7_meet 41 = .ok (.goto 4, 3) := by decide +kernel
theorem dX7_meet_44 : decode cX7_meet 44 = .ok (.iconst 0, 1) := by decide +kernel
theorem dX7_meet_45 : decode cX7_meet 45 = .ok (.invokestatic 105, 3) := by decide +kernel
theorem dX7_meet_48 : decode cX7_meet 48 = .ok (.iload_n 3, 1) := by decide +kernel
theorem dX7_meet_49 : decode cX7_meet 49 = .ok (.iload 4, 2) := by decide +kernel
theorem dX7_meet_51 : decode cX7_meet 51 = .ok (.if_icmp .le 7, 3) := by decide +kernel
theorem dX7_meet_54 : decode cX7_meet 54 = .ok (.iconst 1, 1) := by decide +kernel
theorem dX7_meet_55 : decode cX7_meet 55 = .ok (.goto 4, 3) := by decide +kernel
theorem dX7_meet_58 : decode cX7_meet 58 = .ok (.iconst 0, 1) := by decide +kernel
theorem dX7_meet_59 : decode cX7_meet 59 = .ok (.istore 5, 2) := by decide +kernel
theorem dX7_meet_61 : decode cX7_meet 61 = .ok (.iload 5, 2) := by decide +kernel
theorem dX7_meet_63 : decode cX7_meet 63 = .ok (.ifCond .eq 13, 3) := by decide +kernel
theorem dX7_meet_66 : decode cX7_meet 66 = .ok (.aload_n 0, 1) := by decide +kernel
theorem dX7_meet_67 : decode cX7_meet 67 = .ok (.iload_n 1, 1) := by decide +kernel
theorem dX7_meet_68 : decode cX7_meet 68 = .ok (.putfield 50, 3) := by decide +kernel
theorem dX7_meet_71 : decode cX7_meet 71 = .ok (.aload_n 0, 1) := by decide +kernel
theorem dX7_meet_72 : decode cX7_meet 72 = .ok (.iload_n 2, 1) := by decide +kernel
theorem dX7_meet_73 : decode cX7_meet 73 = .ok (.putfield 53, 3) := by decide +kernel
theorem dX7_meet_76 : decode cX7_meet 76 = .ok (.iload 5, 2) := by decide +kernel
theorem dX7_meet_78 : decode cX7_meet 78 = .ok (.ireturn, 1) := by decide +kernel
theorem dX7_peg_0 : decode cX7_peg 0 = .ok (.aload_n 0, 1) := by decide +kernel
theorem dX7_peg_1 : decode cX7_peg 1 = .ok (.iload_n 1, 1) := by decide +kernel
theorem dX7_peg_2 : decode cX7_peg 2 = .ok (.invokevirtual 108, 3) := by decide +kernel
theorem dX7_peg_5 : decode cX7_peg 5 = .ok (.astore 4, 2) := by decide +kernel
theorem dX7_peg_7 : decode cX7_peg 7 = .ok (.iload_n 2, 1) := by decide +kernel
theorem dX7_peg_8 : decode cX7_peg 8 = .ok (.invokestatic 62, 3) := by decide +kernel
theorem dX7_peg_11 : decode cX7_peg 11 = .ok (.iload_n 3, 1) := by decide +kernel
theorem dX7_peg_12 : decode cX7_peg 12 = .ok (.bipush 40, 2) := by decide +kernel
theorem dX7_peg_14 : decode cX7_peg 14 = .ok (.iload_n 2, 1) := by decide +kernel
theorem dX7_peg_15 : decode cX7_peg 15 = .ok (.isub, 1) := by decide +kernel
theorem dX7_peg_16 : decode cX7_peg 16 = .ok (.if_icmp .gt 7, 3) := by decide +kernel
theorem dX7_peg_19 : decode cX7_peg 19 = .ok (.iconst 1, 1) := by decide +kernel
theorem dX7_peg_20 : decode cX7_peg 20 = .ok (.goto 4, 3) := by decide +kernel
theorem dX7_peg_23 : decode cX7_peg 23 = .ok (.iconst 0, 1) := by decide +kernel
theorem dX7_peg_24 : decode cX7_peg 24 = .ok (.invokestatic 112, 3) := by decide +kernel
theorem dX7_peg_27 : decode cX7_peg 27 = .ok (.iload_n 3, 1) := by decide +kernel
theorem dX7_peg_28 : decode cX7_peg 28 = .ok (.iconst 1, 1) := by decide +kernel
theorem dX7_peg_29 : decode cX7_peg 29 = .ok (.bipush 10, 2) := by decide +kernel
theorem dX7_peg_31 : decode cX7_peg 31 = .ok (.invokestatic 67, 3) := by decide +kernel
theorem dX7_peg_34 : decode cX7_peg 34 = .ok (.aload 4, 2) := by decide +kernel
theorem dX7_peg_36 : decode cX7_peg 36 = .ok (.invokevirtual 115, 3) := by decide +kernel
theorem dX7_peg_39 : decode cX7_peg 39 = .ok (.ifCond .ne 36, 3) := by decide +kernel
theorem dX7_peg_42 : decode cX7_peg 42 = .ok (.iload_n 3, 1) := by decide +kernel
theorem dX7_peg_43 : decode cX7_peg 43 = .ok (.aload_n 0, 1) := by decide +kernel
theorem dX7_peg_44 : decode cX7_peg 44 = .ok (.getfield 50, 3) := by decide +kernel
theorem dX7_peg_47 : decode cX7_peg 47 = .ok (.if_icmp .gt 28, 3) := by decide +kernel
theorem dX7_peg_50 : decode cX7_peg 50 = .ok (.aload_n 0, 1) := by decide +kernel
theorem dX7_peg_51 : decode cX7_peg 51 = .ok (.getfield 37, 3) := by decide +kernel
theorem dX7_peg_54 : decode cX7_peg 54 = .ok (.invokevirtual 86, 3) := by decide +kernel
theorem dX7_peg_57 : decode cX7_peg 57 = .ok (.bipush 30, 2) := by decide +kernel
theorem dX7_peg_59 : decode cX7_peg 59 = .ok (.if_icmp .ge 16, 3) := by decide +kernel
theorem dX7_peg_62 : decode cX7_peg 62 = .ok (.aload_n 0, 1) := by decide +kernel
theorem dX7_peg_63 : decode cX7_peg 63 = .ok (.iload_n 2, 1) := by decide +kernel
theorem dX7_peg_64 : decode cX7_peg 64 = .ok (.iload_n 3, 1) := by decide +kernel
theorem dX7_peg_65 : decode cX7_peg 65 = .ok (.invokevirtual 119, 3) := by decide +kernel
theorem dX7_peg_68 : decode cX7_peg 68 = .ok (.ifCond .eq 7, 3) := by decide +kernel
theorem dX7_peg_71 : decode cX7_peg 71 = .ok (.iconst 1, 1) := by decide +kernel
theorem dX7_peg_72 : decode cX7_peg 72 = .ok (.goto 4, 3) := by decide +kernel
theorem dX7_peg_75 : decode cX7_peg 75 = .ok (.iconst 0, 1) := by decide +kernel
theorem dX7_peg_76 : decode cX7_peg 76 = .ok (.invokestatic 75, 3) := by decide +kernel
theorem dX7_peg_79 : decode cX7_peg 79 = .ok (.aload_n 0, 1) := by decide +kernel
theorem dX7_peg_80 : decode cX7_peg 80 = .ok (.getfield 37, 3) := by decide +kernel
theorem dX7_peg_83 : decode cX7_peg 83 = .ok (.new 123, 3) := by decide +kernel
theorem dX7_peg_86 : decode cX7_peg 86 = .ok (.dup, 1) := by decide +kernel
theorem dX7_peg_87 : decode cX7_peg 87 = .ok (.iload_n 1, 1) := by decide +kernel
theorem dX7_peg_88 : decode cX7_peg 88 = .ok (.iload_n 2, 1) := by decide +kernel
theorem dX7_peg_89 : decode cX7_peg 89 = .ok (.iload_n 3, 1) := by decide +kernel
theorem dX7_peg_90 : decode cX7_peg 90 = .ok (.aload_n 0, 1) := by decide +kernel
theorem dX7_peg_91 : decode cX7_peg 91 = .ok (.getfield 53, 3) := by decide +kernel
theorem dX7_peg_94 : decode cX7_peg 94 = .ok (.aload_n 0, 1) := by decide +kernel
theorem dX7_peg_95 : decode cX7_peg 95 = .ok (.getfield 43, 3) := by decide +kernel
theorem dX7_peg_98 : decode cX7_peg 98 = .ok (.invokespecial 125, 3) := by decide +kernel
theorem dX7_peg_101 : decode cX7_peg 101 = .ok (.invokevirtual 95, 3) := by decide +kernel
theorem dX7_peg_104 : decode cX7_peg 104 = .ok (.pop, 1) := by decide +kernel
theorem dX7_peg_105 : decode cX7_peg 105 = .ok (.aload_n 0, 1) := by decide +kernel
theorem dX7_peg_106 : decode cX7_peg 106 = .ok (.getfield 37, 3) := by decide +kernel
theorem dX7_peg_109 : decode cX7_peg 109 = .ok (.invokevirtual 86, 3) := by decide +kernel
theorem dX7_peg_112 : decode cX7_peg 112 = .ok (.iconst 1, 1) := by decide +kernel
theorem dX7_peg_113 : decode cX7_peg 113 = .ok (.isub, 1) := by decide +kernel
theorem dX7_peg_114 : decode cX7_peg 114 = .ok (.ireturn, 1) := by decide +kernel
theorem dX7_right_0 : decode cX7_right 0 = .ok (.aload_n 0, 1) := by decide +kernel
theorem dX7_right_1 : decode cX7_right 1 = .ok (.iload_n 1, 1) := by decide +kernel
theorem dX7_right_2 : decode cX7_right 2 = .ok (.invokevirtual 108, 3) := by decide +kernel
theorem dX7_right_5 : decode cX7_right 5 = .ok (.astore_n 3, 1) := by decide +kernel
theorem dX7_right_6 : decode cX7_right 6 = .ok (.iload_n 2, 1) := by decide +kernel
theorem dX7_right_7 : decode cX7_right 7 = .ok (.iconst 1, 1) := by decide +kernel
theorem dX7_right_8 : decode cX7_right 8 = .ok (.sipush 200, 3) := by decide +kernel
theorem dX7_right_11 : decode cX7_right 11 = .ok (.invokestatic 67, 3) := by decide +kernel
theorem dX7_right_14 : decode cX7_right 14 = .ok (.aload_n 3, 1) := by decide +kernel
theorem dX7_right_15 : decode cX7_right 15 = .ok (.invokevirtual 115, 3) := by decide +kernel
theorem dX7_right_18 : decode cX7_right 18 = .ok (.ifCond .ne 19, 3) := by decide +kernel
theorem dX7_right_21 : decode cX7_right 21 = .ok (.aload_n 0, 1) := by decide +kernel
theorem dX7_right_22 : decode cX7_right 22 = .ok (.getfield 40, 3) := by decide +kernel
theorem dX7_right_25 : decode cX7_right 25 = .ok (.invokevirtual 86, 3) := by decide +kernel
theorem dX7_right_28 : decode cX7_right 28 = .ok (.bipush 20, 2) := by decide +kernel
theorem dX7_right_30 : decode cX7_right 30 = .ok (.if_icmp .ge 7, 3) := by decide +kernel
theorem dX7_right_33 : decode cX7_right 33 = .ok (.iconst 1, 1) := by decide +kernel
theorem dX7_right_34 : decode cX7_right 34 = .ok (.goto 4, 3) := by decide +kernel
theorem dX7_right_37 : decode cX7_right 37 = .ok (.iconst 0, 1) := by decide +kernel
theorem dX7_right_38 : decode cX7_right 38 = .ok (.invokestatic 75, 3) := by decide +kernel
theorem dX7_right_41 : decode cX7_right 41 = .ok (.aload_n 0, 1) := by decide +kernel
theorem dX7_right_42 : decode cX7_right 42 = .ok (.getfield 40, 3) := by decide +kernel
theorem dX7_right_45 : decode cX7_right 45 = .ok (.new 128, 3) := by decide +kernel
theorem dX7_right_48 : decode cX7_right 48 = .ok (.dup, 1) := by decide +kernel
theorem dX7_right_49 : decode cX7_right 49 = .ok (.iload_n 1, 1) := by decide +kernel
theorem dX7_right_50 : decode cX7_right 50 = .ok (.iload_n 2, 1) := by decide +kernel
theorem dX7_right_51 : decode cX7_right 51 = .ok (.invokespecial 130, 3) := by decide +kernel
theorem dX7_right_54 : decode cX7_right 54 = .ok (.invokevirtual 95, 3) := by decide +kernel
theorem dX7_right_57 : decode cX7_right 57 = .ok (.pop, 1) := by decide +kernel
theorem dX7_right_58 : decode cX7_right 58 = .ok (.aload_n 0, 1) := by decide +kernel
theorem dX7_right_59 : decode cX7_right 59 = .ok (.getfield 40, 3) := by decide +kernel
theorem dX7_right_62 : decode cX7_right 62 = .ok (.invokevirtual 86, 3) := by decide +kernel
theorem dX7_right_65 : decode cX7_right 65 = .ok (.iconst 1, 1) := by decide +kernel
theorem dX7_right_66 : decode cX7_right 66 = .ok (.isub, 1) := by decide +kernel
theorem dX7_right_67 : decode cX7_right 67 = .ok (.ireturn, 1) := by decide +kernel
theorem dX7_work_0 : decode cX7_work 0 = .ok (.aload_n 0, 1) := by decide +kernel
theorem dX7_work_1 : decode cX7_work 1 = .ok (.iload_n 1, 1) := by decide +kernel
theorem dX7_work_2 : decode cX7_work 2 = .ok (.invokevirtual 108, 3) := by decide +kernel
theorem dX7_work_5 : decode cX7_work 5 = .ok (.astore 4, 2) := by decide +kernel
theorem dX7_work_7 : decode cX7_work 7 = .ok (.iload_n 2, 1) := by decide +kernel
theorem dX7_work_8 : decode cX7_work 8 = .ok (.invokestatic 62, 3) := by decide +kernel
theorem dX7_work_11 : decode cX7_work 11 = .ok (.iload_n 3, 1) := by decide +kernel
theorem dX7_work_12 : decode cX7_work 12 = .ok (.invokestatic 131, 3) := by decide +kernel
theorem dX7_work_15 : decode cX7_work 15 = .ok (.astore 5, 2) := by decide +kernel
theorem dX7_work_17 : decode cX7_work 17 = .ok (.aload_n 0, 1) := by decide +kernel
theorem dX7_work_18 : decode cX7_work 18 = .ok (.iload_n 2, 1) := by decide +kernel
theorem dX7_work_19 : decode cX7_work 19 = .ok (.invokevirtual 135, 3) := by decide +kernel
theorem dX7_work_22 : decode cX7_work 22 = .ok (.istore 6, 2) := by decide +kernel
theorem dX7_work_24 : decode cX7_work 24 = .ok (.aload 4, 2) := by decide +kernel
theorem dX7_work_26 : decode cX7_work 26 = .ok (.invokevirtual 115, 3) := by decide +kernel
theorem dX7_work_29 : decode cX7_work 29 = .ok (.ifCond .ne 44, 3) := by decide +kernel
theorem dX7_work_32 : decode cX7_work 32 = .ok (.aload 4, 2) := by decide +kernel
theorem dX7_work_34 : decode cX7_work 34 = .ok (.getfield 138, 3) := by decide +kernel
theorem dX7_work_37 : decode cX7_work 37 = .ok (.aload_n 0, 1) := by decide +kernel
theorem dX7_work_38 : decode cX7_work 38 = .ok (.getfield 43, 3) := by decide +kernel
theorem dX7_work_41 : decode cX7_work 41 = .ok (.if_icmp .eq 32, 3) := by decide +kernel
theorem dX7_work_44 : decode cX7_work 44 = .ok (.aload_n 0, 1) := by decide +kernel
theorem dX7_work_45 : decode cX7_work 45 = .ok (.aload 5, 2) := by decide +kernel
theorem dX7_work_47 : decode cX7_work 47 = .ok (.iload_n 1, 1) := by decide +kernel
theorem dX7_work_48 : decode cX7_work 48 = .ok (.iload 6, 2) := by decide +kernel
theorem dX7_work_50 : decode cX7_work 50 = .ok (.invokevirtual 141, 3) := by decide +kernel
theorem dX7_work_53 : decode cX7_work 53 = .ok (.ifCond .eq 20, 3) := by decide +kernel
theorem dX7_work_56 : decode cX7_work 56 = .ok (.aload_n 0, 1) := by decide +kernel
theorem dX7_work_57 : decode cX7_work 57 = .ok (.iload_n 1, 1) := by decide +kernel
theorem dX7_work_58 : decode cX7_work 58 = .ok (.invokevirtual 145, 3) := by decide +kernel
theorem dX7_work_61 : decode cX7_work 61 = .ok (.aload 5, 2) := by decide +kernel
theorem dX7_work_63 : decode cX7_work 63 = .ok (.getfield 148, 3) := by decide +kernel
theorem dX7_work_66 : decode cX7_work 66 = .ok (.if_icmp .lt 7, 3) := by decide +kernel
theorem dX7_work_69 : decode cX7_work 69 = .ok (.iconst 1, 1) := by decide +kernel
theorem dX7_work_70 : decode cX7_work 70 = .ok (.goto 4, 3) := by decide +kernel
theorem dX7_work_73 : decode cX7_work 73 = .ok (.iconst 0, 1) := by decide +kernel
theorem dX7_work_74 : decode cX7_work 74 = .ok (.invokestatic 75, 3) := by decide +kernel
theorem dX7_work_77 : decode cX7_work 77 = .ok (.aload_n 0, 1) := by decide +kernel
theorem dX7_work_78 : decode cX7_work 78 = .ok (.getfield 10, 3) := by decide +kernel
theorem dX7_work_81 : decode cX7_work 81 = .ok (.iload_n 2, 1) := by decide +kernel
theorem dX7_work_82 : decode cX7_work 82 = .ok (.aload 5, 2) := by decide +kernel
theorem dX7_work_84 : decode cX7_work 84 = .ok (.invokevirtual 153, 3) := by decide +kernel
theorem dX7_work_87 : decode cX7_work 87 = .ok (.istore 7, 2) := by decide +kernel
theorem dX7_work_89 : decode cX7_work 89 = .ok (.aload_n 0, 1) := by decide +kernel
theorem dX7_work_90 : decode cX7_work 90 = .ok (.getfield 10, 3) := by decide +kernel
theorem dX7_work_93 : decode cX7_work 93 = .ok (.iconst 1, 1) := by decide +kernel
theorem dX7_work_94 : decode cX7_work 94 = .ok (.putfield 71, 3) := by decide +kernel
theorem dX7_work_97 : decode cX7_work 97 = .ok (.aload 4, 2) := by decide +kernel
theorem dX7_work_99 : decode cX7_work 99 = .ok (.aload_n 0, 1) := by decide +kernel
theorem dX7_work_100 : decode cX7_work 100 = .ok (.getfield 43, 3) := by decide +kernel
theorem dX7_work_103 : decode cX7_work 103 = .ok (.putfield 138, 3) := by decide +kernel
theorem dX7_work_106 : decode cX7_work 106 = .ok (.iload 6, 2) := by decide +kernel
theorem dX7_work_108 : decode cX7_work 108 = .ok (.iconst (-1), 1) := by decide +kernel
theorem dX7_work_109 : decode cX7_work 109 = .ok (.if_icmp .eq 16, 3) := by decide +kernel
theorem dX7_work_112 : decode cX7_work 112 = .ok (.aload_n 0, 1) := by decide +kernel
theorem dX7_work_113 : decode cX7_work 113 = .ok (.iload 6, 2) := by decide +kernel
theorem dX7_work_115 : decode cX7_work 115 = .ok (.invokevirtual 157, 3) := by decide +kernel
theorem dX7_work_118 : decode cX7_work 118 = .ok (.aload_n 0, 1) := by decide +kernel
theorem dX7_work_119 : decode cX7_work 119 = .ok (.getfield 43, 3) := by decide +kernel
theorem dX7_work_122 : decode cX7_work 122 = .ok (.putfield 161, 3) := by decide +kernel
theorem dX7_work_125 : decode cX7_work 125 = .ok (.aload_n 0, 1) := by decide +kernel
theorem dX7_work_126 : decode cX7_work 126 = .ok (.aload 4, 2) := by decide +kernel
theorem dX7_work_128 : decode cX7_work 128 = .ok (.iload 7, 2) := by decide +kernel
theorem dX7_work_130 : decode cX7_work 130 = .ok (.invokevirtual 162, 3) := by decide +kernel
theorem dX7_work_133 : decode cX7_work 133 = .ok (.iload 7, 2) := by decide +kernel
theorem dX7_work_135 : decode cX7_work 135 = .ok (.ireturn, 1) := by decide +kernel
theorem dX7_sample_0 : decode cX7_sample 0 = .ok (.iload_n 1, 1) := by decide +kernel
theorem dX7_sample_1 : decode cX7_sample 1 = .ok (.invokestatic 62, 3) := by decide +kernel
theorem dX7_sample_4 : decode cX7_sample 4 = .ok (.aload_n 0, 1) := by decide +kernel
theorem dX7_sample_5 : decode cX7_sample 5 = .ok (.getfield 10, 3) := by decide +kernel
theorem dX7_sample_8 : decode cX7_sample 8 = .ok (.iload_n 1, 1) := by decide +kernel
theorem dX7_sample_9 : decode cX7_sample 9 = .ok (.invokevirtual 79, 3) := by decide +kernel
theorem dX7_sample_12 : decode cX7_sample 12 = .ok (.bipush 100, 2) := by decide +kernel
theorem dX7_sample_14 : decode cX7_sample 14 = .ok (.idiv, 1) := by decide +kernel
theorem dX7_sample_15 : decode cX7_sample 15 = .ok (.ireturn, 1) := by decide +kernel
theorem dX7_salt_0 : decode cX7_salt 0 = .ok (.aload_n 0, 1) := by decide +kernel
theorem dX7_salt_1 : decode cX7_salt 1 = .ok (.iload_n 1, 1) := by decide +kernel
theorem dX7_salt_2 : decode cX7_salt 2 = .ok (.invokevirtual 108, 3) := by decide +kernel
theorem dX7_salt_5 : decode cX7_salt 5 = .ok (.astore 4, 2) := by decide +kernel
theorem dX7_salt_7 : decode cX7_salt 7 = .ok (.iload_n 2, 1) := by decide +kernel
theorem dX7_salt_8 : decode cX7_salt 8 = .ok (.invokestatic 62, 3) := by decide +kernel
theorem dX7_salt_11 : decode cX7_salt 11 = .ok (.iload_n 3, 1) := by decide +kernel
theorem dX7_salt_12 : decode cX7_salt 12 = .ok (.iconst 1, 1) := by decide +kernel
theorem dX7_salt_13 : decode cX7_salt 13 = .ok (.sipush 10000, 3) := by decide +kernel
theorem dX7_salt_16 : decode cX7_salt 16 = .ok (.invokestatic 67, 3) := by decide +kernel
theorem dX7_salt_19 : decode cX7_salt 19 = .ok (.aload 4, 2) := by decide +kernel
theorem dX7_salt_21 : decode cX7_salt 21 = .ok (.invokevirtual 115, 3) := by decide +kernel
theorem dX7_salt_24 : decode cX7_salt 24 = .ok (.ifCond .ne 16, 3) := by decide +kernel
theorem dX7_salt_27 : decode cX7_salt 27 = .ok (.aload 4, 2) := by decide +kernel
theorem dX7_salt_29 : decode cX7_salt 29 = .ok (.getfield 166, 3) := by decide +kernel
theorem dX7_salt_32 : decode cX7_salt 32 = .ok (.iload_n 3, 1) := by decide +kernel
theorem dX7_salt_33 : decode cX7_salt 33 = .ok (.if_icmp .lt 7, 3) := by decide +kernel
theorem dX7_salt_36 : decode cX7_salt 36 = .ok (.iconst 1, 1) := by decide +kernel
theorem dX7_salt_37 : decode cX7_salt 37 = .ok (.goto 4, 3) := by decide +kernel
theorem dX7_salt_40 : decode cX7_salt 40 = .ok (.iconst 0, 1) := by decide +kernel
theorem dX7_salt_41 : decode cX7_salt 41 = .ok (.invokestatic 75, 3) := by decide +kernel
theorem dX7_salt_44 : decode cX7_salt 44 = .ok (.aload 4, 2) := by decide +kernel
theorem dX7_salt_46 : decode cX7_salt 46 = .ok (.dup, 1) := by decide +kernel
theorem dX7_salt_47 : decode cX7_salt 47 = .ok (.getfield 166, 3) := by decide +kernel
theorem dX7_salt_50 : decode cX7_salt 50 = .ok (.iload_n 3, 1) := by decide +kernel
theorem dX7_salt_51 : decode cX7_salt 51 = .ok (.isub, 1) := by decide +kernel
theorem dX7_salt_52 : decode cX7_salt 52 = .ok (.putfield 166, 3) := by decide +kernel
theorem dX7_salt_55 : decode cX7_salt 55 = .ok (.aload_n 0, 1) := by decide +kernel
theorem dX7_salt_56 : decode cX7_salt 56 = .ok (.getfield 10, 3) := by decide +kernel
theorem dX7_salt_59 : decode cX7_salt 59 = .ok (.iload_n 2, 1) := by decide +kernel
theorem dX7_salt_60 : decode cX7_salt 60 = .ok (.iload_n 3, 1) := by decide +kernel
theorem dX7_salt_61 : decode cX7_salt 61 = .ok (.invokevirtual 169, 3) := by decide +kernel
theorem dX7_salt_64 : decode cX7_salt 64 = .ok (.aload_n 0, 1) := by decide +kernel
theorem dX7_salt_65 : decode cX7_salt 65 = .ok (.getfield 10, 3) := by decide +kernel
theorem dX7_salt_68 : decode cX7_salt 68 = .ok (.iconst 1, 1) := by decide +kernel
theorem dX7_salt_69 : decode cX7_salt 69 = .ok (.putfield 71, 3) := by decide +kernel
theorem dX7_salt_72 : decode cX7_salt 72 = .ok (.aload 4, 2) := by decide +kernel
theorem dX7_salt_74 : decode cX7_salt 74 = .ok (.iload_n 2, 1) := by decide +kernel
theorem dX7_salt_75 : decode cX7_salt 75 = .ok (.aload_n 0, 1) := by decide +kernel
theorem dX7_salt_76 : decode cX7_salt 76 = .ok (.getfield 43, 3) := by decide +kernel
theorem dX7_salt_79 : decode cX7_salt 79 = .ok (.invokevirtual 172, 3) := by decide +kernel
theorem dX7_salt_82 : decode cX7_salt 82 = .ok (.aload_n 0, 1) := by decide +kernel
theorem dX7_salt_83 : decode cX7_salt 83 = .ok (.iload_n 1, 1) := by decide +kernel
theorem dX7_salt_84 : decode cX7_salt 84 = .ok (.iload_n 2, 1) := by decide +kernel
theorem dX7_salt_85 : decode cX7_salt 85 = .ok (.invokevirtual 175, 3) := by decide +kernel
theorem dX7_salt_88 : decode cX7_salt 88 = .ok (.aload_n 0, 1) := by decide +kernel
theorem dX7_salt_89 : decode cX7_salt 89 = .ok (.getfield 10, 3) := by decide +kernel
theorem dX7_salt_92 : decode cX7_salt 92 = .ok (.iload_n 2, 1) := by decide +kernel
theorem dX7_salt_93 : decode cX7_salt 93 = .ok (.invokevirtual 79, 3) := by decide +kernel
theorem dX7_salt_96 : decode cX7_salt 96 = .ok (.ireturn, 1) := by decide +kernel
theorem dX7_brass_0 : decode cX7_brass 0 = .ok (.aload_n 0, 1) := by decide +kernel
theorem dX7_brass_1 : decode cX7_brass 1 = .ok (.iload_n 1, 1) := by decide +kernel
theorem dX7_brass_2 : decode cX7_brass 2 = .ok (.invokevirtual 108, 3) := by decide +kernel
theorem dX7_brass_5 : decode cX7_brass 5 = .ok (.astore_n 3, 1) := by decide +kernel
theorem dX7_brass_6 : decode cX7_brass 6 = .ok (.iload_n 2, 1) := by decide +kernel
theorem dX7_brass_7 : decode cX7_brass 7 = .ok (.iconst 1, 1) := by decide +kernel
theorem dX7_brass_8 : decode cX7_brass 8 = .ok (.sipush 10000, 3) := by decide +kernel
theorem dX7_brass_11 : decode cX7_brass 11 = .ok (.invokestatic 67, 3) := by decide +kernel
theorem dX7_brass_14 : decode cX7_brass 14 = .ok (.aload_n 3, 1) := by decide +kernel
theorem dX7_brass_15 : decode cX7_brass 15 = .ok (.invokevirtual 115, 3) := by decide +kernel
theorem dX7_brass_18 : decode cX7_brass 18 = .ok (.ifCond .ne 18, 3) := by decide +kernel
theorem dX7_brass_21 : decode cX7_brass 21 = .ok (.aload_n 3, 1) := by decide +kernel
theorem dX7_brass_22 : decode cX7_brass 22 = .ok (.getfield 178, 3) := by decide +kernel
theorem dX7_brass_25 : decode cX7_brass 25 = .ok (.iload_n 2, 1) := by decide +kernel
theorem dX7_brass_26 : decode cX7_brass 26 = .ok (.iadd, 1) := by decide +kernel
theorem dX7_brass_27 : decode cX7_brass 27 = .ok (.ldc 66, 2) := by decide +kernel
theorem dX7_brass_29 : decode cX7_brass 29 = .ok (.if_icmp .gt 7, 3) := by decide +kernel
theorem dX7_brass_32 : decode cX7_brass 32 = .ok (.iconst 1, 1) := by decide +kernel
theorem dX7_brass_33 : decode cX7_brass 33 = .ok (.goto 4, 3) := by decide +kernel
theorem dX7_brass_36 : decode cX7_brass 36 = .ok (.iconst 0, 1) := by decide +kernel
theorem dX7_brass_37 : decode cX7_brass 37 = .ok (.invokestatic 75, 3) := by decide +kernel
theorem dX7_brass_40 : decode cX7_brass 40 = .ok (.aload_n 3, 1) := by decide +kernel
theorem dX7_brass_41 : decode cX7_brass 41 = .ok (.dup, 1) := by decide +kernel
theorem dX7_brass_42 : decode cX7_brass 42 = .ok (.getfield 178, 3) := by decide +kernel
theorem dX7_brass_45 : decode cX7_brass 45 = .ok (.iload_n 2, 1) := by decide +kernel
theorem dX7_brass_46 : decode cX7_brass 46 = .ok (.iadd, 1) := by decide +kernel
theorem dX7_brass_47 : decode cX7_brass 47 = .ok (.putfield 178, 3) := by decide +kernel
theorem dX7_brass_50 : decode cX7_brass 50 = .ok (.aload_n 3, 1) := by decide +kernel
theorem dX7_brass_51 : decode cX7_brass 51 = .ok (.getfield 178, 3) := by decide +kernel
theorem dX7_brass_54 : decode cX7_brass 54 = .ok (.ireturn, 1) := by decide +kernel
theorem dX7_sell_0 : decode cX7_sell 0 = .ok (.aload_n 0, 1) := by decide +kernel
theorem dX7_sell_1 : decode cX7_sell 1 = .ok (.iload_n 1, 1) := by decide +kernel
theorem dX7_sell_2 : decode cX7_sell 2 = .ok (.invokevirtual 108, 3) := by decide +kernel
theorem dX7_sell_5 : decode cX7_sell 5 = .ok (.astore_n 3, 1) := by decide +kernel
theorem dX7_sell_6 : decode cX7_sell 6 = .ok (.iload_n 2, 1) := by decide +kernel
theorem dX7_sell_7 : decode cX7_sell 7 = .ok (.iconst 1, 1) := by decide +kernel
theorem dX7_sell_8 : decode cX7_sell 8 = .ok (.ldc 181, 2) := by decide +kernel
theorem dX7_sell_10 : decode cX7_sell 10 = .ok (.invokestatic 67, 3) := by decide +kernel
theorem dX7_sell_13 : decode cX7_sell 13 = .ok (.aload_n 3, 1) := by decide +kernel
theorem dX7_sell_14 : decode cX7_sell 14 = .ok (.invokevirtual 115, 3) := by decide +kernel
theorem dX7_sell_17 : decode cX7_sell 17 = .ok (.ifCond .ne 15, 3) := by decide +kernel
theorem dX7_sell_20 : decode cX7_sell 20 = .ok (.aload_n 3, 1) := by decide +kernel
theorem dX7_sell_21 : decode cX7_sell 21 = .ok (.invokevirtual 182, 3) := by decide +kernel
theorem dX7_sell_24 : decode cX7_sell 24 = .ok (.iload_n 2, 1) := by decide +kernel
theorem dX7_sell_25 : decode cX7_sell 25 = .ok (.if_icmp .lt 7, 3) := by decide +kernel
theorem dX7_sell_28 : decode cX7_sell 28 = .ok (.iconst 1, 1) := by decide +kernel
theorem dX7_sell_29 : decode cX7_sell 29 = .ok (.goto 4, 3) := by decide +kernel
theorem dX7_sell_32 : decode cX7_sell 32 = .ok (.iconst 0, 1) := by decide +kernel
theorem dX7_sell_33 : decode cX7_sell 33 = .ok (.invokestatic 75, 3) := by decide +kernel
theorem dX7_sell_36 : decode cX7_sell 36 = .ok (.aload_n 3, 1) := by decide +kernel
theorem dX7_sell_37 : decode cX7_sell 37 = .ok (.invokevirtual 185, 3) := by decide +kernel
theorem dX7_sell_40 : decode cX7_sell 40 = .ok (.ifCond .eq 15, 3) := by decide +kernel
theorem dX7_sell_43 : decode cX7_sell 43 = .ok (.aload_n 3, 1) := by decide +kernel
theorem dX7_sell_44 : decode cX7_sell 44 = .ok (.dup, 1) := by decide +kernel
theorem dX7_sell_45 : decode cX7_sell 45 = .ok (.getfield 188, 3) := by decide +kernel
theorem dX7_sell_48 : decode cX7_sell 48 = .ok (.iconst 1, 1) := by decide +kernel
theorem dX7_sell_49 : decode cX7_sell 49 = .ok (.iadd, 1) := by decide +kernel
theorem dX7_sell_50 : decode cX7_sell 50 = .ok (.putfield 188, 3) := by decide +kernel
theorem dX7_sell_53 : decode cX7_sell 53 = .ok (.iconst (-1), 1) := by decide +kernel
theorem dX7_sell_54 : decode cX7_sell 54 = .ok (.ireturn, 1) := by decide +kernel
theorem dX7_sell_55 : decode cX7_sell 55 = .ok (.aload_n 3, 1) := by decide +kernel
theorem dX7_sell_56 : decode cX7_sell 56 = .ok (.iload_n 2, 1) := by decide +kernel
theorem dX7_sell_57 : decode cX7_sell 57 = .ok (.invokevirtual 191, 3) := by decide +kernel
theorem dX7_sell_60 : decode cX7_sell 60 = .ok (.istore 4, 2) := by decide +kernel
theorem dX7_sell_62 : decode cX7_sell 62 = .ok (.iload_n 2, 1) := by decide +kernel
theorem dX7_sell_63 : decode cX7_sell 63 = .ok (.iload 4, 2) := by decide +kernel
theorem dX7_sell_65 : decode cX7_sell 65 = .ok (.isub, 1) := by decide +kernel
theorem dX7_sell_66 : decode cX7_sell 66 = .ok (.istore 5, 2) := by decide +kernel
theorem dX7_sell_68 : decode cX7_sell 68 = .ok (.iload_n 2, 1) := by decide +kernel
theorem dX7_sell_69 : decode cX7_sell 69 = .ok (.aload_n 0, 1) := by decide +kernel
theorem dX7_sell_70 : decode cX7_sell 70 = .ok (.getfield 56, 3) := by decide +kernel
theorem dX7_sell_73 : decode cX7_sell 73 = .ok (.imul, 1) := by decide +kernel
theorem dX7_sell_74 : decode cX7_sell 74 = .ok (.bipush 10, 2) := by decide +kernel
theorem dX7_sell_76 : decode cX7_sell 76 = .ok (.idiv, 1) := by decide +kernel
theorem dX7_sell_77 : decode cX7_sell 77 = .ok (.istore 6, 2) := by decide +kernel
theorem dX7_sell_79 : decode cX7_sell 79 = .ok (.aload_n 3, 1) := by decide +kernel
theorem dX7_sell_80 : decode cX7_sell 80 = .ok (.dup, 1) := by decide +kernel
theorem dX7_sell_81 : decode cX7_sell 81 = .ok (.getfield 178, 3) := by decide +kernel
theorem dX7_sell_84 : decode cX7_sell 84 = .ok (.iload 4, 2) := by decide +kernel
theorem dX7_sell_86 : decode cX7_sell 86 = .ok (.isub, 1) := by decide +kernel
theorem dX7_sell_87 : decode cX7_sell 87 = .ok (.putfield 178, 3) := by decide +kernel
theorem dX7_sell_90 : decode cX7_sell 90 = .ok (.aload_n 3, 1) := by decide +kernel
theorem dX7_sell_91 : decode cX7_sell 91 = .ok (.dup, 1) := by decide +kernel
theorem dX7_sell_92 : decode cX7_sell 92 = .ok (.getfield 166, 3) := by decide +kernel
theorem dX7_sell_95 : decode cX7_sell 95 = .ok (.iload 5, 2) := by decide +kernel
theorem dX7_sell_97 : decode cX7_sell 97 = .ok (.isub, 1) := by decide +kernel
theorem dX7_sell_98 : decode cX7_sell 98 = .ok (.putfield 166, 3) := by decide +kernel
theorem dX7_sell_101 : decode cX7_sell 101 = .ok (.aload_n 3, 1) := by decide +kernel
theorem dX7_sell_102 : decode cX7_sell 102 = .ok (.dup, 1) := by decide +kernel
theorem dX7_sell_103 : decode cX7_sell 103 = .ok (.getfield 194, 3) := by decide +kernel
theorem dX7_sell_106 : decode cX7_sell 106 = .ok (.iload 6, 2) := by decide +kernel
theorem dX7_sell_108 : decode cX7_sell 108 = .ok (.iadd, 1) := by decide +kernel
theorem dX7_sell_109 : decode cX7_sell 109 = .ok (.putfield 194, 3) := by decide +kernel
theorem dX7_sell_112 : decode cX7_sell 112 = .ok (.aload_n 0, 1) := by decide +kernel
theorem dX7_sell_113 : decode cX7_sell 113 = .ok (.dup, 1) := by decide +kernel
theorem dX7_sell_114 : decode cX7_sell 114 = .ok (.getfield 59, 3) := by decide +kernel
theorem dX7_sell_117 : decode cX7_sell 117 = .ok (.iload 5, 2) := by decide +kernel
theorem dX7_sell_119 : decode cX7_sell 119 = .ok (.iadd, 1) := by decide +kernel
theorem dX7_sell_120 : decode cX7_sell 120 = .ok (.putfield 59, 3) := by decide +kernel
theorem dX7_sell_123 : decode cX7_sell 123 = .ok (.iload 6, 2) := by decide +kernel
theorem dX7_sell_125 : decode cX7_sell 125 = .ok (.ireturn, 1) := by decide +kernel
theorem dX7_rate_0 : decode cX7_rate 0 = .ok (.iload_n 1, 1) := by decide +kernel
theorem dX7_rate_1 : decode cX7_rate 1 = .ok (.iconst 1, 1) := by decide +kernel
theorem dX7_rate_2 : decode cX7_rate 2 = .ok (.bipush 100, 2) := by decide +kernel
theorem dX7_rate_4 : decode cX7_rate 4 = .ok (.invokestatic 67, 3) := by decide +kernel
theorem dX7_rate_7 : decode cX7_rate 7 = .ok (.aload_n 0, 1) := by decide +kernel
theorem dX7_rate_8 : decode cX7_rate 8 = .ok (.getfield 56, 3) := by decide +kernel
theorem dX7_rate_11 : decode cX7_rate 11 = .ok (.istore_n 2, 1) := by decide +kernel
theorem dX7_rate_12 : decode cX7_rate 12 = .ok (.aload_n 0, 1) := by decide +kernel
theorem dX7_rate_13 : decode cX7_rate 13 = .ok (.iload_n 1, 1) := by decide +kernel
theorem dX7_rate_14 : decode cX7_rate 14 = .ok (.putfield 56, 3) := by decide +kernel
theorem dX7_rate_17 : decode cX7_rate 17 = .ok (.iload_n 2, 1) := by decide +kernel
theorem dX7_rate_18 : decode cX7_rate 18 = .ok (.ireturn, 1) := by decide +kernel
theorem dX7_freight_0 : decode cX7_freight 0 = .ok (.iload_n 1, 1) := by decide +kernel
theorem dX7_freight_1 : decode cX7_freight 1 = .ok (.iconst 1, 1) := by decide +kernel
theorem dX7_freight_2 : decode cX7_freight 2 = .ok (.sipush 1000, 3) := by decide +kernel
theorem dX7_freight_5 : decode cX7_freight 5 = .ok (.invokestatic 67, 3) := by decide +kernel
theorem dX7_freight_8 : decode cX7_freight 8 = .ok (.iload_n 2, 1) := by decide +kernel
theorem dX7_freight_9 : decode cX7_freight 9 = .ok (.aload_n 0, 1) := by decide +kernel
theorem dX7_freight_10 : decode cX7_freight 10 = .ok (.getfield 43, 3) := by decide +kernel
theorem dX7_freight_13 : decode cX7_freight 13 = .ok (.iconst 1, 1) := by decide +kernel
theorem dX7_freight_14 : decode cX7_freight 14 = .ok (.iadd, 1) := by decide +kernel
theorem dX7_freight_15 : decode cX7_freight 15 = .ok (.sipush 5000, 3) := by decide +kernel
theorem dX7_freight_18 : decode cX7_freight 18 = .ok (.invokestatic 67, 3) := by decide +kernel
theorem dX7_freight_21 : decode cX7_freight 21 = .ok (.aload_n 0, 1) := by decide +kernel
theorem dX7_freight_22 : decode cX7_freight 22 = .ok (.getfield 19, 3) := by decide +kernel
theorem dX7_freight_25 : decode cX7_freight 25 = .ok (.invokevirtual 197, 3) := by decide +kernel
theorem dX7_freight_28 : decode cX7_freight 28 = .ok (.bipush 20, 2) := by decide +kernel
theorem dX7_freight_30 : decode cX7_freight 30 = .ok (.if_icmp .ge 7, 3) := by decide +kernel
theorem dX7_freight_33 : decode cX7_freight 33 = .ok (.iconst 1, 1) := by decide +kernel
theorem dX7_freight_34 : decode cX7_freight 34 = .ok (.goto 4, 3) := by decide +kernel
theorem dX7_freight_37 : decode cX7_freight 37 = .ok (.iconst 0, 1) := by decide +kernel
theorem dX7_freight_38 : decode cX7_freight 38 = .ok (.invokestatic 75, 3) := by decide +kernel
theorem dX7_freight_41 : decode cX7_freight 41 = .ok (.aload_n 0, 1) := by decide +kernel
theorem dX7_freight_42 : decode cX7_freight 42 = .ok (.getfield 19, 3) := by decide +kernel
theorem dX7_freight_45 : decode cX7_freight 45 = .ok (.iload_n 1, 1) := by decide +kernel
theorem dX7_freight_46 : decode cX7_freight 46 = .ok (.iload_n 2, 1) := by decide +kernel
theorem dX7_freight_47 : decode cX7_freight 47 = .ok (.invokevirtual 200, 3) := by decide +kernel
theorem dX7_freight_50 : decode cX7_freight 50 = .ok (.return_, 1) := by decide +kernel
theorem dX7_buy_0 : decode cX7_buy 0 = .ok (.aload_n 0, 1) := by decide +kernel
theorem dX7_buy_1 : decode cX7_buy 1 = .ok (.iload_n 1, 1) := by decide +kernel
theorem dX7_buy_2 : decode cX7_buy 2 = .ok (.invokevirtual 108, 3) := by decide +kernel
theorem dX7_buy_5 : decode cX7_buy 5 = .ok (.astore_n 3, 1) := by decide +kernel
theorem dX7_buy_6 : decode cX7_buy 6 = .ok (.iload_n 2, 1) := by decide +kernel
theorem dX7_buy_7 : decode cX7_buy 7 = .ok (.iconst 1, 1) := by decide +kernel
theorem dX7_buy_8 : decode cX7_buy 8 = .ok (.sipush 1000, 3) := by decide +kernel
theorem dX7_buy_11 : decode cX7_buy 11 = .ok (.invokestatic 67, 3) := by decide +kernel
theorem dX7_buy_14 : decode cX7_buy 14 = .ok (.iload_n 2, 1) := by decide +kernel
theorem dX7_buy_15 : decode cX7_buy 15 = .ok (.aload_n 0, 1) := by decide +kernel
theorem dX7_buy_16 : decode cX7_buy 16 = .ok (.getfield 19, 3) := by decide +kernel
theorem dX7_buy_19 : decode cX7_buy 19 = .ok (.invokevirtual 203, 3) := by decide +kernel
theorem dX7_buy_22 : decode cX7_buy 22 = .ok (.imul, 1) := by decide +kernel
theorem dX7_buy_23 : decode cX7_buy 23 = .ok (.istore 4, 2) := by decide +kernel
theorem dX7_buy_25 : decode cX7_buy 25 = .ok (.aload_n 3, 1) := by decide +kernel
theorem dX7_buy_26 : decode cX7_buy 26 = .ok (.invokevirtual 115, 3) := by decide +kernel
theorem dX7_buy_29 : decode cX7_buy 29 = .ok (.ifCond .ne 27, 3) := by decide +kernel
theorem dX7_buy_32 : decode cX7_buy 32 = .ok (.aload_n 0, 1) := by decide +kernel
theorem dX7_buy_33 : decode cX7_buy 33 = .ok (.getfield 19, 3) := by decide +kernel
theorem dX7_buy_36 : decode cX7_buy 36 = .ok (.getfield 206, 3) := by decide +kernel
theorem dX7_buy_39 : decode cX7_buy 39 = .ok (.iload_n 2, 1) := by decide +kernel
theorem dX7_buy_40 : decode cX7_buy 40 = .ok (.if_icmp .lt 16, 3) := by decide +kernel
theorem dX7_buy_43 : decode cX7_buy 43 = .ok (.aload_n 3, 1) := by decide +kernel
theorem dX7_buy_44 : decode cX7_buy 44 = .ok (.getfield 194, 3) := by decide +kernel
theorem dX7_buy_47 : decode cX7_buy 47 = .ok (.iload 4, 2) := by decide +kernel
theorem dX7_buy_49 : decode cX7_buy 49 = .ok (.if_icmp .lt 7, 3) := by decide +kernel
theorem dX7_buy_52 : decode cX7_buy 52 = .ok (.iconst 1, 1) := by decide +kernel
theorem dX7_buy_53 : decode cX7_buy 53 = .ok (.goto 4, 3) := by decide +kernel
theorem dX7_buy_56 : decode cX7_buy 56 = .ok (.iconst 0, 1) := by decide +kernel
theorem dX7_buy_57 : decode cX7_buy 57 = .ok (.invokestatic 75, 3) := by decide +kernel
theorem dX7_buy_60 : decode cX7_buy 60 = .ok (.aload_n 0, 1) := by decide +kernel
theorem dX7_buy_61 : decode cX7_buy 61 = .ok (.getfield 19, 3) := by decide +kernel
theorem dX7_buy_64 : decode cX7_buy 64 = .ok (.dup, 1) := by decide +kernel
theorem dX7_buy_65 : decode cX7_buy 65 = .ok (.getfield 206, 3) := by decide +kernel
theorem dX7_buy_68 : decode cX7_buy 68 = .ok (.iload_n 2, 1) := by decide +kernel
theorem dX7_buy_69 : decode cX7_buy 69 = .ok (.isub, 1) := by decide +kernel
theorem dX7_buy_70 : decode cX7_buy 70 = .ok (.putfield 206, 3) := by decide +kernel
theorem dX7_buy_73 : decode cX7_buy 73 = .ok (.aload_n 3, 1) := by decide +kernel
theorem dX7_buy_74 : decode cX7_buy 74 = .ok (.dup, 1) := by decide +kernel
theorem dX7_buy_75 : decode cX7_buy 75 = .ok (.getfield 209, 3) := by decide +kernel
theorem dX7_buy_78 : decode cX7_buy 78 = .ok (.iload_n 2, 1) := by decide +kernel
theorem dX7_buy_79 : decode cX7_buy 79 = .ok (.iadd, 1) := by decide +kernel
theorem dX7_buy_80 : decode cX7_buy 80 = .ok (.putfield 209, 3) := by decide +kernel
theorem dX7_buy_83 : decode cX7_buy 83 = .ok (.aload_n 3, 1) := by decide +kernel
theorem dX7_buy_84 : decode cX7_buy 84 = .ok (.dup, 1) := by decide +kernel
theorem dX7_buy_85 : decode cX7_buy 85 = .ok (.getfield 194, 3) := by decide +kernel
theorem dX7_buy_88 : decode cX7_buy 88 = .ok (.iload 4, 2) := by decide +kernel
theorem dX7_buy_90 : decode cX7_buy 90 = .ok (.isub, 1) := by decide +kernel
theorem dX7_buy_91 : decode cX7_buy 91 = .ok (.putfield 194, 3) := by decide +kernel
theorem dX7_buy_94 : decode cX7_buy 94 = .ok (.iload 4, 2) := by decide +kernel
theorem dX7_buy_96 : decode cX7_buy 96 = .ok (.ireturn, 1) := by decide +kernel
theorem dX7_back_0 : decode cX7_back 0 = .ok (.aload_n 0, 1) := by decide +kernel
theorem dX7_back_1 : decode cX7_back 1 = .ok (.iload_n 1, 1) := by decide +kernel
theorem dX7_back_2 : decode cX7_back 2 = .ok (.invokevirtual 108, 3) := by decide +kernel
theorem dX7_back_5 : decode cX7_back 5 = .ok (.astore 5, 2) := by decide +kernel
theorem dX7_back_7 : decode cX7_back 7 = .ok (.aload_n 0, 1) := by decide +kernel
theorem dX7_back_8 : decode cX7_back 8 = .ok (.iload_n 2, 1) := by decide +kernel
theorem dX7_back_9 : decode cX7_back 9 = .ok (.invokevirtual 108, 3) := by decide +kernel
theorem dX7_back_12 : decode cX7_back 12 = .ok (.astore 6, 2) := by decide +kernel
theorem dX7_back_14 : decode cX7_back 14 = .ok (.iload_n 3, 1) := by decide +kernel
theorem dX7_back_15 : decode cX7_back 15 = .ok (.iconst 1, 1) := by decide +kernel
theorem dX7_back_16 : decode cX7_back 16 = .ok (.bipush 100, 2) := by decide +kernel
theorem dX7_back_18 : decode cX7_back 18 = .ok (.invokestatic 67, 3) := by decide +kernel
theorem dX7_back_21 : decode cX7_back 21 = .ok (.iload 4, 2) := by decide +kernel
theorem dX7_back_23 : decode cX7_back 23 = .ok (.iconst 0, 1) := by decide +kernel
theorem dX7_back_24 : decode cX7_back 24 = .ok (.ldc 66, 2) := by decide +kernel
theorem dX7_back_26 : decode cX7_back 26 = .ok (.invokestatic 67, 3) := by decide +kernel
theorem dX7_back_29 : decode cX7_back 29 = .ok (.iload_n 1, 1) := by decide +kernel
theorem dX7_back_30 : decode cX7_back 30 = .ok (.iload_n 2, 1) := by decide +kernel
theorem dX7_back_31 : decode cX7_back 31 = .ok (.if_icmp .eq 7, 3) := by decide +kernel
theorem dX7_back_34 : decode cX7_back 34 = .ok (.iconst 1, 1) := by decide +kernel
theorem dX7_back_35 : decode cX7_back 35 = .ok (.goto 4, 3) := by decide +kernel
theorem dX7_back_38 : decode cX7_back 38 = .ok (.iconst 0, 1) := by decide +kernel
theorem dX7_back_39 : decode cX7_back 39 = .ok (.invokestatic 105, 3) := by decide +kernel
theorem dX7_back_42 : decode cX7_back 42 = .ok (.aload 5, 2) := by decide +kernel
theorem dX7_back_44 : decode cX7_back 44 = .ok (.invokevirtual 115, 3) := by decide +kernel
theorem dX7_back_47 : decode cX7_back 47 = .ok (.ifCond .ne 46, 3) := by decide +kernel
theorem dX7_back_50 : decode cX7_back 50 = .ok (.aload 6, 2) := by decide +kernel
theorem dX7_back_52 : decode cX7_back 52 = .ok (.invokevirtual 115, 3) := by decide +kernel
theorem dX7_back_55 : decode cX7_back 55 = .ok (.ifCond .ne 38, 3) := by decide +kernel
theorem dX7_back_58 : decode cX7_back 58 = .ok (.aload 6, 2) := by decide +kernel
theorem dX7_back_60 : decode cX7_back 60 = .ok (.iload_n 1, 1) := by decide +kernel
theorem dX7_back_61 : decode cX7_back 61 = .ok (.invokevirtual 210, 3) := by decide +kernel
theorem dX7_back_64 : decode cX7_back 64 = .ok (.ifCond .ne 29, 3) := by decide +kernel
theorem dX7_back_67 : decode cX7_back 67 = .ok (.aload 5, 2) := by decide +kernel
theorem dX7_back_69 : decode cX7_back 69 = .ok (.getfield 194, 3) := by decide +kernel
theorem dX7_back_72 : decode cX7_back 72 = .ok (.iload 4, 2) := by decide +kernel
theorem dX7_back_74 : decode cX7_back 74 = .ok (.if_icmp .lt 19, 3) := by decide +kernel
theorem dX7_back_77 : decode cX7_back 77 = .ok (.aload 6, 2) := by decide +kernel
theorem dX7_back_79 : decode cX7_back 79 = .ok (.invokevirtual 213, 3) := by decide +kernel
theorem dX7_back_82 : decode cX7_back 82 = .ok (.iload_n 3, 1) := by decide +kernel
theorem dX7_back_83 : decode cX7_back 83 = .ok (.iadd, 1) := by decide +kernel
theorem dX7_back_84 : decode cX7_back 84 = .ok (.bipush 100, 2) := by decide +kernel
theorem dX7_back_86 : decode cX7_back 86 = .ok (.if_icmp .gt 7, 3) := by decide +kernel
theorem dX7_back_89 : decode cX7_back 89 = .ok (.iconst 1, 1) := by decide +kernel
theorem dX7_back_90 : decode cX7_back 90 = .ok (.goto 4, 3) := by decide +kernel
theorem dX7_back_93 : decode cX7_back 93 = .ok (.iconst 0, 1) := by decide +kernel
theorem dX7_back_94 : decode cX7_back 94 = .ok (.invokestatic 75, 3) := by decide +kernel
theorem dX7_back_97 : decode cX7_back 97 = .ok (.aload 5, 2) := by decide +kernel
theorem dX7_back_99 : decode cX7_back 99 = .ok (.dup, 1) := by decide +kernel
theorem dX7_back_100 : decode cX7_back 100 = .ok (.getfield 194, 3) := by decide +kernel
theorem dX7_back_103 : decode cX7_back 103 = .ok (.iload 4, 2) := by decide +kernel
theorem dX7_back_105 : decode cX7_back 105 = .ok (.isub, 1) := by decide +kernel
theorem dX7_back_106 : decode cX7_back 106 = .ok (.putfield 194, 3) := by decide +kernel
theorem dX7_back_109 : decode cX7_back 109 = .ok (.aload 6, 2) := by decide +kernel
theorem dX7_back_111 : decode cX7_back 111 = .ok (.dup, 1) := by decide +kernel
theorem dX7_back_112 : decode cX7_back 112 = .ok (.getfield 194, 3) := by decide +kernel
theorem dX7_back_115 : decode cX7_back 115 = .ok (.iload 4, 2) := by decide +kernel
theorem dX7_back_117 : decode cX7_back 117 = .ok (.iadd, 1) := by decide +kernel
theorem dX7_back_118 : decode cX7_back 118 = .ok (.putfield 194, 3) := by decide +kernel
theorem dX7_back_121 : decode cX7_back 121 = .ok (.aload 6, 2) := by decide +kernel
theorem dX7_back_123 : decode cX7_back 123 = .ok (.iload_n 1, 1) := by decide +kernel
theorem dX7_back_124 : decode cX7_back 124 = .ok (.iload_n 3, 1) := by decide +kernel
theorem dX7_back_125 : decode cX7_back 125 = .ok (.invokevirtual 216, 3) := by decide +kernel
theorem dX7_back_128 : decode cX7_back 128 = .ok (.return_, 1) := by decide +kernel
theorem dX7_end_0 : decode cX7_end 0 = .ok (.aload_n 0, 1) := by decide +kernel
theorem dX7_end_1 : decode cX7_end 1 = .ok (.iload_n 1, 1) := by decide +kernel
theorem dX7_end_2 : decode cX7_end 2 = .ok (.invokevirtual 219, 3) := by decide +kernel
theorem dX7_end_5 : decode cX7_end 5 = .ok (.invokestatic 112, 3) := by decide +kernel
theorem dX7_end_8 : decode cX7_end 8 = .ok (.aload_n 0, 1) := by decide +kernel
theorem dX7_end_9 : decode cX7_end 9 = .ok (.iload_n 2, 1) := by decide +kernel
theorem dX7_end_10 : decode cX7_end 10 = .ok (.invokevirtual 108, 3) := by decide +kernel
theorem dX7_end_13 : decode cX7_end 13 = .ok (.astore_n 3, 1) := by decide +kernel
theorem dX7_end_14 : decode cX7_end 14 = .ok (.aload_n 3, 1) := by decide +kernel
theorem dX7_end_15 : decode cX7_end 15 = .ok (.iload_n 1, 1) := by decide +kernel
theorem dX7_end_16 : decode cX7_end 16 = .ok (.invokevirtual 210, 3) := by decide +kernel
theorem dX7_end_19 : decode cX7_end 19 = .ok (.istore 4, 2) := by decide +kernel
theorem dX7_end_21 : decode cX7_end 21 = .ok (.iload 4, 2) := by decide +kernel
theorem dX7_end_23 : decode cX7_end 23 = .ok (.ifCond .le 7, 3) := by decide +kernel
theorem dX7_end_26 : decode cX7_end 26 = .ok (.iconst 1, 1) := by decide +kernel
theorem dX7_end_27 : decode cX7_end 27 = .ok (.goto 4, 3) := by decide +kernel
theorem dX7_end_30 : decode cX7_end 30 = .ok (.iconst 0, 1) := by decide +kernel
theorem dX7_end_31 : decode cX7_end 31 = .ok (.invokestatic 75, 3) := by decide +kernel
theorem dX7_end_34 : decode cX7_end 34 = .ok (.aload_n 3, 1) := by decide +kernel
theorem dX7_end_35 : decode cX7_end 35 = .ok (.iload_n 1, 1) := by decide +kernel
theorem dX7_end_36 : decode cX7_end 36 = .ok (.iconst 0, 1) := by decide +kernel
theorem dX7_end_37 : decode cX7_end 37 = .ok (.invokevirtual 216, 3) := by decide +kernel
theorem dX7_end_40 : decode cX7_end 40 = .ok (.iload 4, 2) := by decide +kernel
theorem dX7_end_42 : decode cX7_end 42 = .ok (.ireturn, 1) := by decide +kernel
theorem dX7_trade_0 : decode cX7_trade 0 = .ok (.aload_n 0, 1) := by decide +kernel
theorem dX7_trade_1 : decode cX7_trade 1 = .ok (.iload_n 1, 1) := by decide +kernel
theorem dX7_trade_2 : decode cX7_trade 2 = .ok (.invokevirtual 157, 3) := by decide +kernel
theorem dX7_trade_5 : decode cX7_trade 5 = .ok (.astore 4, 2) := by decide +kernel
theorem dX7_trade_7 : decode cX7_trade 7 = .ok (.aload_n 0, 1) := by decide +kernel
theorem dX7_trade_8 : decode cX7_trade 8 = .ok (.iload_n 2, 1) := by decide +kernel
theorem dX7_trade_9 : decode cX7_trade 9 = .ok (.invokevirtual 108, 3) := by decide +kernel
theorem dX7_trade_12 : decode cX7_trade 12 = .ok (.astore 5, 2) := by decide +kernel
theorem dX7_trade_14 : decode cX7_trade 14 = .ok (.iload_n 3, 1) := by decide +kernel
theorem dX7_trade_15 : decode cX7_trade 15 = .ok (.iconst 0, 1) := by decide +kernel
theorem dX7_trade_16 : decode cX7_trade 16 = .ok (.ldc 66, 2) := by decide +kernel
theorem dX7_trade_18 : decode cX7_trade 18 = .ok (.invokestatic 67, 3) := by decide +kernel
theorem dX7_trade_21 : decode cX7_trade 21 = .ok (.iload_n 2, 1) := by decide +kernel
theorem dX7_trade_22 : decode cX7_trade 22 = .ok (.aload 4, 2) := by decide +kernel
theorem dX7_trade_24 : decode cX7_trade 24 = .ok (.getfield 223, 3) := by decide +kernel
theorem dX7_trade_27 : decode cX7_trade 27 = .ok (.if_icmp .eq 7, 3) := by decide +kernel
theorem dX7_trade_30 : decode cX7_trade 30 = .ok (.iconst 1, 1) := by decide +kernel
theorem dX7_trade_31 : decode cX7_trade 31 = .ok (.goto 4, 3) := by decide +kernel
theorem dX7_trade_34 : decode cX7_trade 34 = .ok (.iconst 0, 1) := by decide +kernel
theorem dX7_trade_35 : decode cX7_trade 35 = .ok (.invokestatic 105, 3) := by decide +kernel
theorem dX7_trade_38 : decode cX7_trade 38 = .ok (.aload 4, 2) := by decide +kernel
theorem dX7_trade_40 : decode cX7_trade 40 = .ok (.getfield 226, 3) := by decide +kernel
theorem dX7_trade_43 : decode cX7_trade 43 = .ok (.ifCond .eq 24, 3) := by decide +kernel
theorem dX7_trade_46 : decode cX7_trade 46 = .ok (.aload 5, 2) := by decide +kernel
theorem dX7_trade_48 : decode cX7_trade 48 = .ok (.invokevirtual 115, 3) := by decide +kernel
theorem dX7_trade_51 : decode cX7_trade 51 = .ok (.ifCond .ne 16, 3) := by decide +kernel
theorem dX7_trade_54 : decode cX7_trade 54 = .ok (.aload 5, 2) := by decide +kernel
theorem dX7_trade_56 : decode cX7_trade 56 = .ok (.getfield 194, 3) := by decide +kernel
theorem dX7_trade_59 : decode cX7_trade 59 = .ok (.iload_n 3, 1) := by decide +kernel
theorem dX7_trade_60 : decode cX7_trade 60 = .ok (.if_icmp .lt 7, 3) := by decide +kernel
theorem dX7_trade_63 : decode cX7_trade 63 = .ok (.iconst 1, 1) := by decide +kernel
theorem dX7_trade_64 : decode cX7_trade 64 = .ok (.goto 4, 3) := by decide +kernel
theorem dX7_trade_67 : decode cX7_trade 67 = .ok (.iconst 0, 1) := by decide +kernel
theorem dX7_trade_68 : decode cX7_trade 68 = .ok (.invokestatic 75, 3) := by decide +kernel
theorem dX7_trade_71 : decode cX7_trade 71 = .ok (.aload 4, 2) := by decide +kernel
theorem dX7_trade_73 : decode cX7_trade 73 = .ok (.getfield 223, 3) := by decide +kernel
theorem dX7_trade_76 : decode cX7_trade 76 = .ok (.istore 6, 2) := by decide +kernel
theorem dX7_trade_78 : decode cX7_trade 78 = .ok (.aload_n 0, 1) := by decide +kernel
theorem dX7_trade_79 : decode cX7_trade 79 = .ok (.iload 6, 2) := by decide +kernel
theorem dX7_trade_81 : decode cX7_trade 81 = .ok (.invokevirtual 108, 3) := by decide +kernel
theorem dX7_trade_84 : decode cX7_trade 84 = .ok (.astore 7, 2) := by decide +kernel
theorem dX7_trade_86 : decode cX7_trade 86 = .ok (.aload 5, 2) := by decide +kernel
theorem dX7_trade_88 : decode cX7_trade 88 = .ok (.dup, 1) := by decide +kernel
theorem dX7_trade_89 : decode cX7_trade 89 = .ok (.getfield 194, 3) := by decide +kernel
theorem dX7_trade_92 : decode cX7_trade 92 = .ok (.iload_n 3, 1) := by decide +kernel
theorem dX7_trade_93 : decode cX7_trade 93 = .ok (.isub, 1) := by decide +kernel
theorem dX7_trade_94 : decode cX7_trade 94 = .ok (.putfield 194, 3) := by decide +kernel
theorem dX7_trade_97 : decode cX7_trade 97 = .ok (.aload 7, 2) := by decide +kernel
theorem dX7_trade_99 : decode cX7_trade 99 = .ok (.dup, 1) := by decide +kernel
theorem dX7_trade_100 : decode cX7_trade 100 = .ok (.getfield 194, 3) := by decide +kernel
theorem dX7_trade_103 : decode cX7_trade 103 = .ok (.iload_n 3, 1) := by decide +kernel
theorem dX7_trade_104 : decode cX7_trade 104 = .ok (.iadd, 1) := by decide +kernel
theorem dX7_trade_105 : decode cX7_trade 105 = .ok (.putfield 194, 3) := by decide +kernel
theorem dX7_trade_108 : decode cX7_trade 108 = .ok (.aload 7, 2) := by decide +kernel
theorem dX7_trade_110 : decode cX7_trade 110 = .ok (.aload 4, 2) := by decide +kernel
theorem dX7_trade_112 : decode cX7_trade 112 = .ok (.getfield 229, 3) := by decide +kernel
theorem dX7_trade_115 : decode cX7_trade 115 = .ok (.aload 4, 2) := by decide +kernel
theorem dX7_trade_117 : decode cX7_trade 117 = .ok (.getfield 232, 3) := by decide +kernel
theorem dX7_trade_120 : decode cX7_trade 120 = .ok (.aload_n 0, 1) := by decide +kernel
theorem dX7_trade_121 : decode cX7_trade 121 = .ok (.getfield 43, 3) := by decide +kernel
theorem dX7_trade_124 : decode cX7_trade 124 = .ok (.invokevirtual 235, 3) := by decide +kernel
theorem dX7_trade_127 : decode cX7_trade 127 = .ok (.istore 8, 2) := by decide +kernel
theorem dX7_trade_129 : decode cX7_trade 129 = .ok (.aload 4, 2) := by decide +kernel
theorem dX7_trade_131 : decode cX7_trade 131 = .ok (.iload_n 2, 1) := by decide +kernel
theorem dX7_trade_132 : decode cX7_trade 132 = .ok (.iload_n 3, 1) := by decide +kernel
theorem dX7_trade_133 : decode cX7_trade 133 = .ok (.aload_n 0, 1) := by decide +kernel
theorem dX7_trade_134 : decode cX7_trade 134 = .ok (.getfield 43, 3) := by decide +kernel
theorem dX7_trade_137 : decode cX7_trade 137 = .ok (.iload 8, 2) := by decide +kernel
theorem dX7_trade_139 : decode cX7_trade 139 = .ok (.invokevirtual 239, 3) := by decide +kernel
theorem dX7_trade_142 : decode cX7_trade 142 = .ok (.iload 6, 2) := by decide +kernel
theorem dX7_trade_144 : decode cX7_trade 144 = .ok (.ireturn, 1) := by decide +kernel
theorem dX7_suit_0 : decode cX7_suit 0 = .ok (.aload_n 0, 1) := by decide +kernel
theorem dX7_suit_1 : decode cX7_suit 1 = .ok (.iload_n 1, 1) := by decide +kernel
theorem dX7_suit_2 : decode cX7_suit 2 = .ok (.invokevirtual 157, 3) := by decide +kernel
theorem dX7_suit_5 : decode cX7_suit 5 = .ok (.astore_n 2, 1) := by decide +kernel
theorem dX7_suit_6 : decode cX7_suit 6 = .ok (.aload_n 2, 1) := by decide +kernel
theorem dX7_suit_7 : decode cX7_suit 7 = .ok (.getfield 243, 3) := by decide +kernel
theorem dX7_suit_10 : decode cX7_suit 10 = .ok (.iconst (-1), 1) := by decide +kernel
theorem dX7_suit_11 : decode cX7_suit 11 = .ok (.if_icmp .eq 28, 3) := by decide +kernel
theorem dX7_suit_14 : decode cX7_suit 14 = .ok (.aload_n 2, 1) := by decide +kernel
theorem dX7_suit_15 : decode cX7_suit 15 = .ok (.getfield 246, 3) := by decide +kernel
theorem dX7_suit_18 : decode cX7_suit 18 = .ok (.ifCond .ne 21, 3) := by decide +kernel
theorem dX7_suit_21 : decode cX7_suit 21 = .ok (.aload_n 0, 1) := by decide +kernel
theorem dX7_suit_22 : decode cX7_suit 22 = .ok (.getfield 43, 3) := by decide +kernel
theorem dX7_suit_25 : decode cX7_suit 25 = .ok (.aload_n 2, 1) := by decide +kernel
theorem dX7_suit_26 : decode cX7_suit 26 = .ok (.getfield 249, 3) := by decide +kernel
theorem dX7_suit_29 : decode cX7_suit 29 = .ok (.isub, 1) := by decide +kernel
theorem dX7_suit_30 : decode cX7_suit 30 = .ok (.bipush 30, 2) := by decide +kernel
theorem dX7_suit_32 : decode cX7_suit 32 = .ok (.if_icmp .gt 7, 3) := by decide +kernel
theorem dX7_suit_35 : decode cX7_suit 35 = .ok (.iconst 1, 1) := by decide +kernel
theorem dX7_suit_36 : decode cX7_suit 36 = .ok (.goto 4, 3) := by decide +kernel
theorem dX7_suit_39 : decode cX7_suit 39 = .ok (.iconst 0, 1) := by decide +kernel
theorem dX7_suit_40 : decode cX7_suit 40 = .ok (.invokestatic 75, 3) := by decide +kernel
theorem dX7_suit_43 : decode cX7_suit 43 = .ok (.aload_n 2, 1) := by decide +kernel
theorem dX7_suit_44 : decode cX7_suit 44 = .ok (.iconst 1, 1) := by decide +kernel
theorem dX7_suit_45 : decode cX7_suit 45 = .ok (.putfield 246, 3) := by decide +kernel
theorem dX7_suit_48 : decode cX7_suit 48 = .ok (.aload_n 2, 1) := by decide +kernel
theorem dX7_suit_49 : decode cX7_suit 49 = .ok (.getfield 252, 3) := by decide +kernel
theorem dX7_suit_52 : decode cX7_suit 52 = .ok (.ifCond .ne 5, 3) := by decide +kernel
theorem dX7_suit_55 : decode cX7_suit 55 = .ok (.iconst (-1), 1) := by decide +kernel
theorem dX7_suit_56 : decode cX7_suit 56 = .ok (.ireturn, 1) := by decide +kernel
theorem dX7_suit_57 : decode cX7_suit 57 = .ok (.aload_n 0, 1) := by decide +kernel
theorem dX7_suit_58 : decode cX7_suit 58 = .ok (.aload_n 2, 1) := by decide +kernel
theorem dX7_suit_59 : decode cX7_suit 59 = .ok (.getfield 223, 3) := by decide +kernel
theorem dX7_suit_62 : decode cX7_suit 62 = .ok (.invokevirtual 108, 3) := by decide +kernel
theorem dX7_suit_65 : decode cX7_suit 65 = .ok (.astore_n 3, 1) := by decide +kernel
theorem dX7_suit_66 : decode cX7_suit 66 = .ok (.aload_n 0, 1) := by decide +kernel
theorem dX7_suit_67 : decode cX7_suit 67 = .ok (.aload_n 2, 1) := by decide +kernel
theorem dX7_suit_68 : decode cX7_suit 68 = .ok (.getfield 243, 3) := by decide +kernel
theorem dX7_suit_71 : decode cX7_suit 71 = .ok (.invokevirtual 108, 3) := by decide +kernel
theorem dX7_suit_74 : decode cX7_suit 74 = .ok (.astore 4, 2) := by decide +kernel
theorem dX7_suit_76 : decode cX7_suit 76 = .ok (.aload_n 2, 1) := by decide +kernel
theorem dX7_suit_77 : decode cX7_suit 77 = .ok (.getfield 255, 3) := by decide +kernel
theorem dX7_suit_80 : decode cX7_suit 80 = .ok (.aload 4, 2) := by decide +kernel
theorem dX7_suit_82 : decode cX7_suit 82 = .ok (.getfield 194, 3) := by decide +kernel
theorem dX7_suit_85 : decode cX7_suit 85 = .ok (.invokestatic 258, 3) := by decide +kernel
theorem dX7_suit_88 : decode cX7_suit 88 = .ok (.istore 5, 2) := by decide +kernel
theorem dX7_suit_90 : decode cX7_suit 90 = .ok (.aload 4, 2) := by decide +kernel
theorem dX7_suit_92 : decode cX7_suit 92 = .ok (.dup, 1) := by decide +kernel
theorem dX7_suit_93 : decode cX7_suit 93 = .ok (.getfield 194, 3) := by decide +kernel
theorem dX7_suit_96 : decode cX7_suit 96 = .ok (.iload 5, 2) := by decide +kernel
theorem dX7_suit_98 : decode cX7_suit 98 = .ok (.isub, 1) := by decide +kernel
theorem dX7_suit_99 : decode cX7_suit 99 = .ok (.putfield 194, 3) := by decide +kernel
theorem dX7_suit_102 : decode cX7_suit 102 = .ok (.aload_n 3, 1) := by decide +kernel
theorem dX7_suit_103 : decode cX7_suit 103 = .ok (.dup, 1) := by decide +kernel
theorem dX7_suit_104 : decode cX7_suit 104 = .ok (.getfield 194, 3) := by decide +kernel
theorem dX7_suit_107 : decode cX7_suit 107 = .ok (.iload 5, 2) := by decide +kernel
theorem dX7_suit_109 : decode cX7_suit 109 = .ok (.iadd, 1) := by decide +kernel
theorem dX7_suit_110 : decode cX7_suit 110 = .ok (.putfield 194, 3) := by decide +kernel
theorem dX7_suit_113 : decode cX7_suit 113 = .ok (.iload 5, 2) := by decide +kernel
theorem dX7_suit_115 : decode cX7_suit 115 = .ok (.ireturn, 1) := by decide +kernel
theorem dX7_rumour_0 : decode cX7_rumour 0 = .ok (.iload_n 1, 1) := by decide +kernel
theorem dX7_rumour_1 : decode cX7_rumour 1 = .ok (.invokestatic 62, 3) := by decide +kernel
theorem dX7_rumour_4 : decode cX7_rumour 4 = .ok (.iload_n 2, 1) := by decide +kernel
theorem dX7_rumour_5 : decode cX7_rumour 5 = .ok (.iconst 0, 1) := by decide +kernel
theorem dX7_rumour_6 : decode cX7_rumour 6 = .ok (.bipush 100, 2) := by decide +kernel
theorem dX7_rumour_8 : decode cX7_rumour 8 = .ok (.invokestatic 67, 3) := by decide +kernel
theorem dX7_rumour_11 : decode cX7_rumour 11 = .ok (.aload_n 0, 1) := by decide +kernel
theorem dX7_rumour_12 : decode cX7_rumour 12 = .ok (.getfield 26, 3) := by decide +kernel
theorem dX7_rumour_15 : decode cX7_rumour 15 = .ok (.iload_n 1, 1) := by decide +kernel
theorem dX7_rumour_16 : decode cX7_rumour 16 = .ok (.invokevirtual 264, 3) := by decide +kernel
theorem dX7_rumour_19 : decode cX7_rumour 19 = .ok (.istore_n 3, 1) := by decide +kernel
theorem dX7_rumour_20 : decode cX7_rumour 20 = .ok (.aload_n 0, 1) := by decide +kernel
theorem dX7_rumour_21 : decode cX7_rumour 21 = .ok (.getfield 26, 3) := by decide +kernel
theorem dX7_rumour_24 : decode cX7_rumour 24 = .ok (.iload_n 1, 1) := by decide +kernel
theorem dX7_rumour_25 : decode cX7_rumour 25 = .ok (.iload_n 2, 1) := by decide +kernel
theorem dX7_rumour_26 : decode cX7_rumour 26 = .ok (.invokevirtual 267, 3) := by decide +kernel
theorem dX7_rumour_29 : decode cX7_rumour 29 = .ok (.iload_n 3, 1) := by decide +kernel
theorem dX7_rumour_30 : decode cX7_rumour 30 = .ok (.ireturn, 1) := by decide +kernel
theorem dX7_day_0 : decode cX7_day 0 = .ok (.aload_n 0, 1) := by decide +kernel
theorem dX7_day_1 : decode cX7_day 1 = .ok (.getfield 43, 3) := by decide +kernel
theorem dX7_day_4 : decode cX7_day 4 = .ok (.ireturn, 1) := by decide +kernel
theorem dX7_holds_0 : decode cX7_holds 0 = .ok (.iload_n 1, 1) := by decide +kernel
theorem dX7_holds_1 : decode cX7_holds 1 = .ok (.invokestatic 62, 3) := by decide +kernel
theorem dX7_holds_4 : decode cX7_holds 4 = .ok (.aload_n 0, 1) := by decide +kernel
theorem dX7_holds_5 : decode cX7_holds 5 = .ok (.iload_n 1, 1) := by decide +kernel
theorem dX7_holds_6 : decode cX7_holds 6 = .ok (.invokevirtual 135, 3) := by decide +kernel
theorem dX7_holds_9 : decode cX7_holds 9 = .ok (.ireturn, 1) := by decide +kernel
theorem dX7_ofClaim_0 : decode cX7_ofClaim 0 = .ok (.aload_n 0, 1) := by decide +kernel
theorem dX7_ofClaim_1 : decode cX7_ofClaim 1 = .ok (.iload_n 1, 1) := by decide +kernel
theorem dX7_ofClaim_2 : decode cX7_ofClaim 2 = .ok (.invokevirtual 157, 3) := by decide +kernel
theorem dX7_ofClaim_5 : decode cX7_ofClaim 5 = .ok (.astore_n 3, 1) := by decide +kernel
theorem dX7_ofClaim_6 : decode cX7_ofClaim 6 = .ok (.iload_n 2, 1) := by decide +kernel
theorem dX7_ofClaim_7 : decode cX7_ofClaim 7 = .ok (.iconst 0, 1) := by decide +kernel
theorem dX7_ofClaim_8 : decode cX7_ofClaim 8 = .ok (.iconst 5, 1) := by decide +kernel
theorem dX7_ofClaim_9 : decode cX7_ofClaim 9 = .ok (.invokestatic 67, 3) := by decide +kernel
theorem dX7_ofClaim_12 : decode cX7_ofClaim 12 = .ok (.iload_n 2, 1) := by decide +kernel
theorem dX7_ofClaim_13 : decode cX7_ofClaim 13 = .ok (.tableswitch 68 0 4 #[35, 40, 45, 50, 63], 35) := by decide +kernel
theorem dX7_ofClaim_48 : decode cX7_ofClaim 48 = .ok (.aload_n 3, 1) := by decide +kernel
theorem dX7_ofClaim_49 : decode cX7_ofClaim 49 = .ok (.getfield 223, 3) := by decide +kernel
theorem dX7_ofClaim_52 : decode cX7_ofClaim 52 = .ok (.ireturn, 1) := by decide +kernel
theorem dX7_ofClaim_53 : decode cX7_ofClaim 53 = .ok (.aload_n 3, 1) := by decide +kernel
theorem dX7_ofClaim_54 : decode cX7_ofClaim 54 = .ok (.getfield 229, 3) := by decide +kernel
theorem dX7_ofClaim_57 : decode cX7_ofClaim 57 = .ok (.ireturn, 1) := by decide +kernel
theorem dX7_ofClaim_58 : decode cX7_ofClaim 58 = .ok (.aload_n 3, 1) := by decide +kernel
theorem dX7_ofClaim_59 : decode cX7_ofClaim 59 = .ok (.getfield 232, 3) := by decide +kernel
theorem dX7_ofClaim_62 : decode cX7_ofClaim 62 = .ok (.ireturn, 1) := by decide +kernel
theorem dX7_ofClaim_63 : decode cX7_ofClaim 63 = .ok (.aload_n 3, 1) := by decide +kernel
theorem dX7_ofClaim_64 : decode cX7_ofClaim 64 = .ok (.getfield 226, 3) := by decide +kernel
theorem dX7_ofClaim_67 : decode cX7_ofClaim 67 = .ok (.ifCond .eq 7, 3) := by decide +kernel
theorem dX7_ofClaim_70 : decode cX7_ofClaim 70 = .ok (.iconst 1, 1) := by decide +kernel
theorem dX7_ofClaim_71 : decode cX7_ofClaim 71 = .ok (.goto 4, 3) := by decide +kernel
theorem dX7_ofClaim_74 : decode cX7_ofClaim 74 = .ok (.iconst 0, 1) := by decide +kernel
theorem dX7_ofClaim_75 : decode cX7_ofClaim 75 = .ok (.ireturn, 1) := by decide +kernel
theorem dX7_ofClaim_76 : decode cX7_ofClaim 76 = .ok (.aload_n 3, 1) := by decide +kernel
theorem dX7_ofClaim_77 : decode cX7_ofClaim 77 = .ok (.getfield 161, 3) := by decide +kernel
theorem dX7_ofClaim_80 : decode cX7_ofClaim 80 = .ok (.ireturn, 1) := by decide +kernel
theorem dX7_ofClaim_81 : decode cX7_ofClaim 81 = .ok (.aload_n 3, 1) := by decide +kernel
theorem dX7_ofClaim_82 : decode cX7_ofClaim 82 = .ok (.getfield 270, 3) := by decide +kernel
theorem dX7_ofClaim_85 : decode cX7_ofClaim 85 = .ok (.ireturn, 1) := by decide +kernel
theorem dX7_ofMiner_0 : decode cX7_ofMiner 0 = .ok (.aload_n 0, 1) := by decide +kernel
theorem dX7_ofMiner_1 : decode cX7_ofMiner 1 = .ok (.iload_n 1, 1) := by decide +kernel
theorem dX7_ofMiner_2 : decode cX7_ofMiner 2 = .ok (.invokevirtual 108, 3) := by decide +kernel
theorem dX7_ofMiner_5 : decode cX7_ofMiner 5 = .ok (.astore_n 3, 1) := by decide +kernel
theorem dX7_ofMiner_6 : decode cX7_ofMiner 6 = .ok (.iload_n 2, 1) := by decide +kernel
theorem dX7_ofMiner_7 : decode cX7_ofMiner 7 = .ok (.iconst 0, 1) := by decide +kernel
theorem dX7_ofMiner_8 : decode cX7_ofMiner 8 = .ok (.bipush 7, 2) := by decide +kernel
theorem dX7_ofMiner_10 : decode cX7_ofMiner 10 = .ok (.invokestatic 67, 3) := by decide +kernel
theorem dX7_ofMiner_13 : decode cX7_ofMiner 13 = .ok (.iload_n 2, 1) := by decide +kernel
theorem dX7_ofMiner_14 : decode cX7_ofMiner 14 = .ok (.tableswitch 78 0 6 #[42, 47, 52, 57, 62, 67, 73], 42) := by decide +kernel
theorem dX7_ofMiner_56 : decode cX7_ofMiner 56 = .ok (.aload_n 3, 1) := by decide +kernel
theorem dX7_ofMiner_57 : decode cX7_ofMiner 57 = .ok (.getfield 166, 3) := by decide +kernel
theorem dX7_ofMiner_60 : decode cX7_ofMiner 60 = .ok (.ireturn, 1) := by decide +kernel
theorem dX7_ofMiner_61 : decode cX7_ofMiner 61 = .ok (.aload_n 3, 1) := by decide +kernel
theorem dX7_ofMiner_62 : decode cX7_ofMiner 62 = .ok (.getfield 178, 3) := by decide +kernel
theorem dX7_ofMiner_65 : decode cX7_ofMiner 65 = .ok (.ireturn, 1) := by decide +kernel
theorem dX7_ofMiner_66 : decode cX7_ofMiner 66 = .ok (.aload_n 3, 1) := by decide +kernel
theorem dX7_ofMiner_67 : decode cX7_ofMiner 67 = .ok (.getfield 209, 3) := by decide +kernel
theorem dX7_ofMiner_70 : decode cX7_ofMiner 70 = .ok (.ireturn, 1) := by decide +kernel
theorem dX7_ofMiner_71 : decode cX7_ofMiner 71 = .ok (.aload_n 3, 1) := by decide +kernel
theorem dX7_ofMiner_72 : decode cX7_ofMiner 72 = .ok (.getfield 194, 3) := by decide +kernel
theorem dX7_ofMiner_75 : decode cX7_ofMiner 75 = .ok (.ireturn, 1) := by decide +kernel
theorem dX7_ofMiner_76 : decode cX7_ofMiner 76 = .ok (.aload_n 3, 1) := by decide +kernel
theorem dX7_ofMiner_77 : decode cX7_ofMiner 77 = .ok (.getfield 273, 3) := by decide +kernel
theorem dX7_ofMiner_80 : decode cX7_ofMiner 80 = .ok (.ireturn, 1) := by decide +kernel
theorem dX7_ofMiner_81 : decode cX7_ofMiner 81 = .ok (.aload_n 0, 1) := by decide +kernel
theorem dX7_ofMiner_82 : decode cX7_ofMiner 82 = .ok (.iload_n 1, 1) := by decide +kernel
theorem dX7_ofMiner_83 : decode cX7_ofMiner 83 = .ok (.invokevirtual 145, 3) := by decide +kernel
theorem dX7_ofMiner_86 : decode cX7_ofMiner 86 = .ok (.ireturn, 1) := by decide +kernel
theorem dX7_ofMiner_87 : decode cX7_ofMiner 87 = .ok (.aload_n 3, 1) := by decide +kernel
theorem dX7_ofMiner_88 : decode cX7_ofMiner 88 = .ok (.getfield 188, 3) := by decide +kernel
theorem dX7_ofMiner_91 : decode cX7_ofMiner 91 = .ok (.ireturn, 1) := by decide +kernel
theorem dX7_ofMiner_92 : decode cX7_ofMiner 92 = .ok (.aload_n 3, 1) := by decide +kernel
theorem dX7_ofMiner_93 : decode cX7_ofMiner 93 = .ok (.invokevirtual 213, 3) := by decide +kernel
theorem dX7_ofMiner_96 : decode cX7_ofMiner 96 = .ok (.ireturn, 1) := by decide +kernel
theorem dX7_gets_0 : decode cX7_gets 0 = .ok (.iload_n 1, 1) := by decide +kernel
theorem dX7_gets_1 : decode cX7_gets 1 = .ok (.ifCond .lt 18, 3) := by decide +kernel
theorem dX7_gets_4 : decode cX7_gets 4 = .ok (.iload_n 1, 1) := by decide +kernel
theorem dX7_gets_5 : decode cX7_gets 5 = .ok (.aload_n 0, 1) := by decide +kernel
theorem dX7_gets_6 : decode cX7_gets 6 = .ok (.getfield 40, 3) := by decide +kernel
theorem dX7_gets_9 : decode cX7_gets 9 = .ok (.invokevirtual 86, 3) := by decide +kernel
theorem dX7_gets_12 : decode cX7_gets 12 = .ok (.if_icmp .ge 7, 3) := by decide +kernel
theorem dX7_gets_15 : decode cX7_gets 15 = .ok (.iconst 1, 1) := by decide +kernel
theorem dX7_gets_16 : decode cX7_gets 16 = .ok (.goto 4, 3) := by decide +kernel
theorem dX7_gets_19 : decode cX7_gets 19 = .ok (.iconst 0, 1) := by decide +kernel
theorem dX7_gets_20 : decode cX7_gets 20 = .ok (.invokestatic 112, 3) := by decide +kernel
theorem dX7_gets_23 : decode cX7_gets 23 = .ok (.aload_n 0, 1) := by decide +kernel
theorem dX7_gets_24 : decode cX7_gets 24 = .ok (.iload_n 1, 1) := by decide +kernel
theorem dX7_gets_25 : decode cX7_gets 25 = .ok (.invokevirtual 276, 3) := by decide +kernel
theorem dX7_gets_28 : decode cX7_gets 28 = .ok (.ireturn, 1) := by decide +kernel
theorem dX7_gold_0 : decode cX7_gold 0 = .ok (.iload_n 1, 1) := by decide +kernel
theorem dX7_gold_1 : decode cX7_gold 1 = .ok (.iconst 0, 1) := by decide +kernel
theorem dX7_gold_2 : decode cX7_gold 2 = .ok (.iconst 4, 1) := by decide +kernel
theorem dX7_gold_3 : decode cX7_gold 3 = .ok (.invokestatic 67, 3) := by decide +kernel
theorem dX7_gold_6 : decode cX7_gold 6 = .ok (.iload_n 1, 1) := by decide +kernel
theorem dX7_gold_7 : decode cX7_gold 7 = .ok (.tableswitch 55 0 3 #[29, 37, 45, 50], 29) := by decide +kernel
theorem dX7_gold_36 : decode cX7_gold 36 = .ok (.aload_n 0, 1) := by decide +kernel
theorem dX7_gold_37 : decode cX7_gold 37 = .ok (.getfield 10, 3) := by decide +kernel
theorem dX7_gold_40 : decode cX7_gold 40 = .ok (.invokevirtual 279, 3) := by decide +kernel
theorem dX7_gold_43 : decode cX7_gold 43 = .ok (.ireturn, 1) := by decide +kernel
theorem dX7_gold_44 : decode cX7_gold 44 = .ok (.aload_n 0, 1) := by decide +kernel
theorem dX7_gold_45 : decode cX7_gold 45 = .ok (.getfield 10, 3) := by decide +kernel
theorem dX7_gold_48 : decode cX7_gold 48 = .ok (.getfield 282, 3) := by decide +kernel
theorem dX7_gold_51 : decode cX7_gold 51 = .ok (.ireturn, 1) := by decide +kernel
theorem dX7_gold_52 : decode cX7_gold 52 = .ok (.aload_n 0, 1) := by decide +kernel
theorem dX7_gold_53 : decode cX7_gold 53 = .ok (.invokevirtual 285, 3) := by decide +kernel
theorem dX7_gold_56 : decode cX7_gold 56 = .ok (.ireturn, 1) := by decide +kernel
theorem dX7_gold_57 : decode cX7_gold 57 = .ok (.aload_n 0, 1) := by decide +kernel
theorem dX7_gold_58 : decode cX7_gold 58 = .ok (.getfield 59, 3) := by decide +kernel
theorem dX7_gold_61 : decode cX7_gold 61 = .ok (.ireturn, 1) := by decide +kernel
theorem dX7_gold_62 : decode cX7_gold 62 = .ok (.aload_n 0, 1) := by decide +kernel
theorem dX7_gold_63 : decode cX7_gold 63 = .ok (.getfield 10, 3) := by decide +kernel
theorem dX7_gold_66 : decode cX7_gold 66 = .ok (.invokevirtual 279, 3) := by decide +kernel
theorem dX7_gold_69 : decode cX7_gold 69 = .ok (.aload_n 0, 1) := by decide +kernel
theorem dX7_gold_70 : decode cX7_gold 70 = .ok (.getfield 10, 3) := by decide +kernel
theorem dX7_gold_73 : decode cX7_gold 73 = .ok (.getfield 282, 3) := by decide +kernel
theorem dX7_gold_76 : decode cX7_gold 76 = .ok (.iadd, 1) := by decide +kernel
theorem dX7_gold_77 : decode cX7_gold 77 = .ok (.aload_n 0, 1) := by decide +kernel
theorem dX7_gold_78 : decode cX7_gold 78 = .ok (.invokevirtual 285, 3) := by decide +kernel
theorem dX7_gold_81 : decode cX7_gold 81 = .ok (.iadd, 1) := by decide +kernel
theorem dX7_gold_82 : decode cX7_gold 82 = .ok (.aload_n 0, 1) := by decide +kernel
theorem dX7_gold_83 : decode cX7_gold 83 = .ok (.getfield 59, 3) := by decide +kernel
theorem dX7_gold_86 : decode cX7_gold 86 = .ok (.iadd, 1) := by decide +kernel
theorem dX7_gold_87 : decode cX7_gold 87 = .ok (.ireturn, 1) := by decide +kernel
theorem dX7_camp_0 : decode cX7_camp 0 = .ok (.iload_n 1, 1) := by decide +kernel
theorem dX7_camp_1 : decode cX7_camp 1 = .ok (.iconst 0, 1) := by decide +kernel
theorem dX7_camp_2 : decode cX7_camp 2 = .ok (.iconst 5, 1) := by decide +kernel
theorem dX7_camp_3 : decode cX7_camp 3 = .ok (.invokestatic 67, 3) := by decide +kernel
theorem dX7_camp_6 : decode cX7_camp 6 = .ok (.iload_n 1, 1) := by decide +kernel
theorem dX7_camp_7 : decode cX7_camp 7 = .ok (.tableswitch 67 0 4 #[33, 38, 43, 51, 59], 33) := by decide +kernel
theorem dX7_camp_40 : decode cX7_camp 40 = .ok (.aload_n 0, 1) := by decide +kernel
theorem dX7_camp_41 : decode cX7_camp 41 = .ok (.getfield 50, 3) := by decide +kernel
theorem dX7_camp_44 : decode cX7_camp 44 = .ok (.ireturn, 1) := by decide +kernel
theorem dX7_camp_45 : decode cX7_camp 45 = .ok (.aload_n 0, 1) := by decide +kernel
theorem dX7_camp_46 : decode cX7_camp 46 = .ok (.getfield 53, 3) := by decide +kernel
theorem dX7_camp_49 : decode cX7_camp 49 = .ok (.ireturn, 1) := by decide +kernel
theorem dX7_camp_50 : decode cX7_camp 50 = .ok (.aload_n 0, 1) := by decide +kernel
theorem dX7_camp_51 : decode cX7_camp 51 = .ok (.getfield 19, 3) := by decide +kernel
theorem dX7_camp_54 : decode cX7_camp 54 = .ok (.getfield 206, 3) := by decide +kernel
theorem dX7_camp_57 : decode cX7_camp 57 = .ok (.ireturn, 1) := by decide +kernel
theorem dX7_camp_58 : decode cX7_camp 58 = .ok (.aload_n 0, 1) := by decide +kernel
theorem dX7_camp_59 : decode cX7_camp 59 = .ok (.getfield 19, 3) := by decide +kernel
theorem dX7_camp_62 : decode cX7_camp 62 = .ok (.invokevirtual 203, 3) := by decide +kernel
theorem dX7_camp_65 : decode cX7_camp 65 = .ok (.ireturn, 1) := by decide +kernel
theorem dX7_camp_66 : decode cX7_camp 66 = .ok (.aload_n 0, 1) := by decide +kernel
theorem dX7_camp_67 : decode cX7_camp 67 = .ok (.getfield 19, 3) := by decide +kernel
theorem dX7_camp_70 : decode cX7_camp 70 = .ok (.invokevirtual 197, 3) := by decide +kernel
theorem dX7_camp_73 : decode cX7_camp 73 = .ok (.ireturn, 1) := by decide +kernel
theorem dX7_camp_74 : decode cX7_camp 74 = .ok (.aload_n 0, 1) := by decide +kernel
theorem dX7_camp_75 : decode cX7_camp 75 = .ok (.invokevirtual 102, 3) := by decide +kernel
theorem dX7_camp_78 : decode cX7_camp 78 = .ok (.ireturn, 1) := by decide +kernel
theorem dX7_belief_0 : decode cX7_belief 0 = .ok (.iload_n 1, 1) := by decide +kernel
theorem dX7_belief_1 : decode cX7_belief 1 = .ok (.invokestatic 62, 3) := by decide +kernel
theorem dX7_belief_4 : decode cX7_belief 4 = .ok (.aload_n 0, 1) := by decide +kernel
theorem dX7_belief_5 : decode cX7_belief 5 = .ok (.getfield 26, 3) := by decide +kernel
theorem dX7_belief_8 : decode cX7_belief 8 = .ok (.iload_n 1, 1) := by decide +kernel
theorem dX7_belief_9 : decode cX7_belief 9 = .ok (.invokevirtual 264, 3) := by decide +kernel
theorem dX7_belief_12 : decode cX7_belief 12 = .ok (.ireturn, 1) := by decide +kernel
theorem dX7_plan_0 : decode cX7_plan 0 = .ok (.aload_n 0, 1) := by decide +kernel
theorem dX7_plan_1 : decode cX7_plan 1 = .ok (.iload_n 1, 1) := by decide +kernel
theorem dX7_plan_2 : decode cX7_plan 2 = .ok (.invokevirtual 157, 3) := by decide +kernel
theorem dX7_plan_5 : decode cX7_plan 5 = .ok (.astore_n 3, 1) := by decide +kernel
theorem dX7_plan_6 : decode cX7_plan 6 = .ok (.iload_n 2, 1) := by decide +kernel
theorem dX7_plan_7 : decode cX7_plan 7 = .ok (.invokestatic 131, 3) := by decide +kernel
theorem dX7_plan_10 : decode cX7_plan 10 = .ok (.astore 4, 2) := by decide +kernel
theorem dX7_plan_12 : decode cX7_plan 12 = .ok (.aload_n 3, 1) := by decide +kernel
theorem dX7_plan_13 : decode cX7_plan 13 = .ok (.getfield 232, 3) := by decide +kernel
theorem dX7_plan_16 : decode cX7_plan 16 = .ok (.iconst 5, 1) := by decide +kernel
theorem dX7_plan_17 : decode cX7_plan 17 = .ok (.if_icmp .gt 7, 3) := by decide +kernel
theorem dX7_plan_20 : decode cX7_plan 20 = .ok (.iconst 1, 1) := by decide +kernel
theorem dX7_plan_21 : decode cX7_plan 21 = .ok (.goto 4, 3) := by decide +kernel
theorem dX7_plan_24 : decode cX7_plan 24 = .ok (.iconst 0, 1) := by decide +kernel
theorem dX7_plan_25 : decode cX7_plan 25 = .ok (.invokestatic 75, 3) := by decide +kernel
theorem dX7_plan_28 : decode cX7_plan 28 = .ok (.aload_n 0, 1) := by decide +kernel
theorem dX7_plan_29 : decode cX7_plan 29 = .ok (.getfield 10, 3) := by decide +kernel
theorem dX7_plan_32 : decode cX7_plan 32 = .ok (.aload_n 3, 1) := by decide +kernel
theorem dX7_plan_33 : decode cX7_plan 33 = .ok (.getfield 229, 3) := by decide +kernel
theorem dX7_plan_36 : decode cX7_plan 36 = .ok (.aload_n 3, 1) := by decide +kernel
theorem dX7_plan_37 : decode cX7_plan 37 = .ok (.getfield 232, 3) := by decide +kernel
theorem dX7_plan_40 : decode cX7_plan 40 = .ok (.aload 4, 2) := by decide +kernel
theorem dX7_plan_42 : decode cX7_plan 42 = .ok (.invokevirtual 288, 3) := by decide +kernel
theorem dX7_plan_45 : decode cX7_plan 45 = .ok (.ireturn, 1) := by decide +kernel
theorem dX7_planCell_0 : decode cX7_planCell 0 = .ok (.aload_n 0, 1) := by decide +kernel
theorem dX7_planCell_1 : decode cX7_planCell 1 = .ok (.iload_n 1, 1) := by decide +kernel
theorem dX7_planCell_2 : decode cX7_planCell 2 = .ok (.invokevirtual 157, 3) := by decide +kernel
theorem dX7_planCell_5 : decode cX7_planCell 5 = .ok (.astore 4, 2) := by decide +kernel
theorem dX7_planCell_7 : decode cX7_planCell 7 = .ok (.iload_n 3, 1) := by decide +kernel
theorem dX7_planCell_8 : decode cX7_planCell 8 = .ok (.ifCond .lt 7, 3) := by decide +kernel
theorem dX7_planCell_11 : decode cX7_planCell 11 = .ok (.iconst 1, 1) := by decide +kernel
theorem dX7_planCell_12 : decode cX7_planCell 12 = .ok (.goto 4, 3) := by decide +kernel
theorem dX7_planCell_15 : decode cX7_planCell 15 = .ok (.iconst 0, 1) := by decide +kernel
theorem dX7_planCell_16 : decode cX7_planCell 16 = .ok (.invokestatic 112, 3) := by decide +kernel
theorem dX7_planCell_19 : decode cX7_planCell 19 = .ok (.iload_n 2, 1) := by decide +kernel
theorem dX7_planCell_20 : decode cX7_planCell 20 = .ok (.iconst 0, 1) := by decide +kernel
theorem dX7_planCell_21 : decode cX7_planCell 21 = .ok (.iconst 3, 1) := by decide +kernel
theorem dX7_planCell_22 : decode cX7_planCell 22 = .ok (.invokestatic 67, 3) := by decide +kernel
theorem dX7_planCell_25 : decode cX7_planCell 25 = .ok (.aload 4, 2) := by decide +kernel
theorem dX7_planCell_27 : decode cX7_planCell 27 = .ok (.getfield 232, 3) := by decide +kernel
theorem dX7_planCell_30 : decode cX7_planCell 30 = .ok (.iconst 5, 1) := by decide +kernel
theorem dX7_planCell_31 : decode cX7_planCell 31 = .ok (.if_icmp .gt 7, 3) := by decide +kernel
theorem dX7_planCell_34 : decode cX7_planCell 34 = .ok (.iconst 1, 1) := by decide +kernel
theorem dX7_planCell_35 : decode cX7_planCell 35 = .ok (.goto 4, 3) := by decide +kernel
theorem dX7_planCell_38 : decode cX7_planCell 38 = .ok (.iconst 0, 1) := by decide +kernel
theorem dX7_planCell_39 : decode cX7_planCell 39 = .ok (.invokestatic 75, 3) := by decide +kernel
theorem dX7_planCell_42 : decode cX7_planCell 42 = .ok (.iload_n 3, 1) := by decide +kernel
theorem dX7_planCell_43 : decode cX7_planCell 43 = .ok (.aload 4, 2) := by decide +kernel
theorem dX7_planCell_45 : decode cX7_planCell 45 = .ok (.getfield 232, 3) := by decide +kernel
theorem dX7_planCell_48 : decode cX7_planCell 48 = .ok (.if_icmp .ge 13, 3) := by decide +kernel
theorem dX7_planCell_51 : decode cX7_planCell 51 = .ok (.aload 4, 2) := by decide +kernel
theorem dX7_planCell_53 : decode cX7_planCell 53 = .ok (.getfield 229, 3) := by decide +kernel
theorem dX7_planCell_56 : decode cX7_planCell 56 = .ok (.iload_n 3, 1) := by decide +kernel
theorem dX7_planCell_57 : decode cX7_planCell 57 = .ok (.iadd, 1) := by decide +kernel
theorem dX7_planCell_58 : decode cX7_planCell 58 = .ok (.goto 4, 3) := by decide +kernel
theorem dX7_planCell_61 : decode cX7_planCell 61 = .ok (.iconst (-1), 1) := by decide +kernel
theorem dX7_planCell_62 : decode cX7_planCell 62 = .ok (.ireturn, 1) := by decide +kernel
theorem dX7_checkIndex_0 : decode cX7_checkIndex 0 = .ok (.iload_n 0, 1) := by decide +kernel
theorem dX7_checkIndex_1 : decode cX7_checkIndex 1 = .ok (.ifCond .ne 14, 3) := by decide +kernel
theorem dX7_checkIndex_4 : decode cX7_checkIndex 4 = .ok (.new 292, 3) := by decide +kernel
theorem dX7_checkIndex_7 : decode cX7_checkIndex 7 = .ok (.dup, 1) := by decide +kernel
theorem dX7_checkIndex_8 : decode cX7_checkIndex 8 = .ok (.ldc_w 294, 3) := by decide +kernel
theorem dX7_checkIndex_11 : decode cX7_checkIndex 11 = .ok (.invokespecial 296, 3) := by decide +kernel
theorem dX7_checkIndex_14 : decode cX7_checkIndex 14 = .ok (.athrow, 1) := by decide +kernel
theorem dX7_checkIndex_15 : decode cX7_checkIndex 15 = .ok (.return_, 1) := by decide +kernel
theorem dX7_checkArgument_0 : decode cX7_checkArgument 0 = .ok (.iload_n 0, 1) := by decide +kernel
theorem dX7_checkArgument_1 : decode cX7_checkArgument 1 = .ok (.ifCond .ne 14, 3) := by decide +kernel
theorem dX7_checkArgument_4 : decode cX7_checkArgument 4 = .ok (.new 299, 3) := by decide +kernel
theorem dX7_checkArgument_7 : decode cX7_checkArgument 7 = .ok (.dup, 1) := by decide +kernel
theorem dX7_checkArgument_8 : decode cX7_checkArgument 8 = .ok (.ldc_w 301, 3) := by decide +kernel
theorem dX7_checkArgument_11 : decode cX7_checkArgument 11 = .ok (.invokespecial 303, 3) := by decide +kernel
theorem dX7_checkArgument_14 : decode cX7_checkArgument 14 = .ok (.athrow, 1) := by decide +kernel
theorem dX7_checkArgument_15 : decode cX7_checkArgument 15 = .ok (.return_, 1) := by decide +kernel
theorem dX7_checkState_0 : decode cX7_checkState 0 = .ok (.iload_n 0, 1) := by decide +kernel
theorem dX7_checkState_1 : decode cX7_checkState 1 = .ok (.ifCond .ne 14, 3) := by decide +kernel
theorem dX7_checkState_4 : decode cX7_checkState 4 = .ok (.new 304, 3) := by decide +kernel
theorem dX7_checkState_7 : decode cX7_checkState 7 = .ok (.dup, 1) := by decide +kernel
theorem dX7_checkState_8 : decode cX7_checkState 8 = .ok (.ldc_w 306, 3) := by decide +kernel
theorem dX7_checkState_11 : decode cX7_checkState 11 = .ok (.invokespecial 308, 3) := by decide +kernel
theorem dX7_checkState_14 : decode cX7_checkState 14 = .ok (.athrow, 1) := by decide +kernel
theorem dX7_checkState_15 : decode cX7_checkState 15 = .ok (.return_, 1) := by decide +kernel
theorem dX7_checkRange_0 : decode cX7_checkRange 0 = .ok (.iload_n 0, 1) := by decide +kernel
theorem dX7_checkRange_1 : decode cX7_checkRange 1 = .ok (.iload_n 1, 1) := by decide +kernel
theorem dX7_checkRange_2 : decode cX7_checkRange 2 = .ok (.if_icmp .lt 12, 3) := by decide +kernel
theorem dX7_checkRange_5 : decode cX7_checkRange 5 = .ok (.iload_n 0, 1) := by decide +kernel
theorem dX7_checkRange_6 : decode cX7_checkRange 6 = .ok (.iload_n 2, 1) := by decide +kernel
theorem dX7_checkRange_7 : decode cX7_checkRange 7 = .ok (.if_icmp .gt 7, 3) := by decide +kernel
theorem dX7_checkRange_10 : decode cX7_checkRange 10 = .ok (.iconst 1, 1) := by decide +kernel
theorem dX7_checkRange_11 : decode cX7_checkRange 11 = .ok (.goto 4, 3) := by decide +kernel
theorem dX7_checkRange_14 : decode cX7_checkRange 14 = .ok (.iconst 0, 1) := by decide +kernel
theorem dX7_checkRange_15 : decode cX7_checkRange 15 = .ok (.invokestatic 105, 3) := by decide +kernel
theorem dX7_checkRange_18 : decode cX7_checkRange 18 = .ok (.return_, 1) := by decide +kernel
theorem dX7_checkCell_0 : decode cX7_checkCell 0 = .ok (.iload_n 0, 1) := by decide +kernel
theorem dX7_checkCell_1 : decode cX7_checkCell 1 = .ok (.invokestatic 309, 3) := by decide +kernel
theorem dX7_checkCell_4 : decode cX7_checkCell 4 = .ok (.invokestatic 112, 3) := by decide +kernel
theorem dX7_checkCell_7 : decode cX7_checkCell 7 = .ok (.return_, 1) := by decide +kernel
theorem dX7_isCell_0 : decode cX7_isCell 0 = .ok (.iload_n 0, 1) := by decide +kernel
theorem dX7_isCell_1 : decode cX7_isCell 1 = .ok (.ifCond .lt 13, 3) := by decide +kernel
theorem dX7_isCell_4 : decode cX7_isCell 4 = .ok (.iload_n 0, 1) := by decide +kernel
theorem dX7_isCell_5 : decode cX7_isCell 5 = .ok (.bipush 40, 2) := by decide +kernel
theorem dX7_isCell_7 : decode cX7_isCell 7 = .ok (.if_icmp .ge 7, 3) := by decide +kernel
theorem dX7_isCell_10 : decode cX7_isCell 10 = .ok (.iconst 1, 1) := by decide +kernel
theorem dX7_isCell_11 : decode cX7_isCell 11 = .ok (.goto 4, 3) := by decide +kernel
theorem dX7_isCell_14 : decode cX7_isCell 14 = .ok (.iconst 0, 1) := by decide +kernel
theorem dX7_isCell_15 : decode cX7_isCell 15 = .ok (.ireturn, 1) := by decide +kernel
theorem dX7_isMiner_0 : decode cX7_isMiner 0 = .ok (.iload_n 1, 1) := by decide +kernel
theorem dX7_isMiner_1 : decode cX7_isMiner 1 = .ok (.ifCond .lt 18, 3) := by decide +kernel
theorem dX7_isMiner_4 : decode cX7_isMiner 4 = .ok (.iload_n 1, 1) := by decide +kernel
theorem dX7_isMiner_5 : decode cX7_isMiner 5 = .ok (.aload_n 0, 1) := by decide +kernel
theorem dX7_isMiner_6 : decode cX7_isMiner 6 = .ok (.getfield 33, 3) := by decide +kernel
theorem dX7_isMiner_9 : decode cX7_isMiner 9 = .ok (.invokevirtual 86, 3) := by decide +kernel
theorem dX7_isMiner_12 : decode cX7_isMiner 12 = .ok (.if_icmp .ge 7, 3) := by decide +kernel
theorem dX7_isMiner_15 : decode cX7_isMiner 15 = .ok (.iconst 1, 1) := by decide +kernel
theorem dX7_isMiner_16 : decode cX7_isMiner 16 = .ok (.goto 4, 3) := by decide +kernel
theorem dX7_isMiner_19 : decode cX7_isMiner 19 = .ok (.iconst 0, 1) := by decide +kernel
theorem dX7_isMiner_20 : decode cX7_isMiner 20 = .ok (.ireturn, 1) := by decide +kernel
theorem dX7_minerAt_0 : decode cX7_minerAt 0 = .ok (.aload_n 0, 1) := by decide +kernel
theorem dX7_minerAt_1 : decode cX7_minerAt 1 = .ok (.iload_n 1, 1) := by decide +kernel
theorem dX7_minerAt_2 : decode cX7_minerAt 2 = .ok (.invokevirtual 219, 3) := by decide +kernel
theorem dX7_minerAt_5 : decode cX7_minerAt 5 = .ok (.ifCond .ne 14, 3) := by decide +kernel
theorem dX7_minerAt_8 : decode cX7_minerAt 8 = .ok (.new 292, 3) := by decide +kernel
theorem dX7_minerAt_11 : decode cX7_minerAt 11 = .ok (.dup, 1) := by decide +kernel
theorem dX7_minerAt_12 : decode cX7_minerAt 12 = .ok (.ldc_w 312, 3) := by decide +kernel
theorem dX7_minerAt_15 : decode cX7_minerAt 15 = .ok (.invokespecial 296, 3) := by decide +kernel
theorem dX7_minerAt_18 : decode cX7_minerAt 18 = .ok (.athrow, 1) := by decide +kernel
theorem dX7_minerAt_19 : decode cX7_minerAt 19 = .ok (.aload_n 0, 1) := by decide +kernel
theorem dX7_minerAt_20 : decode cX7_minerAt 20 = .ok (.getfield 33, 3) := by decide +kernel
theorem dX7_minerAt_23 : decode cX7_minerAt 23 = .ok (.iload_n 1, 1) := by decide +kernel
theorem dX7_minerAt_24 : decode cX7_minerAt 24 = .ok (.invokevirtual 314, 3) := by decide +kernel
theorem dX7_minerAt_27 : decode cX7_minerAt 27 = .ok (.checkcast 90, 3) := by decide +kernel
theorem dX7_minerAt_30 : decode cX7_minerAt 30 = .ok (.areturn, 1) := by decide +kernel
theorem dX7_claimAt_0 : decode cX7_claimAt 0 = .ok (.iload_n 1, 1) := by decide +kernel
theorem dX7_claimAt_1 : decode cX7_claimAt 1 = .ok (.ifCond .lt 14, 3) := by decide +kernel
theorem dX7_claimAt_4 : decode cX7_claimAt 4 = .ok (.iload_n 1, 1) := by decide +kernel
theorem dX7_claimAt_5 : decode cX7_claimAt 5 = .ok (.aload_n 0, 1) := by decide +kernel
theorem dX7_claimAt_6 : decode cX7_claimAt 6 = .ok (.getfield 37, 3) := by decide +kernel
theorem dX7_claimAt_9 : decode cX7_claimAt 9 = .ok (.invokevirtual 86, 3) := by decide +kernel
theorem dX7_claimAt_12 : decode cX7_claimAt 12 = .ok (.if_icmp .lt 14, 3) := by decide +kernel
theorem dX7_claimAt_15 : decode cX7_claimAt 15 = .ok (.new 292, 3) := by decide +kernel
theorem dX7_claimAt_18 : decode cX7_claimAt 18 = .ok (.dup, 1) := by decide +kernel
theorem dX7_claimAt_19 : decode cX7_claimAt 19 = .ok (.ldc_w 318, 3) := by decide +kernel
theorem dX7_claimAt_22 : decode cX7_claimAt 22 = .ok (.invokespecial 296, 3) := by decide +kernel
theorem dX7_claimAt_25 : decode cX7_claimAt 25 = .ok (.athrow, 1) := by decide +kernel
theorem dX7_claimAt_26 : decode cX7_claimAt 26 = .ok (.aload_n 0, 1) := by decide +kernel
theorem dX7_claimAt_27 : decode cX7_claimAt 27 = .ok (.getfield 37, 3) := by decide +kernel
theorem dX7_claimAt_30 : decode cX7_claimAt 30 = .ok (.iload_n 1, 1) := by decide +kernel
theorem dX7_claimAt_31 : decode cX7_claimAt 31 = .ok (.invokevirtual 314, 3) := by decide +kernel
theorem dX7_claimAt_34 : decode cX7_claimAt 34 = .ok (.checkcast 123, 3) := by decide +kernel
theorem dX7_claimAt_37 : decode cX7_claimAt 37 = .ok (.areturn, 1) := by decide +kernel
theorem dX7_gearAt_0 : decode cX7_gearAt 0 = .ok (.iload_n 0, 1) := by decide +kernel
theorem dX7_gearAt_1 : decode cX7_gearAt 1 = .ok (.ifCond .lt 11, 3) := by decide +kernel
theorem dX7_gearAt_4 : decode cX7_gearAt 4 = .ok (.iload_n 0, 1) := by decide +kernel
theorem dX7_gearAt_5 : decode cX7_gearAt 5 = .ok (.getstatic 320, 3) := by decide +kernel
theorem dX7_gearAt_8 : decode cX7_gearAt 8 = .ok (.arraylength, 1) := by decide +kernel
theorem dX7_gearAt_9 : decode cX7_gearAt 9 = .ok (.if_icmp .lt 14, 3) := by decide +kernel
theorem dX7_gearAt_12 : decode cX7_gearAt 12 = .ok (.new 299, 3) := by decide +kernel
theorem dX7_gearAt_15 : decode cX7_gearAt 15 = .ok (.dup, 1) := by decide +kernel
theorem dX7_gearAt_16 : decode cX7_gearAt 16 = .ok (.ldc_w 324, 3) := by decide +kernel
theorem dX7_gearAt_19 : decode cX7_gearAt 19 = .ok (.invokespecial 303, 3) := by decide +kernel
theorem dX7_gearAt_22 : decode cX7_gearAt 22 = .ok (.athrow, 1) := by decide +kernel
theorem dX7_gearAt_23 : decode cX7_gearAt 23 = .ok (.getstatic 320, 3) := by decide +kernel
theorem dX7_gearAt_26 : decode cX7_gearAt 26 = .ok (.iload_n 0, 1) := by decide +kernel
theorem dX7_gearAt_27 : decode cX7_gearAt 27 = .ok (.aaload, 1) := by decide +kernel
theorem dX7_gearAt_28 : decode cX7_gearAt 28 = .ok (.areturn, 1) := by decide +kernel
theorem dX7_passOneDay_0 : decode cX7_passOneDay 0 = .ok (.aload_n 0, 1) := by decide +kernel
theorem dX7_passOneDay_1 : decode cX7_passOneDay 1 = .ok (.dup, 1) := by decide +kernel
theorem dX7_passOneDay_2 : decode cX7_passOneDay 2 = .ok (.getfield 43, 3) := by decide +kernel
theorem dX7_passOneDay_5 : decode cX7_passOneDay 5 = .ok (.iconst 1, 1) := by decide +kernel
theorem dX7_passOneDay_6 : decode cX7_passOneDay 6 = .ok (.iadd, 1) := by decide +kernel
theorem dX7_passOneDay_7 : decode cX7_passOneDay 7 = .ok (.putfield 43, 3) := by decide +kernel
theorem dX7_passOneDay_10 : decode cX7_passOneDay 10 = .ok (.iconst 0, 1) := by decide +kernel
theorem dX7_passOneDay_11 : decode cX7_passOneDay 11 = .ok (.istore_n 1, 1) := by decide +kernel
theorem dX7_passOneDay_12 : decode cX7_passOneDay 12 = .ok (.iload_n 1, 1) := by decide +kernel
theorem dX7_passOneDay_13 : decode cX7_passOneDay 13 = .ok (.aload_n 0, 1) := by decide +kernel
theorem dX7_passOneDay_14 : decode cX7_passOneDay 14 = .ok (.getfield 33, 3) := by decide +kernel
theorem dX7_passOneDay_17 : decode cX7_passOneDay 17 = .ok (.invokevirtual 86, 3) := by decide +kernel
theorem dX7_passOneDay_20 : decode cX7_passOneDay 20 = .ok (.if_icmp .ge 23, 3) := by decide +kernel
theorem dX7_passOneDay_23 : decode cX7_passOneDay 23 = .ok (.aload_n 0, 1) := by decide +kernel
theorem dX7_passOneDay_24 : decode cX7_passOneDay 24 = .ok (.getfield 33, 3) := by decide +kernel
theorem dX7_passOneDay_27 : decode cX7_passOneDay 27 = .ok (.iload_n 1, 1) := by decide +kernel
theorem dX7_passOneDay_28 : decode cX7_passOneDay 28 = .ok (.invokevirtual 314, 3) := by decide +kernel
theorem dX7_passOneDay_31 : decode cX7_passOneDay 31 = .ok (.checkcast 90, 3) := by decide +kernel
theorem dX7_passOneDay_34 : decode cX7_passOneDay 34 = .ok (.invokevirtual 326, 3) := by decide +kernel
theorem dX7_passOneDay_37 : decode cX7_passOneDay 37 = .ok (.iinc 1 1, 3) := by decide +kernel
theorem dX7_passOneDay_40 : decode cX7_passOneDay 40 = .ok (.goto (-28), 3) := by decide +kernel
theorem dX7_passOneDay_43 : decode cX7_passOneDay 43 = .ok (.aload_n 0, 1) := by decide +kernel
theorem dX7_passOneDay_44 : decode cX7_passOneDay 44 = .ok (.getfield 19, 3) := by decide +kernel
theorem dX7_passOneDay_47 : decode cX7_passOneDay 47 = .ok (.aload_n 0, 1) := by decide +kernel
theorem dX7_passOneDay_48 : decode cX7_passOneDay 48 = .ok (.getfield 43, 3) := by decide +kernel
theorem dX7_passOneDay_51 : decode cX7_passOneDay 51 = .ok (.invokevirtual 329, 3) := by decide +kernel
theorem dX7_passOneDay_54 : decode cX7_passOneDay 54 = .ok (.aload_n 0, 1) := by decide +kernel
theorem dX7_passOneDay_55 : decode cX7_passOneDay 55 = .ok (.getfield 26, 3) := by decide +kernel
theorem dX7_passOneDay_58 : decode cX7_passOneDay 58 = .ok (.invokevirtual 332, 3) := by decide +kernel
theorem dX7_passOneDay_61 : decode cX7_passOneDay 61 = .ok (.iconst 0, 1) := by decide +kernel
theorem dX7_passOneDay_62 : decode cX7_passOneDay 62 = .ok (.istore_n 1, 1) := by decide +kernel
theorem dX7_passOneDay_63 : decode cX7_passOneDay 63 = .ok (.iload_n 1, 1) := by decide +kernel
theorem dX7_passOneDay_64 : decode cX7_passOneDay 64 = .ok (.aload_n 0, 1) := by decide +kernel
theorem dX7_passOneDay_65 : decode cX7_passOneDay 65 = .ok (.getfield 37, 3) := by decide +kernel
theorem dX7_passOneDay_68 : decode cX7_passOneDay 68 = .ok (.invokevirtual 86, 3) := by decide +kernel
theorem dX7_passOneDay_71 : decode cX7_passOneDay 71 = .ok (.if_icmp .ge 24, 3) := by decide +kernel
theorem dX7_passOneDay_74 : decode cX7_passOneDay 74 = .ok (.aload_n 0, 1) := by decide +kernel
theorem dX7_passOneDay_75 : decode cX7_passOneDay 75 = .ok (.aload_n 0, 1) := by decide +kernel
theorem dX7_passOneDay_76 : decode cX7_passOneDay 76 = .ok (.getfield 37, 3) := by decide +kernel
theorem dX7_passOneDay_79 : decode cX7_passOneDay 79 = .ok (.iload_n 1, 1) := by decide +kernel
theorem dX7_passOneDay_80 : decode cX7_passOneDay 80 = .ok (.invokevirtual 314, 3) := by decide +kernel
theorem dX7_passOneDay_83 : decode cX7_passOneDay 83 = .ok (.checkcast 123, 3) := by decide +kernel
theorem dX7_passOneDay_86 : decode cX7_passOneDay 86 = .ok (.invokevirtual 335, 3) := by decide +kernel
theorem dX7_passOneDay_89 : decode cX7_passOneDay 89 = .ok (.iinc 1 1, 3) := by decide +kernel
theorem dX7_passOneDay_92 : decode cX7_passOneDay 92 = .ok (.goto (-29), 3) := by decide +kernel
theorem dX7_passOneDay_95 : decode cX7_passOneDay 95 = .ok (.return_, 1) := by decide +kernel
theorem dX7_lapseIfDue_0 : decode cX7_lapseIfDue 0 = .ok (.aload_n 0, 1) := by decide +kernel
theorem dX7_lapseIfDue_1 : decode cX7_lapseIfDue 1 = .ok (.aload_n 1, 1) := by decide +kernel
theorem dX7_lapseIfDue_2 : decode cX7_lapseIfDue 2 = .ok (.getfield 223, 3) := by decide +kernel
theorem dX7_lapseIfDue_5 : decode cX7_lapseIfDue 5 = .ok (.invokevirtual 339, 3) := by decide +kernel
theorem dX7_lapseIfDue_8 : decode cX7_lapseIfDue 8 = .ok (.ifCond .ne 19, 3) := by decide +kernel
theorem dX7_lapseIfDue_11 : decode cX7_lapseIfDue 11 = .ok (.aload_n 0, 1) := by decide +kernel
theorem dX7_lapseIfDue_12 : decode cX7_lapseIfDue 12 = .ok (.getfield 43, 3) := by decide +kernel
theorem dX7_lapseIfDue_15 : decode cX7_lapseIfDue 15 = .ok (.aload_n 1, 1) := by decide +kernel
theorem dX7_lapseIfDue_16 : decode cX7_lapseIfDue 16 = .ok (.getfield 161, 3) := by decide +kernel
theorem dX7_lapseIfDue_19 : decode cX7_lapseIfDue 19 = .ok (.isub, 1) := by decide +kernel
theorem dX7_lapseIfDue_20 : decode cX7_lapseIfDue 20 = .ok (.aload_n 1, 1) := by decide +kernel
theorem dX7_lapseIfDue_21 : decode cX7_lapseIfDue 21 = .ok (.getfield 270, 3) := by decide +kernel
theorem dX7_lapseIfDue_24 : decode cX7_lapseIfDue 24 = .ok (.if_icmp .le 8, 3) := by decide +kernel
theorem dX7_lapseIfDue_27 : decode cX7_lapseIfDue 27 = .ok (.aload_n 1, 1) := by decide +kernel
theorem dX7_lapseIfDue_28 : decode cX7_lapseIfDue 28 = .ok (.iconst 0, 1) := by decide +kernel
theorem dX7_lapseIfDue_29 : decode cX7_lapseIfDue 29 = .ok (.putfield 226, 3) := by decide +kernel
theorem dX7_lapseIfDue_32 : decode cX7_lapseIfDue 32 = .ok (.return_, 1) := by decide +kernel
theorem dX7_isDead_0 : decode cX7_isDead 0 = .ok (.aload_n 0, 1) := by decide +kernel
theorem dX7_isDead_1 : decode cX7_isDead 1 = .ok (.iload_n 1, 1) := by decide +kernel
theorem dX7_isDead_2 : decode cX7_isDead 2 = .ok (.invokevirtual 219, 3) := by decide +kernel
theorem dX7_isDead_5 : decode cX7_isDead 5 = .ok (.ifCond .eq 24, 3) := by decide +kernel
theorem dX7_isDead_8 : decode cX7_isDead 8 = .ok (.aload_n 0, 1) := by decide +kernel
theorem dX7_isDead_9 : decode cX7_isDead 9 = .ok (.getfield 33, 3) := by decide +kernel
theorem dX7_isDead_12 : decode cX7_isDead 12 = .ok (.iload_n 1, 1) := by decide +kernel
theorem dX7_isDead_13 : decode cX7_isDead 13 = .ok (.invokevirtual 314, 3) := by decide +kernel
theorem dX7_isDead_16 : decode cX7_isDead 16 = .ok (.checkcast 90, 3) := by decide +kernel
theorem dX7_isDead_19 : decode cX7_isDead 19 = .ok (.invokevirtual 115, 3) := by decide +kernel
theorem dX7_isDead_22 : decode cX7_isDead 22 = .ok (.ifCond .eq 7, 3) := by decide +kernel
theorem dX7_isDead_25 : decode cX7_isDead 25 = .ok (.iconst 1, 1) := by decide +kernel
theorem dX7_isDead_26 : decode cX7_isDead 26 = .ok (.goto 4, 3) := by decide +kernel
theorem dX7_isDead_29 : decode cX7_isDead 29 = .ok (.iconst 0, 1) := by decide +kernel
theorem dX7_isDead_30 : decode cX7_isDead 30 = .ok (.ireturn, 1) := by decide +kernel
theorem dX7_livingMiners_0 : decode cX7_livingMiners 0 = .ok (.iconst 0, 1) := by decide +kernel
theorem dX7_livingMiners_1 : decode cX7_livingMiners 1 = .ok (.istore_n 1, 1) := by decide +kernel
theorem dX7_livingMiners_2 : decode cX7_livingMiners 2 = .ok (.iconst 0, 1) := by decide +kernel
theorem dX7_livingMiners_3 : decode cX7_livingMiners 3 = .ok (.istore_n 2, 1) := by decide +kernel
theorem dX7_livingMiners_4 : decode cX7_livingMiners 4 = .ok (.iload_n 2, 1) := by decide +kernel
theorem dX7_livingMiners_5 : decode cX7_livingMiners 5 = .ok (.aload_n 0, 1) := by decide +kernel
theorem dX7_livingMiners_6 : decode cX7_livingMiners 6 = .ok (.getfield 33, 3) := by decide +kernel
theorem dX7_livingMiners_9 : decode cX7_livingMiners 9 = .ok (.invokevirtual 86, 3) := by decide +kernel
theorem dX7_livingMiners_12 : decode cX7_livingMiners 12 = .ok (.if_icmp .ge 20, 3) := by decide +kernel
theorem dX7_livingMiners_15 : decode cX7_livingMiners 15 = .ok (.aload_n 0, 1) := by decide +kernel
theorem dX7_livingMiners_16 : decode cX7_livingMiners 16 = .ok (.iload_n 2, 1) := by decide +kernel
theorem dX7_livingMiners_17 : decode cX7_livingMiners 17 = .ok (.invokevirtual 339, 3) := by decide +kernel
theorem dX7_livingMiners_20 : decode cX7_livingMiners 20 = .ok (.ifCond .ne 6, 3) := by decide +kernel
theorem dX7_livingMiners_23 : decode cX7_livingMiners 23 = .ok (.iinc 1 1, 3) := by decide +kernel
theorem dX7_livingMiners_26 : decode cX7_livingMiners 26 = .ok (.iinc 2 1, 3) := by decide +kernel
theorem dX7_livingMiners_29 : decode cX7_livingMiners 29 = .ok (.goto (-25), 3) := by decide +kernel
theorem dX7_livingMiners_32 : decode cX7_livingMiners 32 = .ok (.iload_n 1, 1) := by decide +kernel
theorem dX7_livingMiners_33 : decode cX7_livingMiners 33 = .ok (.ireturn, 1) := by decide +kernel
theorem dX7_goldOfMiners_0 : decode cX7_goldOfMiners 0 = .ok (.iconst 0, 1) := by decide +kernel
theorem dX7_goldOfMiners_1 : decode cX7_goldOfMiners 1 = .ok (.istore_n 1, 1) := by decide +kernel
theorem dX7_goldOfMiners_2 : decode cX7_goldOfMiners 2 = .ok (.iconst 0, 1) := by decide +kernel
theorem dX7_goldOfMiners_3 : decode cX7_goldOfMiners 3 = .ok (.istore_n 2, 1) := by decide +kernel
theorem dX7_goldOfMiners_4 : decode cX7_goldOfMiners 4 = .ok (.iload_n 2, 1) := by decide +kernel
theorem dX7_goldOfMiners_5 : decode cX7_goldOfMiners 5 = .ok (.aload_n 0, 1) := by decide +kernel
theorem dX7_goldOfMiners_6 : decode cX7_goldOfMiners 6 = .ok (.getfield 33, 3) := by decide +kernel
theorem dX7_goldOfMiners_9 : decode cX7_goldOfMiners 9 = .ok (.invokevirtual 86, 3) := by decide +kernel
theorem dX7_goldOfMiners_12 : decode cX7_goldOfMiners 12 = .ok (.if_icmp .ge 26, 3) := by decide +kernel
theorem dX7_goldOfMiners_15 : decode cX7_goldOfMiners 15 = .ok (.iload_n 1, 1) := by decide +kernel
theorem dX7_goldOfMiners_16 : decode cX7_goldOfMiners 16 = .ok (.aload_n 0, 1) := by decide +kernel
theorem dX7_goldOfMiners_17 : decode cX7_goldOfMiners 17 = .ok (.getfield 33, 3) := by decide +kernel
theorem dX7_goldOfMiners_20 : decode cX7_goldOfMiners 20 = .ok (.iload_n 2, 1) := by decide +kernel
theorem dX7_goldOfMiners_21 : decode cX7_goldOfMiners 21 = .ok (.invokevirtual 314, 3) := by decide +kernel
theorem dX7_goldOfMiners_24 : decode cX7_goldOfMiners 24 = .ok (.checkcast 90, 3) := by decide +kernel
theorem dX7_goldOfMiners_27 : decode cX7_goldOfMiners 27 = .ok (.getfield 166, 3) := by decide +kernel
theorem dX7_goldOfMiners_30 : decode cX7_goldOfMiners 30 = .ok (.iadd, 1) := by decide +kernel
theorem dX7_goldOfMiners_31 : decode cX7_goldOfMiners 31 = .ok (.istore_n 1, 1) := by decide +kernel
theorem dX7_goldOfMiners_32 : decode cX7_goldOfMiners 32 = .ok (.iinc 2 1, 3) := by decide +kernel
theorem dX7_goldOfMiners_35 : decode cX7_goldOfMiners 35 = .ok (.goto (-31), 3) := by decide +kernel
theorem dX7_goldOfMiners_38 : decode cX7_goldOfMiners 38 = .ok (.iload_n 1, 1) := by decide +kernel
theorem dX7_goldOfMiners_39 : decode cX7_goldOfMiners 39 = .ok (.ireturn, 1) := by decide +kernel
theorem dX7_shareOut_0 : decode cX7_shareOut 0 = .ok (.iload_n 2, 1) := by decide +kernel
theorem dX7_shareOut_1 : decode cX7_shareOut 1 = .ok (.istore_n 3, 1) := by decide +kernel
theorem dX7_shareOut_2 : decode cX7_shareOut 2 = .ok (.iconst 0, 1) := by decide +kernel
theorem dX7_shareOut_3 : decode cX7_shareOut 3 = .ok (.istore 4, 2) := by decide +kernel
theorem dX7_shareOut_5 : decode cX7_shareOut 5 = .ok (.iload 4, 2) := by decide +kernel
theorem dX7_shareOut_7 : decode cX7_shareOut 7 = .ok (.aload_n 0, 1) := by decide +kernel
theorem dX7_shareOut_8 : decode cX7_shareOut 8 = .ok (.getfield 33, 3) := by decide +kernel
theorem dX7_shareOut_11 : decode cX7_shareOut 11 = .ok (.invokevirtual 86, 3) := by decide +kernel
theorem dX7_shareOut_14 : decode cX7_shareOut 14 = .ok (.if_icmp .ge 49, 3) := by decide +kernel
theorem dX7_shareOut_17 : decode cX7_shareOut 17 = .ok (.iload_n 2, 1) := by decide +kernel
theorem dX7_shareOut_18 : decode cX7_shareOut 18 = .ok (.aload_n 1, 1) := by decide +kernel
theorem dX7_shareOut_19 : decode cX7_shareOut 19 = .ok (.iload 4, 2) := by decide +kernel
theorem dX7_shareOut_21 : decode cX7_shareOut 21 = .ok (.invokevirtual 210, 3) := by decide +kernel
theorem dX7_shareOut_24 : decode cX7_shareOut 24 = .ok (.imul, 1) := by decide +kernel
theorem dX7_shareOut_25 : decode cX7_shareOut 25 = .ok (.bipush 100, 2) := by decide +kernel
theorem dX7_shareOut_27 : decode cX7_shareOut 27 = .ok (.idiv, 1) := by decide +kernel
theorem dX7_shareOut_28 : decode cX7_shareOut 28 = .ok (.istore 5, 2) := by decide +kernel
theorem dX7_shareOut_30 : decode cX7_shareOut 30 = .ok (.aload_n 0, 1) := by decide +kernel
theorem dX7_shareOut_31 : decode cX7_shareOut 31 = .ok (.getfield 33, 3) := by decide +kernel
theorem dX7_shareOut_34 : decode cX7_shareOut 34 = .ok (.iload 4, 2) := by decide +kernel
theorem dX7_shareOut_36 : decode cX7_shareOut 36 = .ok (.invokevirtual 314, 3) := by decide +kernel
theorem dX7_shareOut_39 : decode cX7_shareOut 39 = .ok (.checkcast 90, 3) := by decide +kernel
theorem dX7_shareOut_42 : decode cX7_shareOut 42 = .ok (.dup, 1) := by decide +kernel
theorem dX7_shareOut_43 : decode cX7_shareOut 43 = .ok (.getfield 166, 3) := by decide +kernel
theorem dX7_shareOut_46 : decode cX7_shareOut 46 = .ok (.iload 5, 2) := by decide +kernel
theorem dX7_shareOut_48 : decode cX7_shareOut 48 = .ok (.iadd, 1) := by decide +kernel
theorem dX7_shareOut_49 : decode cX7_shareOut 49 = .ok (.putfield 166, 3) := by decide +kernel
theorem dX7_shareOut_52 : decode cX7_shareOut 52 = .ok (.iload_n 3, 1) := by decide +kernel
theorem dX7_shareOut_53 : decode cX7_shareOut 53 = .ok (.iload 5, 2) := by decide +kernel
theorem dX7_shareOut_55 : decode cX7_shareOut 55 = .ok (.isub, 1) := by decide +kernel
theorem dX7_shareOut_56 : decode cX7_shareOut 56 = .ok (.istore_n 3, 1) := by decide +kernel
theorem dX7_shareOut_57 : decode cX7_shareOut 57 = .ok (.iinc 4 1, 3) := by decide +kernel
theorem dX7_shareOut_60 : decode cX7_shareOut 60 = .ok (.goto (-55), 3) := by decide +kernel
theorem dX7_shareOut_63 : decode cX7_shareOut 63 = .ok (.aload_n 1, 1) := by decide +kernel
theorem dX7_shareOut_64 : decode cX7_shareOut 64 = .ok (.dup, 1) := by decide +kernel
theorem dX7_shareOut_65 : decode cX7_shareOut 65 = .ok (.getfield 166, 3) := by decide +kernel
theorem dX7_shareOut_68 : decode cX7_shareOut 68 = .ok (.iload_n 3, 1) := by decide +kernel
theorem dX7_shareOut_69 : decode cX7_shareOut 69 = .ok (.iadd, 1) := by decide +kernel
theorem dX7_shareOut_70 : decode cX7_shareOut 70 = .ok (.putfield 166, 3) := by decide +kernel
theorem dX7_shareOut_73 : decode cX7_shareOut 73 = .ok (.return_, 1) := by decide +kernel
theorem dX7_claimHolding_0 : decode cX7_claimHolding 0 = .ok (.iconst 0, 1) := by decide +kernel
theorem dX7_claimHolding_1 : decode cX7_claimHolding 1 = .ok (.istore_n 2, 1) := by decide +kernel
theorem dX7_claimHolding_2 : decode cX7_claimHolding 2 = .ok (.iload_n 2, 1) := by decide +kernel
theorem dX7_claimHolding_3 : decode cX7_claimHolding 3 = .ok (.aload_n 0, 1) := by decide +kernel
theorem dX7_claimHolding_4 : decode cX7_claimHolding 4 = .ok (.getfield 37, 3) := by decide +kernel
theorem dX7_claimHolding_7 : decode cX7_claimHolding 7 = .ok (.invokevirtual 86, 3) := by decide +kernel
theorem dX7_claimHolding_10 : decode cX7_claimHolding 10 = .ok (.if_icmp .ge 38, 3) := by decide +kernel
theorem dX7_claimHolding_13 : decode cX7_claimHolding 13 = .ok (.aload_n 0, 1) := by decide +kernel
theorem dX7_claimHolding_14 : decode cX7_claimHolding 14 = .ok (.getfield 37, 3) := by decide +kernel
theorem dX7_claimHolding_17 : decode cX7_claimHolding 17 = .ok (.iload_n 2, 1) := by decide +kernel
theorem dX7_claimHolding_18 : decode cX7_claimHolding 18 = .ok (.invokevirtual 314, 3) := by decide +kernel
theorem dX7_claimHolding_21 : decode cX7_claimHolding 21 = .ok (.checkcast 123, 3) := by decide +kernel
theorem dX7_claimHolding_24 : decode cX7_claimHolding 24 = .ok (.astore_n 3, 1) := by decide +kernel
theorem dX7_claimHolding_25 : decode cX7_claimHolding 25 = .ok (.aload_n 3, 1) := by decide +kernel
theorem dX7_claimHolding_26 : decode cX7_claimHolding 26 = .ok (.getfield 226, 3) := by decide +kernel
theorem dX7_claimHolding_29 : decode cX7_claimHolding 29 = .ok (.ifCond .eq 13, 3) := by decide +kernel
theorem dX7_claimHolding_32 : decode cX7_claimHolding 32 = .ok (.aload_n 3, 1) := by decide +kernel
theorem dX7_claimHolding_33 : decode cX7_claimHolding 33 = .ok (.iload_n 1, 1) := by decide +kernel
theorem dX7_claimHolding_34 : decode cX7_claimHolding 34 = .ok (.invokevirtual 341, 3) := by decide +kernel
theorem dX7_claimHolding_37 : decode cX7_claimHolding 37 = .ok (.ifCond .eq 5, 3) := by decide +kernel
theorem dX7_claimHolding_40 : decode cX7_claimHolding 40 = .ok (.iload_n 2, 1) := by decide +kernel
theorem dX7_claimHolding_41 : decode cX7_claimHolding 41 = .ok (.ireturn, 1) := by decide +kernel
theorem dX7_claimHolding_42 : decode cX7_claimHolding 42 = .ok (.iinc 2 1, 3) := by decide +kernel
theorem dX7_claimHolding_45 : decode cX7_claimHolding 45 = .ok (.goto (-43), 3) := by decide +kernel
theorem dX7_claimHolding_48 : decode cX7_claimHolding 48 = .ok (.iconst (-1), 1) := by decide +kernel
theorem dX7_claimHolding_49 : decode cX7_claimHolding 49 = .ok (.ireturn, 1) := by decide +kernel
theorem dX7_areFree_0 : decode cX7_areFree 0 = .ok (.iconst 0, 1) := by decide +kernel
theorem dX7_areFree_1 : decode cX7_areFree 1 = .ok (.istore_n 3, 1) := by decide +kernel
theorem dX7_areFree_2 : decode cX7_areFree 2 = .ok (.iload_n 3, 1) := by decide +kernel
theorem dX7_areFree_3 : decode cX7_areFree 3 = .ok (.iload_n 2, 1) := by decide +kernel
theorem dX7_areFree_4 : decode cX7_areFree 4 = .ok (.if_icmp .ge 22, 3) := by decide +kernel
theorem dX7_areFree_7 : decode cX7_areFree 7 = .ok (.aload_n 0, 1) := by decide +kernel
theorem dX7_areFree_8 : decode cX7_areFree 8 = .ok (.iload_n 1, 1) := by decide +kernel
theorem dX7_areFree_9 : decode cX7_areFree 9 = .ok (.iload_n 3, 1) := by decide +kernel
theorem dX7_areFree_10 : decode cX7_areFree 10 = .ok (.iadd, 1) := by decide +kernel
theorem dX7_areFree_11 : decode cX7_areFree 11 = .ok (.invokevirtual 135, 3) := by decide +kernel
theorem dX7_areFree_14 : decode cX7_areFree 14 = .ok (.iconst (-1), 1) := by decide +kernel
theorem dX7_areFree_15 : decode cX7_areFree 15 = .ok (.if_icmp .eq 5, 3) := by decide +kernel
theorem dX7_areFree_18 : decode cX7_areFree 18 = .ok (.iconst 0, 1) := by decide +kernel
theorem dX7_areFree_19 : decode cX7_areFree 19 = .ok (.ireturn, 1) := by decide +kernel
theorem dX7_areFree_20 : decode cX7_areFree 20 = .ok (.iinc 3 1, 3) := by decide +kernel
theorem dX7_areFree_23 : decode cX7_areFree 23 = .ok (.goto (-21), 3) := by decide +kernel
theorem dX7_areFree_26 : decode cX7_areFree 26 = .ok (.iconst 1, 1) := by decide +kernel
theorem dX7_areFree_27 : decode cX7_areFree 27 = .ok (.ireturn, 1) := by decide +kernel
theorem dX7_mayUse_0 : decode cX7_mayUse 0 = .ok (.iload_n 3, 1) := by decide +kernel
theorem dX7_mayUse_1 : decode cX7_mayUse 1 = .ok (.iconst (-1), 1) := by decide +kernel
theorem dX7_mayUse_2 : decode cX7_mayUse 2 = .ok (.if_icmp .ne 18, 3) := by decide +kernel
theorem dX7_mayUse_5 : decode cX7_mayUse 5 = .ok (.aload_n 1, 1) := by decide +kernel
theorem dX7_mayUse_6 : decode cX7_mayUse 6 = .ok (.getstatic 344, 3) := by decide +kernel
theorem dX7_mayUse_9 : decode cX7_mayUse 9 = .ok (.if_acmp .ne 7, 3) := by decide +kernel
theorem dX7_mayUse_12 : decode cX7_mayUse 12 = .ok (.iconst 1, 1) := by decide +kernel
theorem dX7_mayUse_13 : decode cX7_mayUse 13 = .ok (.goto 24, 3) := by decide +kernel
theorem dX7_mayUse_16 : decode cX7_mayUse 16 = .ok (.iconst 0, 1) := by decide +kernel
theorem dX7_mayUse_17 : decode cX7_mayUse 17 = .ok (.goto 20, 3) := by decide +kernel
theorem dX7_mayUse_20 : decode cX7_mayUse 20 = .ok (.aload_n 0, 1) := by decide +kernel
theorem dX7_mayUse_21 : decode cX7_mayUse 21 = .ok (.iload_n 3, 1) := by decide +kernel
theorem dX7_mayUse_22 : decode cX7_mayUse 22 = .ok (.invokevirtual 157, 3) := by decide +kernel
theorem dX7_mayUse_25 : decode cX7_mayUse 25 = .ok (.getfield 223, 3) := by decide +kernel
theorem dX7_mayUse_28 : decode cX7_mayUse 28 = .ok (.iload_n 2, 1) := by decide +kernel
theorem dX7_mayUse_29 : decode cX7_mayUse 29 = .ok (.if_icmp .ne 7, 3) := by decide +kernel
theorem dX7_mayUse_32 : decode cX7_mayUse 32 = .ok (.iconst 1, 1) := by decide +kernel
theorem dX7_mayUse_33 : decode cX7_mayUse 33 = .ok (.goto 4, 3) := by decide +kernel
theorem dX7_mayUse_36 : decode cX7_mayUse 36 = .ok (.iconst 0, 1) := by decide +kernel
theorem dX7_mayUse_37 : decode cX7_mayUse 37 = .ok (.ireturn, 1) := by decide +kernel
theorem dX7_spoilSalesOfToday_0 : decode cX7_spoilSalesOfToday 0 = .ok (.iconst 0, 1) := by decide +kernel
theorem dX7_spoilSalesOfToday_1 : decode cX7_spoilSalesOfToday 1 = .ok (.istore_n 3, 1) := by decide +kernel
theorem dX7_spoilSalesOfToday_2 : decode cX7_spoilSalesOfToday 2 = .ok (.iload_n 3, 1) := by decide +kernel
theorem dX7_spoilSalesOfToday_3 : decode cX7_spoilSalesOfToday 3 = .ok (.aload_n 0, 1) := by decide +kernel
theorem dX7_spoilSalesOfToday_4 : decode cX7_spoilSalesOfToday 4 = .ok (.getfield 37, 3) := by decide +kernel
theorem dX7_spoilSalesOfToday_7 : decode cX7_spoilSalesOfToday 7 = .ok (.invokevirtual 86, 3) := by decide +kernel
theorem dX7_spoilSalesOfToday_10 : decode cX7_spoilSalesOfToday 10 = .ok (.if_icmp .ge 58, 3) := by decide +kernel
theorem dX7_spoilSalesOfToday_13 : decode cX7_spoilSalesOfToday 13 = .ok (.aload_n 0, 1) := by decide +kernel
theorem dX7_spoilSalesOfToday_14 : decode cX7_spoilSalesOfToday 14 = .ok (.getfield 37, 3) := by decide +kernel
theorem dX7_spoilSalesOfToday_17 : decode cX7_spoilSalesOfToday 17 = .ok (.iload_n 3, 1) := by decide +kernel
theorem dX7_spoilSalesOfToday_18 : decode cX7_spoilSalesOfToday 18 = .ok (.invokevirtual 314, 3) := by decide +kernel
theorem dX7_spoilSalesOfToday_21 : decode cX7_spoilSalesOfToday 21 = .ok (.checkcast 123, 3) := by decide +kernel
theorem dX7_spoilSalesOfToday_24 : decode cX7_spoilSalesOfToday 24 = .ok (.astore 4, 2) := by decide +kernel
theorem dX7_spoilSalesOfToday_26 : decode cX7_spoilSalesOfToday 26 = .ok (.aload 4, 2) := by decide +kernel
theorem dX7_spoilSalesOfToday_28 : decode cX7_spoilSalesOfToday 28 = .ok (.getfield 243, 3) := by decide +kernel
theorem dX7_spoilSalesOfToday_31 : decode cX7_spoilSalesOfToday 31 = .ok (.iload_n 1, 1) := by decide +kernel
theorem dX7_spoilSalesOfToday_32 : decode cX7_spoilSalesOfToday 32 = .ok (.if_icmp .ne 30, 3) := by decide +kernel
theorem dX7_spoilSalesOfToday_35 : decode cX7_spoilSalesOfToday 35 = .ok (.aload 4, 2) := by decide +kernel
theorem dX7_spoilSalesOfToday_37 : decode cX7_spoilSalesOfToday 37 = .ok (.getfield 249, 3) := by decide +kernel
theorem dX7_spoilSalesOfToday_40 : decode cX7_spoilSalesOfToday 40 = .ok (.aload_n 0, 1) := by decide +kernel
theorem dX7_spoilSalesOfToday_41 : decode cX7_spoilSalesOfToday 41 = .ok (.getfield 43, 3) := by decide +kernel
theorem dX7_spoilSalesOfToday_44 : decode cX7_spoilSalesOfToday 44 = .ok (.if_icmp .ne 18, 3) := by decide +kernel
theorem dX7_spoilSalesOfToday_47 : decode cX7_spoilSalesOfToday 47 = .ok (.aload 4, 2) := by decide +kernel
theorem dX7_spoilSalesOfToday_49 : decode cX7_spoilSalesOfToday 49 = .ok (.iload_n 2, 1) := by decide +kernel
theorem dX7_spoilSalesOfToday_50 : decode cX7_spoilSalesOfToday 50 = .ok (.invokevirtual 341, 3) := by decide +kernel
theorem dX7_spoilSalesOfToday_53 : decode cX7_spoilSalesOfToday 53 = .ok (.ifCond .eq 9, 3) := by decide +kernel
theorem dX7_spoilSalesOfToday_56 : decode cX7_spoilSalesOfToday 56 = .ok (.aload 4, 2) := by decide +kernel
theorem dX7_spoilSalesOfToday_58 : decode cX7_spoilSalesOfToday 58 = .ok (.iconst 1, 1) := by decide +kernel
theorem dX7_spoilSalesOfToday_59 : decode cX7_spoilSalesOfToday 59 = .ok (.putfield 252, 3) := by decide +kernel
theorem dX7_spoilSalesOfToday_62 : decode cX7_spoilSalesOfToday 62 = .ok (.iinc 3 1, 3) := by decide +kernel
theorem dX7_spoilSalesOfToday_65 : decode cX7_spoilSalesOfToday 65 = .ok (.goto (-63), 3) := by decide +kernel
theorem dX7_spoilSalesOfToday_68 : decode cX7_spoilSalesOfToday 68 = .ok (.return_, 1) := by decide +kernel
theorem dX7_inchesOfRight_0 : decode cX7_inchesOfRight 0 = .ok (.aload_n 0, 1) := by decide +kernel
theorem dX7_inchesOfRight_1 : decode cX7_inchesOfRight 1 = .ok (.getfield 47, 3) := by decide +kernel
theorem dX7_inchesOfRight_4 : decode cX7_inchesOfRight 4 = .ok (.istore_n 2, 1) := by decide +kernel
theorem dX7_inchesOfRight_5 : decode cX7_inchesOfRight 5 = .ok (.iconst 0, 1) := by decide +kernel
theorem dX7_inchesOfRight_6 : decode cX7_inchesOfRight 6 = .ok (.istore_n 3, 1) := by decide +kernel
theorem dX7_inchesOfRight_7 : decode cX7_inchesOfRight 7 = .ok (.iconst 0, 1) := by decide +kernel
theorem dX7_inchesOfRight_8 : decode cX7_inchesOfRight 8 = .ok (.istore 4, 2) := by decide +kernel
theorem dX7_inchesOfRight_10 : decode cX7_inchesOfRight 10 = .ok (.iload 4, 2) := by decide +kernel
theorem dX7_inchesOfRight_12 : decode cX7_inchesOfRight 12 = .ok (.iload_n 1, 1) := by decide +kernel
theorem dX7_inchesOfRight_13 : decode cX7_inchesOfRight 13 = .ok (.if_icmp .gt 65, 3) := by decide +kernel
theorem dX7_inchesOfRight_16 : decode cX7_inchesOfRight 16 = .ok (.iload 4, 2) := by decide +kernel
theorem dX7_inchesOfRight_18 : decode cX7_inchesOfRight 18 = .ok (.aload_n 0, 1) := by decide +kernel
theorem dX7_inchesOfRight_19 : decode cX7_inchesOfRight 19 = .ok (.getfield 40, 3) := by decide +kernel
theorem dX7_inchesOfRight_22 : decode cX7_inchesOfRight 22 = .ok (.invokevirtual 86, 3) := by decide +kernel
theorem dX7_inchesOfRight_25 : decode cX7_inchesOfRight 25 = .ok (.if_icmp .ge 53, 3) := by decide +kernel
theorem dX7_inchesOfRight_28 : decode cX7_inchesOfRight 28 = .ok (.aload_n 0, 1) := by decide +kernel
theorem dX7_inchesOfRight_29 : decode cX7_inchesOfRight 29 = .ok (.getfield 40, 3) := by decide +kernel
theorem dX7_inchesOfRight_32 : decode cX7_inchesOfRight 32 = .ok (.iload 4, 2) := by decide +kernel
theorem dX7_inchesOfRight_34 : decode cX7_inchesOfRight 34 = .ok (.invokevirtual 314, 3) := by decide +kernel
theorem dX7_inchesOfRight_37 : decode cX7_inchesOfRight 37 = .ok (.checkcast 128, 3) := by decide +kernel
theorem dX7_inchesOfRight_40 : decode cX7_inchesOfRight 40 = .ok (.astore 5, 2) := by decide +kernel
theorem dX7_inchesOfRight_42 : decode cX7_inchesOfRight 42 = .ok (.aload_n 0, 1) := by decide +kernel
theorem dX7_inchesOfRight_43 : decode cX7_inchesOfRight 43 = .ok (.aload 5, 2) := by decide +kernel
theorem dX7_inchesOfRight_45 : decode cX7_inchesOfRight 45 = .ok (.getfield 348, 3) := by decide +kernel
theorem dX7_inchesOfRight_48 : decode cX7_inchesOfRight 48 = .ok (.invokevirtual 339, 3) := by decide +kernel
theorem dX7_inchesOfRight_51 : decode cX7_inchesOfRight 51 = .ok (.ifCond .eq 7, 3) := by decide +kernel
theorem dX7_inchesOfRight_54 : decode cX7_inchesOfRight 54 = .ok (.iconst 0, 1) := by decide +kernel
theorem dX7_inchesOfRight_55 : decode cX7_inchesOfRight 55 = .ok (.goto 12, 3) := by decide +kernel
theorem dX7_inchesOfRight_58 : decode cX7_inchesOfRight 58 = .ok (.aload 5, 2) := by decide +kernel
theorem dX7_inchesOfRight_60 : decode cX7_inchesOfRight 60 = .ok (.getfield 349, 3) := by decide +kernel
theorem dX7_inchesOfRight_63 : decode cX7_inchesOfRight 63 = .ok (.iload_n 2, 1) := by decide +kernel
theorem dX7_inchesOfRight_64 : decode cX7_inchesOfRight 64 = .ok (.invokestatic 258, 3) := by decide +kernel
theorem dX7_inchesOfRight_67 : decode cX7_inchesOfRight 67 = .ok (.istore_n 3, 1) := by decide +kernel
theorem dX7_inchesOfRight_68 : decode cX7_inchesOfRight 68 = .ok (.iload_n 2, 1) := by decide +kernel
theorem dX7_inchesOfRight_69 : decode cX7_inchesOfRight 69 = .ok (.iload_n 3, 1) := by decide +kernel
theorem dX7_inchesOfRight_70 : decode cX7_inchesOfRight 70 = .ok (.isub, 1) := by decide +kernel
theorem dX7_inchesOfRight_71 : decode cX7_inchesOfRight 71 = .ok (.istore_n 2, 1) := by decide +kernel
theorem dX7_inchesOfRight_72 : decode cX7_inchesOfRight 72 = .ok (.iinc 4 1, 3) := by decide +kernel
theorem dX7_inchesOfRight_75 : decode cX7_inchesOfRight 75 = .ok (.goto (-65), 3) := by decide +kernel
theorem dX7_inchesOfRight_78 : decode cX7_inchesOfRight 78 = .ok (.iload_n 3, 1) := by decide +kernel
theorem dX7_inchesOfRight_79 : decode cX7_inchesOfRight 79 = .ok (.ireturn, 1) := by decide +kernel
theorem dX7_inchesOfMiner_0 : decode cX7_inchesOfMiner 0 = .ok (.iconst 0, 1) := by decide +kernel
theorem dX7_inchesOfMiner_1 : decode cX7_inchesOfMiner 1 = .ok (.istore_n 2, 1) := by decide +kernel
theorem dX7_inchesOfMiner_2 : decode cX7_inchesOfMiner 2 = .ok (.iconst 0, 1) := by decide +kernel
theorem dX7_inchesOfMiner_3 : decode cX7_inchesOfMiner 3 = .ok (.istore_n 3, 1) := by decide +kernel
theorem dX7_inchesOfMiner_4 : decode cX7_inchesOfMiner 4 = .ok (.iload_n 3, 1) := by decide +kernel
theorem dX7_inchesOfMiner_5 : decode cX7_inchesOfMiner 5 = .ok (.aload_n 0, 1) := by decide +kernel
theorem dX7_inchesOfMiner_6 : decode cX7_inchesOfMiner 6 = .ok (.getfield 40, 3) := by decide +kernel
theorem dX7_inchesOfMiner_9 : decode cX7_inchesOfMiner 9 = .ok (.invokevirtual 86, 3) := by decide +kernel
theorem dX7_inchesOfMiner_12 : decode cX7_inchesOfMiner 12 = .ok (.if_icmp .ge 35, 3) := by decide +kernel
theorem dX7_inchesOfMiner_15 : decode cX7_inchesOfMiner 15 = .ok (.aload_n 0, 1) := by decide +kernel
theorem dX7_inchesOfMiner_16 : decode cX7_inchesOfMiner 16 = .ok (.getfield 40, 3) := by decide +kernel
theorem dX7_inchesOfMiner_19 : decode cX7_inchesOfMiner 19 = .ok (.iload_n 3, 1) := by decide +kernel
theorem dX7_inchesOfMiner_20 : decode cX7_inchesOfMiner 20 = .ok (.invokevirtual 314, 3) := by decide +kernel
theorem dX7_inchesOfMiner_23 : decode cX7_inchesOfMiner 23 = .ok (.checkcast 128, 3) := by decide +kernel
theorem dX7_inchesOfMiner_26 : decode cX7_inchesOfMiner 26 = .ok (.getfield 348, 3) := by decide +kernel
theorem dX7_inchesOfMiner_29 : decode cX7_inchesOfMiner 29 = .ok (.iload_n 1, 1) := by decide +kernel
theorem dX7_inchesOfMiner_30 : decode cX7_inchesOfMiner 30 = .ok (.if_icmp .ne 11, 3) := by decide +kernel
theorem dX7_inchesOfMiner_33 : decode cX7_inchesOfMiner 33 = .ok (.iload_n 2, 1) := by decide +kernel
theorem dX7_inchesOfMiner_34 : decode cX7_inchesOfMiner 34 = .ok (.aload_n 0, 1) := by decide +kernel
theorem dX7_inchesOfMiner_35 : decode cX7_inchesOfMiner 35 = .ok (.iload_n 3, 1) := by decide +kernel
theorem dX7_inchesOfMiner_36 : decode cX7_inchesOfMiner 36 = .ok (.invokevirtual 276, 3) := by decide +kernel
theorem dX7_inchesOfMiner_39 : decode cX7_inchesOfMiner 39 = .ok (.iadd, 1) := by decide +kernel
theorem dX7_inchesOfMiner_40 : decode cX7_inchesOfMiner 40 = .ok (.istore_n 2, 1) := by decide +kernel
theorem dX7_inchesOfMiner_41 : decode cX7_inchesOfMiner 41 = .ok (.iinc 3 1, 3) := by decide +kernel
theorem dX7_inchesOfMiner_44 : decode cX7_inchesOfMiner 44 = .ok (.goto (-40), 3) := by decide +kernel
theorem dX7_inchesOfMiner_47 : decode cX7_inchesOfMiner 47 = .ok (.iload_n 2, 1) := by decide +kernel
theorem dX7_inchesOfMiner_48 : decode cX7_inchesOfMiner 48 = .ok (.ireturn, 1) := by decide +kernel
theorem dJ9_max_7cf53_0 : decode cJ9_max_7cf53 0 = .ok (.iload_n 0, 1) := by decide +kernel
theorem dJ9_max_7cf53_1 : decode cJ9_max_7cf53 1 = .ok (.iload_n 1, 1) := by decide +kernel
theorem dJ9_max_7cf53_2 : decode cJ9_max_7cf53 2 = .ok (.if_icmp .lt 7, 3) := by decide +kernel
theorem dJ9_max_7cf53_5 : decode cJ9_max_7cf53 5 = .ok (.iload_n 0, 1) := by decide +kernel
theorem dJ9_max_7cf53_6 : decode cJ9_max_7cf53 6 = .ok (.goto 4, 3) := by decide +kernel
theorem dJ9_max_7cf53_9 : decode cJ9_max_7cf53 9 = .ok (.iload_n 1, 1) := by decide +kernel
theorem dJ9_max_7cf53_10 : decode cJ9_max_7cf53 10 = .ok (.ireturn, 1) := by decide +kernel
theorem dJ9_min_7cf53_0 : decode cJ9_min_7cf53 0 = .ok (.iload_n 0, 1) := by decide +kernel
theorem dJ9_min_7cf53_1 : decode cJ9_min_7cf53 1 = .ok (.iload_n 1, 1) := by decide +kernel
theorem dJ9_min_7cf53_2 : decode cJ9_min_7cf53 2 = .ok (.if_icmp .gt 7, 3) := by decide +kernel
theorem dJ9_min_7cf53_5 : decode cJ9_min_7cf53 5 = .ok (.iload_n 0, 1) := by decide +kernel
theorem dJ9_min_7cf53_6 : decode cJ9_min_7cf53 6 = .ok (.goto 4, 3) := by decide +kernel
theorem dJ9_min_7cf53_9 : decode cJ9_min_7cf53 9 = .ok (.iload_n 1, 1) := by decide +kernel
theorem dJ9_min_7cf53_10 : decode cJ9_min_7cf53 10 = .ok (.ireturn, 1) := by decide +kernel
theorem dJxa1e45_init_da8c8_0 : decode cJxa1e45_init_da8c8 0 = .ok (.aload_n 0, 1) := by decide +kernel
theorem dJxa1e45_init_da8c8_1 : decode cJxa1e45_init_da8c8 1 = .ok (.invokespecial 1, 3) := by decide +kernel
theorem dJxa1e45_init_da8c8_4 : decode cJxa1e45_init_da8c8 4 = .ok (.return_, 1) := by decide +kernel
theorem dJxc12de_init_da8c8_0 : decode cJxc12de_init_da8c8 0 = .ok (.aload_n 0, 1) := by decide +kernel
theorem dJxc12de_init_da8c8_1 : decode cJxc12de_init_da8c8 1 = .ok (.invokespecial 1, 3) := by decide +kernel
theorem dJxc12de_init_da8c8_4 : decode cJxc12de_init_da8c8 4 = .ok (.aload_n 0, 1) := by decide +kernel
theorem dJxc12de_init_da8c8_5 : decode cJxc12de_init_da8c8 5 = .ok (.iconst 0, 1) := by decide +kernel
theorem dJxc12de_init_da8c8_6 : decode cJxc12de_init_da8c8 6 = .ok (.putfield 7, 3) := by decide +kernel
theorem dJxc12de_init_da8c8_9 : decode cJxc12de_init_da8c8 9 = .ok (.return_, 1) := by decide +kernel
theorem dJx4a65c_init_da8c8_0 : decode cJx4a65c_init_da8c8 0 = .ok (.aload_n 0, 1) := by decide +kernel
theorem dJx4a65c_init_da8c8_1 : decode cJx4a65c_init_da8c8 1 = .ok (.invokespecial 1, 3) := by decide +kernel
theorem dJx4a65c_init_da8c8_4 : decode cJx4a65c_init_da8c8 4 = .ok (.aload_n 0, 1) := by decide +kernel
theorem dJx4a65c_init_da8c8_5 : decode cJx4a65c_init_da8c8 5 = .ok (.getstatic 39, 3) := by decide +kernel
theorem dJx4a65c_init_da8c8_8 : decode cJx4a65c_init_da8c8 8 = .ok (.putfield 9, 3) := by decide +kernel
theorem dJx4a65c_init_da8c8_11 : decode cJx4a65c_init_da8c8 11 = .ok (.return_, 1) := by decide +kernel
theorem dJx4a65c_grow_92f84_0 : decode cJx4a65c_grow_92f84 0 = .ok (.aload_n 0, 1) := by decide +kernel
theorem dJx4a65c_grow_92f84_1 : decode cJx4a65c_grow_92f84 1 = .ok (.getfield 9, 3) := by decide +kernel
theorem dJx4a65c_grow_92f84_4 : decode cJx4a65c_grow_92f84 4 = .ok (.arraylength, 1) := by decide +kernel
theorem dJx4a65c_grow_92f84_5 : decode cJx4a65c_grow_92f84 5 = .ok (.istore_n 2, 1) := by decide +kernel
theorem dJx4a65c_grow_92f84_6 : decode cJx4a65c_grow_92f84 6 = .ok (.iload_n 2, 1) := by decide +kernel
theorem dJx4a65c_grow_92f84_7 : decode cJx4a65c_grow_92f84 7 = .ok (.ifCond .gt 13, 3) := by decide +kernel
theorem dJx4a65c_grow_92f84_10 : decode cJx4a65c_grow_92f84 10 = .ok (.aload_n 0, 1) := by decide +kernel
theorem dJx4a65c_grow_92f84_11 : decode cJx4a65c_grow_92f84 11 = .ok (.getfield 9, 3) := by decide +kernel
theorem dJx4a65c_grow_92f84_14 : decode cJx4a65c_grow_92f84 14 = .ok (.getstatic 39, 3) := by decide +kernel
theorem dJx4a65c_grow_92f84_17 : decode cJx4a65c_grow_92f84 17 = .ok (.if_acmp .eq 28, 3) := by decide +kernel
theorem dJx4a65c_grow_92f84_20 : decode cJx4a65c_grow_92f84 20 = .ok (.iload_n 2, 1) := by decide +kernel
theorem dJx4a65c_grow_92f84_21 : decode cJx4a65c_grow_92f84 21 = .ok (.iload_n 1, 1) := by decide +kernel
theorem dJx4a65c_grow_92f84_22 : decode cJx4a65c_grow_92f84 22 = .ok (.iload_n 2, 1) := by decide +kernel
theorem dJx4a65c_grow_92f84_23 : decode cJx4a65c_grow_92f84 23 = .ok (.isub, 1) := by decide +kernel
theorem dJx4a65c_grow_92f84_24 : decode cJx4a65c_grow_92f84 24 = .ok (.iload_n 2, 1) := by decide +kernel
theorem dJx4a65c_grow_92f84_25 : decode cJx4a65c_grow_92f84 25 = .ok (.iconst 1, 1) := by decide +kernel
theorem dJx4a65c_grow_92f84_26 : decode cJx4a65c_grow_92f84 26 = .ok (.ishr, 1) := by decide +kernel
theorem dJx4a65c_grow_92f84_27 : decode cJx4a65c_grow_92f84 27 = .ok (.invokestatic 73, 3) := by decide +kernel
theorem dJx4a65c_grow_92f84_30 : decode cJx4a65c_grow_92f84 30 = .ok (.istore_n 3, 1) := by decide +kernel
theorem dJx4a65c_grow_92f84_31 : decode cJx4a65c_grow_92f84 31 = .ok (.aload_n 0, 1) := by decide +kernel
theorem dJx4a65c_grow_92f84_32 : decode cJx4a65c_grow_92f84 32 = .ok (.aload_n 0, 1) := by decide +kernel
theorem dJx4a65c_grow_92f84_33 : decode cJx4a65c_grow_92f84 33 = .ok (.getfield 9, 3) := by decide +kernel
theorem dJx4a65c_grow_92f84_36 : decode cJx4a65c_grow_92f84 36 = .ok (.iload_n 3, 1) := by decide +kernel
theorem dJx4a65c_grow_92f84_37 : decode cJx4a65c_grow_92f84 37 = .ok (.invokestatic 66, 3) := by decide +kernel
theorem dJx4a65c_grow_92f84_40 : decode cJx4a65c_grow_92f84 40 = .ok (.dup_x1, 1) := by decide +kernel
theorem dJx4a65c_grow_92f84_41 : decode cJx4a65c_grow_92f84 41 = .ok (.putfield 9, 3) := by decide +kernel
theorem dJx4a65c_grow_92f84_44 : decode cJx4a65c_grow_92f84 44 = .ok (.areturn, 1) := by decide +kernel
theorem dJx4a65c_grow_92f84_45 : decode cJx4a65c_grow_92f84 45 = .ok (.aload_n 0, 1) := by decide +kernel
theorem dJx4a65c_grow_92f84_46 : decode cJx4a65c_grow_92f84 46 = .ok (.bipush 10, 2) := by decide +kernel
theorem dJx4a65c_grow_92f84_48 : decode cJx4a65c_grow_92f84 48 = .ok (.iload_n 1, 1) := by decide +kernel
theorem dJx4a65c_grow_92f84_49 : decode cJx4a65c_grow_92f84 49 = .ok (.invokestatic 79, 3) := by decide +kernel
theorem dJx4a65c_grow_92f84_52 : decode cJx4a65c_grow_92f84 52 = .ok (.anewarray 7, 3) := by decide +kernel
theorem dJx4a65c_grow_92f84_55 : decode cJx4a65c_grow_92f84 55 = .ok (.dup_x1, 1) := by decide +kernel
theorem dJx4a65c_grow_92f84_56 : decode cJx4a65c_grow_92f84 56 = .ok (.putfield 9, 3) := by decide +kernel
theorem dJx4a65c_grow_92f84_59 : decode cJx4a65c_grow_92f84 59 = .ok (.areturn, 1) := by decide +kernel
theorem dJx4a65c_grow_d5877_0 : decode cJx4a65c_grow_d5877 0 = .ok (.aload_n 0, 1) := by decide +kernel
theorem dJx4a65c_grow_d5877_1 : decode cJx4a65c_grow_d5877 1 = .ok (.aload_n 0, 1) := by decide +kernel
theorem dJx4a65c_grow_d5877_2 : decode cJx4a65c_grow_d5877 2 = .ok (.getfield 48, 3) := by decide +kernel
theorem dJx4a65c_grow_d5877_5 : decode cJx4a65c_grow_d5877 5 = .ok (.iconst 1, 1) := by decide +kernel
theorem dJx4a65c_grow_d5877_6 : decode cJx4a65c_grow_d5877 6 = .ok (.iadd, 1) := by decide +kernel
theorem dJx4a65c_grow_d5877_7 : decode cJx4a65c_grow_d5877 7 = .ok (.invokevirtual 69, 3) := by decide +kernel
theorem dJx4a65c_grow_d5877_10 : decode cJx4a65c_grow_d5877 10 = .ok (.areturn, 1) := by decide +kernel
theorem dJx4a65c_size_8abf5_0 : decode cJx4a65c_size_8abf5 0 = .ok (.aload_n 0, 1) := by decide +kernel
theorem dJx4a65c_size_8abf5_1 : decode cJx4a65c_size_8abf5 1 = .ok (.getfield 48, 3) := by decide +kernel
theorem dJx4a65c_size_8abf5_4 : decode cJx4a65c_size_8abf5 4 = .ok (.ireturn, 1) := by decide +kernel
theorem dJx4a65c_elementData_915e3_0 : decode cJx4a65c_elementData_915e3 0 = .ok (.aload_n 0, 1) := by decide +kernel
theorem dJx4a65c_elementData_915e3_1 : decode cJx4a65c_elementData_915e3 1 = .ok (.getfield 9, 3) := by decide +kernel
theorem dJx4a65c_elementData_915e3_4 : decode cJx4a65c_elementData_915e3 4 = .ok (.iload_n 1, 1) := by decide +kernel
theorem dJx4a65c_elementData_915e3_5 : decode cJx4a65c_elementData_915e3 5 = .ok (.aaload, 1) := by decide +kernel
theorem dJx4a65c_elementData_915e3_6 : decode cJx4a65c_elementData_915e3 6 = .ok (.areturn, 1) := by decide +kernel
theorem dJx4a65c_get_915e3_0 : decode cJx4a65c_get_915e3 0 = .ok (.iload_n 1, 1) := by decide +kernel
theorem dJx4a65c_get_915e3_1 : decode cJx4a65c_get_915e3 1 = .ok (.aload_n 0, 1) := by decide +kernel
theorem dJx4a65c_get_915e3_2 : decode cJx4a65c_get_915e3 2 = .ok (.getfield 48, 3) := by decide +kernel
theorem dJx4a65c_get_915e3_5 : decode cJx4a65c_get_915e3 5 = .ok (.invokestatic 118, 3) := by decide +kernel
theorem dJx4a65c_get_915e3_8 : decode cJx4a65c_get_915e3 8 = .ok (.pop, 1) := by decide +kernel
theorem dJx4a65c_get_915e3_9 : decode cJx4a65c_get_915e3 9 = .ok (.aload_n 0, 1) := by decide +kernel
theorem dJx4a65c_get_915e3_10 : decode cJx4a65c_get_915e3 10 = .ok (.iload_n 1, 1) := by decide +kernel
theorem dJx4a65c_get_915e3_11 : decode cJx4a65c_get_915e3 11 = .ok (.invokevirtual 123, 3) := by decide +kernel
theorem dJx4a65c_get_915e3_14 : decode cJx4a65c_get_915e3 14 = .ok (.areturn, 1) := by decide +kernel
theorem dJx4a65c_add_72be8_0 : decode cJx4a65c_add_72be8 0 = .ok (.iload_n 3, 1) := by decide +kernel
theorem dJx4a65c_add_72be8_1 : decode cJx4a65c_add_72be8 1 = .ok (.aload_n 2, 1) := by decide +kernel
theorem dJx4a65c_add_72be8_2 : decode cJx4a65c_add_72be8 2 = .ok (.arraylength, 1) := by decide +kernel
theorem dJx4a65c_add_72be8_3 : decode cJx4a65c_add_72be8 3 = .ok (.if_icmp .ne 8, 3) := by decide +kernel
theorem dJx4a65c_add_72be8_6 : decode cJx4a65c_add_72be8 6 = .ok (.aload_n 0, 1) := by decide +kernel
theorem dJx4a65c_add_72be8_7 : decode cJx4a65c_add_72be8 7 = .ok (.invokevirtual 129, 3) := by decide +kernel
theorem dJx4a65c_add_72be8_10 : decode cJx4a65c_add_72be8 10 = .ok (.astore_n 2, 1) := by decide +kernel
theorem dJx4a65c_add_72be8_11 : decode cJx4a65c_add_72be8 11 = .ok (.aload_n 2, 1) := by decide +kernel
theorem dJx4a65c_add_72be8_12 : decode cJx4a65c_add_72be8 12 = .ok (.iload_n 3, 1) := by decide +kernel
theorem dJx4a65c_add_72be8_13 : decode cJx4a65c_add_72be8 13 = .ok (.aload_n 1, 1) := by decide +kernel
theorem dJx4a65c_add_72be8_14 : decode cJx4a65c_add_72be8 14 = .ok (.aastore, 1) := by decide +kernel
theorem dJx4a65c_add_72be8_15 : decode cJx4a65c_add_72be8 15 = .ok (.aload_n 0, 1) := by decide +kernel
theorem dJx4a65c_add_72be8_16 : decode cJx4a65c_add_72be8 16 = .ok (.iload_n 3, 1) := by decide +kernel
theorem dJx4a65c_add_72be8_17 : decode cJx4a65c_add_72be8 17 = .ok (.iconst 1, 1) := by decide +kernel
theorem dJx4a65c_add_72be8_18 : decode cJx4a65c_add_72be8 18 = .ok (.iadd, 1) := by decide +kernel
theorem dJx4a65c_add_72be8_19 : decode cJx4a65c_add_72be8 19 = .ok (.putfield 48, 3) := by decide +kernel
theorem dJx4a65c_add_72be8_22 : decode cJx4a65c_add_72be8 22 = .ok (.return_, 1) := by decide +kernel
theorem dJx4a65c_add_9ea2d_0 : decode cJx4a65c_add_9ea2d 0 = .ok (.aload_n 0, 1) := by decide +kernel
theorem dJx4a65c_add_9ea2d_1 : decode cJx4a65c_add_9ea2d 1 = .ok (.dup, 1) := by decide +kernel
theorem dJx4a65c_add_9ea2d_2 : decode cJx4a65c_add_9ea2d 2 = .ok (.getfield 63, 3) := by decide +kernel
theorem dJx4a65c_add_9ea2d_5 : decode cJx4a65c_add_9ea2d 5 = .ok (.iconst 1, 1) := by decide +kernel
theorem dJx4a65c_add_9ea2d_6 : decode cJx4a65c_add_9ea2d 6 = .ok (.iadd, 1) := by decide +kernel
theorem dJx4a65c_add_9ea2d_7 : decode cJx4a65c_add_9ea2d 7 = .ok (.putfield 63, 3) := by decide +kernel
theorem dJx4a65c_add_9ea2d_10 : decode cJx4a65c_add_9ea2d 10 = .ok (.aload_n 0, 1) := by decide +kernel
theorem dJx4a65c_add_9ea2d_11 : decode cJx4a65c_add_9ea2d 11 = .ok (.aload_n 1, 1) := by decide +kernel
theorem dJx4a65c_add_9ea2d_12 : decode cJx4a65c_add_9ea2d 12 = .ok (.aload_n 0, 1) := by decide +kernel
theorem dJx4a65c_add_9ea2d_13 : decode cJx4a65c_add_9ea2d 13 = .ok (.getfield 9, 3) := by decide +kernel
theorem dJx4a65c_add_9ea2d_16 : decode cJx4a65c_add_9ea2d 16 = .ok (.aload_n 0, 1) := by decide +kernel
theorem dJx4a65c_add_9ea2d_17 : decode cJx4a65c_add_9ea2d 17 = .ok (.getfield 48, 3) := by decide +kernel
theorem dJx4a65c_add_9ea2d_20 : decode cJx4a65c_add_9ea2d 20 = .ok (.invokevirtual 131, 3) := by decide +kernel
theorem dJx4a65c_add_9ea2d_23 : decode cJx4a65c_add_9ea2d 23 = .ok (.iconst 1, 1) := by decide +kernel
theorem dJx4a65c_add_9ea2d_24 : decode cJx4a65c_add_9ea2d 24 = .ok (.ireturn, 1) := by decide +kernel
theorem dJ7_copyOf_1904c_0 : decode cJ7_copyOf_1904c 0 = .ok (.aload_n 0, 1) := by decide +kernel
theorem dJ7_copyOf_1904c_1 : decode cJ7_copyOf_1904c 1 = .ok (.iload_n 1, 1) := by decide +kernel
theorem dJ7_copyOf_1904c_2 : decode cJ7_copyOf_1904c 2 = .ok (.aload_n 0, 1) := by decide +kernel
theorem dJ7_copyOf_1904c_3 : decode cJ7_copyOf_1904c 3 = .ok (.invokevirtual 86, 3) := by decide +kernel
theorem dJ7_copyOf_1904c_6 : decode cJ7_copyOf_1904c 6 = .ok (.invokestatic 300, 3) := by decide +kernel
theorem dJ7_copyOf_1904c_9 : decode cJ7_copyOf_1904c 9 = .ok (.areturn, 1) := by decide +kernel
theorem dJ7_copyOf_6403c_0 : decode cJ7_copyOf_6403c 0 = .ok (.aload_n 2, 1) := by decide +kernel
theorem dJ7_copyOf_6403c_1 : decode cJ7_copyOf_6403c 1 = .ok (.ldc 110, 2) := by decide +kernel
theorem dJ7_copyOf_6403c_3 : decode cJ7_copyOf_6403c 3 = .ok (.if_acmp .ne 10, 3) := by decide +kernel
theorem dJ7_copyOf_6403c_6 : decode cJ7_copyOf_6403c 6 = .ok (.iload_n 1, 1) := by decide +kernel
theorem dJ7_copyOf_6403c_7 : decode cJ7_copyOf_6403c 7 = .ok (.anewarray 2, 3) := by decide +kernel
theorem dJ7_copyOf_6403c_10 : decode cJ7_copyOf_6403c 10 = .ok (.goto 14, 3) := by decide +kernel
theorem dJ7_copyOf_6403c_13 : decode cJ7_copyOf_6403c 13 = .ok (.aload_n 2, 1) := by decide +kernel
theorem dJ7_copyOf_6403c_14 : decode cJ7_copyOf_6403c 14 = .ok (.invokevirtual 90, 3) := by decide +kernel
theorem dJ7_copyOf_6403c_17 : decode cJ7_copyOf_6403c 17 = .ok (.iload_n 1, 1) := by decide +kernel
theorem dJ7_copyOf_6403c_18 : decode cJ7_copyOf_6403c 18 = .ok (.invokestatic 95, 3) := by decide +kernel
theorem dJ7_copyOf_6403c_21 : decode cJ7_copyOf_6403c 21 = .ok (.checkcast 110, 3) := by decide +kernel
theorem dJ7_copyOf_6403c_24 : decode cJ7_copyOf_6403c 24 = .ok (.astore_n 3, 1) := by decide +kernel
theorem dJ7_copyOf_6403c_25 : decode cJ7_copyOf_6403c 25 = .ok (.aload_n 0, 1) := by decide +kernel
theorem dJ7_copyOf_6403c_26 : decode cJ7_copyOf_6403c 26 = .ok (.iconst 0, 1) := by decide +kernel
theorem dJ7_copyOf_6403c_27 : decode cJ7_copyOf_6403c 27 = .ok (.aload_n 3, 1) := by decide +kernel
theorem dJ7_copyOf_6403c_28 : decode cJ7_copyOf_6403c 28 = .ok (.iconst 0, 1) := by decide +kernel
theorem dJ7_copyOf_6403c_29 : decode cJ7_copyOf_6403c 29 = .ok (.aload_n 0, 1) := by decide +kernel
theorem dJ7_copyOf_6403c_30 : decode cJ7_copyOf_6403c 30 = .ok (.arraylength, 1) := by decide +kernel
theorem dJ7_copyOf_6403c_31 : decode cJ7_copyOf_6403c 31 = .ok (.iload_n 1, 1) := by decide +kernel
theorem dJ7_copyOf_6403c_32 : decode cJ7_copyOf_6403c 32 = .ok (.invokestatic 304, 3) := by decide +kernel
theorem dJ7_copyOf_6403c_35 : decode cJ7_copyOf_6403c 35 = .ok (.invokestatic 150, 3) := by decide +kernel
theorem dJ7_copyOf_6403c_38 : decode cJ7_copyOf_6403c 38 = .ok (.aload_n 3, 1) := by decide +kernel
theorem dJ7_copyOf_6403c_39 : decode cJ7_copyOf_6403c 39 = .ok (.areturn, 1) := by decide +kernel
theorem dJ15_checkIndex_7cf53_0 : decode cJ15_checkIndex_7cf53 0 = .ok (.iload_n 0, 1) := by decide +kernel
theorem dJ15_checkIndex_7cf53_1 : decode cJ15_checkIndex_7cf53 1 = .ok (.iload_n 1, 1) := by decide +kernel
theorem dJ15_checkIndex_7cf53_2 : decode cJ15_checkIndex_7cf53 2 = .ok (.aconst_null, 1) := by decide +kernel
theorem dJ15_checkIndex_7cf53_3 : decode cJ15_checkIndex_7cf53 3 = .ok (.invokestatic 105, 3) := by decide +kernel
theorem dJ15_checkIndex_7cf53_6 : decode cJ15_checkIndex_7cf53 6 = .ok (.ireturn, 1) := by decide +kernel
theorem dJ8_newLength_cabcc_0 : decode cJ8_newLength_cabcc 0 = .ok (.iload_n 0, 1) := by decide +kernel
theorem dJ8_newLength_cabcc_1 : decode cJ8_newLength_cabcc 1 = .ok (.iload_n 1, 1) := by decide +kernel
theorem dJ8_newLength_cabcc_2 : decode cJ8_newLength_cabcc 2 = .ok (.iload_n 2, 1) := by decide +kernel
theorem dJ8_newLength_cabcc_3 : decode cJ8_newLength_cabcc 3 = .ok (.invokestatic 194, 3) := by decide +kernel
theorem dJ8_newLength_cabcc_6 : decode cJ8_newLength_cabcc 6 = .ok (.iadd, 1) := by decide +kernel
theorem dJ8_newLength_cabcc_7 : decode cJ8_newLength_cabcc 7 = .ok (.istore_n 3, 1) := by decide +kernel
theorem dJ8_newLength_cabcc_8 : decode cJ8_newLength_cabcc 8 = .ok (.iconst 0, 1) := by decide +kernel
theorem dJ8_newLength_cabcc_9 : decode cJ8_newLength_cabcc 9 = .ok (.iload_n 3, 1) := by decide +kernel
theorem dJ8_newLength_cabcc_10 : decode cJ8_newLength_cabcc 10 = .ok (.if_icmp .ge 11, 3) := by decide +kernel
theorem dJ8_newLength_cabcc_13 : decode cJ8_newLength_cabcc 13 = .ok (.iload_n 3, 1) := by decide +kernel
theorem dJ8_newLength_cabcc_14 : decode cJ8_newLength_cabcc 14 = .ok (.ldc 200, 2) := by decide +kernel
theorem dJ8_newLength_cabcc_16 : decode cJ8_newLength_cabcc 16 = .ok (.if_icmp .gt 5, 3) := by decide +kernel
theorem dJ8_newLength_cabcc_19 : decode cJ8_newLength_cabcc 19 = .ok (.iload_n 3, 1) := by decide +kernel
theorem dJ8_newLength_cabcc_20 : decode cJ8_newLength_cabcc 20 = .ok (.ireturn, 1) := by decide +kernel
theorem dJ8_newLength_cabcc_21 : decode cJ8_newLength_cabcc 21 = .ok (.iload_n 0, 1) := by decide +kernel
theorem dJ8_newLength_cabcc_22 : decode cJ8_newLength_cabcc 22 = .ok (.iload_n 1, 1) := by decide +kernel
theorem dJ8_newLength_cabcc_23 : decode cJ8_newLength_cabcc 23 = .ok (.invokestatic 201, 3) := by decide +kernel
theorem dJ8_newLength_cabcc_26 : decode cJ8_newLength_cabcc 26 = .ok (.ireturn, 1) := by decide +kernel
theorem dJ8_hugeLength_7cf53_0 : decode cJ8_hugeLength_7cf53 0 = .ok (.iload_n 0, 1) := by decide +kernel
theorem dJ8_hugeLength_7cf53_1 : decode cJ8_hugeLength_7cf53 1 = .ok (.iload_n 1, 1) := by decide +kernel
theorem dJ8_hugeLength_7cf53_2 : decode cJ8_hugeLength_7cf53 2 = .ok (.iadd, 1) := by decide +kernel
theorem dJ8_hugeLength_7cf53_3 : decode cJ8_hugeLength_7cf53 3 = .ok (.istore_n 2, 1) := by decide +kernel
theorem dJ8_hugeLength_7cf53_4 : decode cJ8_hugeLength_7cf53 4 = .ok (.iload_n 2, 1) := by decide +kernel
theorem dJ8_hugeLength_7cf53_5 : decode cJ8_hugeLength_7cf53 5 = .ok (.ifCond .ge 44, 3) := by decide +kernel
theorem dJ8_hugeLength_7cf53_8 : decode cJ8_hugeLength_7cf53 8 = .ok (.new 204, 3) := by decide +kernel
theorem dJ8_hugeLength_7cf53_11 : decode cJ8_hugeLength_7cf53 11 = .ok (.dup, 1) := by decide +kernel
theorem dJ8_hugeLength_7cf53_12 : decode cJ8_hugeLength_7cf53 12 = .ok (.new 89, 3) := by decide +kernel
theorem dJ8_hugeLength_7cf53_15 : decode cJ8_hugeLength_7cf53 15 = .ok (.dup, 1) := by decide +kernel
theorem dJ8_hugeLength_7cf53_16 : decode cJ8_hugeLength_7cf53 16 = .ok (.invokespecial 91, 3) := by decide +kernel
theorem dJ8_hugeLength_7cf53_19 : decode cJ8_hugeLength_7cf53 19 = .ok (.ldc 206, 2) := by decide +kernel
theorem dJ8_hugeLength_7cf53_21 : decode cJ8_hugeLength_7cf53 21 = .ok (.invokevirtual 94, 3) := by decide +kernel
theorem dJ8_hugeLength_7cf53_24 : decode cJ8_hugeLength_7cf53 24 = .ok (.iload_n 0, 1) := by decide +kernel
theorem dJ8_hugeLength_7cf53_25 : decode cJ8_hugeLength_7cf53 25 = .ok (.invokevirtual 98, 3) := by decide +kernel
theorem dJ8_hugeLength_7cf53_28 : decode cJ8_hugeLength_7cf53 28 = .ok (.ldc 208, 2) := by decide +kernel
theorem dJ8_hugeLength_7cf53_30 : decode cJ8_hugeLength_7cf53 30 = .ok (.invokevirtual 94, 3) := by decide +kernel
theorem dJ8_hugeLength_7cf53_33 : decode cJ8_hugeLength_7cf53 33 = .ok (.iload_n 1, 1) := by decide +kernel
theorem dJ8_hugeLength_7cf53_34 : decode cJ8_hugeLength_7cf53 34 = .ok (.invokevirtual 98, 3) := by decide +kernel
theorem dJ8_hugeLength_7cf53_37 : decode cJ8_hugeLength_7cf53 37 = .ok (.ldc 210, 2) := by decide +kernel
theorem dJ8_hugeLength_7cf53_39 : decode cJ8_hugeLength_7cf53 39 = .ok (.invokevirtual 94, 3) := by decide +kernel
theorem dJ8_hugeLength_7cf53_42 : decode cJ8_hugeLength_7cf53 42 = .ok (.invokevirtual 101, 3) := by decide +kernel
theorem dJ8_hugeLength_7cf53_45 : decode cJ8_hugeLength_7cf53 45 = .ok (.invokespecial 212, 3) := by decide +kernel
theorem dJ8_hugeLength_7cf53_48 : decode cJ8_hugeLength_7cf53 48 = .ok (.athrow, 1) := by decide +kernel
theorem dJ8_hugeLength_7cf53_49 : decode cJ8_hugeLength_7cf53 49 = .ok (.iload_n 2, 1) := by decide +kernel
theorem dJ8_hugeLength_7cf53_50 : decode cJ8_hugeLength_7cf53 50 = .ok (.ldc 200, 2) := by decide +kernel
theorem dJ8_hugeLength_7cf53_52 : decode cJ8_hugeLength_7cf53 52 = .ok (.if_icmp .gt 6, 3) := by decide +kernel
theorem dJ8_hugeLength_7cf53_55 : decode cJ8_hugeLength_7cf53 55 = .ok (.ldc 200, 2) := by decide +kernel
theorem dJ8_hugeLength_7cf53_57 : decode cJ8_hugeLength_7cf53 57 = .ok (.ireturn, 1) := by decide +kernel
theorem dJ8_hugeLength_7cf53_58 : decode cJ8_hugeLength_7cf53 58 = .ok (.iload_n 2, 1) := by decide +kernel
theorem dJ8_hugeLength_7cf53_59 : decode cJ8_hugeLength_7cf53 59 = .ok (.ireturn, 1) := by decide +kernel
theorem dJ3_checkIndex_8e157_0 : decode cJ3_checkIndex_8e157 0 = .ok (.iload_n 0, 1) := by decide +kernel
theorem dJ3_checkIndex_8e157_1 : decode cJ3_checkIndex_8e157 1 = .ok (.ifCond .lt 8, 3) := by decide +kernel
theorem dJ3_checkIndex_8e157_4 : decode cJ3_checkIndex_8e157 4 = .ok (.iload_n 0, 1) := by decide +kernel
theorem dJ3_checkIndex_8e157_5 : decode cJ3_checkIndex_8e157 5 = .ok (.iload_n 1, 1) := by decide +kernel
theorem dJ3_checkIndex_8e157_6 : decode cJ3_checkIndex_8e157 6 = .ok (.if_icmp .lt 10, 3) := by decide +kernel
theorem dJ3_checkIndex_8e157_9 : decode cJ3_checkIndex_8e157 9 = .ok (.aload_n 2, 1) := by decide +kernel
theorem dJ3_checkIndex_8e157_10 : decode cJ3_checkIndex_8e157 10 = .ok (.iload_n 0, 1) := by decide +kernel
theorem dJ3_checkIndex_8e157_11 : decode cJ3_checkIndex_8e157 11 = .ok (.iload_n 1, 1) := by decide +kernel
theorem dJ3_checkIndex_8e157_12 : decode cJ3_checkIndex_8e157 12 = .ok (.invokestatic 95, 3) := by decide +kernel
theorem dJ3_checkIndex_8e157_15 : decode cJ3_checkIndex_8e157 15 = .ok (.athrow, 1) := by decide +kernel
theorem dJ3_checkIndex_8e157_16 : decode cJ3_checkIndex_8e157 16 = .ok (.iload_n 0, 1) := by decide +kernel
theorem dJ3_checkIndex_8e157_17 : decode cJ3_checkIndex_8e157 17 = .ok (.ireturn, 1) := by decide +kernel
