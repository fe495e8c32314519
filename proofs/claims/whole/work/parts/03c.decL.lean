theorem dL_ground_0 : decode cL_ground 0 = .ok (.aload 4, 2) := by decide +kernel
theorem dL_ground_2 : decode cL_ground 2 = .ok (.iconst 0, 1) := by decide +kernel
theorem dL_ground_3 : decode cL_ground 3 = .ok (.aload_n 0, 1) := by decide +kernel
theorem dL_ground_4 : decode cL_ground 4 = .ok (.iload_n 1, 1) := by decide +kernel
theorem dL_ground_5 : decode cL_ground 5 = .ok (.iload_n 2, 1) := by decide +kernel
theorem dL_ground_6 : decode cL_ground 6 = .ok (.iload_n 3, 1) := by decide +kernel
theorem dL_ground_7 : decode cL_ground 7 = .ok (.invokevirtual 7, 3) := by decide +kernel
theorem dL_ground_10 : decode cL_ground 10 = .ok (.i2l, 1) := by decide +kernel
theorem dL_ground_11 : decode cL_ground 11 = .ok (.lastore, 1) := by decide +kernel
theorem dL_ground_12 : decode cL_ground 12 = .ok (.goto 15, 3) := by decide +kernel
theorem dL_ground_15 : decode cL_ground 15 = .ok (.astore 5, 2) := by decide +kernel
theorem dL_ground_17 : decode cL_ground 17 = .ok (.iconst 1, 1) := by decide +kernel
theorem dL_ground_18 : decode cL_ground 18 = .ok (.ireturn, 1) := by decide +kernel
theorem dL_ground_19 : decode cL_ground 19 = .ok (.astore 5, 2) := by decide +kernel
theorem dL_ground_21 : decode cL_ground 21 = .ok (.iconst 2, 1) := by decide +kernel
theorem dL_ground_22 : decode cL_ground 22 = .ok (.ireturn, 1) := by decide +kernel
theorem dL_ground_23 : decode cL_ground 23 = .ok (.astore 5, 2) := by decide +kernel
theorem dL_ground_25 : decode cL_ground 25 = .ok (.iconst 3, 1) := by decide +kernel
theorem dL_ground_26 : decode cL_ground 26 = .ok (.ireturn, 1) := by decide +kernel
theorem dL_ground_27 : decode cL_ground 27 = .ok (.iconst 0, 1) := by decide +kernel
theorem dL_ground_28 : decode cL_ground 28 = .ok (.ireturn, 1) := by decide +kernel
theorem dL_flow_0 : decode cL_flow 0 = .ok (.aload_n 2, 1) := by decide +kernel
theorem dL_flow_1 : decode cL_flow 1 = .ok (.iconst 0, 1) := by decide +kernel
theorem dL_flow_2 : decode cL_flow 2 = .ok (.aload_n 0, 1) := by decide +kernel
theorem dL_flow_3 : decode cL_flow 3 = .ok (.iload_n 1, 1) := by decide +kernel
theorem dL_flow_4 : decode cL_flow 4 = .ok (.invokevirtual 19, 3) := by decide +kernel
theorem dL_flow_7 : decode cL_flow 7 = .ok (.i2l, 1) := by decide +kernel
theorem dL_flow_8 : decode cL_flow 8 = .ok (.lastore, 1) := by decide +kernel
theorem dL_flow_9 : decode cL_flow 9 = .ok (.goto 6, 3) := by decide +kernel
theorem dL_flow_12 : decode cL_flow 12 = .ok (.astore_n 3, 1) := by decide +kernel
theorem dL_flow_13 : decode cL_flow 13 = .ok (.iconst 1, 1) := by decide +kernel
theorem dL_flow_14 : decode cL_flow 14 = .ok (.ireturn, 1) := by decide +kernel
theorem dL_flow_15 : decode cL_flow 15 = .ok (.iconst 0, 1) := by decide +kernel
theorem dL_flow_16 : decode cL_flow 16 = .ok (.ireturn, 1) := by decide +kernel
theorem dL_miner_0 : decode cL_miner 0 = .ok (.aload_n 3, 1) := by decide +kernel
theorem dL_miner_1 : decode cL_miner 1 = .ok (.iconst 0, 1) := by decide +kernel
theorem dL_miner_2 : decode cL_miner 2 = .ok (.aload_n 0, 1) := by decide +kernel
theorem dL_miner_3 : decode cL_miner 3 = .ok (.iload_n 1, 1) := by decide +kernel
theorem dL_miner_4 : decode cL_miner 4 = .ok (.iload_n 2, 1) := by decide +kernel
theorem dL_miner_5 : decode cL_miner 5 = .ok (.invokevirtual 23, 3) := by decide +kernel
theorem dL_miner_8 : decode cL_miner 8 = .ok (.i2l, 1) := by decide +kernel
theorem dL_miner_9 : decode cL_miner 9 = .ok (.lastore, 1) := by decide +kernel
theorem dL_miner_10 : decode cL_miner 10 = .ok (.goto 11, 3) := by decide +kernel
theorem dL_miner_13 : decode cL_miner 13 = .ok (.astore 4, 2) := by decide +kernel
theorem dL_miner_15 : decode cL_miner 15 = .ok (.iconst 1, 1) := by decide +kernel
theorem dL_miner_16 : decode cL_miner 16 = .ok (.ireturn, 1) := by decide +kernel
theorem dL_miner_17 : decode cL_miner 17 = .ok (.astore 4, 2) := by decide +kernel
theorem dL_miner_19 : decode cL_miner 19 = .ok (.iconst 2, 1) := by decide +kernel
theorem dL_miner_20 : decode cL_miner 20 = .ok (.ireturn, 1) := by decide +kernel
theorem dL_miner_21 : decode cL_miner 21 = .ok (.iconst 0, 1) := by decide +kernel
theorem dL_miner_22 : decode cL_miner 22 = .ok (.ireturn, 1) := by decide +kernel
theorem dL_pass_0 : decode cL_pass 0 = .ok (.aload_n 2, 1) := by decide +kernel
theorem dL_pass_1 : decode cL_pass 1 = .ok (.iconst 0, 1) := by decide +kernel
theorem dL_pass_2 : decode cL_pass 2 = .ok (.aload_n 0, 1) := by decide +kernel
theorem dL_pass_3 : decode cL_pass 3 = .ok (.iload_n 1, 1) := by decide +kernel
theorem dL_pass_4 : decode cL_pass 4 = .ok (.invokevirtual 27, 3) := by decide +kernel
theorem dL_pass_7 : decode cL_pass 7 = .ok (.i2l, 1) := by decide +kernel
theorem dL_pass_8 : decode cL_pass 8 = .ok (.lastore, 1) := by decide +kernel
theorem dL_pass_9 : decode cL_pass 9 = .ok (.goto 9, 3) := by decide +kernel
theorem dL_pass_12 : decode cL_pass 12 = .ok (.astore_n 3, 1) := by decide +kernel
theorem dL_pass_13 : decode cL_pass 13 = .ok (.iconst 1, 1) := by decide +kernel
theorem dL_pass_14 : decode cL_pass 14 = .ok (.ireturn, 1) := by decide +kernel
theorem dL_pass_15 : decode cL_pass 15 = .ok (.astore_n 3, 1) := by decide +kernel
theorem dL_pass_16 : decode cL_pass 16 = .ok (.iconst 2, 1) := by decide +kernel
theorem dL_pass_17 : decode cL_pass 17 = .ok (.ireturn, 1) := by decide +kernel
theorem dL_pass_18 : decode cL_pass 18 = .ok (.iconst 0, 1) := by decide +kernel
theorem dL_pass_19 : decode cL_pass 19 = .ok (.ireturn, 1) := by decide +kernel
theorem dL_meet_0 : decode cL_meet 0 = .ok (.aload 5, 2) := by decide +kernel
theorem dL_meet_2 : decode cL_meet 2 = .ok (.iconst 0, 1) := by decide +kernel
theorem dL_meet_3 : decode cL_meet 3 = .ok (.aload_n 0, 1) := by decide +kernel
theorem dL_meet_4 : decode cL_meet 4 = .ok (.iload_n 1, 1) := by decide +kernel
theorem dL_meet_5 : decode cL_meet 5 = .ok (.iload_n 2, 1) := by decide +kernel
theorem dL_meet_6 : decode cL_meet 6 = .ok (.iload_n 3, 1) := by decide +kernel
theorem dL_meet_7 : decode cL_meet 7 = .ok (.iload 4, 2) := by decide +kernel
theorem dL_meet_9 : decode cL_meet 9 = .ok (.invokevirtual 30, 3) := by decide +kernel
theorem dL_meet_12 : decode cL_meet 12 = .ok (.ifCond .eq 7, 3) := by decide +kernel
theorem dL_meet_15 : decode cL_meet 15 = .ok (.lconst 1, 1) := by decide +kernel
theorem dL_meet_16 : decode cL_meet 16 = .ok (.goto 4, 3) := by decide +kernel
theorem dL_meet_19 : decode cL_meet 19 = .ok (.lconst 0, 1) := by decide +kernel
theorem dL_meet_20 : decode cL_meet 20 = .ok (.lastore, 1) := by decide +kernel
theorem dL_meet_21 : decode cL_meet 21 = .ok (.goto 7, 3) := by decide +kernel
theorem dL_meet_24 : decode cL_meet 24 = .ok (.astore 6, 2) := by decide +kernel
theorem dL_meet_26 : decode cL_meet 26 = .ok (.iconst 1, 1) := by decide +kernel
theorem dL_meet_27 : decode cL_meet 27 = .ok (.ireturn, 1) := by decide +kernel
theorem dL_meet_28 : decode cL_meet 28 = .ok (.iconst 0, 1) := by decide +kernel
theorem dL_meet_29 : decode cL_meet 29 = .ok (.ireturn, 1) := by decide +kernel
theorem dL_peg_0 : decode cL_peg 0 = .ok (.aload 4, 2) := by decide +kernel
theorem dL_peg_2 : decode cL_peg 2 = .ok (.iconst 0, 1) := by decide +kernel
theorem dL_peg_3 : decode cL_peg 3 = .ok (.aload_n 0, 1) := by decide +kernel
theorem dL_peg_4 : decode cL_peg 4 = .ok (.iload_n 1, 1) := by decide +kernel
theorem dL_peg_5 : decode cL_peg 5 = .ok (.iload_n 2, 1) := by decide +kernel
theorem dL_peg_6 : decode cL_peg 6 = .ok (.iload_n 3, 1) := by decide +kernel
theorem dL_peg_7 : decode cL_peg 7 = .ok (.invokevirtual 34, 3) := by decide +kernel
theorem dL_peg_10 : decode cL_peg 10 = .ok (.i2l, 1) := by decide +kernel
theorem dL_peg_11 : decode cL_peg 11 = .ok (.lastore, 1) := by decide +kernel
theorem dL_peg_12 : decode cL_peg 12 = .ok (.goto 15, 3) := by decide +kernel
theorem dL_peg_15 : decode cL_peg 15 = .ok (.astore 5, 2) := by decide +kernel
theorem dL_peg_17 : decode cL_peg 17 = .ok (.iconst 1, 1) := by decide +kernel
theorem dL_peg_18 : decode cL_peg 18 = .ok (.ireturn, 1) := by decide +kernel
theorem dL_peg_19 : decode cL_peg 19 = .ok (.astore 5, 2) := by decide +kernel
theorem dL_peg_21 : decode cL_peg 21 = .ok (.iconst 2, 1) := by decide +kernel
theorem dL_peg_22 : decode cL_peg 22 = .ok (.ireturn, 1) := by decide +kernel
theorem dL_peg_23 : decode cL_peg 23 = .ok (.astore 5, 2) := by decide +kernel
theorem dL_peg_25 : decode cL_peg 25 = .ok (.iconst 3, 1) := by decide +kernel
theorem dL_peg_26 : decode cL_peg 26 = .ok (.ireturn, 1) := by decide +kernel
theorem dL_peg_27 : decode cL_peg 27 = .ok (.iconst 0, 1) := by decide +kernel
theorem dL_peg_28 : decode cL_peg 28 = .ok (.ireturn, 1) := by decide +kernel
theorem dL_right_0 : decode cL_right 0 = .ok (.aload_n 3, 1) := by decide +kernel
theorem dL_right_1 : decode cL_right 1 = .ok (.iconst 0, 1) := by decide +kernel
theorem dL_right_2 : decode cL_right 2 = .ok (.aload_n 0, 1) := by decide +kernel
theorem dL_right_3 : decode cL_right 3 = .ok (.iload_n 1, 1) := by decide +kernel
theorem dL_right_4 : decode cL_right 4 = .ok (.iload_n 2, 1) := by decide +kernel
theorem dL_right_5 : decode cL_right 5 = .ok (.invokevirtual 37, 3) := by decide +kernel
theorem dL_right_8 : decode cL_right 8 = .ok (.i2l, 1) := by decide +kernel
theorem dL_right_9 : decode cL_right 9 = .ok (.lastore, 1) := by decide +kernel
theorem dL_right_10 : decode cL_right 10 = .ok (.goto 15, 3) := by decide +kernel
theorem dL_right_13 : decode cL_right 13 = .ok (.astore 4, 2) := by decide +kernel
theorem dL_right_15 : decode cL_right 15 = .ok (.iconst 1, 1) := by decide +kernel
theorem dL_right_16 : decode cL_right 16 = .ok (.ireturn, 1) := by decide +kernel
theorem dL_right_17 : decode cL_right 17 = .ok (.astore 4, 2) := by decide +kernel
theorem dL_right_19 : decode cL_right 19 = .ok (.iconst 2, 1) := by decide +kernel
theorem dL_right_20 : decode cL_right 20 = .ok (.ireturn, 1) := by decide +kernel
theorem dL_right_21 : decode cL_right 21 = .ok (.astore 4, 2) := by decide +kernel
theorem dL_right_23 : decode cL_right 23 = .ok (.iconst 3, 1) := by decide +kernel
theorem dL_right_24 : decode cL_right 24 = .ok (.ireturn, 1) := by decide +kernel
theorem dL_right_25 : decode cL_right 25 = .ok (.iconst 0, 1) := by decide +kernel
theorem dL_right_26 : decode cL_right 26 = .ok (.ireturn, 1) := by decide +kernel
theorem dL_work_0 : decode cL_work 0 = .ok (.aload 4, 2) := by decide +kernel
theorem dL_work_2 : decode cL_work 2 = .ok (.iconst 0, 1) := by decide +kernel
theorem dL_work_3 : decode cL_work 3 = .ok (.aload_n 0, 1) := by decide +kernel
theorem dL_work_4 : decode cL_work 4 = .ok (.iload_n 1, 1) := by decide +kernel
theorem dL_work_5 : decode cL_work 5 = .ok (.iload_n 2, 1) := by decide +kernel
theorem dL_work_6 : decode cL_work 6 = .ok (.iload_n 3, 1) := by decide +kernel
theorem dL_work_7 : decode cL_work 7 = .ok (.invokevirtual 40, 3) := by decide +kernel
theorem dL_work_10 : decode cL_work 10 = .ok (.i2l, 1) := by decide +kernel
theorem dL_work_11 : decode cL_work 11 = .ok (.lastore, 1) := by decide +kernel
theorem dL_work_12 : decode cL_work 12 = .ok (.goto 15, 3) := by decide +kernel
theorem dL_work_15 : decode cL_work 15 = .ok (.astore 5, 2) := by decide +kernel
theorem dL_work_17 : decode cL_work 17 = .ok (.iconst 1, 1) := by decide +kernel
theorem dL_work_18 : decode cL_work 18 = .ok (.ireturn, 1) := by decide +kernel
theorem dL_work_19 : decode cL_work 19 = .ok (.astore 5, 2) := by decide +kernel
theorem dL_work_21 : decode cL_work 21 = .ok (.iconst 2, 1) := by decide +kernel
theorem dL_work_22 : decode cL_work 22 = .ok (.ireturn, 1) := by decide +kernel
theorem dL_work_23 : decode cL_work 23 = .ok (.astore 5, 2) := by decide +kernel
theorem dL_work_25 : decode cL_work 25 = .ok (.iconst 3, 1) := by decide +kernel
theorem dL_work_26 : decode cL_work 26 = .ok (.ireturn, 1) := by decide +kernel
theorem dL_work_27 : decode cL_work 27 = .ok (.iconst 0, 1) := by decide +kernel
theorem dL_work_28 : decode cL_work 28 = .ok (.ireturn, 1) := by decide +kernel
theorem dL_sample_0 : decode cL_sample 0 = .ok (.aload_n 2, 1) := by decide +kernel
theorem dL_sample_1 : decode cL_sample 1 = .ok (.iconst 0, 1) := by decide +kernel
theorem dL_sample_2 : decode cL_sample 2 = .ok (.aload_n 0, 1) := by decide +kernel
theorem dL_sample_3 : decode cL_sample 3 = .ok (.iload_n 1, 1) := by decide +kernel
theorem dL_sample_4 : decode cL_sample 4 = .ok (.invokevirtual 43, 3) := by decide +kernel
theorem dL_sample_7 : decode cL_sample 7 = .ok (.i2l, 1) := by decide +kernel
theorem dL_sample_8 : decode cL_sample 8 = .ok (.lastore, 1) := by decide +kernel
theorem dL_sample_9 : decode cL_sample 9 = .ok (.goto 6, 3) := by decide +kernel
theorem dL_sample_12 : decode cL_sample 12 = .ok (.astore_n 3, 1) := by decide +kernel
theorem dL_sample_13 : decode cL_sample 13 = .ok (.iconst 1, 1) := by decide +kernel
theorem dL_sample_14 : decode cL_sample 14 = .ok (.ireturn, 1) := by decide +kernel
theorem dL_sample_15 : decode cL_sample 15 = .ok (.iconst 0, 1) := by decide +kernel
theorem dL_sample_16 : decode cL_sample 16 = .ok (.ireturn, 1) := by decide +kernel
theorem dL_salt_0 : decode cL_salt 0 = .ok (.aload 4, 2) := by decide +kernel
theorem dL_salt_2 : decode cL_salt 2 = .ok (.iconst 0, 1) := by decide +kernel
theorem dL_salt_3 : decode cL_salt 3 = .ok (.aload_n 0, 1) := by decide +kernel
theorem dL_salt_4 : decode cL_salt 4 = .ok (.iload_n 1, 1) := by decide +kernel
theorem dL_salt_5 : decode cL_salt 5 = .ok (.iload_n 2, 1) := by decide +kernel
theorem dL_salt_6 : decode cL_salt 6 = .ok (.iload_n 3, 1) := by decide +kernel
theorem dL_salt_7 : decode cL_salt 7 = .ok (.invokevirtual 46, 3) := by decide +kernel
theorem dL_salt_10 : decode cL_salt 10 = .ok (.i2l, 1) := by decide +kernel
theorem dL_salt_11 : decode cL_salt 11 = .ok (.lastore, 1) := by decide +kernel
theorem dL_salt_12 : decode cL_salt 12 = .ok (.goto 15, 3) := by decide +kernel
theorem dL_salt_15 : decode cL_salt 15 = .ok (.astore 5, 2) := by decide +kernel
theorem dL_salt_17 : decode cL_salt 17 = .ok (.iconst 1, 1) := by decide +kernel
theorem dL_salt_18 : decode cL_salt 18 = .ok (.ireturn, 1) := by decide +kernel
theorem dL_salt_19 : decode cL_salt 19 = .ok (.astore 5, 2) := by decide +kernel
theorem dL_salt_21 : decode cL_salt 21 = .ok (.iconst 2, 1) := by decide +kernel
theorem dL_salt_22 : decode cL_salt 22 = .ok (.ireturn, 1) := by decide +kernel
theorem dL_salt_23 : decode cL_salt 23 = .ok (.astore 5, 2) := by decide +kernel
theorem dL_salt_25 : decode cL_salt 25 = .ok (.iconst 3, 1) := by decide +kernel
theorem dL_salt_26 : decode cL_salt 26 = .ok (.ireturn, 1) := by decide +kernel
theorem dL_salt_27 : decode cL_salt 27 = .ok (.iconst 0, 1) := by decide +kernel
theorem dL_salt_28 : decode cL_salt 28 = .ok (.ireturn, 1) := by decide +kernel
theorem dL_brass_0 : decode cL_brass 0 = .ok (.aload_n 3, 1) := by decide +kernel
theorem dL_brass_1 : decode cL_brass 1 = .ok (.iconst 0, 1) := by decide +kernel
theorem dL_brass_2 : decode cL_brass 2 = .ok (.aload_n 0, 1) := by decide +kernel
theorem dL_brass_3 : decode cL_brass 3 = .ok (.iload_n 1, 1) := by decide +kernel
theorem dL_brass_4 : decode cL_brass 4 = .ok (.iload_n 2, 1) := by decide +kernel
theorem dL_brass_5 : decode cL_brass 5 = .ok (.invokevirtual 49, 3) := by decide +kernel
theorem dL_brass_8 : decode cL_brass 8 = .ok (.i2l, 1) := by decide +kernel
theorem dL_brass_9 : decode cL_brass 9 = .ok (.lastore, 1) := by decide +kernel
theorem dL_brass_10 : decode cL_brass 10 = .ok (.goto 15, 3) := by decide +kernel
theorem dL_brass_13 : decode cL_brass 13 = .ok (.astore 4, 2) := by decide +kernel
theorem dL_brass_15 : decode cL_brass 15 = .ok (.iconst 1, 1) := by decide +kernel
theorem dL_brass_16 : decode cL_brass 16 = .ok (.ireturn, 1) := by decide +kernel
theorem dL_brass_17 : decode cL_brass 17 = .ok (.astore 4, 2) := by decide +kernel
theorem dL_brass_19 : decode cL_brass 19 = .ok (.iconst 2, 1) := by decide +kernel
theorem dL_brass_20 : decode cL_brass 20 = .ok (.ireturn, 1) := by decide +kernel
theorem dL_brass_21 : decode cL_brass 21 = .ok (.astore 4, 2) := by decide +kernel
theorem dL_brass_23 : decode cL_brass 23 = .ok (.iconst 3, 1) := by decide +kernel
theorem dL_brass_24 : decode cL_brass 24 = .ok (.ireturn, 1) := by decide +kernel
theorem dL_brass_25 : decode cL_brass 25 = .ok (.iconst 0, 1) := by decide +kernel
theorem dL_brass_26 : decode cL_brass 26 = .ok (.ireturn, 1) := by decide +kernel
theorem dL_sell_0 : decode cL_sell 0 = .ok (.aload_n 3, 1) := by decide +kernel
theorem dL_sell_1 : decode cL_sell 1 = .ok (.iconst 0, 1) := by decide +kernel
theorem dL_sell_2 : decode cL_sell 2 = .ok (.aload_n 0, 1) := by decide +kernel
theorem dL_sell_3 : decode cL_sell 3 = .ok (.iload_n 1, 1) := by decide +kernel
theorem dL_sell_4 : decode cL_sell 4 = .ok (.iload_n 2, 1) := by decide +kernel
theorem dL_sell_5 : decode cL_sell 5 = .ok (.invokevirtual 52, 3) := by decide +kernel
theorem dL_sell_8 : decode cL_sell 8 = .ok (.i2l, 1) := by decide +kernel
theorem dL_sell_9 : decode cL_sell 9 = .ok (.lastore, 1) := by decide +kernel
theorem dL_sell_10 : decode cL_sell 10 = .ok (.goto 15, 3) := by decide +kernel
theorem dL_sell_13 : decode cL_sell 13 = .ok (.astore 4, 2) := by decide +kernel
theorem dL_sell_15 : decode cL_sell 15 = .ok (.iconst 1, 1) := by decide +kernel
theorem dL_sell_16 : decode cL_sell 16 = .ok (.ireturn, 1) := by decide +kernel
theorem dL_sell_17 : decode cL_sell 17 = .ok (.astore 4, 2) := by decide +kernel
theorem dL_sell_19 : decode cL_sell 19 = .ok (.iconst 2, 1) := by decide +kernel
theorem dL_sell_20 : decode cL_sell 20 = .ok (.ireturn, 1) := by decide +kernel
theorem dL_sell_21 : decode cL_sell 21 = .ok (.astore 4, 2) := by decide +kernel
theorem dL_sell_23 : decode cL_sell 23 = .ok (.iconst 3, 1) := by decide +kernel
theorem dL_sell_24 : decode cL_sell 24 = .ok (.ireturn, 1) := by decide +kernel
theorem dL_sell_25 : decode cL_sell 25 = .ok (.iconst 0, 1) := by decide +kernel
theorem dL_sell_26 : decode cL_sell 26 = .ok (.ireturn, 1) := by decide +kernel
theorem dL_rate_0 : decode cL_rate 0 = .ok (.aload_n 2, 1) := by decide +kernel
theorem dL_rate_1 : decode cL_rate 1 = .ok (.iconst 0, 1) := by decide +kernel
theorem dL_rate_2 : decode cL_rate 2 = .ok (.aload_n 0, 1) := by decide +kernel
theorem dL_rate_3 : decode cL_rate 3 = .ok (.iload_n 1, 1) := by decide +kernel
theorem dL_rate_4 : decode cL_rate 4 = .ok (.invokevirtual 55, 3) := by decide +kernel
theorem dL_rate_7 : decode cL_rate 7 = .ok (.i2l, 1) := by decide +kernel
theorem dL_rate_8 : decode cL_rate 8 = .ok (.lastore, 1) := by decide +kernel
theorem dL_rate_9 : decode cL_rate 9 = .ok (.goto 6, 3) := by decide +kernel
theorem dL_rate_12 : decode cL_rate 12 = .ok (.astore_n 3, 1) := by decide +kernel
theorem dL_rate_13 : decode cL_rate 13 = .ok (.iconst 1, 1) := by decide +kernel
theorem dL_rate_14 : decode cL_rate 14 = .ok (.ireturn, 1) := by decide +kernel
theorem dL_rate_15 : decode cL_rate 15 = .ok (.iconst 0, 1) := by decide +kernel
theorem dL_rate_16 : decode cL_rate 16 = .ok (.ireturn, 1) := by decide +kernel
theorem dL_freight_0 : decode cL_freight 0 = .ok (.aload_n 0, 1) := by decide +kernel
theorem dL_freight_1 : decode cL_freight 1 = .ok (.iload_n 1, 1) := by decide +kernel
theorem dL_freight_2 : decode cL_freight 2 = .ok (.iload_n 2, 1) := by decide +kernel
theorem dL_freight_3 : decode cL_freight 3 = .ok (.invokevirtual 58, 3) := by decide +kernel
theorem dL_freight_6 : decode cL_freight 6 = .ok (.goto 9, 3) := by decide +kernel
theorem dL_freight_9 : decode cL_freight 9 = .ok (.astore_n 3, 1) := by decide +kernel
theorem dL_freight_10 : decode cL_freight 10 = .ok (.iconst 1, 1) := by decide +kernel
theorem dL_freight_11 : decode cL_freight 11 = .ok (.ireturn, 1) := by decide +kernel
theorem dL_freight_12 : decode cL_freight 12 = .ok (.astore_n 3, 1) := by decide +kernel
theorem dL_freight_13 : decode cL_freight 13 = .ok (.iconst 2, 1) := by decide +kernel
theorem dL_freight_14 : decode cL_freight 14 = .ok (.ireturn, 1) := by decide +kernel
theorem dL_freight_15 : decode cL_freight 15 = .ok (.iconst 0, 1) := by decide +kernel
theorem dL_freight_16 : decode cL_freight 16 = .ok (.ireturn, 1) := by decide +kernel
theorem dL_buy_0 : decode cL_buy 0 = .ok (.aload_n 3, 1) := by decide +kernel
theorem dL_buy_1 : decode cL_buy 1 = .ok (.iconst 0, 1) := by decide +kernel
theorem dL_buy_2 : decode cL_buy 2 = .ok (.aload_n 0, 1) := by decide +kernel
theorem dL_buy_3 : decode cL_buy 3 = .ok (.iload_n 1, 1) := by decide +kernel
theorem dL_buy_4 : decode cL_buy 4 = .ok (.iload_n 2, 1) := by decide +kernel
theorem dL_buy_5 : decode cL_buy 5 = .ok (.invokevirtual 62, 3) := by decide +kernel
theorem dL_buy_8 : decode cL_buy 8 = .ok (.i2l, 1) := by decide +kernel
theorem dL_buy_9 : decode cL_buy 9 = .ok (.lastore, 1) := by decide +kernel
theorem dL_buy_10 : decode cL_buy 10 = .ok (.goto 15, 3) := by decide +kernel
theorem dL_buy_13 : decode cL_buy 13 = .ok (.astore 4, 2) := by decide +kernel
theorem dL_buy_15 : decode cL_buy 15 = .ok (.iconst 1, 1) := by decide +kernel
theorem dL_buy_16 : decode cL_buy 16 = .ok (.ireturn, 1) := by decide +kernel
theorem dL_buy_17 : decode cL_buy 17 = .ok (.astore 4, 2) := by decide +kernel
theorem dL_buy_19 : decode cL_buy 19 = .ok (.iconst 2, 1) := by decide +kernel
theorem dL_buy_20 : decode cL_buy 20 = .ok (.ireturn, 1) := by decide +kernel
theorem dL_buy_21 : decode cL_buy 21 = .ok (.astore 4, 2) := by decide +kernel
theorem dL_buy_23 : decode cL_buy 23 = .ok (.iconst 3, 1) := by decide +kernel
theorem dL_buy_24 : decode cL_buy 24 = .ok (.ireturn, 1) := by decide +kernel
theorem dL_buy_25 : decode cL_buy 25 = .ok (.iconst 0, 1) := by decide +kernel
theorem dL_buy_26 : decode cL_buy 26 = .ok (.ireturn, 1) := by decide +kernel
theorem dL_back_0 : decode cL_back 0 = .ok (.aload_n 0, 1) := by decide +kernel
theorem dL_back_1 : decode cL_back 1 = .ok (.iload_n 1, 1) := by decide +kernel
theorem dL_back_2 : decode cL_back 2 = .ok (.iload_n 2, 1) := by decide +kernel
theorem dL_back_3 : decode cL_back 3 = .ok (.iload_n 3, 1) := by decide +kernel
theorem dL_back_4 : decode cL_back 4 = .ok (.iload 4, 2) := by decide +kernel
theorem dL_back_6 : decode cL_back 6 = .ok (.invokevirtual 65, 3) := by decide +kernel
theorem dL_back_9 : decode cL_back 9 = .ok (.goto 15, 3) := by decide +kernel
theorem dL_back_12 : decode cL_back 12 = .ok (.astore 5, 2) := by decide +kernel
theorem dL_back_14 : decode cL_back 14 = .ok (.iconst 1, 1) := by decide +kernel
theorem dL_back_15 : decode cL_back 15 = .ok (.ireturn, 1) := by decide +kernel
theorem dL_back_16 : decode cL_back 16 = .ok (.astore 5, 2) := by decide +kernel
theorem dL_back_18 : decode cL_back 18 = .ok (.iconst 2, 1) := by decide +kernel
theorem dL_back_19 : decode cL_back 19 = .ok (.ireturn, 1) := by decide +kernel
theorem dL_back_20 : decode cL_back 20 = .ok (.astore 5, 2) := by decide +kernel
theorem dL_back_22 : decode cL_back 22 = .ok (.iconst 3, 1) := by decide +kernel
theorem dL_back_23 : decode cL_back 23 = .ok (.ireturn, 1) := by decide +kernel
theorem dL_back_24 : decode cL_back 24 = .ok (.iconst 0, 1) := by decide +kernel
theorem dL_back_25 : decode cL_back 25 = .ok (.ireturn, 1) := by decide +kernel
theorem dL_end_0 : decode cL_end 0 = .ok (.aload_n 3, 1) := by decide +kernel
theorem dL_end_1 : decode cL_end 1 = .ok (.iconst 0, 1) := by decide +kernel
theorem dL_end_2 : decode cL_end 2 = .ok (.aload_n 0, 1) := by decide +kernel
theorem dL_end_3 : decode cL_end 3 = .ok (.iload_n 1, 1) := by decide +kernel
theorem dL_end_4 : decode cL_end 4 = .ok (.iload_n 2, 1) := by decide +kernel
theorem dL_end_5 : decode cL_end 5 = .ok (.invokevirtual 69, 3) := by decide +kernel
theorem dL_end_8 : decode cL_end 8 = .ok (.i2l, 1) := by decide +kernel
theorem dL_end_9 : decode cL_end 9 = .ok (.lastore, 1) := by decide +kernel
theorem dL_end_10 : decode cL_end 10 = .ok (.goto 11, 3) := by decide +kernel
theorem dL_end_13 : decode cL_end 13 = .ok (.astore 4, 2) := by decide +kernel
theorem dL_end_15 : decode cL_end 15 = .ok (.iconst 1, 1) := by decide +kernel
theorem dL_end_16 : decode cL_end 16 = .ok (.ireturn, 1) := by decide +kernel
theorem dL_end_17 : decode cL_end 17 = .ok (.astore 4, 2) := by decide +kernel
theorem dL_end_19 : decode cL_end 19 = .ok (.iconst 2, 1) := by decide +kernel
theorem dL_end_20 : decode cL_end 20 = .ok (.ireturn, 1) := by decide +kernel
theorem dL_end_21 : decode cL_end 21 = .ok (.iconst 0, 1) := by decide +kernel
theorem dL_end_22 : decode cL_end 22 = .ok (.ireturn, 1) := by decide +kernel
theorem dL_trade_0 : decode cL_trade 0 = .ok (.aload 4, 2) := by decide +kernel
theorem dL_trade_2 : decode cL_trade 2 = .ok (.iconst 0, 1) := by decide +kernel
theorem dL_trade_3 : decode cL_trade 3 = .ok (.aload_n 0, 1) := by decide +kernel
theorem dL_trade_4 : decode cL_trade 4 = .ok (.iload_n 1, 1) := by decide +kernel
theorem dL_trade_5 : decode cL_trade 5 = .ok (.iload_n 2, 1) := by decide +kernel
theorem dL_trade_6 : decode cL_trade 6 = .ok (.iload_n 3, 1) := by decide +kernel
theorem dL_trade_7 : decode cL_trade 7 = .ok (.invokevirtual 72, 3) := by decide +kernel
theorem dL_trade_10 : decode cL_trade 10 = .ok (.i2l, 1) := by decide +kernel
theorem dL_trade_11 : decode cL_trade 11 = .ok (.lastore, 1) := by decide +kernel
theorem dL_trade_12 : decode cL_trade 12 = .ok (.goto 15, 3) := by decide +kernel
theorem dL_trade_15 : decode cL_trade 15 = .ok (.astore 5, 2) := by decide +kernel
theorem dL_trade_17 : decode cL_trade 17 = .ok (.iconst 1, 1) := by decide +kernel
theorem dL_trade_18 : decode cL_trade 18 = .ok (.ireturn, 1) := by decide +kernel
theorem dL_trade_19 : decode cL_trade 19 = .ok (.astore 5, 2) := by decide +kernel
theorem dL_trade_21 : decode cL_trade 21 = .ok (.iconst 2, 1) := by decide +kernel
theorem dL_trade_22 : decode cL_trade 22 = .ok (.ireturn, 1) := by decide +kernel
theorem dL_trade_23 : decode cL_trade 23 = .ok (.astore 5, 2) := by decide +kernel
theorem dL_trade_25 : decode cL_trade 25 = .ok (.iconst 3, 1) := by decide +kernel
theorem dL_trade_26 : decode cL_trade 26 = .ok (.ireturn, 1) := by decide +kernel
theorem dL_trade_27 : decode cL_trade 27 = .ok (.iconst 0, 1) := by decide +kernel
theorem dL_trade_28 : decode cL_trade 28 = .ok (.ireturn, 1) := by decide +kernel
theorem dL_suit_0 : decode cL_suit 0 = .ok (.aload_n 2, 1) := by decide +kernel
theorem dL_suit_1 : decode cL_suit 1 = .ok (.iconst 0, 1) := by decide +kernel
theorem dL_suit_2 : decode cL_suit 2 = .ok (.aload_n 0, 1) := by decide +kernel
theorem dL_suit_3 : decode cL_suit 3 = .ok (.iload_n 1, 1) := by decide +kernel
theorem dL_suit_4 : decode cL_suit 4 = .ok (.invokevirtual 75, 3) := by decide +kernel
theorem dL_suit_7 : decode cL_suit 7 = .ok (.i2l, 1) := by decide +kernel
theorem dL_suit_8 : decode cL_suit 8 = .ok (.lastore, 1) := by decide +kernel
theorem dL_suit_9 : decode cL_suit 9 = .ok (.goto 9, 3) := by decide +kernel
theorem dL_suit_12 : decode cL_suit 12 = .ok (.astore_n 3, 1) := by decide +kernel
theorem dL_suit_13 : decode cL_suit 13 = .ok (.iconst 1, 1) := by decide +kernel
theorem dL_suit_14 : decode cL_suit 14 = .ok (.ireturn, 1) := by decide +kernel
theorem dL_suit_15 : decode cL_suit 15 = .ok (.astore_n 3, 1) := by decide +kernel
theorem dL_suit_16 : decode cL_suit 16 = .ok (.iconst 2, 1) := by decide +kernel
theorem dL_suit_17 : decode cL_suit 17 = .ok (.ireturn, 1) := by decide +kernel
theorem dL_suit_18 : decode cL_suit 18 = .ok (.iconst 0, 1) := by decide +kernel
theorem dL_suit_19 : decode cL_suit 19 = .ok (.ireturn, 1) := by decide +kernel
theorem dL_rumour_0 : decode cL_rumour 0 = .ok (.aload_n 3, 1) := by decide +kernel
theorem dL_rumour_1 : decode cL_rumour 1 = .ok (.iconst 0, 1) := by decide +kernel
theorem dL_rumour_2 : decode cL_rumour 2 = .ok (.aload_n 0, 1) := by decide +kernel
theorem dL_rumour_3 : decode cL_rumour 3 = .ok (.iload_n 1, 1) := by decide +kernel
theorem dL_rumour_4 : decode cL_rumour 4 = .ok (.iload_n 2, 1) := by decide +kernel
theorem dL_rumour_5 : decode cL_rumour 5 = .ok (.invokevirtual 78, 3) := by decide +kernel
theorem dL_rumour_8 : decode cL_rumour 8 = .ok (.i2l, 1) := by decide +kernel
theorem dL_rumour_9 : decode cL_rumour 9 = .ok (.lastore, 1) := by decide +kernel
theorem dL_rumour_10 : decode cL_rumour 10 = .ok (.goto 11, 3) := by decide +kernel
theorem dL_rumour_13 : decode cL_rumour 13 = .ok (.astore 4, 2) := by decide +kernel
theorem dL_rumour_15 : decode cL_rumour 15 = .ok (.iconst 1, 1) := by decide +kernel
theorem dL_rumour_16 : decode cL_rumour 16 = .ok (.ireturn, 1) := by decide +kernel
theorem dL_rumour_17 : decode cL_rumour 17 = .ok (.astore 4, 2) := by decide +kernel
theorem dL_rumour_19 : decode cL_rumour 19 = .ok (.iconst 2, 1) := by decide +kernel
theorem dL_rumour_20 : decode cL_rumour 20 = .ok (.ireturn, 1) := by decide +kernel
theorem dL_rumour_21 : decode cL_rumour 21 = .ok (.iconst 0, 1) := by decide +kernel
theorem dL_rumour_22 : decode cL_rumour 22 = .ok (.ireturn, 1) := by decide +kernel
theorem dL_holds_0 : decode cL_holds 0 = .ok (.aload_n 2, 1) := by decide +kernel
theorem dL_holds_1 : decode cL_holds 1 = .ok (.iconst 0, 1) := by decide +kernel
theorem dL_holds_2 : decode cL_holds 2 = .ok (.aload_n 0, 1) := by decide +kernel
theorem dL_holds_3 : decode cL_holds 3 = .ok (.iload_n 1, 1) := by decide +kernel
theorem dL_holds_4 : decode cL_holds 4 = .ok (.invokevirtual 81, 3) := by decide +kernel
theorem dL_holds_7 : decode cL_holds 7 = .ok (.i2l, 1) := by decide +kernel
theorem dL_holds_8 : decode cL_holds 8 = .ok (.lastore, 1) := by decide +kernel
theorem dL_holds_9 : decode cL_holds 9 = .ok (.goto 6, 3) := by decide +kernel
theorem dL_holds_12 : decode cL_holds 12 = .ok (.astore_n 3, 1) := by decide +kernel
theorem dL_holds_13 : decode cL_holds 13 = .ok (.iconst 1, 1) := by decide +kernel
theorem dL_holds_14 : decode cL_holds 14 = .ok (.ireturn, 1) := by decide +kernel
theorem dL_holds_15 : decode cL_holds 15 = .ok (.iconst 0, 1) := by decide +kernel
theorem dL_holds_16 : decode cL_holds 16 = .ok (.ireturn, 1) := by decide +kernel
theorem dL_ofClaim_0 : decode cL_ofClaim 0 = .ok (.aload_n 3, 1) := by decide +kernel
theorem dL_ofClaim_1 : decode cL_ofClaim 1 = .ok (.iconst 0, 1) := by decide +kernel
theorem dL_ofClaim_2 : decode cL_ofClaim 2 = .ok (.aload_n 0, 1) := by decide +kernel
theorem dL_ofClaim_3 : decode cL_ofClaim 3 = .ok (.iload_n 1, 1) := by decide +kernel
theorem dL_ofClaim_4 : decode cL_ofClaim 4 = .ok (.iload_n 2, 1) := by decide +kernel
theorem dL_ofClaim_5 : decode cL_ofClaim 5 = .ok (.invokevirtual 84, 3) := by decide +kernel
theorem dL_ofClaim_8 : decode cL_ofClaim 8 = .ok (.i2l, 1) := by decide +kernel
theorem dL_ofClaim_9 : decode cL_ofClaim 9 = .ok (.lastore, 1) := by decide +kernel
theorem dL_ofClaim_10 : decode cL_ofClaim 10 = .ok (.goto 11, 3) := by decide +kernel
theorem dL_ofClaim_13 : decode cL_ofClaim 13 = .ok (.astore 4, 2) := by decide +kernel
theorem dL_ofClaim_15 : decode cL_ofClaim 15 = .ok (.iconst 1, 1) := by decide +kernel
theorem dL_ofClaim_16 : decode cL_ofClaim 16 = .ok (.ireturn, 1) := by decide +kernel
theorem dL_ofClaim_17 : decode cL_ofClaim 17 = .ok (.astore 4, 2) := by decide +kernel
theorem dL_ofClaim_19 : decode cL_ofClaim 19 = .ok (.iconst 2, 1) := by decide +kernel
theorem dL_ofClaim_20 : decode cL_ofClaim 20 = .ok (.ireturn, 1) := by decide +kernel
theorem dL_ofClaim_21 : decode cL_ofClaim 21 = .ok (.iconst 0, 1) := by decide +kernel
theorem dL_ofClaim_22 : decode cL_ofClaim 22 = .ok (.ireturn, 1) := by decide +kernel
theorem dL_ofMiner_0 : decode cL_ofMiner 0 = .ok (.aload_n 3, 1) := by decide +kernel
theorem dL_ofMiner_1 : decode cL_ofMiner 1 = .ok (.iconst 0, 1) := by decide +kernel
theorem dL_ofMiner_2 : decode cL_ofMiner 2 = .ok (.aload_n 0, 1) := by decide +kernel
theorem dL_ofMiner_3 : decode cL_ofMiner 3 = .ok (.iload_n 1, 1) := by decide +kernel
theorem dL_ofMiner_4 : decode cL_ofMiner 4 = .ok (.iload_n 2, 1) := by decide +kernel
theorem dL_ofMiner_5 : decode cL_ofMiner 5 = .ok (.invokevirtual 87, 3) := by decide +kernel
theorem dL_ofMiner_8 : decode cL_ofMiner 8 = .ok (.i2l, 1) := by decide +kernel
theorem dL_ofMiner_9 : decode cL_ofMiner 9 = .ok (.lastore, 1) := by decide +kernel
theorem dL_ofMiner_10 : decode cL_ofMiner 10 = .ok (.goto 11, 3) := by decide +kernel
theorem dL_ofMiner_13 : decode cL_ofMiner 13 = .ok (.astore 4, 2) := by decide +kernel
theorem dL_ofMiner_15 : decode cL_ofMiner 15 = .ok (.iconst 1, 1) := by decide +kernel
theorem dL_ofMiner_16 : decode cL_ofMiner 16 = .ok (.ireturn, 1) := by decide +kernel
theorem dL_ofMiner_17 : decode cL_ofMiner 17 = .ok (.astore 4, 2) := by decide +kernel
theorem dL_ofMiner_19 : decode cL_ofMiner 19 = .ok (.iconst 2, 1) := by decide +kernel
theorem dL_ofMiner_20 : decode cL_ofMiner 20 = .ok (.ireturn, 1) := by decide +kernel
theorem dL_ofMiner_21 : decode cL_ofMiner 21 = .ok (.iconst 0, 1) := by decide +kernel
theorem dL_ofMiner_22 : decode cL_ofMiner 22 = .ok (.ireturn, 1) := by decide +kernel
theorem dL_gets_0 : decode cL_gets 0 = .ok (.aload_n 2, 1) := by decide +kernel
theorem dL_gets_1 : decode cL_gets 1 = .ok (.iconst 0, 1) := by decide +kernel
theorem dL_gets_2 : decode cL_gets 2 = .ok (.aload_n 0, 1) := by decide +kernel
theorem dL_gets_3 : decode cL_gets 3 = .ok (.iload_n 1, 1) := by decide +kernel
theorem dL_gets_4 : decode cL_gets 4 = .ok (.invokevirtual 90, 3) := by decide +kernel
theorem dL_gets_7 : decode cL_gets 7 = .ok (.i2l, 1) := by decide +kernel
theorem dL_gets_8 : decode cL_gets 8 = .ok (.lastore, 1) := by decide +kernel
theorem dL_gets_9 : decode cL_gets 9 = .ok (.goto 6, 3) := by decide +kernel
theorem dL_gets_12 : decode cL_gets 12 = .ok (.astore_n 3, 1) := by decide +kernel
theorem dL_gets_13 : decode cL_gets 13 = .ok (.iconst 1, 1) := by decide +kernel
theorem dL_gets_14 : decode cL_gets 14 = .ok (.ireturn, 1) := by decide +kernel
theorem dL_gets_15 : decode cL_gets 15 = .ok (.iconst 0, 1) := by decide +kernel
theorem dL_gets_16 : decode cL_gets 16 = .ok (.ireturn, 1) := by decide +kernel
theorem dL_gold_0 : decode cL_gold 0 = .ok (.aload_n 2, 1) := by decide +kernel
theorem dL_gold_1 : decode cL_gold 1 = .ok (.iconst 0, 1) := by decide +kernel
theorem dL_gold_2 : decode cL_gold 2 = .ok (.aload_n 0, 1) := by decide +kernel
theorem dL_gold_3 : decode cL_gold 3 = .ok (.iload_n 1, 1) := by decide +kernel
theorem dL_gold_4 : decode cL_gold 4 = .ok (.invokevirtual 93, 3) := by decide +kernel
theorem dL_gold_7 : decode cL_gold 7 = .ok (.i2l, 1) := by decide +kernel
theorem dL_gold_8 : decode cL_gold 8 = .ok (.lastore, 1) := by decide +kernel
theorem dL_gold_9 : decode cL_gold 9 = .ok (.goto 6, 3) := by decide +kernel
theorem dL_gold_12 : decode cL_gold 12 = .ok (.astore_n 3, 1) := by decide +kernel
theorem dL_gold_13 : decode cL_gold 13 = .ok (.iconst 1, 1) := by decide +kernel
theorem dL_gold_14 : decode cL_gold 14 = .ok (.ireturn, 1) := by decide +kernel
theorem dL_gold_15 : decode cL_gold 15 = .ok (.iconst 0, 1) := by decide +kernel
theorem dL_gold_16 : decode cL_gold 16 = .ok (.ireturn, 1) := by decide +kernel
theorem dL_camp_0 : decode cL_camp 0 = .ok (.aload_n 2, 1) := by decide +kernel
theorem dL_camp_1 : decode cL_camp 1 = .ok (.iconst 0, 1) := by decide +kernel
theorem dL_camp_2 : decode cL_camp 2 = .ok (.aload_n 0, 1) := by decide +kernel
theorem dL_camp_3 : decode cL_camp 3 = .ok (.iload_n 1, 1) := by decide +kernel
theorem dL_camp_4 : decode cL_camp 4 = .ok (.invokevirtual 96, 3) := by decide +kernel
theorem dL_camp_7 : decode cL_camp 7 = .ok (.i2l, 1) := by decide +kernel
theorem dL_camp_8 : decode cL_camp 8 = .ok (.lastore, 1) := by decide +kernel
theorem dL_camp_9 : decode cL_camp 9 = .ok (.goto 6, 3) := by decide +kernel
theorem dL_camp_12 : decode cL_camp 12 = .ok (.astore_n 3, 1) := by decide +kernel
theorem dL_camp_13 : decode cL_camp 13 = .ok (.iconst 1, 1) := by decide +kernel
theorem dL_camp_14 : decode cL_camp 14 = .ok (.ireturn, 1) := by decide +kernel
theorem dL_camp_15 : decode cL_camp 15 = .ok (.iconst 0, 1) := by decide +kernel
theorem dL_camp_16 : decode cL_camp 16 = .ok (.ireturn, 1) := by decide +kernel
theorem dL_belief_0 : decode cL_belief 0 = .ok (.aload_n 2, 1) := by decide +kernel
theorem dL_belief_1 : decode cL_belief 1 = .ok (.iconst 0, 1) := by decide +kernel
theorem dL_belief_2 : decode cL_belief 2 = .ok (.aload_n 0, 1) := by decide +kernel
theorem dL_belief_3 : decode cL_belief 3 = .ok (.iload_n 1, 1) := by decide +kernel
theorem dL_belief_4 : decode cL_belief 4 = .ok (.invokevirtual 99, 3) := by decide +kernel
theorem dL_belief_7 : decode cL_belief 7 = .ok (.i2l, 1) := by decide +kernel
theorem dL_belief_8 : decode cL_belief 8 = .ok (.lastore, 1) := by decide +kernel
theorem dL_belief_9 : decode cL_belief 9 = .ok (.goto 6, 3) := by decide +kernel
theorem dL_belief_12 : decode cL_belief 12 = .ok (.astore_n 3, 1) := by decide +kernel
theorem dL_belief_13 : decode cL_belief 13 = .ok (.iconst 1, 1) := by decide +kernel
theorem dL_belief_14 : decode cL_belief 14 = .ok (.ireturn, 1) := by decide +kernel
theorem dL_belief_15 : decode cL_belief 15 = .ok (.iconst 0, 1) := by decide +kernel
theorem dL_belief_16 : decode cL_belief 16 = .ok (.ireturn, 1) := by decide +kernel
theorem dL_plan_0 : decode cL_plan 0 = .ok (.aload_n 3, 1) := by decide +kernel
theorem dL_plan_1 : decode cL_plan 1 = .ok (.iconst 0, 1) := by decide +kernel
theorem dL_plan_2 : decode cL_plan 2 = .ok (.aload_n 0, 1) := by decide +kernel
theorem dL_plan_3 : decode cL_plan 3 = .ok (.iload_n 1, 1) := by decide +kernel
theorem dL_plan_4 : decode cL_plan 4 = .ok (.iload_n 2, 1) := by decide +kernel
theorem dL_plan_5 : decode cL_plan 5 = .ok (.invokevirtual 102, 3) := by decide +kernel
theorem dL_plan_8 : decode cL_plan 8 = .ok (.i2l, 1) := by decide +kernel
theorem dL_plan_9 : decode cL_plan 9 = .ok (.lastore, 1) := by decide +kernel
theorem dL_plan_10 : decode cL_plan 10 = .ok (.goto 15, 3) := by decide +kernel
theorem dL_plan_13 : decode cL_plan 13 = .ok (.astore 4, 2) := by decide +kernel
theorem dL_plan_15 : decode cL_plan 15 = .ok (.iconst 1, 1) := by decide +kernel
theorem dL_plan_16 : decode cL_plan 16 = .ok (.ireturn, 1) := by decide +kernel
theorem dL_plan_17 : decode cL_plan 17 = .ok (.astore 4, 2) := by decide +kernel
theorem dL_plan_19 : decode cL_plan 19 = .ok (.iconst 2, 1) := by decide +kernel
theorem dL_plan_20 : decode cL_plan 20 = .ok (.ireturn, 1) := by decide +kernel
theorem dL_plan_21 : decode cL_plan 21 = .ok (.astore 4, 2) := by decide +kernel
theorem dL_plan_23 : decode cL_plan 23 = .ok (.iconst 3, 1) := by decide +kernel
theorem dL_plan_24 : decode cL_plan 24 = .ok (.ireturn, 1) := by decide +kernel
theorem dL_plan_25 : decode cL_plan 25 = .ok (.iconst 0, 1) := by decide +kernel
theorem dL_plan_26 : decode cL_plan 26 = .ok (.ireturn, 1) := by decide +kernel
theorem dL_planCell_0 : decode cL_planCell 0 = .ok (.aload 4, 2) := by decide +kernel
theorem dL_planCell_2 : decode cL_planCell 2 = .ok (.iconst 0, 1) := by decide +kernel
theorem dL_planCell_3 : decode cL_planCell 3 = .ok (.aload_n 0, 1) := by decide +kernel
theorem dL_planCell_4 : decode cL_planCell 4 = .ok (.iload_n 1, 1) := by decide +kernel
theorem dL_planCell_5 : decode cL_planCell 5 = .ok (.iload_n 2, 1) := by decide +kernel
theorem dL_planCell_6 : decode cL_planCell 6 = .ok (.iload_n 3, 1) := by decide +kernel
theorem dL_planCell_7 : decode cL_planCell 7 = .ok (.invokevirtual 105, 3) := by decide +kernel
theorem dL_planCell_10 : decode cL_planCell 10 = .ok (.i2l, 1) := by decide +kernel
theorem dL_planCell_11 : decode cL_planCell 11 = .ok (.lastore, 1) := by decide +kernel
theorem dL_planCell_12 : decode cL_planCell 12 = .ok (.goto 15, 3) := by decide +kernel
theorem dL_planCell_15 : decode cL_planCell 15 = .ok (.astore 5, 2) := by decide +kernel
theorem dL_planCell_17 : decode cL_planCell 17 = .ok (.iconst 1, 1) := by decide +kernel
theorem dL_planCell_18 : decode cL_planCell 18 = .ok (.ireturn, 1) := by decide +kernel
theorem dL_planCell_19 : decode cL_planCell 19 = .ok (.astore 5, 2) := by decide +kernel
theorem dL_planCell_21 : decode cL_planCell 21 = .ok (.iconst 2, 1) := by decide +kernel
theorem dL_planCell_22 : decode cL_planCell 22 = .ok (.ireturn, 1) := by decide +kernel
theorem dL_planCell_23 : decode cL_planCell 23 = .ok (.astore 5, 2) := by decide +kernel
theorem dL_planCell_25 : decode cL_planCell 25 = .ok (.iconst 3, 1) := by decide +kernel
theorem dL_planCell_26 : decode cL_planCell 26 = .ok (.ireturn, 1) := by decide +kernel
theorem dL_planCell_27 : decode cL_planCell 27 = .ok (.iconst 0, 1) := by decide +kernel
theorem dL_planCell_28 : decode cL_planCell 28 = .ok (.ireturn, 1) := by decide +kernel
