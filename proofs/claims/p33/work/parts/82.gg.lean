/-! what is known at the law's entry -/
def mvb (w : Cond) : Bool := goodWord w || match w with
  | .declares _ => true
  | .castable _ _ => true
  | _ => false
theorem wT_mv : wT.all mvb = true := by decide +kernel
theorem wT_in : wT.all (fun w => decide (w ∈ tables_1)) = true := by decide +kernel
theorem wT_on : wT.all (fun w => w.onTables || goodWord w) = true := by decide +kernel
theorem mv_at {w : Cond} {A A' : Array Value} {s U : State} (hW : s.WarmedH U.vm) (h : mvb w = true) (hb : w.before A s = true) : w.before A' U = true := by
  unfold mvb at h
  rcases Bool.or_eq_true_iff.mp h with h | h
  · exact word_at hW (good_of_word h) hb
  · cases w with
    | declares x => exact va_Nw.use rfl (va_Nw.warmD hW (va_Nw.of rfl hb))
    | castable a b => exact va_Nw.use rfl (va_Nw.warmC hW (va_Nw.of rfl hb))
    | _ => cases h
theorem wN_warm {x : Cond} {s U : State} (hW : s.WarmedH U.vm) (hx : x ∈ wN) (h : va_Nw x s) : va_Nw x U := by
  have hn : isN x = true := (List.mem_filter.mp hx).2
  cases x with
  | fieldLinkNest a i b n d hh => exact va_Nw.warmF hW h
  | methodLinkNest a i y hh => exact va_Nw.warmM hW h
  | castable a b => exact va_Nw.warmC hW h
  | _ => cases hn
theorem SFx.warm {G : GG} {s U : State} {H : Heap} (hW : s.WarmedH U.vm) (h : SFx G s H) : SFx G U H := by
  obtain ⟨h1, h2, h3, h4, h5, h6, h7, h8, h9, h10, ⟨h11, h12, h13⟩, h14⟩ := h
  exact ⟨fun x hx => wN_warm hW hx (h1 x hx), fun x hx args => mv_at hW (List.all_eq_true.mp wT_mv x hx) (h2 x hx args), vx_Zq.moved hW.alike h3, vx_Zq.moved hW.alike h4, fun q hq => (h5 q hq).imp fun _ a => vk_R.warm hW a, va_Z.moved hW.alike h6, va_T.moved hW.alike h7, va_Z.moved hW.alike h8, va_T.moved hW.alike h9, va_En.moved hW.alike h10, ⟨va_Nc.moved hW.alike h11, va_Nc.moved hW.alike h12, va_Nc.moved hW.alike h13⟩, va_AO.moved hW.alike h14⟩
theorem SFx.kept {G : GG} {s : State} {H H1 : Heap} (hq : ∀ a : Nat, a < H.size → ¬ gA G a → H1[a]? = H[a]?) (h : SFx G s H) : SFx G s H1 := by
  obtain ⟨h1, h2, h3, h4, h5, h6, h7, h8, h9, h10, h11, h14⟩ := h
  exact ⟨h1, h2, h3.kept hq, h4.kept hq, h5, h6.kept hq, h7.kept hq, h8.kept hq, h9.kept hq, h10.kept hq, h11, h14⟩
