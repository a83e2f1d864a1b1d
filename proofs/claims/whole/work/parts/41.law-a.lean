/-! what holds at the law's entry: classes, arrays' classes, statics -/
theorem xlw_tg {s : State} {args : Array Value} (hts : ∀ w ∈ lw_tbl, w.before args s = true) : ∀ w ∈ lw_g, w.before args s = true := fun w h => hts w (List.mem_filter.mp h).1
theorem xlw_ao : (Cond.arrayOver (.object "HyperHost$Frame")) ∈ lw_tbl := List.mem_of_getElem? (i := 108) (by decide +kernel)
theorem xlw_K {s : State} {args : Array Value} (hts : ∀ w ∈ lw_tbl, w.before args s = true) : ∃ (D : va_G) (k : ClassId × ClassId), va_K D xCl (xTy k) s := by
  have htg := xlw_tg hts
  obtain ⟨c0, i0, h0⟩ := u_known htg xin_H (htg _ xw_16)
  obtain ⟨c1, i1, h1⟩ := u_known htg xin_Z (htg _ xw_717)
  obtain ⟨c2, i2, h2⟩ := u_known htg xin_B (htg _ xw_61)
  obtain ⟨c3, i3, h3⟩ := u_known htg xin_K (htg _ xw_55)
  obtain ⟨c4, i4, h4⟩ := u_known htg xin_C (htg _ xw_24)
  obtain ⟨c5, i5, h5⟩ := u_known htg xin_F (htg _ xw_294)
  obtain ⟨c6, i6, h6⟩ := u_known htg xin_M (htg _ xw_30)
  obtain ⟨c7, i7, h7⟩ := u_known htg xin_T (htg _ xw_47)
  obtain ⟨c8, i8, h8⟩ := u_known htg xin_P (htg _ xw_153)
  obtain ⟨cA, kA, comp, hA1, hA2, hA3⟩ := Cond.arrayClass_spec (htg _ xw_45)
  obtain ⟨fo, cF, kF, hF1, _, hF2, hF3, hF4⟩ := Cond.arrayOver_spec (hts _ xlw_ao)
  refine ⟨(fun c => [c0, c1, c2, c3, c4, c5, c6, c7, c8].getD c 0, fun c => [i0, i1, i2, i3, i4, i5, i6, i7, i8].getD c (fun _ => 0)), (cA, cF), ?_, ?_⟩
  · intro c q hq
    match c, hq with
    | 0, hq => cases hq; exact h0
    | 1, hq => cases hq; exact h1
    | 2, hq => cases hq; exact h2
    | 3, hq => cases hq; exact h3
    | 4, hq => cases hq; exact h4
    | 5, hq => cases hq; exact h5
    | 6, hq => cases hq; exact h6
    | 7, hq => cases hq; exact h7
    | 8, hq => cases hq; exact h8
    | n + 9, hq => cases hq
  · intro j q hq
    match j, hq with
    | 0, hq => cases hq; exact ⟨fun n z => ⟨fun k h => (by cases h), kA, hA2, comp, hA3⟩, hA1⟩
    | 1, hq => cases hq; exact ⟨fun n z => ⟨fun k h => (by cases h), kF, hF2, fo, hF3⟩, kF, fo, hF2, hF3, hF1, hF4⟩
    | n + 2, hq => cases hq
