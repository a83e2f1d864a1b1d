set_option maxRecDepth 100000 in
theorem xlw_s1 : ∀ i, i < 4 → (Cond.exactly (.static "HyperHost$Access" (xEnN.getD i "") "LHyperHost$Access;") "HyperHost$Access") ∈ flatC (Jvm.Cond.and given_1 narrow_1) := by decide +kernel
set_option maxRecDepth 100000 in
theorem xlw_s2 : ∀ q ∈ xEnF, ∀ i, i < 4 → (Cond.eq (.field (.static "HyperHost$Access" (xEnN.getD i "") "LHyperHost$Access;") q.1 q.2.1 q.2.2.1) (.int (q.2.2.2.getD i 0))) ∈ flatC (Jvm.Cond.and given_1 narrow_1) := by decide +kernel
set_option maxRecDepth 100000 in
theorem xlw_s3 : ∀ i, i < 4 → ∀ j, j < 4 → i ≠ j → ((Cond.not (.eq (.static "HyperHost$Access" (xEnN.getD i "") "LHyperHost$Access;") (.static "HyperHost$Access" (xEnN.getD j "") "LHyperHost$Access;"))) ∈ flatC (Jvm.Cond.and given_1 narrow_1) ∨ (Cond.not (.eq (.static "HyperHost$Access" (xEnN.getD j "") "LHyperHost$Access;") (.static "HyperHost$Access" (xEnN.getD i "") "LHyperHost$Access;"))) ∈ flatC (Jvm.Cond.and given_1 narrow_1)) := by decide +kernel
set_option maxRecDepth 100000 in
theorem xlw_t0 : (Cond.arrayOf (.static "HyperHost" "INTERRUPT_ORDER" "[I") .int) ∈ flatC (Jvm.Cond.and given_1 narrow_1) ∧ (Cond.eq (.length (.static "HyperHost" "INTERRUPT_ORDER" "[I")) (.int (Int32.ofNat 6))) ∈ flatC (Jvm.Cond.and given_1 narrow_1) ∧ ∀ j, j < 6 → (Cond.eq (.elem (.static "HyperHost" "INTERRUPT_ORDER" "[I") (.int (Int32.ofNat j))) (.int (xTab0.getD j 0))) ∈ flatC (Jvm.Cond.and given_1 narrow_1) := by decide +kernel
set_option maxRecDepth 100000 in
theorem xlw_t1 : (Cond.arrayOf (.static "HyperHostModel" "NUMBERS" "[I") .int) ∈ flatC (Jvm.Cond.and given_1 narrow_1) ∧ (Cond.eq (.length (.static "HyperHostModel" "NUMBERS" "[I")) (.int (Int32.ofNat 29))) ∈ flatC (Jvm.Cond.and given_1 narrow_1) ∧ ∀ j, j < 29 → (Cond.eq (.elem (.static "HyperHostModel" "NUMBERS" "[I") (.int (Int32.ofNat j))) (.int (xTab1.getD j 0))) ∈ flatC (Jvm.Cond.and given_1 narrow_1) := by decide +kernel
theorem xlw_l0 : (Cond.laysStatic "HyperHost" "INTERRUPT_ORDER" "[I") ∈ lw_tbl := List.mem_of_getElem? (i := 481) (by decide +kernel)
theorem xlw_l1 : (Cond.laysStatic "HyperHostModel" "NUMBERS" "[I") ∈ lw_tbl := List.mem_of_getElem? (i := 922) (by decide +kernel)
theorem xlw_l2 : (Cond.laysStatic "HyperHost$Access" "FETCH" "LHyperHost$Access;") ∈ lw_tbl := List.mem_of_getElem? (i := 492) (by decide +kernel)
theorem xlw_l3 : (Cond.laysStatic "HyperHost$Access" "LOAD" "LHyperHost$Access;") ∈ lw_tbl := List.mem_of_getElem? (i := 507) (by decide +kernel)
theorem xlw_l4 : (Cond.laysStatic "HyperHost$Access" "LOAD_FOR_EXECUTION" "LHyperHost$Access;") ∈ lw_tbl := List.mem_of_getElem? (i := 731) (by decide +kernel)
theorem xlw_l5 : (Cond.laysStatic "HyperHost$Access" "STORE" "LHyperHost$Access;") ∈ lw_tbl := List.mem_of_getElem? (i := 643) (by decide +kernel)
set_option maxRecDepth 100000 in
theorem xlw_nest : ∀ w ∈ xNest, w ∈ lw_tbl := by decide +kernel
theorem xlw_S {s : State} {args : Array Value} (hts : ∀ w ∈ lw_tbl, w.before args s = true) (hgv : (Jvm.Cond.and given_1 narrow_1).before args s = true) : ∃ z : (Nat → Nat) × (Nat → Nat), xS z (fun q => s.heap.size ≤ q) s s.heap := by
  have htg := xlw_tg hts
  have hs := flat_of_before _ hgv
  have hA : ∀ a : Nat, a < s.heap.size → ¬ (fun q => s.heap.size ≤ q) a := fun a h h2 => absurd h (Nat.not_lt.mpr h2)
  obtain ⟨ad, hE⟩ := va_Enof (E := "HyperHost$Access") (d := "LHyperHost$Access;") (nm := xEnN) (F := xEnF) (A := fun q => s.heap.size ≤ q) (s := s) (args := args)
    (fun i hi => by
      have h4 : i < 4 := hi
      have h9 : i = 0 ∨ i = 1 ∨ i = 2 ∨ i = 3 := by omega
      rcases h9 with rfl | rfl | rfl | rfl
      · exact hts _ xlw_l2
      · exact hts _ xlw_l3
      · exact hts _ xlw_l4
      · exact hts _ xlw_l5)
    (htg _ xw_12) (fun i hi => hs _ (xlw_s1 i hi)) (fun q hq i hi => hs _ (xlw_s2 q hq i hi))
    (fun i j hi hj hn => (xlw_s3 i hi j hj hn).elim (fun h => Or.inl (hs _ h)) (fun h => Or.inr (hs _ h))) hA
  obtain ⟨t0, e0, T0⟩ := va_Tof (f := fun j => .int (xTab0.getD j 0)) (A := fun q => s.heap.size ≤ q) (N := 6) (by decide) (hs _ xlw_t0.1) (va_eqt (hs _ xlw_t0.2.1)) (fun j hj => va_eqt (hs _ (xlw_t0.2.2 j hj))) hA
  obtain ⟨t1, e1, T1⟩ := va_Tof (f := fun j => .int (xTab1.getD j 0)) (A := fun q => s.heap.size ≤ q) (N := 29) (by decide) (hs _ xlw_t1.1) (va_eqt (hs _ xlw_t1.2.1)) (fun j hj => va_eqt (hs _ (xlw_t1.2.2 j hj))) hA
  refine ⟨(ad, fun i => if i = 0 then t0 else t1), hE, ⟨va_Zref (hts _ xlw_l0) (htg _ xw_1) e0 hA, T0⟩, ⟨va_Zref (hts _ xlw_l1) (htg _ xw_9) e1 hA, T1⟩, va_AO.of (hts _ xlw_ao), fun w hw => va_Nw.of (xNest_on w hw) (hts w (xlw_nest w hw))⟩
