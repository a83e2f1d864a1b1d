theorem xdef_H : ∀ j, j < 1 → defaultValue (xT_H j) = vp_V [.null] j := by
  intro j hj
  have h9 : j = 0 := by omega
  subst h9
  rfl
theorem xdef_Z : ∀ j, j < 27 → defaultValue (xT_Z j) = vp_V [.null, .null, .int 0, .int 0, .long 0, .long 0, .int 0, .int 0, .null, .null, .int 0, .int 0, .int 0, .int 0, .int 0, .int 0, .int 0, .long 0, .int 0, .int 0, .int 0, .int 0, .int 0, .int 0, .int 0, .int 0, .int 0] j := by
  intro j hj
  have h9 : j = 0 ∨ j = 1 ∨ j = 2 ∨ j = 3 ∨ j = 4 ∨ j = 5 ∨ j = 6 ∨ j = 7 ∨ j = 8 ∨ j = 9 ∨ j = 10 ∨ j = 11 ∨ j = 12 ∨ j = 13 ∨ j = 14 ∨ j = 15 ∨ j = 16 ∨ j = 17 ∨ j = 18 ∨ j = 19 ∨ j = 20 ∨ j = 21 ∨ j = 22 ∨ j = 23 ∨ j = 24 ∨ j = 25 ∨ j = 26 := by omega
  rcases h9 with rfl | rfl | rfl | rfl | rfl | rfl | rfl | rfl | rfl | rfl | rfl | rfl | rfl | rfl | rfl | rfl | rfl | rfl | rfl | rfl | rfl | rfl | rfl | rfl | rfl | rfl | rfl <;> rfl
theorem xlt7 {i L : Nat} (hL : L ≤ 3584) (hi : i ≤ L) (h : ¬ (Int32.ofNat L - 7 < nI i)) : i + 7 ≤ L := by
  have e1 : (Int32.ofNat L - 7).toInt = (L : Int) - 7 := by
    rw [Int32.toInt_sub, Int32.toInt_ofNat_of_lt (by omega), show ((7 : Int32).toInt) = 7 by decide]
    exact Int.bmod_eq_of_le (by omega) (by omega)
  have e2 : (nI i).toInt = (i : Int) := Int32.toInt_ofNat_of_lt (by omega)
  rw [Int32.lt_iff_toInt_lt, e1, e2] at h
  omega
section XLE
variable {p : Program} {l : Launch} {e : Env} {s : State} {m : MethodId} {below : List Frame} {meth : Method} {c : Code} {Q : State → Prop} {b L : Nat} {xs : Nat → Int32} {D : va_G} {z : (Nat → Nat) × (Nat → Nat)} {k : ClassId × ClassId} {a bz : Nat → Nat} {i : Nat}
theorem xlaw_end (hx : p.tables.exec = Jvm.exec) (hb : c.code = code) (hr : meth.sig.returnType = ret) (hlocks : meth.locks = false) : xAt p l e s m below meth c (lw_Z below #[Value.ref b] s) b D k a bz 518 i := by
  intro u v g H locs ls _ _ _ _ _ hS
  have hmx := xcH_max u
  refine lv_iconst (v := 1) hx hb xd_L_law_518 (by decide) ?_
  exact va_forget hS.2.2 (W.widen (by omega) (by omega) (lw_ret hx hb hr hlocks xd_L_law_519))
theorem xlaw_512 (hx : p.tables.exec = Jvm.exec) (hb : c.code = code) (nx : xAt p l e s m below meth c Q b D k a bz 18 (i + 7)) : xAt p l e s m below meth c Q b D k a bz 512 i := by
  intro u v g H locs ls hr hg hl hP hD hS
  refine lv_iinc (k := 0) (v := nI (i + 7)) (lv' := [(3, .int (nI (i + 7))), (2, .ref (bz 0)), (1, .ref (a 0)), (0, .ref b)]) hx hb xd_L_law_512 hl rfl ((Int32.ofNat_add i 7).symm) (by decide) rfl (fun ls hl => ?_)
  refine lv_goto (tgt := 18) hx hb xd_L_law_515 rfl ?_
  exact nx u v g H locs ls hr hg hl hP hD hS
set_option maxHeartbeats 4000000 in
set_option maxRecDepth 100000 in
theorem xlaw_18 (hx : p.tables.exec = Jvm.exec) (hb : c.code = code) (hml : c.maxLocals = 4) (htg : ∀ w ∈ lw_g, w.before #[Value.ref b] s = true) (hown : s.vm.findClass "HyperHostLaw" = some m.cls) (hX : va_X b L xs s s.heap) (hbl : b < s.heap.size) (hK : va_K D xCl (xTy k) s) (hE : xS z (fun q => s.heap.size ≤ q) s s.heap) (hL : L ≤ 3584) (hiL : i ≤ L) (ne : xAt p l e s m below meth c Q b D k a bz 518 i) (nx : i + 7 ≤ L → xAt p l e s m below meth c Q b D k a bz 512 i) : xAt p l e s m below meth c Q b D k a bz 18 i := by
  intro u v g H locs ls hr hg hl hP hD hS
  have hbA : ¬ (fun q => s.heap.size ≤ q) b := Nat.not_le.mpr hbl
  refine lv_iload_n hx hb xd_L_law_18 rfl (lv_at hl 0 rfl) ?_
  refine lv_aload_n hx hb xd_L_law_19 rfl (lv_at hl 3 rfl) ?_
  refine va_slen hx hb hX hbl hbA hS xd_L_law_20 ?_
  refine lv_bipush (v := 7) hx hb xd_L_law_21 (by decide) ?_
  refine lv_isub hx hb xd_L_law_23 ?_
  refine lv_icmp_gt (tgt := 518) hx hb xd_L_law_24 rfl (fun _ => ne u v g H locs ls hr hg hl hP hD hS) (fun hlt => ?_)
  have hi : i + 7 ≤ L := xlt7 hL hiL hlt
  have nx := nx hi
  refine lv_aload_n hx hb xd_L_law_27 rfl (lv_at hl 3 rfl) ?_
  refine lv_iload_n hx hb xd_L_law_28 rfl (lv_at hl 0 rfl) ?_
  refine va_sld hx hb hX hbl hbA hS (nI_in (by omega) (by omega)) xd_L_law_29 ?_
  refine lv_bipush (v := 15) hx hb xd_L_law_30 (by decide) ?_
  refine lv_iand hx hb xd_L_law_32 ?_
  generalize hy : xs (nI i).toNatClampNeg &&& (15 : Int32) = y
  by_cases h0 : y = 0
  · refine lv_tableIn (tgt := 104) (off := 71) hx hb xd_L_law_33 (by rw [h0]; decide) (by rw [h0]; decide) (by rw [h0]; decide +kernel) rfl ?_
    exact xcase_begin hx hb hml htg hown hX hbl hK hE hL hi nx u v g H locs ls hr hg hl hP hD hS
  by_cases h1 : y = 1
  · refine lv_tableIn (tgt := 115) (off := 82) hx hb xd_L_law_33 (by rw [h1]; decide) (by rw [h1]; decide) (by rw [h1]; decide +kernel) rfl ?_
    exact xcase_poke hx hb hml htg hown hX hbl hK hE hL hi nx u v g H locs ls hr hg hl hP hD hS
  by_cases h2 : y = 2
  · refine lv_tableIn (tgt := 190) (off := 157) hx hb xd_L_law_33 (by rw [h2]; decide) (by rw [h2]; decide) (by rw [h2]; decide +kernel) rfl ?_
    exact xcase_word hx hb hml htg hown hX hbl hK hE hL hi nx u v g H locs ls hr hg hl hP hD hS
  by_cases h3 : y = 3
  · refine lv_tableIn (tgt := 213) (off := 180) hx hb xd_L_law_33 (by rw [h3]; decide) (by rw [h3]; decide) (by rw [h3]; decide +kernel) rfl ?_
    exact xcase_sum hx hb hml htg hown hX hbl hK hE hL hi nx u v g H locs ls hr hg hl hP hD hS
  by_cases h4 : y = 4
  · refine lv_tableIn (tgt := 246) (off := 213) hx hb xd_L_law_33 (by rw [h4]; decide) (by rw [h4]; decide) (by rw [h4]; decide +kernel) rfl ?_
    exact xcase_setRegister hx hb hml htg hown hX hbl hK hE hL hi nx u v g H locs ls hr hg hl hP hD hS
  by_cases h5 : y = 5
  · refine lv_tableIn (tgt := 279) (off := 246) hx hb xd_L_law_33 (by rw [h5]; decide) (by rw [h5]; decide) (by rw [h5]; decide +kernel) rfl ?_
    exact xcase_register hx hb hml htg hown hX hbl hK hE hL hi nx u v g H locs ls hr hg hl hP hD hS
  by_cases h6 : y = 6
  · refine lv_tableIn (tgt := 302) (off := 269) hx hb xd_L_law_33 (by rw [h6]; decide) (by rw [h6]; decide) (by rw [h6]; decide +kernel) rfl ?_
    exact xcase_setControl hx hb hml htg hown hX hbl hK hE hL hi nx u v g H locs ls hr hg hl hP hD hS
  by_cases h7 : y = 7
  · refine lv_tableIn (tgt := 335) (off := 302) hx hb xd_L_law_33 (by rw [h7]; decide) (by rw [h7]; decide) (by rw [h7]; decide +kernel) rfl ?_
    exact xcase_control hx hb hml htg hown hX hbl hK hE hL hi nx u v g H locs ls hr hg hl hP hD hS
  by_cases h8 : y = 8
  · refine lv_tableIn (tgt := 358) (off := 325) hx hb xd_L_law_33 (by rw [h8]; decide) (by rw [h8]; decide) (by rw [h8]; decide +kernel) rfl ?_
    exact xcase_place hx hb hml htg hown hX hbl hK hE hL hi nx u v g H locs ls hr hg hl hP hD hS
  by_cases h9 : y = 9
  · refine lv_tableIn (tgt := 391) (off := 358) hx hb xd_L_law_33 (by rw [h9]; decide) (by rw [h9]; decide) (by rw [h9]; decide +kernel) rfl ?_
    exact xcase_line hx hb hml htg hown hX hbl hK hE hL hi nx u v g H locs ls hr hg hl hP hD hS
  by_cases h10 : y = 10
  · refine lv_tableIn (tgt := 430) (off := 397) hx hb xd_L_law_33 (by rw [h10]; decide) (by rw [h10]; decide) (by rw [h10]; decide +kernel) rfl ?_
    exact xcase_run hx hb hml htg hown hX hbl hK hE hL hi nx u v g H locs ls hr hg hl hP hD hS
  by_cases h11 : y = 11
  · refine lv_tableIn (tgt := 453) (off := 420) hx hb xd_L_law_33 (by rw [h11]; decide) (by rw [h11]; decide) (by rw [h11]; decide +kernel) rfl ?_
    exact xcase_count hx hb hml htg hown hX hbl hK hE hL hi nx u v g H locs ls hr hg hl hP hD hS
  by_cases h12 : y = 12
  · refine lv_tableIn (tgt := 476) (off := 443) hx hb xd_L_law_33 (by rw [h12]; decide) (by rw [h12]; decide) (by rw [h12]; decide +kernel) rfl ?_
    exact xcase_console hx hb hml htg hown hX hbl hK hE hL hi nx u v g H locs ls hr hg hl hP hD hS
  by_cases h13 : y = 13
  · refine lv_tableIn (tgt := 499) (off := 466) hx hb xd_L_law_33 (by rw [h13]; decide) (by rw [h13]; decide) (by rw [h13]; decide +kernel) rfl ?_
    exact xcase_breaches hx hb hml htg hown hX hbl hK hE hL hi nx u v g H locs ls hr hg hl hP hD hS
  refine lv_tableOut (tgt := 512) hx hb xd_L_law_33 (xsw_out [0, 1, 2, 3, 4, 5, 6, 7, 8, 9, 10, 11, 12, 13] (by decide) (by simp only [List.forall_mem_cons, List.not_mem_nil, false_imp_iff, implies_true, and_true]; exact ⟨h0, h1, h2, h3, h4, h5, h6, h7, h8, h9, h10, h11, h12, h13⟩)) rfl ?_
  exact nx u v g H locs ls hr hg hl hP hD hS
theorem xlaw_loop (hx : p.tables.exec = Jvm.exec) (hb : c.code = code) (hml : c.maxLocals = 4) (htg : ∀ w ∈ lw_g, w.before #[Value.ref b] s = true) (hown : s.vm.findClass "HyperHostLaw" = some m.cls) (hX : va_X b L xs s s.heap) (hbl : b < s.heap.size) (hK : va_K D xCl (xTy k) s) (hE : xS z (fun q => s.heap.size ≤ q) s s.heap) (hL : L ≤ 3584) (ne : ∀ i, xAt p l e s m below meth c Q b D k a bz 518 i) : ∀ (d i : Nat), i + d = L → xAt p l e s m below meth c Q b D k a bz 18 i := by
  intro d
  induction d using Nat.strongRecOn with
  | _ d ih =>
    intro i hid
    exact xlaw_18 hx hb hml htg hown hX hbl hK hE hL (by omega) (ne i) (fun hi => xlaw_512 hx hb (ih (d - 7) (by omega) (i + 7) (by omega)))
end XLE
set_option maxHeartbeats 4000000 in
set_option maxRecDepth 100000 in
/-- YOUR PART: from the entry, for every script of at most 3584 ints, the law comes to its end with true -/
theorem whole_start {p : Program} {e : Env} {s : State} {m : MethodId} {below : List Frame} {meth : Method} {c : Code} (l : Launch) {b L : Nat} {xs : Nat → Int32} (hL : L ≤ 3584) (C0 : lw_At p s m meth c b L xs) : W p l e room_1 s m #[Value.ref b] below meth c s.heap [] 0 0 (lw_Z below #[Value.ref b] s) (entryFrame m ([Value.ref b] : List Value).toArray 4) := by
  obtain ⟨hx, hb, hr, hml, hown, hts, hX, hbl, hlocks, hgv⟩ := C0
  have hown : s.vm.findClass "HyperHostLaw" = some m.cls := hown
  have htg := xlw_tg hts
  obtain ⟨D, k, hK⟩ := xlw_K hts
  obtain ⟨z, hE⟩ := xlw_S hts hgv
  rw [lg_entry_eq m [Value.ref b] 4]
  have hl : lv_has _ 4 [(0, Value.ref b)] := lv_entry [Value.ref b] (n := 4) (Nat.le_of_ble_eq_true rfl)
  generalize (lg_sl [Value.ref b] ++ List.replicate (4 - (lg_sl [Value.ref b]).length) Slot.unset).toArray = ls at hl ⊢
  have hA : ∀ q : Nat, s.heap.size ≤ q → (fun q => s.heap.size ≤ q) q := fun _ h => h
  have hP : va_P D xCl [] s.heap := va_P0
  have hD : va_D (fun q => s.heap.size ≤ q) [] := va_D0
  have hS : va_S (fun q => s.heap.size ≤ q) s.heap s.heap [] := va_S.rf
  refine va_new (ci := 0) (fs := [.null]) hx hb htg xin_H xT_H xO_H hown (htg _ xw_15) (htg _ xw_16) (htg _ xw_1) hK hP hD hS hA rfl xdef_H (Nat.le_of_ble_eq_true rfl) (Nat.le_of_ble_eq_true rfl) xd_L_law_0 (fun q H hP hD hS => ?_)
  refine lv_dup hx hb xd_L_law_3 rfl ?_
  refine xcS_v (wf := (fun w : (Nat × Nat × Nat × Nat × Nat × Nat × Nat × Nat × Nat × Nat × Nat × Nat) × XH × XG => xWH k (xadrH w.1) w.2.2 w.2.1)) (X := []) (w := [(q, .inr (0, [.null]))]) (Y := []) (va_runI (As := []) (rest := [.ref q]) ⟨hx, hb, hml, hown, htg⟩ (c_H_init l D z k H.size q) (cwI 0 htg (xg_C0 xkin_H_init) rfl rfl rfl (htg _ xw_1) (htg _ xw_17) (htg _ xw_18) rfl (by decide +kernel) ⟨Nat.le_of_ble_eq_true rfl, Nat.le_of_ble_eq_true rfl⟩) ⟨xB_blind, fun U hU hW => xB_mk (xPs (X := []) (Y := []) hP) hK (xDs (X := []) (Y := []) hD) hE hS (xsubS (X := []) (Y := []) hD hA hS) hU hW⟩ rfl rfl hl.1 rfl (lv_room (Nat.le_of_ble_eq_true rfl)) xd_L_law_4 ⟨Nat.le_of_ble_eq_true rfl, Nat.le_of_ble_eq_true rfl⟩) hP hD hA hS (fun w1 H locs hw hP hD hS => ?_)
  obtain ⟨aw, u, g⟩ := w1
  obtain ⟨hq, hu, hg⟩ := hw
  have hq : aw.1 = q := hq
  have hu : u = xf_C_reset xH0 := hu
  have hg : xok k g u := hg
  have hP : va_P D xCl (xWH k (xadrH aw) g u) H := by
    have h9 : va_P D xCl (xWH k (xadrH aw) g u ++ []) H := hP
    rwa [List.append_nil] at h9
  have hD : va_D (fun q => s.heap.size ≤ q) (xWH k (xadrH aw) g u) := by
    have h9 : va_D (fun q => s.heap.size ≤ q) (xWH k (xadrH aw) g u ++ []) := hD
    rwa [List.append_nil] at h9
  have ha0 : q = xadrH aw 0 := hq.symm
  generalize xadrH aw = a at hP hD ha0
  rw [ha0]
  refine lv_astore_n (lv' := [(1, .ref (a 0)), (0, .ref b)]) hx hb xd_L_law_7 rfl hl (by decide) rfl (fun ls hl => ?_)
  refine va_new (ci := 1) (fs := [.null, .null, .int 0, .int 0, .long 0, .long 0, .int 0, .int 0, .null, .null, .int 0, .int 0, .int 0, .int 0, .int 0, .int 0, .int 0, .long 0, .int 0, .int 0, .int 0, .int 0, .int 0, .int 0, .int 0, .int 0, .int 0]) hx hb htg xin_Z xT_Z xO_Z hown (htg _ xw_716) (htg _ xw_717) (htg _ xw_9) hK hP hD hS hA rfl xdef_Z (Nat.le_of_ble_eq_true rfl) (Nat.le_of_ble_eq_true rfl) xd_L_law_8 (fun q H hP hD hS => ?_)
  refine lv_dup hx hb xd_L_law_11 rfl ?_
  refine xcS_v (wf := (fun w : Nat × Nat × Nat × Nat => xWZ k (xadr q w) (xf_Z_clearMachine xZ0))) (X := xWH k a g u) (w := [(q, .inr (1, [.null, .null, .int 0, .int 0, .long 0, .long 0, .int 0, .int 0, .null, .null, .int 0, .int 0, .int 0, .int 0, .int 0, .int 0, .int 0, .long 0, .int 0, .int 0, .int 0, .int 0, .int 0, .int 0, .int 0, .int 0, .int 0]))]) (Y := []) (va_runI (As := []) (rest := [.ref q]) ⟨hx, hb, hml, hown, htg⟩ (c_Z_init l D z k H.size q) (cwI 0 htg (xg_C0 xkin_Z_init) rfl rfl rfl (htg _ xw_9) (htg _ xw_718) (htg _ xw_719) rfl (by decide +kernel) ⟨Nat.le_of_ble_eq_true rfl, Nat.le_of_ble_eq_true rfl⟩) ⟨xB_blind, fun U hU hW => xB_mk (xPs (X := xWH k a g u) (Y := []) hP) hK (xDs (X := xWH k a g u) (Y := []) hD) hE hS (xsubS (X := xWH k a g u) (Y := []) hD hA hS) hU hW⟩ rfl rfl hl.1 rfl (lv_room (Nat.le_of_ble_eq_true rfl)) xd_L_law_12 ⟨Nat.le_of_ble_eq_true rfl, Nat.le_of_ble_eq_true rfl⟩) hP hD hA hS (fun w2 H locs _ hP hD hS => ?_)
  have hP : va_P D xCl (xWH k a g u ++ (xWZ k (xadr q w2) (xf_Z_clearMachine xZ0) ++ [])) H := hP
  have hD : va_D (fun q => s.heap.size ≤ q) (xWH k a g u ++ (xWZ k (xadr q w2) (xf_Z_clearMachine xZ0) ++ [])) := hD
  rw [List.append_nil] at hP hD
  have hb0 : q = xadr q w2 0 := rfl
  generalize xadr q w2 = bz at hP hD hb0
  rw [hb0]
  have hv : yxRel u (xf_Z_clearMachine xZ0) := by rw [hu]; exact yr_start
  have hc : xcH u = 0 := by rw [hu]; exact xm_C_reset xH0
  generalize xf_Z_clearMachine xZ0 = v at hP hD hv
  refine lv_astore_n (lv' := [(2, .ref (bz 0)), (1, .ref (a 0)), (0, .ref b)]) hx hb xd_L_law_15 rfl hl (by decide) rfl (fun ls hl => ?_)
  refine lv_iconst (v := 0) hx hb xd_L_law_16 (by decide) ?_
  refine lv_istore_n (lv' := [(3, .int (nI 0)), (2, .ref (bz 0)), (1, .ref (a 0)), (0, .ref b)]) hx hb xd_L_law_17 rfl hl (by decide) rfl (fun ls hl => ?_)
  exact W.widen (by omega) (by omega) (xlaw_loop hx hb hml htg hown hX hbl hK hE hL (fun i => xlaw_end hx hb hr hlocks) L 0 (Nat.zero_add L) u v g H locs ls hv hg hl hP hD hS)
