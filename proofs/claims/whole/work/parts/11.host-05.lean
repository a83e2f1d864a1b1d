noncomputable def xf_C_startStep (u : XH) : Int32 × XH :=
  xlt (xf_P_clear u : XH) fun q1 =>
  xlt (xf_C_interrupted q1 : Int32 × XH) fun q2 =>
  if q2.1 = 0 then
    xlt (xf_T_translate q2.2 (xg_C_pc q2.2) (2 : Int32) 0 (xg_C_mode q2.2) : Int32 × XH) fun q4 =>
    if 0 ≤ q4.1 then
      xlt (xf_M_readWord 64 (xg_M q4.2).1 q4.1 : Int32 × XM1) fun q7 =>
      (1, (xs_C_next (xs_C_word (xs_M1 q4.2 q7.2) q7.1) ((xg_C_pc (xs_C_word (xs_M1 q4.2 q7.2) q7.1)) + (4 : Int32))))
    else
      (0, q4.2)
  else
    (0, q2.2)
set_option maxHeartbeats 4000000 in
set_option maxRecDepth 100000 in
theorem c_C_startStep (l : Launch) (D : va_G) (z : (Nat → Nat) × (Nat → Nat)) (k : ClassId × ClassId) (a : Nat → Nat) (g : XG) (sz : Nat) (u : XH) (hg : xok k g u) : Met l xy_C_startStep (xk_C_startStep :: lw_g) { frames := 4, cells := 0, slots := 0, locals := 121 } (va_Pc [.ref ((a 1))] (xB D (xTy k) z sz (xWH k a g u))) (va_Qi (fun r (q : XH × XG) => (r, q.1) = xf_C_startStep u ∧ xok k q.2 q.1) (fun q t => xQ D (xTy k) (xWH k a q.2 q.1) (va_A (xWH k a g u) sz) t) (va_A (xWH k a g u) sz)) 0 0 (va_A (xWH k a g u) sz) := by
  refine xopen_z (wf := fun q : XH × XG => xWH k a q.2 q.1) (lv := [(0, .ref ((a 1)))]) (by decide) rfl (Nat.le_of_ble_eq_true rfl) ?_
  intro p e s m args below meth c Q ls A H locs hx hb hml htg hown hin hK hP hD hE hS hA hl hret
  refine lv_aload_n hx hb xd_C_startStep_0 rfl (lv_at hl 0 rfl) ?_
  refine xget_C_trap hx hb htg hown hK hP (htg _ xw_208) xd_C_startStep_1 ?_
  refine xcW_v (va_runV (As := []) (rest := []) ⟨hx, hb, hml, hown, htg⟩ (c_P_clear l D z k a g H.size u hg) (cwV 0 htg (xg_V0 xkin_P_clear xw_393 xw_394 xsel_P_clear xw_7) rfl rfl rfl (by decide +kernel) ⟨Nat.le_of_ble_eq_true rfl, Nat.le_of_ble_eq_true rfl⟩) ⟨xB_blind, xrecv_P hK hP, fun U hU hW => xB_mk hP hK hD hE hS (xsubW hD hA hS) hU hW⟩ rfl rfl hl.1 rfl (lv_room (Nat.le_of_ble_eq_true rfl)) xd_C_startStep_4 ⟨Nat.le_of_ble_eq_true rfl, Nat.le_of_ble_eq_true rfl⟩) hD hA hS (fun w1 H locs hw hP hD hS => ?_)
  obtain ⟨u1, g⟩ := w1
  obtain ⟨q1, hq1⟩ : ∃ q, q = xf_P_clear u := ⟨_, rfl⟩
  obtain ⟨e2, hg⟩ := hw
  rw [← hq1] at e2
  obtain rfl : q1 = u1 := e2.symm
  have hP : va_P D xCl (xWH k a g q1) H := hP
  have hD : va_D A (xWH k a g q1) := hD
  have hg : xok k g q1 := hg
  refine lv_aload_n hx hb xd_C_startStep_7 rfl (lv_at hl 0 rfl) ?_
  refine xcW_i (va_runV (As := []) (rest := []) ⟨hx, hb, hml, hown, htg⟩ (c_C_interrupted l D z k a g H.size q1 hg) (cwV 0 htg (xg_V0 xkin_C_interrupted xw_397 xw_399 xsel_C_interrupted xw_2) rfl rfl rfl (by decide +kernel) ⟨Nat.le_of_ble_eq_true rfl, Nat.le_of_ble_eq_true rfl⟩) ⟨xB_blind, xrecv_C hK hP, fun U hU hW => xB_mk hP hK hD hE hS (xsubW hD hA hS) hU hW⟩ rfl rfl hl.1 rfl (lv_room (Nat.le_of_ble_eq_true rfl)) xd_C_startStep_8 ⟨Nat.le_of_ble_eq_true rfl, Nat.le_of_ble_eq_true rfl⟩) hD hA hS (fun r w1 H locs hw hP hD hS => ?_)
  obtain ⟨u1, g⟩ := w1
  obtain ⟨q2, hq2⟩ : ∃ q, q = xf_C_interrupted q1 := ⟨_, rfl⟩
  obtain ⟨e1, hg⟩ := hw
  rw [← hq2] at e1
  obtain rfl : r = q2.1 := congrArg Prod.fst e1
  obtain rfl : u1 = q2.2 := congrArg Prod.snd e1
  have hP : va_P D xCl (xWH k a g q2.2) H := hP
  have hD : va_D A (xWH k a g q2.2) := hD
  have hg : xok k g q2.2 := hg
  refine lv_if_eq (tgt := 16) hx hb xd_C_startStep_11 rfl (fun h3 => ?_) (fun h3 => ?_)
  · refine lv_aload_n hx hb xd_C_startStep_16 rfl (lv_at hl 0 rfl) ?_
    refine xget_C_translator hx hb htg hown hK hP (htg _ xw_203) xd_C_startStep_17 ?_
    refine lv_aload_n hx hb xd_C_startStep_20 rfl (lv_at hl 0 rfl) ?_
    refine xget_C_pc (v := (xg_C_pc q2.2)) hx hb htg hown hK hP (htg _ xw_211) rfl xd_C_startStep_21 ?_
    refine lv_iconst (v := 2) hx hb xd_C_startStep_24 (by decide) ?_
    refine va_gets hx hb (hE.1.1 0 (by decide)).1 hS hown (htg _ xw_419) (fun _ h9 => h9) xd_C_startStep_25 ?_
    refine lv_aload_n hx hb xd_C_startStep_28 rfl (lv_at hl 0 rfl) ?_
    refine xget_C_mode (v := (xg_C_mode q2.2)) hx hb htg hown hK hP (htg _ xw_213) rfl xd_C_startStep_29 ?_
    refine xcW_i (va_runV (As := [.int ((xg_C_pc q2.2)), .int 2, .ref ((z.1 0)), .int ((xg_C_mode q2.2))]) (rest := []) ⟨hx, hb, hml, hown, htg⟩ (c_T_translate l D z k a g H.size q2.2 hg (xg_C_pc q2.2) (2 : Int32) 0 (xg_C_mode q2.2) (by decide)) (cwV 4 htg (xg_V0 xkin_T_translate xw_421 xw_422 xsel_T_translate xw_4) rfl rfl rfl (by decide +kernel) ⟨Nat.le_of_ble_eq_true rfl, Nat.le_of_ble_eq_true rfl⟩) ⟨xB_blind, xrecv_T hK hP, fun U hU hW => xB_mk hP hK hD hE hS (xsubW hD hA hS) hU hW⟩ rfl rfl hl.1 rfl (lv_room (Nat.le_of_ble_eq_true rfl)) xd_C_startStep_32 ⟨Nat.le_of_ble_eq_true rfl, Nat.le_of_ble_eq_true rfl⟩) hD hA hS (fun r w1 H locs hw hP hD hS => ?_)
    obtain ⟨u1, g⟩ := w1
    obtain ⟨q4, hq4⟩ : ∃ q, q = xf_T_translate q2.2 (xg_C_pc q2.2) (2 : Int32) 0 (xg_C_mode q2.2) := ⟨_, rfl⟩
    obtain ⟨e1, hg⟩ := hw
    rw [← hq4] at e1
    obtain rfl : r = q4.1 := congrArg Prod.fst e1
    obtain rfl : u1 = q4.2 := congrArg Prod.snd e1
    have hP : va_P D xCl (xWH k a g q4.2) H := hP
    have hD : va_D A (xWH k a g q4.2) := hD
    have hg : xok k g q4.2 := hg
    refine lv_istore_n (lv' := [(1, .int (q4.1)), (0, .ref ((a 1)))]) hx hb xd_C_startStep_35 rfl hl (by decide) rfl (fun ls hl => ?_)
    refine lv_iload_n hx hb xd_C_startStep_36 rfl (lv_at hl 0 rfl) ?_
    refine lv_if_ge (tgt := 42) hx hb xd_C_startStep_37 rfl (fun h5 => ?_) (fun h5 => ?_)
    · refine lv_aload_n hx hb xd_C_startStep_42 rfl (lv_at hl 1 rfl) ?_
      refine lv_aload_n hx hb xd_C_startStep_43 rfl (lv_at hl 1 rfl) ?_
      refine xget_C_memory hx hb htg hown hK hP (htg _ xw_204) xd_C_startStep_44 ?_
      refine lv_iload_n hx hb xd_C_startStep_47 rfl (lv_at hl 0 rfl) ?_
      obtain ⟨q7, hq7⟩ : ∃ q, q = xf_M_readWord 64 (xg_M q4.2).1 q4.1 := ⟨_, rfl⟩
      refine xcM_i hq7 (va_runV (As := [.int (q4.1)]) (rest := [.ref ((a 1))]) ⟨hx, hb, hml, hown, htg⟩ (c_M_readWord l D z k H.size (a 8) (a 10) 64 (by decide) g.1 (xg_M q4.2).1 hg.1 q4.1) (cwV 1 htg (xg_V0 xkin_M_readWord xw_494 xw_310 xsel_M_readWord xw_3) rfl rfl rfl (by decide +kernel) ⟨Nat.le_of_ble_eq_true rfl, Nat.le_of_ble_eq_true rfl⟩) ⟨xB_blind, xrecv_M hK hP, fun U hU hW => xpre_M hP hK hD hE hS hA hU hW⟩ rfl rfl hl.1 rfl (lv_room (Nat.le_of_ble_eq_true rfl)) xd_C_startStep_48 ⟨Nat.le_of_ble_eq_true rfl, Nat.le_of_ble_eq_true rfl⟩) hP hD hA hS hg (fun g H locs hP hD hS hg => ?_)
      refine xput_C_word (v := q7.1) hx hb htg hown hK hP hD hS hg (htg _ xw_224) xd_C_startStep_51 (fun H locs hP hD hS hg => ?_)
      refine lv_aload_n hx hb xd_C_startStep_54 rfl (lv_at hl 1 rfl) ?_
      refine lv_aload_n hx hb xd_C_startStep_55 rfl (lv_at hl 1 rfl) ?_
      refine xget_C_pc (v := (xg_C_pc (xs_C_word (xs_M1 q4.2 q7.2) q7.1))) hx hb htg hown hK hP (htg _ xw_211) rfl xd_C_startStep_56 ?_
      refine lv_iconst (v := 4) hx hb xd_C_startStep_59 (by decide) ?_
      refine lv_iadd hx hb xd_C_startStep_60 ?_
      refine xput_C_next (v := ((xg_C_pc (xs_C_word (xs_M1 q4.2 q7.2) q7.1)) + (4 : Int32))) hx hb htg hown hK hP hD hS hg (htg _ xw_223) xd_C_startStep_61 (fun H locs hP hD hS hg => ?_)
      refine lv_iconst (v := 1) hx hb xd_C_startStep_64 (by decide) ?_
      exact hret _ ((xs_C_next (xs_C_word (xs_M1 q4.2 q7.2) q7.1) ((xg_C_pc (xs_C_word (xs_M1 q4.2 q7.2) q7.1)) + (4 : Int32))), g) H locs ls _ rfl ⟨(by unfold xf_C_startStep; exact (xlt_e hq1 (xlt_e hq2 (xit h3 (xlt_e hq4 (xit h5 (xlt_e hq7 rfl))))))), hg⟩ hP hD hS xd_C_startStep_65
    · refine lv_iconst (v := 0) hx hb xd_C_startStep_40 (by decide) ?_
      exact hret _ (q4.2, g) H locs ls _ rfl ⟨(by unfold xf_C_startStep; exact (xlt_e hq1 (xlt_e hq2 (xit h3 (xlt_e hq4 (xif h5 rfl)))))), hg⟩ hP hD hS xd_C_startStep_41
  · refine lv_iconst (v := 0) hx hb xd_C_startStep_14 (by decide) ?_
    exact hret _ (q2.2, g) H locs ls _ rfl ⟨(by unfold xf_C_startStep; exact (xlt_e hq1 (xlt_e hq2 (xif h3 rfl)))), hg⟩ hP hD hS xd_C_startStep_15
theorem xm_C_startStep (u : XH) : XE (xcH u) (xf_C_startStep u) := by unfold xf_C_startStep; exact (xlt_E (fun q1 hq1 => (xlt_E (fun q2 hq2 => (xit_E (xlt_E (fun q4 hq4 => (xit_E (xlt_E (fun q7 hq7 => (xcH_C_next.trans (xcH_C_word.trans ((xcH_rd hq7).trans ((XE_of hq4 (xm_T_translate q2.2 (xg_C_pc q2.2) (2 : Int32) 0 (xg_C_mode q2.2))).trans ((XE_of hq2 (xm_C_interrupted q1)).trans ((XEs_of hq1 (xm_P_clear u)).trans rfl)))))))) ((XE_of hq4 (xm_T_translate q2.2 (xg_C_pc q2.2) (2 : Int32) 0 (xg_C_mode q2.2))).trans ((XE_of hq2 (xm_C_interrupted q1)).trans ((XEs_of hq1 (xm_P_clear u)).trans rfl)))))) ((XE_of hq2 (xm_C_interrupted q1)).trans ((XEs_of hq1 (xm_P_clear u)).trans rfl)))))))
theorem xt01_C_startStep (u : XH) : X01p (xf_C_startStep u) := by unfold xf_C_startStep; exact (xlt_01p (fun q1 hq1 => (xlt_01p (fun q2 hq2 => (xit_01p (xlt_01p (fun q4 hq4 => (xit_01p (xlt_01p (fun q7 hq7 => (Or.inr rfl))) (Or.inl rfl)))) (Or.inl rfl))))))

noncomputable def xf_C_load (u : XH) (p0 : Int32) (p1 : Int32) (p2 : Int32) (p3 : Nat) (p4 : Int32) : XH :=
  xlt (xf_T_translate u p0 p1 p3 p4 : Int32 × XH) fun q1 =>
  if 0 ≤ q1.1 then
    xlt (xf_M_read 64 (xg_M q1.2).1 q1.1 p1 : Int32 × XM1) fun q4 =>
    xlt (xf_D_d (xg_C_word (xs_M1 q1.2 q4.2)) : Int32) fun r5 =>
    xlt (if p2 = 0 then (q4.1) else (if p1 = 2 then (q4.1) else (xlt (if p1 = 0 then (255) else (65535) : Int32) fun v9 => (q4.1 &&& v9))) : Int32) fun v12 =>
    xlt (xf_C_put (xs_M1 q1.2 q4.2) r5 v12 : XH) fun q14 =>
    q14
  else
    q1.2
set_option maxHeartbeats 4000000 in
set_option maxRecDepth 100000 in
theorem c_C_load (l : Launch) (D : va_G) (z : (Nat → Nat) × (Nat → Nat)) (k : ClassId × ClassId) (a : Nat → Nat) (g : XG) (sz : Nat) (u : XH) (hg : xok k g u) (p0 : Int32) (p1 : Int32) (p2 : Int32) (p3 : Nat) (p4 : Int32) (hac : p3 < 4) : Met l xy_C_load (xk_C_load :: lw_g) { frames := 4, cells := 0, slots := 0, locals := 121 } (va_Pc [.ref ((a 1)), .int p0, .int p1, .int p2, .ref ((z.1 p3)), .int p4] (xB D (xTy k) z sz (xWH k a g u))) (va_Qv (fun q : XH × XG => q.1 = xf_C_load u p0 p1 p2 p3 p4 ∧ xok k q.2 q.1) (fun q t => xQ D (xTy k) (xWH k a q.2 q.1) (va_A (xWH k a g u) sz) t) (va_A (xWH k a g u) sz)) 0 0 (va_A (xWH k a g u) sz) := by
  refine xopen_v (wf := fun q : XH × XG => xWH k a q.2 q.1) (lv := [(0, .ref ((a 1))), (1, .int p0), (2, .int p1), (3, .int p2), (4, .ref ((z.1 p3))), (5, .int p4)]) (by decide) rfl (Nat.le_of_ble_eq_true rfl) ?_
  intro p e s m args below meth c Q ls A H locs hx hb hml htg hown hin hK hP hD hE hS hA hl hret
  refine lv_aload_n hx hb xd_C_load_0 rfl (lv_at hl 0 rfl) ?_
  refine xget_C_translator hx hb htg hown hK hP (htg _ xw_203) xd_C_load_1 ?_
  refine lv_iload_n hx hb xd_C_load_4 rfl (lv_at hl 1 rfl) ?_
  refine lv_iload_n hx hb xd_C_load_5 rfl (lv_at hl 2 rfl) ?_
  refine lv_aload hx hb xd_C_load_6 (lv_at hl 4 rfl) ?_
  refine lv_iload hx hb xd_C_load_8 (lv_at hl 5 rfl) ?_
  refine xcW_i (va_runV (As := [.int p0, .int p1, .ref ((z.1 p3)), .int p4]) (rest := []) ⟨hx, hb, hml, hown, htg⟩ (c_T_translate l D z k a g H.size u hg p0 p1 p3 p4 hac) (cwV 4 htg (xg_V0 xkin_T_translate xw_421 xw_422 xsel_T_translate xw_4) rfl rfl rfl (by decide +kernel) ⟨Nat.le_of_ble_eq_true rfl, Nat.le_of_ble_eq_true rfl⟩) ⟨xB_blind, xrecv_T hK hP, fun U hU hW => xB_mk hP hK hD hE hS (xsubW hD hA hS) hU hW⟩ rfl rfl hl.1 rfl (lv_room (Nat.le_of_ble_eq_true rfl)) xd_C_load_10 ⟨Nat.le_of_ble_eq_true rfl, Nat.le_of_ble_eq_true rfl⟩) hD hA hS (fun r w1 H locs hw hP hD hS => ?_)
  obtain ⟨u1, g⟩ := w1
  obtain ⟨q1, hq1⟩ : ∃ q, q = xf_T_translate u p0 p1 p3 p4 := ⟨_, rfl⟩
  obtain ⟨e1, hg⟩ := hw
  rw [← hq1] at e1
  obtain rfl : r = q1.1 := congrArg Prod.fst e1
  obtain rfl : u1 = q1.2 := congrArg Prod.snd e1
  have hP : va_P D xCl (xWH k a g q1.2) H := hP
  have hD : va_D A (xWH k a g q1.2) := hD
  have hg : xok k g q1.2 := hg
  refine lv_istore (lv' := [(6, .int (q1.1)), (0, .ref ((a 1))), (1, .int p0), (2, .int p1), (3, .int p2), (4, .ref ((z.1 p3))), (5, .int p4)]) hx hb xd_C_load_13 hl (by decide) rfl (fun ls hl => ?_)
  refine lv_iload hx hb xd_C_load_15 (lv_at hl 0 rfl) ?_
  refine lv_if_ge (tgt := 21) hx hb xd_C_load_17 rfl (fun h2 => ?_) (fun h2 => ?_)
  · refine lv_aload_n hx hb xd_C_load_21 rfl (lv_at hl 1 rfl) ?_
    refine xget_C_memory hx hb htg hown hK hP (htg _ xw_204) xd_C_load_22 ?_
    refine lv_iload hx hb xd_C_load_25 (lv_at hl 0 rfl) ?_
    refine lv_iload_n hx hb xd_C_load_27 rfl (lv_at hl 3 rfl) ?_
    obtain ⟨q4, hq4⟩ : ∃ q, q = xf_M_read 64 (xg_M q1.2).1 q1.1 p1 := ⟨_, rfl⟩
    refine xcM_i hq4 (va_runV (As := [.int (q1.1), .int p1]) (rest := []) ⟨hx, hb, hml, hown, htg⟩ (c_M_read l D z k H.size (a 8) (a 10) 64 (by decide) g.1 (xg_M q1.2).1 hg.1 q1.1 p1) (cwV 2 htg (xg_V0 xkin_M_read xw_524 xw_525 xsel_M_read xw_3) rfl rfl rfl (by decide +kernel) ⟨Nat.le_of_ble_eq_true rfl, Nat.le_of_ble_eq_true rfl⟩) ⟨xB_blind, xrecv_M hK hP, fun U hU hW => xpre_M hP hK hD hE hS hA hU hW⟩ rfl rfl hl.1 rfl (lv_room (Nat.le_of_ble_eq_true rfl)) xd_C_load_28 ⟨Nat.le_of_ble_eq_true rfl, Nat.le_of_ble_eq_true rfl⟩) hP hD hA hS hg (fun g H locs hP hD hS hg => ?_)
    refine lv_istore (lv' := [(7, .int (q4.1)), (6, .int (q1.1)), (0, .ref ((a 1))), (1, .int p0), (2, .int p1), (3, .int p2), (4, .ref ((z.1 p3))), (5, .int p4)]) hx hb xd_C_load_31 hl (by decide) rfl (fun ls hl => ?_)
    refine lv_aload_n hx hb xd_C_load_33 rfl (lv_at hl 2 rfl) ?_
    refine lv_aload_n hx hb xd_C_load_34 rfl (lv_at hl 2 rfl) ?_
    refine xget_C_word (v := (xg_C_word (xs_M1 q1.2 q4.2))) hx hb htg hown hK hP (htg _ xw_224) rfl xd_C_load_35 ?_
    refine xc0_i (va_runS (As := [.int ((xg_C_word (xs_M1 q1.2 q4.2)))]) (rest := [.ref ((a 1))]) ⟨hx, hb, hml, hown, htg⟩ (c_D_d l D (xTy k) z H.size (xg_C_word (xs_M1 q1.2 q4.2))) (va_cwS 1 htg (xg_S0 xkin_D_d xw_529 xw_530 xw_13) rfl rfl rfl (by decide +kernel) ⟨Nat.le_of_ble_eq_true rfl, Nat.le_of_ble_eq_true rfl⟩) ⟨xB_blind, fun U hU hW => xB_mk va_P0 hK va_D0 hE hS (xsub0 hA hS) hU hW⟩ rfl rfl hl.1 rfl (lv_room (Nat.le_of_ble_eq_true rfl)) xd_C_load_38 ⟨Nat.le_of_ble_eq_true rfl, Nat.le_of_ble_eq_true rfl⟩) hP hA hS (fun r5 H locs hr5 hP hS => ?_)
    refine lv_iload_n hx hb xd_C_load_41 rfl (lv_at hl 5 rfl) ?_
    have hj13 : ∀ (H : Heap) (locs : List Loc) (ls : Array Slot) (g : XG) (v12 : Int32), v12 = (if p2 = 0 then (q4.1) else (if p1 = 2 then (q4.1) else (xlt (if p1 = 0 then (255) else (65535) : Int32) fun v9 => (q4.1 &&& v9)))) → xok k g (xs_M1 q1.2 q4.2) → lv_has ls 8 [(7, .int (q4.1)), (6, .int (q1.1)), (0, .ref ((a 1))), (1, .int p0), (2, .int p1), (3, .int p2), (4, .ref ((z.1 p3))), (5, .int p4)] → va_P D xCl (xWH k a g (xs_M1 q1.2 q4.2)) H → va_D A (xWH k a g (xs_M1 q1.2 q4.2)) → va_S A s.heap H locs → W p l e { frames := 4, cells := 0, slots := 0, locals := 121 } s m args below meth c H locs (0) (0) Q (F0 m 71 ls [.int v12, .int r5, .ref ((a 1))]) := by
      intro H locs ls g v12 hv12 hg hl hP hD hS
      refine xcW_v (va_runV (As := [.int r5, .int v12]) (rest := []) ⟨hx, hb, hml, hown, htg⟩ (c_C_put l D z k a g H.size (xs_M1 q1.2 q4.2) hg r5 v12 (xin_eq hr5 (xin_d _))) (cwV 2 htg (xg_V0 xkin_C_put xw_533 xw_322 xsel_C_put xw_2) rfl rfl rfl (by decide +kernel) ⟨Nat.le_of_ble_eq_true rfl, Nat.le_of_ble_eq_true rfl⟩) ⟨xB_blind, xrecv_C hK hP, fun U hU hW => xB_mk hP hK hD hE hS (xsubW hD hA hS) hU hW⟩ rfl rfl hl.1 rfl (lv_room (Nat.le_of_ble_eq_true rfl)) xd_C_load_71 ⟨Nat.le_of_ble_eq_true rfl, Nat.le_of_ble_eq_true rfl⟩) hD hA hS (fun w1 H locs hw hP hD hS => ?_)
      obtain ⟨u1, g⟩ := w1
      obtain ⟨q14, hq14⟩ : ∃ q, q = xf_C_put (xs_M1 q1.2 q4.2) r5 v12 := ⟨_, rfl⟩
      obtain ⟨e2, hg⟩ := hw
      rw [← hq14] at e2
      obtain rfl : q14 = u1 := e2.symm
      have hP : va_P D xCl (xWH k a g q14) H := hP
      have hD : va_D A (xWH k a g q14) := hD
      have hg : xok k g q14 := hg
      exact hret (q14, g) H locs ls _ ⟨(by unfold xf_C_load; exact (xlt_e hq1 (xit h2 (xlt_e hq4 (xlt_e hr5 (xlt_e hv12 (xlt_e hq14 rfl))))))), hg⟩ hP hD hS xd_C_load_74
    refine lv_if_eq (tgt := 69) hx hb xd_C_load_42 rfl (fun h15 => ?_) (fun h15 => ?_)
    · refine lv_iload hx hb xd_C_load_69 (lv_at hl 0 rfl) ?_
      exact hj13 H locs ls g q4.1 (xit h15 rfl) hg hl hP hD hS
    · refine lv_iload_n hx hb xd_C_load_45 rfl (lv_at hl 4 rfl) ?_
      refine lv_iconst (v := 2) hx hb xd_C_load_46 (by decide) ?_
      refine lv_icmp_eq (tgt := 69) hx hb xd_C_load_47 rfl (fun h16 => ?_) (fun h16 => ?_)
      · refine lv_iload hx hb xd_C_load_69 (lv_at hl 0 rfl) ?_
        exact hj13 H locs ls g q4.1 (xif h15 (xit h16 rfl)) hg hl hP hD hS
      · refine lv_iload hx hb xd_C_load_50 (lv_at hl 0 rfl) ?_
        refine lv_iload_n hx hb xd_C_load_52 rfl (lv_at hl 4 rfl) ?_
        have hj19 : ∀ (H : Heap) (locs : List Loc) (ls : Array Slot) (g : XG) (v18 : Int32), v18 = (if p1 = 0 then (255) else (65535)) → xok k g (xs_M1 q1.2 q4.2) → lv_has ls 8 [(7, .int (q4.1)), (6, .int (q1.1)), (0, .ref ((a 1))), (1, .int p0), (2, .int p1), (3, .int p2), (4, .ref ((z.1 p3))), (5, .int p4)] → va_P D xCl (xWH k a g (xs_M1 q1.2 q4.2)) H → va_D A (xWH k a g (xs_M1 q1.2 q4.2)) → va_S A s.heap H locs → W p l e { frames := 4, cells := 0, slots := 0, locals := 121 } s m args below meth c H locs (0) (0) Q (F0 m 65 ls [.int v18, .int (q4.1), .int r5, .ref ((a 1))]) := by
          intro H locs ls g v18 hv18 hg hl hP hD hS
          refine lv_iand hx hb xd_C_load_65 ?_
          refine lv_goto (tgt := 71) hx hb xd_C_load_66 rfl ?_
          exact hj13 H locs ls g (q4.1 &&& v18) (xif h15 (xif h16 (xlt_e hv18 rfl))) hg hl hP hD hS
        refine lv_if_ne (tgt := 62) hx hb xd_C_load_53 rfl (fun h20 => ?_) (fun h20 => ?_)
        · refine lv_ldcw (v := 65535) hx hb hown (htg _ xw_532) xd_C_load_62 ?_
          exact hj19 H locs ls g (65535 : Int32) (xif h20 rfl) hg hl hP hD hS
        · refine lv_sipush (v := 255) hx hb xd_C_load_56 (by decide) ?_
          refine lv_goto (tgt := 65) hx hb xd_C_load_59 rfl ?_
          exact hj19 H locs ls g (255 : Int32) (xit h20 rfl) hg hl hP hD hS
  · exact hret (q1.2, g) H locs ls _ ⟨(by unfold xf_C_load; exact (xlt_e hq1 (xif h2 rfl))), hg⟩ hP hD hS xd_C_load_20
theorem xm_C_load (u : XH) (p0 : Int32) (p1 : Int32) (p2 : Int32) (p3 : Nat) (p4 : Int32) : XEs (xcH u) (xf_C_load u p0 p1 p2 p3 p4) := by unfold xf_C_load; exact (xlt_Es (fun q1 hq1 => (xit_Es (xlt_Es (fun q4 hq4 => (xlt_Es (fun r5 hr5 => (xlt_Es (fun v12 hv12 => (xlt_Es (fun q14 hq14 => ((XEs_of hq14 (xm_C_put (xs_M1 q1.2 q4.2) r5 v12)).trans ((xcH_rdr hq4).trans ((XE_of hq1 (xm_T_translate u p0 p1 p3 p4)).trans rfl))))))))))) ((XE_of hq1 (xm_T_translate u p0 p1 p3 p4)).trans rfl))))

noncomputable def xf_C_store (u : XH) (p0 : Int32) (p1 : Int32) (p2 : Int32) : XH :=
  xlt (xf_T_translate u p0 p1 3 p2 : Int32 × XH) fun q1 =>
  if q1.1 < 0 then
    q1.2
  else
    xlt (xf_D_b (xg_C_word q1.2) : Int32) fun r3 =>
    xlt (xf_M_write 64 (xg_M q1.2).1 q1.1 p1 ((xg_x q1.2) r3.toNatClampNeg) : XM1) fun q5 =>
    (xs_M1 q1.2 q5)
set_option maxHeartbeats 4000000 in
set_option maxRecDepth 100000 in
theorem c_C_store (l : Launch) (D : va_G) (z : (Nat → Nat) × (Nat → Nat)) (k : ClassId × ClassId) (a : Nat → Nat) (g : XG) (sz : Nat) (u : XH) (hg : xok k g u) (p0 : Int32) (p1 : Int32) (p2 : Int32) (kk : Nat) (hk : XN (xcH u + kk) (xf_C_store u p0 p1 p2)) : Met l xy_C_store (xk_C_store :: lw_g) { frames := 4, cells := 2 * kk, slots := 1025 * kk, locals := 121 } (va_Pc [.ref ((a 1)), .int p0, .int p1, .int p2] (xB D (xTy k) z sz (xWH k a g u))) (va_Qv (fun q : XH × XG => q.1 = xf_C_store u p0 p1 p2 ∧ xok k q.2 q.1) (fun q t => xQ D (xTy k) (xWH k a q.2 q.1) (va_A (xWH k a g u) sz) t) (va_A (xWH k a g u) sz)) (2 * kk) (1025 * kk) (va_A (xWH k a g u) sz) := by
  refine xopen_v (wf := fun q : XH × XG => xWH k a q.2 q.1) (lv := [(0, .ref ((a 1))), (1, .int p0), (2, .int p1), (3, .int p2)]) (by decide) rfl (Nat.le_of_ble_eq_true rfl) ?_
  intro p e s m args below meth c Q ls A H locs hx hb hml htg hown hin hK hP hD hE hS hA hl hret
  refine lv_aload_n hx hb xd_C_store_0 rfl (lv_at hl 0 rfl) ?_
  refine xget_C_translator hx hb htg hown hK hP (htg _ xw_203) xd_C_store_1 ?_
  refine lv_iload_n hx hb xd_C_store_4 rfl (lv_at hl 1 rfl) ?_
  refine lv_iload_n hx hb xd_C_store_5 rfl (lv_at hl 2 rfl) ?_
  refine va_gets hx hb (hE.1.1 3 (by decide)).1 hS hown (htg _ xw_570) (fun _ h9 => h9) xd_C_store_6 ?_
  refine lv_iload_n hx hb xd_C_store_9 rfl (lv_at hl 3 rfl) ?_
  refine xcW_i (va_runV (As := [.int p0, .int p1, .ref ((z.1 3)), .int p2]) (rest := []) ⟨hx, hb, hml, hown, htg⟩ (c_T_translate l D z k a g H.size u hg p0 p1 3 p2 (by decide)) (cwV 4 htg (xg_V0 xkin_T_translate xw_421 xw_422 xsel_T_translate xw_4) rfl rfl rfl (by decide +kernel) ⟨Nat.le_of_ble_eq_true rfl, Nat.le_of_ble_eq_true rfl⟩) ⟨xB_blind, xrecv_T hK hP, fun U hU hW => xB_mk hP hK hD hE hS (xsubW hD hA hS) hU hW⟩ rfl rfl hl.1 rfl (lv_room (Nat.le_of_ble_eq_true rfl)) xd_C_store_10 ⟨Nat.le_of_ble_eq_true rfl, Nat.le_of_ble_eq_true rfl⟩) hD hA hS (fun r w1 H locs hw hP hD hS => ?_)
  obtain ⟨u1, g⟩ := w1
  obtain ⟨q1, hq1⟩ : ∃ q, q = xf_T_translate u p0 p1 3 p2 := ⟨_, rfl⟩
  obtain ⟨e1, hg⟩ := hw
  rw [← hq1] at e1
  obtain rfl : r = q1.1 := congrArg Prod.fst e1
  obtain rfl : u1 = q1.2 := congrArg Prod.snd e1
  have hP : va_P D xCl (xWH k a g q1.2) H := hP
  have hD : va_D A (xWH k a g q1.2) := hD
  have hg : xok k g q1.2 := hg
  refine lv_istore (lv' := [(4, .int (q1.1)), (0, .ref ((a 1))), (1, .int p0), (2, .int p1), (3, .int p2)]) hx hb xd_C_store_13 hl (by decide) rfl (fun ls hl => ?_)
  refine lv_iload hx hb xd_C_store_15 (lv_at hl 0 rfl) ?_
  refine lv_if_lt (tgt := 42) hx hb xd_C_store_17 rfl (fun h2 => ?_) (fun h2 => ?_)
  · exact W.widen (by omega) (by omega) (hret (q1.2, g) H locs ls _ ⟨(by unfold xf_C_store; exact (xlt_e hq1 (xit h2 rfl))), hg⟩ hP hD hS xd_C_store_42)
  · refine lv_aload_n hx hb xd_C_store_20 rfl (lv_at hl 1 rfl) ?_
    refine xget_C_memory hx hb htg hown hK hP (htg _ xw_204) xd_C_store_21 ?_
    refine lv_iload hx hb xd_C_store_24 (lv_at hl 0 rfl) ?_
    refine lv_iload_n hx hb xd_C_store_26 rfl (lv_at hl 3 rfl) ?_
    refine lv_aload_n hx hb xd_C_store_27 rfl (lv_at hl 1 rfl) ?_
    refine xget_C_x hx hb htg hown hK hP (htg _ xw_199) xd_C_store_28 ?_
    refine lv_aload_n hx hb xd_C_store_31 rfl (lv_at hl 1 rfl) ?_
    refine xget_C_word (v := (xg_C_word q1.2)) hx hb htg hown hK hP (htg _ xw_224) rfl xd_C_store_32 ?_
    refine xc0_i (va_runS (As := [.int ((xg_C_word q1.2))]) (rest := [.ref ((a 2)), .int p1, .int (q1.1), .ref ((a 8))]) ⟨hx, hb, hml, hown, htg⟩ (c_D_b l D (xTy k) z H.size (xg_C_word q1.2)) (va_cwS 1 htg (xg_S0 xkin_D_b xw_545 xw_546 xw_13) rfl rfl rfl (by decide +kernel) ⟨Nat.le_of_ble_eq_true rfl, Nat.le_of_ble_eq_true rfl⟩) ⟨xB_blind, fun U hU hW => xB_mk va_P0 hK va_D0 hE hS (xsub0 hA hS) hU hW⟩ rfl rfl hl.1 rfl (lv_room (Nat.le_of_ble_eq_true rfl)) xd_C_store_35 ⟨Nat.le_of_ble_eq_true rfl, Nat.le_of_ble_eq_true rfl⟩) hP hA hS (fun r3 H locs hr3 hP hS => ?_)
    refine xald_x (f := (xg_x q1.2)) hx hb hK hP (xin_eq hr3 (xin_b _)) rfl xd_C_store_38 ?_
    obtain ⟨q5, hq5⟩ : ∃ q, q = xf_M_write 64 (xg_M q1.2).1 q1.1 p1 ((xg_x q1.2) r3.toNatClampNeg) := ⟨_, rfl⟩
    refine xcM_v hq5 (va_runV (As := [.int (q1.1), .int p1, .int (((xg_x q1.2) r3.toNatClampNeg))]) (rest := []) ⟨hx, hb, hml, hown, htg⟩ (c_M_write l D z k H.size (a 8) (a 10) 64 (by decide) g.1 (xg_M q1.2).1 hg.1 q1.1 p1 ((xg_x q1.2) r3.toNatClampNeg) kk (by unfold xf_C_store at hk; have hk0 := xlt_k hq1 hk; have hk1 := xif_k h2 hk0; have hk2 := xlt_k hr3 hk1; exact xkM1 (u := u) ((XE_of hq1 (xm_T_translate u p0 p1 3 p2)).trans rfl) (fun _ => rfl) hk2)) (cwV 3 htg (xg_V0 xkin_M_write xw_572 xw_573 xsel_M_write xw_3) rfl rfl rfl (by decide +kernel) ⟨Nat.le_of_ble_eq_true rfl, Nat.le_of_ble_eq_true rfl⟩) ⟨xB_blind, xrecv_M hK hP, fun U hU hW => xpre_M hP hK hD hE hS hA hU hW⟩ rfl rfl hl.1 rfl (lv_room (Nat.le_of_ble_eq_true rfl)) xd_C_store_39 ⟨by show 0 + 2 * kk ≤ 2 * kk; omega, by show 0 + 1025 * kk ≤ 1025 * kk; omega⟩) hP hD hA hS hg (fun g H locs hP hD hS hg => ?_)
    exact W.widen (by omega) (by omega) (hret ((xs_M1 q1.2 q5), g) H locs ls _ ⟨(by unfold xf_C_store; exact (xlt_e hq1 (xif h2 (xlt_e hr3 (xlt_e hq5 rfl))))), hg⟩ hP hD hS xd_C_store_42)

noncomputable def xf_C_systemOp (u : XH) : XH :=
  xlt (xf_D_g (xg_C_word u) : Int32) fun r1 =>
  xlt (xf_D_d (xg_C_word u) : Int32) fun r2 =>
  if r2 = 0 then
    if r1 = 9 then
      xlt (xf_C_isSet u (1048576 : Int32) : Int32) fun q22 =>
      xlt (xf_C_mayDo u q22 : Int32 × XH) fun q23 =>
      q23.2
    else
      if r1 = 17 then
        xlt (xf_C_mayDo u (1 : Int32) : Int32 × XH) fun q6 =>
        q6.2
      else
        if r1 = 49 then
          xlt (xf_C_mayDo u (1 : Int32) : Int32 × XH) fun q21 =>
          q21.2
        else
          xlt (xf_D_a (xg_C_word u) : Int32) fun r8 =>
          if r8 = 0 then
            if (xus (xg_C_word u) (20 : Int32)) = 0 then
              xlt (xf_C_environmentCall u : XH) fun q11 =>
              q11
            else
              if (xus (xg_C_word u) (20 : Int32)) = 1 then
                xlt (xf_P_raise u (3 : Int32) (xg_C_pc u) : XH) fun q13 =>
                q13
              else
                if (xus (xg_C_word u) (20 : Int32)) = 258 then
                  xlt (xf_C_returnFromTrap u : XH) fun q15 =>
                  q15
                else
                  if (xus (xg_C_word u) (20 : Int32)) = 261 then
                    xlt (xf_C_isSet u (2097152 : Int32) : Int32) fun q17 =>
                    xlt (xf_C_mayDo u q17 : Int32 × XH) fun q18 =>
                    q18.2
                  else
                    xlt (xf_C_refuse u (2 : Int32) : XH) fun q19 =>
                    q19
          else
            xlt (xf_C_refuse u (2 : Int32) : XH) fun q20 =>
            q20
  else
    xlt (xf_C_refuse u (2 : Int32) : XH) fun q24 =>
    q24
set_option maxHeartbeats 4000000 in
set_option maxRecDepth 100000 in
theorem c_C_systemOp (l : Launch) (D : va_G) (z : (Nat → Nat) × (Nat → Nat)) (k : ClassId × ClassId) (a : Nat → Nat) (g : XG) (sz : Nat) (u : XH) (hg : xok k g u) (kk : Nat) (hk : XN (xcH u + kk) (xf_C_systemOp u)) : Met l xy_C_systemOp (xk_C_systemOp :: lw_g) { frames := 6, cells := 2 * kk, slots := 1025 * kk, locals := 131 } (va_Pc [.ref ((a 1))] (xB D (xTy k) z sz (xWH k a g u))) (va_Qv (fun q : XH × XG => q.1 = xf_C_systemOp u ∧ xok k q.2 q.1) (fun q t => xQ D (xTy k) (xWH k a q.2 q.1) (va_A (xWH k a g u) sz) t) (va_A (xWH k a g u) sz)) (2 * kk) (1025 * kk) (va_A (xWH k a g u) sz) := by
  refine xopen_v (wf := fun q : XH × XG => xWH k a q.2 q.1) (lv := [(0, .ref ((a 1)))]) (by decide) rfl (Nat.le_of_ble_eq_true rfl) ?_
  intro p e s m args below meth c Q ls A H locs hx hb hml htg hown hin hK hP hD hE hS hA hl hret
  refine lv_aload_n hx hb xd_C_systemOp_0 rfl (lv_at hl 0 rfl) ?_
  refine xget_C_word (v := (xg_C_word u)) hx hb htg hown hK hP (htg _ xw_224) rfl xd_C_systemOp_1 ?_
  refine xc0_i (va_runS (As := [.int ((xg_C_word u))]) (rest := []) ⟨hx, hb, hml, hown, htg⟩ (c_D_g l D (xTy k) z H.size (xg_C_word u)) (va_cwS 1 htg (xg_S0 xkin_D_g xw_542 xw_543 xw_13) rfl rfl rfl (by decide +kernel) ⟨Nat.le_of_ble_eq_true rfl, Nat.le_of_ble_eq_true rfl⟩) ⟨xB_blind, fun U hU hW => xB_mk va_P0 hK va_D0 hE hS (xsub0 hA hS) hU hW⟩ rfl rfl hl.1 rfl (lv_room (Nat.le_of_ble_eq_true rfl)) xd_C_systemOp_4 ⟨Nat.le_of_ble_eq_true rfl, Nat.le_of_ble_eq_true rfl⟩) hP hA hS (fun r1 H locs hr1 hP hS => ?_)
  refine lv_istore_n (lv' := [(1, .int r1), (0, .ref ((a 1)))]) hx hb xd_C_systemOp_7 rfl hl (by decide) rfl (fun ls hl => ?_)
  refine lv_aload_n hx hb xd_C_systemOp_8 rfl (lv_at hl 1 rfl) ?_
  refine xget_C_word (v := (xg_C_word u)) hx hb htg hown hK hP (htg _ xw_224) rfl xd_C_systemOp_9 ?_
  refine xc0_i (va_runS (As := [.int ((xg_C_word u))]) (rest := []) ⟨hx, hb, hml, hown, htg⟩ (c_D_d l D (xTy k) z H.size (xg_C_word u)) (va_cwS 1 htg (xg_S0 xkin_D_d xw_529 xw_530 xw_13) rfl rfl rfl (by decide +kernel) ⟨Nat.le_of_ble_eq_true rfl, Nat.le_of_ble_eq_true rfl⟩) ⟨xB_blind, fun U hU hW => xB_mk va_P0 hK va_D0 hE hS (xsub0 hA hS) hU hW⟩ rfl rfl hl.1 rfl (lv_room (Nat.le_of_ble_eq_true rfl)) xd_C_systemOp_12 ⟨Nat.le_of_ble_eq_true rfl, Nat.le_of_ble_eq_true rfl⟩) hP hA hS (fun r2 H locs hr2 hP hS => ?_)
  refine lv_if_eq (tgt := 26) hx hb xd_C_systemOp_15 rfl (fun h3 => ?_) (fun h3 => ?_)
  · refine lv_iload_n hx hb xd_C_systemOp_26 rfl (lv_at hl 0 rfl) ?_
    refine lv_bipush (v := 9) hx hb xd_C_systemOp_27 (by decide) ?_
    refine lv_icmp_ne (tgt := 47) hx hb xd_C_systemOp_29 rfl (fun h4 => ?_) (fun h4 => ?_)
    · refine lv_iload_n hx hb xd_C_systemOp_47 rfl (lv_at hl 0 rfl) ?_
      refine lv_bipush (v := 17) hx hb xd_C_systemOp_48 (by decide) ?_
      refine lv_icmp_eq (tgt := 59) hx hb xd_C_systemOp_50 rfl (fun h5 => ?_) (fun h5 => ?_)
      · refine lv_aload_n hx hb xd_C_systemOp_59 rfl (lv_at hl 1 rfl) ?_
        refine lv_iconst (v := 1) hx hb xd_C_systemOp_60 (by decide) ?_
        refine xcW_i (va_runV (As := [.int 1]) (rest := []) ⟨hx, hb, hml, hown, htg⟩ (c_C_mayDo l D z k a g H.size u hg (1 : Int32)) (cwV 1 htg (xg_V0 xkin_C_mayDo xw_622 xw_624 xsel_C_mayDo xw_2) rfl rfl rfl (by decide +kernel) ⟨Nat.le_of_ble_eq_true rfl, Nat.le_of_ble_eq_true rfl⟩) ⟨xB_blind, xrecv_C hK hP, fun U hU hW => xB_mk hP hK hD hE hS (xsubW hD hA hS) hU hW⟩ rfl rfl hl.1 rfl (lv_room (Nat.le_of_ble_eq_true rfl)) xd_C_systemOp_61 ⟨Nat.le_of_ble_eq_true rfl, Nat.le_of_ble_eq_true rfl⟩) hD hA hS (fun r w1 H locs hw hP hD hS => ?_)
        obtain ⟨u1, g⟩ := w1
        obtain ⟨q6, hq6⟩ : ∃ q, q = xf_C_mayDo u (1 : Int32) := ⟨_, rfl⟩
        obtain ⟨e1, hg⟩ := hw
        rw [← hq6] at e1
        obtain rfl : r = q6.1 := congrArg Prod.fst e1
        obtain rfl : u1 = q6.2 := congrArg Prod.snd e1
        have hP : va_P D xCl (xWH k a g q6.2) H := hP
        have hD : va_D A (xWH k a g q6.2) := hD
        have hg : xok k g q6.2 := hg
        refine lv_pop hx hb xd_C_systemOp_64 rfl ?_
        refine lv_goto (tgt := 185) hx hb xd_C_systemOp_65 rfl ?_
        exact W.widen (by omega) (by omega) (hret (q6.2, g) H locs ls _ ⟨(by unfold xf_C_systemOp; exact (xlt_e hr1 (xlt_e hr2 (xit h3 (xif h4 (xit h5 (xlt_e hq6 rfl))))))), hg⟩ hP hD hS xd_C_systemOp_185)
      · refine lv_iload_n hx hb xd_C_systemOp_53 rfl (lv_at hl 0 rfl) ?_
        refine lv_bipush (v := 49) hx hb xd_C_systemOp_54 (by decide) ?_
        refine lv_icmp_ne (tgt := 68) hx hb xd_C_systemOp_56 rfl (fun h7 => ?_) (fun h7 => ?_)
        · refine lv_aload_n hx hb xd_C_systemOp_68 rfl (lv_at hl 1 rfl) ?_
          refine xget_C_word (v := (xg_C_word u)) hx hb htg hown hK hP (htg _ xw_224) rfl xd_C_systemOp_69 ?_
          refine xc0_i (va_runS (As := [.int ((xg_C_word u))]) (rest := []) ⟨hx, hb, hml, hown, htg⟩ (c_D_a l D (xTy k) z H.size (xg_C_word u)) (va_cwS 1 htg (xg_S0 xkin_D_a xw_513 xw_514 xw_13) rfl rfl rfl (by decide +kernel) ⟨Nat.le_of_ble_eq_true rfl, Nat.le_of_ble_eq_true rfl⟩) ⟨xB_blind, fun U hU hW => xB_mk va_P0 hK va_D0 hE hS (xsub0 hA hS) hU hW⟩ rfl rfl hl.1 rfl (lv_room (Nat.le_of_ble_eq_true rfl)) xd_C_systemOp_72 ⟨Nat.le_of_ble_eq_true rfl, Nat.le_of_ble_eq_true rfl⟩) hP hA hS (fun r8 H locs hr8 hP hS => ?_)
          refine lv_if_eq (tgt := 86) hx hb xd_C_systemOp_75 rfl (fun h9 => ?_) (fun h9 => ?_)
          · refine lv_aload_n hx hb xd_C_systemOp_86 rfl (lv_at hl 1 rfl) ?_
            refine xget_C_word (v := (xg_C_word u)) hx hb htg hown hK hP (htg _ xw_224) rfl xd_C_systemOp_87 ?_
            refine lv_bipush (v := 20) hx hb xd_C_systemOp_90 (by decide) ?_
            refine lv_iushr (v := (xus (xg_C_word u) (20 : Int32))) hx hb xd_C_systemOp_92 rfl ?_
            refine (Decidable.em ((xus (xg_C_word u) (20 : Int32)) = 0)).elim (fun h10 => ?_) (fun h10 => ?_)
            · refine lv_lookup (tgt := 136) (off := 43) hx hb xd_C_systemOp_93 (by decide +kernel) (by rw [h10]; decide +kernel) rfl ?_
              refine lv_aload_n hx hb xd_C_systemOp_136 rfl (lv_at hl 1 rfl) ?_
              refine xcW_v (va_runV (As := []) (rest := []) ⟨hx, hb, hml, hown, htg⟩ (c_C_environmentCall l D z k a g H.size u hg kk (by unfold xf_C_systemOp at hk; have hk0 := xlt_k hr1 hk; have hk1 := xlt_k hr2 hk0; have hk2 := xit_k h3 hk1; have hk3 := xif_k h4 hk2; have hk4 := xif_k h5 hk3; have hk5 := xif_k h7 hk4; have hk6 := xlt_k hr8 hk5; have hk7 := xit_k h9 hk6; have hk8 := xit_k h10 hk7; exact xkT (u := u) rfl (fun _ => rfl) hk8)) (cwV 0 htg (xg_V0 xkin_C_environmentCall xw_626 xw_628 xsel_C_environmentCall xw_2) rfl rfl rfl (by decide +kernel) ⟨Nat.le_of_ble_eq_true rfl, Nat.le_of_ble_eq_true rfl⟩) ⟨xB_blind, xrecv_C hK hP, fun U hU hW => xB_mk hP hK hD hE hS (xsubW hD hA hS) hU hW⟩ rfl rfl hl.1 rfl (lv_room (Nat.le_of_ble_eq_true rfl)) xd_C_systemOp_137 ⟨by show 0 + 2 * kk ≤ 2 * kk; omega, by show 0 + 1025 * kk ≤ 1025 * kk; omega⟩) hD hA hS (fun w1 H locs hw hP hD hS => ?_)
              obtain ⟨u1, g⟩ := w1
              obtain ⟨q11, hq11⟩ : ∃ q, q = xf_C_environmentCall u := ⟨_, rfl⟩
              obtain ⟨e2, hg⟩ := hw
              rw [← hq11] at e2
              obtain rfl : q11 = u1 := e2.symm
              have hP : va_P D xCl (xWH k a g q11) H := hP
              have hD : va_D A (xWH k a g q11) := hD
              have hg : xok k g q11 := hg
              refine lv_goto (tgt := 185) hx hb xd_C_systemOp_140 rfl ?_
              exact W.widen (by omega) (by omega) (hret (q11, g) H locs ls _ ⟨(by unfold xf_C_systemOp; exact (xlt_e hr1 (xlt_e hr2 (xit h3 (xif h4 (xif h5 (xif h7 (xlt_e hr8 (xit h9 (xit h10 (xlt_e hq11 rfl))))))))))), hg⟩ hP hD hS xd_C_systemOp_185)
            · refine (Decidable.em ((xus (xg_C_word u) (20 : Int32)) = 1)).elim (fun h12 => ?_) (fun h12 => ?_)
              · refine lv_lookup (tgt := 143) (off := 50) hx hb xd_C_systemOp_93 (by decide +kernel) (by rw [h12]; decide +kernel) rfl ?_
                refine lv_aload_n hx hb xd_C_systemOp_143 rfl (lv_at hl 1 rfl) ?_
                refine xget_C_trap hx hb htg hown hK hP (htg _ xw_208) xd_C_systemOp_144 ?_
                refine lv_iconst (v := 3) hx hb xd_C_systemOp_147 (by decide) ?_
                refine lv_aload_n hx hb xd_C_systemOp_148 rfl (lv_at hl 1 rfl) ?_
                refine xget_C_pc (v := (xg_C_pc u)) hx hb htg hown hK hP (htg _ xw_211) rfl xd_C_systemOp_149 ?_
                refine xcW_v (va_runV (As := [.int 3, .int ((xg_C_pc u))]) (rest := []) ⟨hx, hb, hml, hown, htg⟩ (c_P_raise l D z k a g H.size u hg (3 : Int32) (xg_C_pc u)) (cwV 2 htg (xg_V0 xkin_P_raise xw_411 xw_412 xsel_P_raise xw_7) rfl rfl rfl (by decide +kernel) ⟨Nat.le_of_ble_eq_true rfl, Nat.le_of_ble_eq_true rfl⟩) ⟨xB_blind, xrecv_P hK hP, fun U hU hW => xB_mk hP hK hD hE hS (xsubW hD hA hS) hU hW⟩ rfl rfl hl.1 rfl (lv_room (Nat.le_of_ble_eq_true rfl)) xd_C_systemOp_152 ⟨Nat.le_of_ble_eq_true rfl, Nat.le_of_ble_eq_true rfl⟩) hD hA hS (fun w1 H locs hw hP hD hS => ?_)
                obtain ⟨u1, g⟩ := w1
                obtain ⟨q13, hq13⟩ : ∃ q, q = xf_P_raise u (3 : Int32) (xg_C_pc u) := ⟨_, rfl⟩
                obtain ⟨e2, hg⟩ := hw
                rw [← hq13] at e2
                obtain rfl : q13 = u1 := e2.symm
                have hP : va_P D xCl (xWH k a g q13) H := hP
                have hD : va_D A (xWH k a g q13) := hD
                have hg : xok k g q13 := hg
                refine lv_goto (tgt := 185) hx hb xd_C_systemOp_155 rfl ?_
                exact W.widen (by omega) (by omega) (hret (q13, g) H locs ls _ ⟨(by unfold xf_C_systemOp; exact (xlt_e hr1 (xlt_e hr2 (xit h3 (xif h4 (xif h5 (xif h7 (xlt_e hr8 (xit h9 (xif h10 (xit h12 (xlt_e hq13 rfl)))))))))))), hg⟩ hP hD hS xd_C_systemOp_185)
              · refine (Decidable.em ((xus (xg_C_word u) (20 : Int32)) = 258)).elim (fun h14 => ?_) (fun h14 => ?_)
                · refine lv_lookup (tgt := 158) (off := 65) hx hb xd_C_systemOp_93 (by decide +kernel) (by rw [h14]; decide +kernel) rfl ?_
                  refine lv_aload_n hx hb xd_C_systemOp_158 rfl (lv_at hl 1 rfl) ?_
                  refine xcW_v (va_runV (As := []) (rest := []) ⟨hx, hb, hml, hown, htg⟩ (c_C_returnFromTrap l D z k a g H.size u hg) (cwV 0 htg (xg_V0 xkin_C_returnFromTrap xw_640 xw_642 xsel_C_returnFromTrap xw_2) rfl rfl rfl (by decide +kernel) ⟨Nat.le_of_ble_eq_true rfl, Nat.le_of_ble_eq_true rfl⟩) ⟨xB_blind, xrecv_C hK hP, fun U hU hW => xB_mk hP hK hD hE hS (xsubW hD hA hS) hU hW⟩ rfl rfl hl.1 rfl (lv_room (Nat.le_of_ble_eq_true rfl)) xd_C_systemOp_159 ⟨Nat.le_of_ble_eq_true rfl, Nat.le_of_ble_eq_true rfl⟩) hD hA hS (fun w1 H locs hw hP hD hS => ?_)
                  obtain ⟨u1, g⟩ := w1
                  obtain ⟨q15, hq15⟩ : ∃ q, q = xf_C_returnFromTrap u := ⟨_, rfl⟩
                  obtain ⟨e2, hg⟩ := hw
                  rw [← hq15] at e2
                  obtain rfl : q15 = u1 := e2.symm
                  have hP : va_P D xCl (xWH k a g q15) H := hP
                  have hD : va_D A (xWH k a g q15) := hD
                  have hg : xok k g q15 := hg
                  refine lv_goto (tgt := 185) hx hb xd_C_systemOp_162 rfl ?_
                  exact W.widen (by omega) (by omega) (hret (q15, g) H locs ls _ ⟨(by unfold xf_C_systemOp; exact (xlt_e hr1 (xlt_e hr2 (xit h3 (xif h4 (xif h5 (xif h7 (xlt_e hr8 (xit h9 (xif h10 (xif h12 (xit h14 (xlt_e hq15 rfl))))))))))))), hg⟩ hP hD hS xd_C_systemOp_185)
                · refine (Decidable.em ((xus (xg_C_word u) (20 : Int32)) = 261)).elim (fun h16 => ?_) (fun h16 => ?_)
                  · refine lv_lookup (tgt := 165) (off := 72) hx hb xd_C_systemOp_93 (by decide +kernel) (by rw [h16]; decide +kernel) rfl ?_
                    refine lv_aload_n hx hb xd_C_systemOp_165 rfl (lv_at hl 1 rfl) ?_
                    refine lv_aload_n hx hb xd_C_systemOp_166 rfl (lv_at hl 1 rfl) ?_
                    refine lv_ldcw (v := 2097152) hx hb hown (htg _ xw_649) xd_C_systemOp_167 ?_
                    refine xcW_i (va_runV (As := [.int 2097152]) (rest := [.ref ((a 1))]) ⟨hx, hb, hml, hown, htg⟩ (c_C_isSet l D z k a g H.size u hg (2097152 : Int32)) (cwV 1 htg (xg_V0 xkin_C_isSet xw_618 xw_620 xsel_C_isSet xw_2) rfl rfl rfl (by decide +kernel) ⟨Nat.le_of_ble_eq_true rfl, Nat.le_of_ble_eq_true rfl⟩) ⟨xB_blind, xrecv_C hK hP, fun U hU hW => xB_mk hP hK hD hE hS (xsubW hD hA hS) hU hW⟩ rfl rfl hl.1 rfl (lv_room (Nat.le_of_ble_eq_true rfl)) xd_C_systemOp_170 ⟨Nat.le_of_ble_eq_true rfl, Nat.le_of_ble_eq_true rfl⟩) hD hA hS (fun r w1 H locs hw hP hD hS => ?_)
                    obtain ⟨u1, g⟩ := w1
                    obtain ⟨q17, hq17⟩ : ∃ q, q = xf_C_isSet u (2097152 : Int32) := ⟨_, rfl⟩
                    obtain ⟨e1, e2, hg⟩ := hw
                    rw [← hq17] at e1
                    obtain rfl : q17 = r := e1.symm
                    obtain rfl : u = u1 := e2.symm
                    have hP : va_P D xCl (xWH k a g u) H := hP
                    have hD : va_D A (xWH k a g u) := hD
                    have hg : xok k g u := hg
                    refine xcW_i (va_runV (As := [.int q17]) (rest := []) ⟨hx, hb, hml, hown, htg⟩ (c_C_mayDo l D z k a g H.size u hg q17) (cwV 1 htg (xg_V0 xkin_C_mayDo xw_622 xw_624 xsel_C_mayDo xw_2) rfl rfl rfl (by decide +kernel) ⟨Nat.le_of_ble_eq_true rfl, Nat.le_of_ble_eq_true rfl⟩) ⟨xB_blind, xrecv_C hK hP, fun U hU hW => xB_mk hP hK hD hE hS (xsubW hD hA hS) hU hW⟩ rfl rfl hl.1 rfl (lv_room (Nat.le_of_ble_eq_true rfl)) xd_C_systemOp_173 ⟨Nat.le_of_ble_eq_true rfl, Nat.le_of_ble_eq_true rfl⟩) hD hA hS (fun r w1 H locs hw hP hD hS => ?_)
                    obtain ⟨u1, g⟩ := w1
                    obtain ⟨q18, hq18⟩ : ∃ q, q = xf_C_mayDo u q17 := ⟨_, rfl⟩
                    obtain ⟨e1, hg⟩ := hw
                    rw [← hq18] at e1
                    obtain rfl : r = q18.1 := congrArg Prod.fst e1
                    obtain rfl : u1 = q18.2 := congrArg Prod.snd e1
                    have hP : va_P D xCl (xWH k a g q18.2) H := hP
                    have hD : va_D A (xWH k a g q18.2) := hD
                    have hg : xok k g q18.2 := hg
                    refine lv_pop hx hb xd_C_systemOp_176 rfl ?_
                    refine lv_goto (tgt := 185) hx hb xd_C_systemOp_177 rfl ?_
                    exact W.widen (by omega) (by omega) (hret (q18.2, g) H locs ls _ ⟨(by unfold xf_C_systemOp; exact (xlt_e hr1 (xlt_e hr2 (xit h3 (xif h4 (xif h5 (xif h7 (xlt_e hr8 (xit h9 (xif h10 (xif h12 (xif h14 (xit h16 (xlt_e hq17 (xlt_e hq18 rfl))))))))))))))), hg⟩ hP hD hS xd_C_systemOp_185)
                  · refine lv_lookup (tgt := 180) (off := 87) hx hb xd_C_systemOp_93 (by decide +kernel) (by first | (rw [lv_osw h10 (by decide), lv_osw h12 (by decide), lv_osw h14 (by decide), lv_osw h16 (by decide)]; rfl) | (simp only [lv_osw h10 (by decide), lv_osw h12 (by decide), lv_osw h14 (by decide), lv_osw h16 (by decide)]; rfl)) rfl ?_
                    refine lv_aload_n hx hb xd_C_systemOp_180 rfl (lv_at hl 1 rfl) ?_
                    refine lv_iconst (v := 2) hx hb xd_C_systemOp_181 (by decide) ?_
                    refine xcW_v (va_runV (As := [.int 2]) (rest := []) ⟨hx, hb, hml, hown, htg⟩ (c_C_refuse l D z k a g H.size u hg (2 : Int32)) (cwV 1 htg (xg_V0 xkin_C_refuse xw_509 xw_511 xsel_C_refuse xw_2) rfl rfl rfl (by decide +kernel) ⟨Nat.le_of_ble_eq_true rfl, Nat.le_of_ble_eq_true rfl⟩) ⟨xB_blind, xrecv_C hK hP, fun U hU hW => xB_mk hP hK hD hE hS (xsubW hD hA hS) hU hW⟩ rfl rfl hl.1 rfl (lv_room (Nat.le_of_ble_eq_true rfl)) xd_C_systemOp_182 ⟨Nat.le_of_ble_eq_true rfl, Nat.le_of_ble_eq_true rfl⟩) hD hA hS (fun w1 H locs hw hP hD hS => ?_)
                    obtain ⟨u1, g⟩ := w1
                    obtain ⟨q19, hq19⟩ : ∃ q, q = xf_C_refuse u (2 : Int32) := ⟨_, rfl⟩
                    obtain ⟨e2, hg⟩ := hw
                    rw [← hq19] at e2
                    obtain rfl : q19 = u1 := e2.symm
                    have hP : va_P D xCl (xWH k a g q19) H := hP
                    have hD : va_D A (xWH k a g q19) := hD
                    have hg : xok k g q19 := hg
                    exact W.widen (by omega) (by omega) (hret (q19, g) H locs ls _ ⟨(by unfold xf_C_systemOp; exact (xlt_e hr1 (xlt_e hr2 (xit h3 (xif h4 (xif h5 (xif h7 (xlt_e hr8 (xit h9 (xif h10 (xif h12 (xif h14 (xif h16 (xlt_e hq19 rfl)))))))))))))), hg⟩ hP hD hS xd_C_systemOp_185)
          · refine lv_aload_n hx hb xd_C_systemOp_78 rfl (lv_at hl 1 rfl) ?_
            refine lv_iconst (v := 2) hx hb xd_C_systemOp_79 (by decide) ?_
            refine xcW_v (va_runV (As := [.int 2]) (rest := []) ⟨hx, hb, hml, hown, htg⟩ (c_C_refuse l D z k a g H.size u hg (2 : Int32)) (cwV 1 htg (xg_V0 xkin_C_refuse xw_509 xw_511 xsel_C_refuse xw_2) rfl rfl rfl (by decide +kernel) ⟨Nat.le_of_ble_eq_true rfl, Nat.le_of_ble_eq_true rfl⟩) ⟨xB_blind, xrecv_C hK hP, fun U hU hW => xB_mk hP hK hD hE hS (xsubW hD hA hS) hU hW⟩ rfl rfl hl.1 rfl (lv_room (Nat.le_of_ble_eq_true rfl)) xd_C_systemOp_80 ⟨Nat.le_of_ble_eq_true rfl, Nat.le_of_ble_eq_true rfl⟩) hD hA hS (fun w1 H locs hw hP hD hS => ?_)
            obtain ⟨u1, g⟩ := w1
            obtain ⟨q20, hq20⟩ : ∃ q, q = xf_C_refuse u (2 : Int32) := ⟨_, rfl⟩
            obtain ⟨e2, hg⟩ := hw
            rw [← hq20] at e2
            obtain rfl : q20 = u1 := e2.symm
            have hP : va_P D xCl (xWH k a g q20) H := hP
            have hD : va_D A (xWH k a g q20) := hD
            have hg : xok k g q20 := hg
            refine lv_goto (tgt := 185) hx hb xd_C_systemOp_83 rfl ?_
            exact W.widen (by omega) (by omega) (hret (q20, g) H locs ls _ ⟨(by unfold xf_C_systemOp; exact (xlt_e hr1 (xlt_e hr2 (xit h3 (xif h4 (xif h5 (xif h7 (xlt_e hr8 (xif h9 (xlt_e hq20 rfl)))))))))), hg⟩ hP hD hS xd_C_systemOp_185)
        · refine lv_aload_n hx hb xd_C_systemOp_59 rfl (lv_at hl 1 rfl) ?_
          refine lv_iconst (v := 1) hx hb xd_C_systemOp_60 (by decide) ?_
          refine xcW_i (va_runV (As := [.int 1]) (rest := []) ⟨hx, hb, hml, hown, htg⟩ (c_C_mayDo l D z k a g H.size u hg (1 : Int32)) (cwV 1 htg (xg_V0 xkin_C_mayDo xw_622 xw_624 xsel_C_mayDo xw_2) rfl rfl rfl (by decide +kernel) ⟨Nat.le_of_ble_eq_true rfl, Nat.le_of_ble_eq_true rfl⟩) ⟨xB_blind, xrecv_C hK hP, fun U hU hW => xB_mk hP hK hD hE hS (xsubW hD hA hS) hU hW⟩ rfl rfl hl.1 rfl (lv_room (Nat.le_of_ble_eq_true rfl)) xd_C_systemOp_61 ⟨Nat.le_of_ble_eq_true rfl, Nat.le_of_ble_eq_true rfl⟩) hD hA hS (fun r w1 H locs hw hP hD hS => ?_)
          obtain ⟨u1, g⟩ := w1
          obtain ⟨q21, hq21⟩ : ∃ q, q = xf_C_mayDo u (1 : Int32) := ⟨_, rfl⟩
          obtain ⟨e1, hg⟩ := hw
          rw [← hq21] at e1
          obtain rfl : r = q21.1 := congrArg Prod.fst e1
          obtain rfl : u1 = q21.2 := congrArg Prod.snd e1
          have hP : va_P D xCl (xWH k a g q21.2) H := hP
          have hD : va_D A (xWH k a g q21.2) := hD
          have hg : xok k g q21.2 := hg
          refine lv_pop hx hb xd_C_systemOp_64 rfl ?_
          refine lv_goto (tgt := 185) hx hb xd_C_systemOp_65 rfl ?_
          exact W.widen (by omega) (by omega) (hret (q21.2, g) H locs ls _ ⟨(by unfold xf_C_systemOp; exact (xlt_e hr1 (xlt_e hr2 (xit h3 (xif h4 (xif h5 (xit h7 (xlt_e hq21 rfl)))))))), hg⟩ hP hD hS xd_C_systemOp_185)
    · refine lv_aload_n hx hb xd_C_systemOp_32 rfl (lv_at hl 1 rfl) ?_
      refine lv_aload_n hx hb xd_C_systemOp_33 rfl (lv_at hl 1 rfl) ?_
      refine lv_ldcw (v := 1048576) hx hb hown (htg _ xw_617) xd_C_systemOp_34 ?_
      refine xcW_i (va_runV (As := [.int 1048576]) (rest := [.ref ((a 1))]) ⟨hx, hb, hml, hown, htg⟩ (c_C_isSet l D z k a g H.size u hg (1048576 : Int32)) (cwV 1 htg (xg_V0 xkin_C_isSet xw_618 xw_620 xsel_C_isSet xw_2) rfl rfl rfl (by decide +kernel) ⟨Nat.le_of_ble_eq_true rfl, Nat.le_of_ble_eq_true rfl⟩) ⟨xB_blind, xrecv_C hK hP, fun U hU hW => xB_mk hP hK hD hE hS (xsubW hD hA hS) hU hW⟩ rfl rfl hl.1 rfl (lv_room (Nat.le_of_ble_eq_true rfl)) xd_C_systemOp_37 ⟨Nat.le_of_ble_eq_true rfl, Nat.le_of_ble_eq_true rfl⟩) hD hA hS (fun r w1 H locs hw hP hD hS => ?_)
      obtain ⟨u1, g⟩ := w1
      obtain ⟨q22, hq22⟩ : ∃ q, q = xf_C_isSet u (1048576 : Int32) := ⟨_, rfl⟩
      obtain ⟨e1, e2, hg⟩ := hw
      rw [← hq22] at e1
      obtain rfl : q22 = r := e1.symm
      obtain rfl : u = u1 := e2.symm
      have hP : va_P D xCl (xWH k a g u) H := hP
      have hD : va_D A (xWH k a g u) := hD
      have hg : xok k g u := hg
      refine xcW_i (va_runV (As := [.int q22]) (rest := []) ⟨hx, hb, hml, hown, htg⟩ (c_C_mayDo l D z k a g H.size u hg q22) (cwV 1 htg (xg_V0 xkin_C_mayDo xw_622 xw_624 xsel_C_mayDo xw_2) rfl rfl rfl (by decide +kernel) ⟨Nat.le_of_ble_eq_true rfl, Nat.le_of_ble_eq_true rfl⟩) ⟨xB_blind, xrecv_C hK hP, fun U hU hW => xB_mk hP hK hD hE hS (xsubW hD hA hS) hU hW⟩ rfl rfl hl.1 rfl (lv_room (Nat.le_of_ble_eq_true rfl)) xd_C_systemOp_40 ⟨Nat.le_of_ble_eq_true rfl, Nat.le_of_ble_eq_true rfl⟩) hD hA hS (fun r w1 H locs hw hP hD hS => ?_)
      obtain ⟨u1, g⟩ := w1
      obtain ⟨q23, hq23⟩ : ∃ q, q = xf_C_mayDo u q22 := ⟨_, rfl⟩
      obtain ⟨e1, hg⟩ := hw
      rw [← hq23] at e1
      obtain rfl : r = q23.1 := congrArg Prod.fst e1
      obtain rfl : u1 = q23.2 := congrArg Prod.snd e1
      have hP : va_P D xCl (xWH k a g q23.2) H := hP
      have hD : va_D A (xWH k a g q23.2) := hD
      have hg : xok k g q23.2 := hg
      refine lv_pop hx hb xd_C_systemOp_43 rfl ?_
      refine lv_goto (tgt := 185) hx hb xd_C_systemOp_44 rfl ?_
      exact W.widen (by omega) (by omega) (hret (q23.2, g) H locs ls _ ⟨(by unfold xf_C_systemOp; exact (xlt_e hr1 (xlt_e hr2 (xit h3 (xit h4 (xlt_e hq22 (xlt_e hq23 rfl))))))), hg⟩ hP hD hS xd_C_systemOp_185)
  · refine lv_aload_n hx hb xd_C_systemOp_18 rfl (lv_at hl 1 rfl) ?_
    refine lv_iconst (v := 2) hx hb xd_C_systemOp_19 (by decide) ?_
    refine xcW_v (va_runV (As := [.int 2]) (rest := []) ⟨hx, hb, hml, hown, htg⟩ (c_C_refuse l D z k a g H.size u hg (2 : Int32)) (cwV 1 htg (xg_V0 xkin_C_refuse xw_509 xw_511 xsel_C_refuse xw_2) rfl rfl rfl (by decide +kernel) ⟨Nat.le_of_ble_eq_true rfl, Nat.le_of_ble_eq_true rfl⟩) ⟨xB_blind, xrecv_C hK hP, fun U hU hW => xB_mk hP hK hD hE hS (xsubW hD hA hS) hU hW⟩ rfl rfl hl.1 rfl (lv_room (Nat.le_of_ble_eq_true rfl)) xd_C_systemOp_20 ⟨Nat.le_of_ble_eq_true rfl, Nat.le_of_ble_eq_true rfl⟩) hD hA hS (fun w1 H locs hw hP hD hS => ?_)
    obtain ⟨u1, g⟩ := w1
    obtain ⟨q24, hq24⟩ : ∃ q, q = xf_C_refuse u (2 : Int32) := ⟨_, rfl⟩
    obtain ⟨e2, hg⟩ := hw
    rw [← hq24] at e2
    obtain rfl : q24 = u1 := e2.symm
    have hP : va_P D xCl (xWH k a g q24) H := hP
    have hD : va_D A (xWH k a g q24) := hD
    have hg : xok k g q24 := hg
    refine lv_goto (tgt := 185) hx hb xd_C_systemOp_23 rfl ?_
    exact W.widen (by omega) (by omega) (hret (q24, g) H locs ls _ ⟨(by unfold xf_C_systemOp; exact (xlt_e hr1 (xlt_e hr2 (xif h3 (xlt_e hq24 rfl))))), hg⟩ hP hD hS xd_C_systemOp_185)

noncomputable def xf_C_guestOp (u : XH) : XH :=
  xlt (xf_D_g (xg_C_word u) : Int32) fun r1 =>
  xlt (xf_D_b (xg_C_word u) : Int32) fun r2 =>
  xlt (xf_D_d (xg_C_word u) : Int32) fun r3 =>
  xlt (xf_C_isGuestForm r1 r2 r3 : Int32) fun r4 =>
  if r4 = 0 then
    xlt (xf_C_refuse u (2 : Int32) : XH) fun q6 =>
    q6
  else
    if (xg_C_mode u) = 0 then
      xlt (xf_C_isSet u (512 : Int32) : Int32) fun q33 =>
      if q33 = 0 then
        xlt (xf_C_refuse u (2 : Int32) : XH) fun q60 =>
        q60
      else
        xlt (xf_H_isVirtual (xg_C_mode u) : Int32) fun r35 =>
        if r35 = 0 then
          xlt (xf_C_isSet (xs_P_asGuest u true) (256 : Int32) : Int32) fun q37 =>
          if q37 = 0 then
            xlt (xf_D_a (xg_C_word (xs_P_asGuest u true)) : Int32) fun r39 =>
            if (r1 &&& (1 : Int32)) = 0 then
              if r2 = 0 then
                if r2 = 3 then
                  xlt (xf_C_load (xs_P_asGuest u true) ((xg_x (xs_P_asGuest u true)) r39.toNatClampNeg) ((r1 - (48 : Int32)) >>> ((1 : Int32) &&& 31)) (0 : Int32) 2 (2 : Int32) : XH) fun q44 =>
                  q44
                else
                  xlt (xf_C_load (xs_P_asGuest u true) ((xg_x (xs_P_asGuest u true)) r39.toNatClampNeg) ((r1 - (48 : Int32)) >>> ((1 : Int32) &&& 31)) (0 : Int32) 1 (2 : Int32) : XH) fun q43 =>
                  q43
              else
                if r2 = 3 then
                  xlt (xf_C_load (xs_P_asGuest u true) ((xg_x (xs_P_asGuest u true)) r39.toNatClampNeg) ((r1 - (48 : Int32)) >>> ((1 : Int32) &&& 31)) (1 : Int32) 2 (2 : Int32) : XH) fun q47 =>
                  q47
                else
                  xlt (xf_C_load (xs_P_asGuest u true) ((xg_x (xs_P_asGuest u true)) r39.toNatClampNeg) ((r1 - (48 : Int32)) >>> ((1 : Int32) &&& 31)) (1 : Int32) 1 (2 : Int32) : XH) fun q46 =>
                  q46
            else
              xlt (xf_C_store (xs_P_asGuest u true) ((xg_x (xs_P_asGuest u true)) r39.toNatClampNeg) ((r1 - (48 : Int32)) >>> ((1 : Int32) &&& 31)) (2 : Int32) : XH) fun q48 =>
              q48
          else
            xlt (xf_D_a (xg_C_word (xs_P_asGuest u true)) : Int32) fun r49 =>
            if (r1 &&& (1 : Int32)) = 0 then
              if r2 = 0 then
                if r2 = 3 then
                  xlt (xf_C_load (xs_P_asGuest u true) ((xg_x (xs_P_asGuest u true)) r49.toNatClampNeg) ((r1 - (48 : Int32)) >>> ((1 : Int32) &&& 31)) (0 : Int32) 2 (3 : Int32) : XH) fun q54 =>
                  q54
                else
                  xlt (xf_C_load (xs_P_asGuest u true) ((xg_x (xs_P_asGuest u true)) r49.toNatClampNeg) ((r1 - (48 : Int32)) >>> ((1 : Int32) &&& 31)) (0 : Int32) 1 (3 : Int32) : XH) fun q53 =>
                  q53
              else
                if r2 = 3 then
                  xlt (xf_C_load (xs_P_asGuest u true) ((xg_x (xs_P_asGuest u true)) r49.toNatClampNeg) ((r1 - (48 : Int32)) >>> ((1 : Int32) &&& 31)) (1 : Int32) 2 (3 : Int32) : XH) fun q57 =>
                  q57
                else
                  xlt (xf_C_load (xs_P_asGuest u true) ((xg_x (xs_P_asGuest u true)) r49.toNatClampNeg) ((r1 - (48 : Int32)) >>> ((1 : Int32) &&& 31)) (1 : Int32) 1 (3 : Int32) : XH) fun q56 =>
                  q56
            else
              xlt (xf_C_store (xs_P_asGuest u true) ((xg_x (xs_P_asGuest u true)) r49.toNatClampNeg) ((r1 - (48 : Int32)) >>> ((1 : Int32) &&& 31)) (3 : Int32) : XH) fun q58 =>
              q58
        else
          xlt (xf_C_refuse u (22 : Int32) : XH) fun q59 =>
          q59
    else
      xlt (xf_H_isVirtual (xg_C_mode u) : Int32) fun r8 =>
      if r8 = 0 then
        xlt (xf_C_isSet (xs_P_asGuest u true) (256 : Int32) : Int32) fun q10 =>
        if q10 = 0 then
          xlt (xf_D_a (xg_C_word (xs_P_asGuest u true)) : Int32) fun r12 =>
          if (r1 &&& (1 : Int32)) = 0 then
            if r2 = 0 then
              if r2 = 3 then
                xlt (xf_C_load (xs_P_asGuest u true) ((xg_x (xs_P_asGuest u true)) r12.toNatClampNeg) ((r1 - (48 : Int32)) >>> ((1 : Int32) &&& 31)) (0 : Int32) 2 (2 : Int32) : XH) fun q17 =>
                q17
              else
                xlt (xf_C_load (xs_P_asGuest u true) ((xg_x (xs_P_asGuest u true)) r12.toNatClampNeg) ((r1 - (48 : Int32)) >>> ((1 : Int32) &&& 31)) (0 : Int32) 1 (2 : Int32) : XH) fun q16 =>
                q16
            else
              if r2 = 3 then
                xlt (xf_C_load (xs_P_asGuest u true) ((xg_x (xs_P_asGuest u true)) r12.toNatClampNeg) ((r1 - (48 : Int32)) >>> ((1 : Int32) &&& 31)) (1 : Int32) 2 (2 : Int32) : XH) fun q20 =>
                q20
              else
                xlt (xf_C_load (xs_P_asGuest u true) ((xg_x (xs_P_asGuest u true)) r12.toNatClampNeg) ((r1 - (48 : Int32)) >>> ((1 : Int32) &&& 31)) (1 : Int32) 1 (2 : Int32) : XH) fun q19 =>
                q19
          else
            xlt (xf_C_store (xs_P_asGuest u true) ((xg_x (xs_P_asGuest u true)) r12.toNatClampNeg) ((r1 - (48 : Int32)) >>> ((1 : Int32) &&& 31)) (2 : Int32) : XH) fun q21 =>
            q21
        else
          xlt (xf_D_a (xg_C_word (xs_P_asGuest u true)) : Int32) fun r22 =>
          if (r1 &&& (1 : Int32)) = 0 then
            if r2 = 0 then
              if r2 = 3 then
                xlt (xf_C_load (xs_P_asGuest u true) ((xg_x (xs_P_asGuest u true)) r22.toNatClampNeg) ((r1 - (48 : Int32)) >>> ((1 : Int32) &&& 31)) (0 : Int32) 2 (3 : Int32) : XH) fun q27 =>
                q27
              else
                xlt (xf_C_load (xs_P_asGuest u true) ((xg_x (xs_P_asGuest u true)) r22.toNatClampNeg) ((r1 - (48 : Int32)) >>> ((1 : Int32) &&& 31)) (0 : Int32) 1 (3 : Int32) : XH) fun q26 =>
                q26
            else
              if r2 = 3 then
                xlt (xf_C_load (xs_P_asGuest u true) ((xg_x (xs_P_asGuest u true)) r22.toNatClampNeg) ((r1 - (48 : Int32)) >>> ((1 : Int32) &&& 31)) (1 : Int32) 2 (3 : Int32) : XH) fun q30 =>
                q30
              else
                xlt (xf_C_load (xs_P_asGuest u true) ((xg_x (xs_P_asGuest u true)) r22.toNatClampNeg) ((r1 - (48 : Int32)) >>> ((1 : Int32) &&& 31)) (1 : Int32) 1 (3 : Int32) : XH) fun q29 =>
                q29
          else
            xlt (xf_C_store (xs_P_asGuest u true) ((xg_x (xs_P_asGuest u true)) r22.toNatClampNeg) ((r1 - (48 : Int32)) >>> ((1 : Int32) &&& 31)) (3 : Int32) : XH) fun q31 =>
            q31
      else
        xlt (xf_C_refuse u (22 : Int32) : XH) fun q32 =>
        q32
set_option maxHeartbeats 4000000 in
set_option maxRecDepth 100000 in
theorem c_C_guestOp (l : Launch) (D : va_G) (z : (Nat → Nat) × (Nat → Nat)) (k : ClassId × ClassId) (a : Nat → Nat) (g : XG) (sz : Nat) (u : XH) (hg : xok k g u) (kk : Nat) (hk : XN (xcH u + kk) (xf_C_guestOp u)) : Met l xy_C_guestOp (xk_C_guestOp :: lw_g) { frames := 5, cells := 2 * kk, slots := 1025 * kk, locals := 148 } (va_Pc [.ref ((a 1))] (xB D (xTy k) z sz (xWH k a g u))) (va_Qv (fun q : XH × XG => q.1 = xf_C_guestOp u ∧ xok k q.2 q.1) (fun q t => xQ D (xTy k) (xWH k a q.2 q.1) (va_A (xWH k a g u) sz) t) (va_A (xWH k a g u) sz)) (2 * kk) (1025 * kk) (va_A (xWH k a g u) sz) := by
  refine xopen_v (wf := fun q : XH × XG => xWH k a q.2 q.1) (lv := [(0, .ref ((a 1)))]) (by decide) rfl (Nat.le_of_ble_eq_true rfl) ?_
  intro p e s m args below meth c Q ls A H locs hx hb hml htg hown hin hK hP hD hE hS hA hl hret
  refine lv_aload_n hx hb xd_C_guestOp_0 rfl (lv_at hl 0 rfl) ?_
  refine xget_C_word (v := (xg_C_word u)) hx hb htg hown hK hP (htg _ xw_224) rfl xd_C_guestOp_1 ?_
  refine xc0_i (va_runS (As := [.int ((xg_C_word u))]) (rest := []) ⟨hx, hb, hml, hown, htg⟩ (c_D_g l D (xTy k) z H.size (xg_C_word u)) (va_cwS 1 htg (xg_S0 xkin_D_g xw_542 xw_543 xw_13) rfl rfl rfl (by decide +kernel) ⟨Nat.le_of_ble_eq_true rfl, Nat.le_of_ble_eq_true rfl⟩) ⟨xB_blind, fun U hU hW => xB_mk va_P0 hK va_D0 hE hS (xsub0 hA hS) hU hW⟩ rfl rfl hl.1 rfl (lv_room (Nat.le_of_ble_eq_true rfl)) xd_C_guestOp_4 ⟨Nat.le_of_ble_eq_true rfl, Nat.le_of_ble_eq_true rfl⟩) hP hA hS (fun r1 H locs hr1 hP hS => ?_)
  refine lv_istore_n (lv' := [(1, .int r1), (0, .ref ((a 1)))]) hx hb xd_C_guestOp_7 rfl hl (by decide) rfl (fun ls hl => ?_)
  refine lv_aload_n hx hb xd_C_guestOp_8 rfl (lv_at hl 1 rfl) ?_
  refine xget_C_word (v := (xg_C_word u)) hx hb htg hown hK hP (htg _ xw_224) rfl xd_C_guestOp_9 ?_
  refine xc0_i (va_runS (As := [.int ((xg_C_word u))]) (rest := []) ⟨hx, hb, hml, hown, htg⟩ (c_D_b l D (xTy k) z H.size (xg_C_word u)) (va_cwS 1 htg (xg_S0 xkin_D_b xw_545 xw_546 xw_13) rfl rfl rfl (by decide +kernel) ⟨Nat.le_of_ble_eq_true rfl, Nat.le_of_ble_eq_true rfl⟩) ⟨xB_blind, fun U hU hW => xB_mk va_P0 hK va_D0 hE hS (xsub0 hA hS) hU hW⟩ rfl rfl hl.1 rfl (lv_room (Nat.le_of_ble_eq_true rfl)) xd_C_guestOp_12 ⟨Nat.le_of_ble_eq_true rfl, Nat.le_of_ble_eq_true rfl⟩) hP hA hS (fun r2 H locs hr2 hP hS => ?_)
  refine lv_istore_n (lv' := [(2, .int r2), (1, .int r1), (0, .ref ((a 1)))]) hx hb xd_C_guestOp_15 rfl hl (by decide) rfl (fun ls hl => ?_)
  refine lv_iload_n hx hb xd_C_guestOp_16 rfl (lv_at hl 1 rfl) ?_
  refine lv_iload_n hx hb xd_C_guestOp_17 rfl (lv_at hl 0 rfl) ?_
  refine lv_aload_n hx hb xd_C_guestOp_18 rfl (lv_at hl 2 rfl) ?_
  refine xget_C_word (v := (xg_C_word u)) hx hb htg hown hK hP (htg _ xw_224) rfl xd_C_guestOp_19 ?_
  refine xc0_i (va_runS (As := [.int ((xg_C_word u))]) (rest := [.int r2, .int r1]) ⟨hx, hb, hml, hown, htg⟩ (c_D_d l D (xTy k) z H.size (xg_C_word u)) (va_cwS 1 htg (xg_S0 xkin_D_d xw_529 xw_530 xw_13) rfl rfl rfl (by decide +kernel) ⟨Nat.le_of_ble_eq_true rfl, Nat.le_of_ble_eq_true rfl⟩) ⟨xB_blind, fun U hU hW => xB_mk va_P0 hK va_D0 hE hS (xsub0 hA hS) hU hW⟩ rfl rfl hl.1 rfl (lv_room (Nat.le_of_ble_eq_true rfl)) xd_C_guestOp_22 ⟨Nat.le_of_ble_eq_true rfl, Nat.le_of_ble_eq_true rfl⟩) hP hA hS (fun r3 H locs hr3 hP hS => ?_)
  refine xc0_i (va_runS (As := [.int r1, .int r2, .int r3]) (rest := []) ⟨hx, hb, hml, hown, htg⟩ (c_C_isGuestForm l D (xTy k) z H.size r1 r2 r3) (va_cwS 3 htg (xg_S0 xkin_C_isGuestForm xw_654 xw_655 xw_2) rfl rfl rfl (by decide +kernel) ⟨Nat.le_of_ble_eq_true rfl, Nat.le_of_ble_eq_true rfl⟩) ⟨xB_blind, fun U hU hW => xB_mk va_P0 hK va_D0 hE hS (xsub0 hA hS) hU hW⟩ rfl rfl hl.1 rfl (lv_room (Nat.le_of_ble_eq_true rfl)) xd_C_guestOp_25 ⟨Nat.le_of_ble_eq_true rfl, Nat.le_of_ble_eq_true rfl⟩) hP hA hS (fun r4 H locs hr4 hP hS => ?_)
  refine lv_if_eq (tgt := 48) hx hb xd_C_guestOp_28 rfl (fun h5 => ?_) (fun h5 => ?_)
  · refine lv_aload_n hx hb xd_C_guestOp_48 rfl (lv_at hl 2 rfl) ?_
    refine lv_iconst (v := 2) hx hb xd_C_guestOp_49 (by decide) ?_
    refine xcW_v (va_runV (As := [.int 2]) (rest := []) ⟨hx, hb, hml, hown, htg⟩ (c_C_refuse l D z k a g H.size u hg (2 : Int32)) (cwV 1 htg (xg_V0 xkin_C_refuse xw_509 xw_511 xsel_C_refuse xw_2) rfl rfl rfl (by decide +kernel) ⟨Nat.le_of_ble_eq_true rfl, Nat.le_of_ble_eq_true rfl⟩) ⟨xB_blind, xrecv_C hK hP, fun U hU hW => xB_mk hP hK hD hE hS (xsubW hD hA hS) hU hW⟩ rfl rfl hl.1 rfl (lv_room (Nat.le_of_ble_eq_true rfl)) xd_C_guestOp_50 ⟨Nat.le_of_ble_eq_true rfl, Nat.le_of_ble_eq_true rfl⟩) hD hA hS (fun w1 H locs hw hP hD hS => ?_)
    obtain ⟨u1, g⟩ := w1
    obtain ⟨q6, hq6⟩ : ∃ q, q = xf_C_refuse u (2 : Int32) := ⟨_, rfl⟩
    obtain ⟨e2, hg⟩ := hw
    rw [← hq6] at e2
    obtain rfl : q6 = u1 := e2.symm
    have hP : va_P D xCl (xWH k a g q6) H := hP
    have hD : va_D A (xWH k a g q6) := hD
    have hg : xok k g q6 := hg
    refine lv_goto (tgt := 171) hx hb xd_C_guestOp_53 rfl ?_
    exact W.widen (by omega) (by omega) (hret (q6, g) H locs ls _ ⟨(by unfold xf_C_guestOp; exact (xlt_e hr1 (xlt_e hr2 (xlt_e hr3 (xlt_e hr4 (xit h5 (xlt_e hq6 rfl))))))), hg⟩ hP hD hS xd_C_guestOp_171)
  · refine lv_aload_n hx hb xd_C_guestOp_31 rfl (lv_at hl 2 rfl) ?_
    refine xget_C_mode (v := (xg_C_mode u)) hx hb htg hown hK hP (htg _ xw_213) rfl xd_C_guestOp_32 ?_
    refine lv_if_ne (tgt := 56) hx hb xd_C_guestOp_35 rfl (fun h7 => ?_) (fun h7 => ?_)
    · refine lv_aload_n hx hb xd_C_guestOp_56 rfl (lv_at hl 2 rfl) ?_
      refine xget_C_mode (v := (xg_C_mode u)) hx hb htg hown hK hP (htg _ xw_213) rfl xd_C_guestOp_57 ?_
      refine xc0_i (va_runSN (As := [.int ((xg_C_mode u))]) (rest := []) ⟨hx, hb, hml, hown, htg⟩ (c_H_isVirtual l D (xTy k) z H.size (xg_C_mode u)) ⟨va_cnB (host := "HyperHost") 1 htg (xg_C0 xkin_H_isVirtual) rfl rfl rfl (xnest hE (by decide +kernel)) (htg _ xw_1) (by decide +kernel) ⟨Nat.le_of_ble_eq_true rfl, Nat.le_of_ble_eq_true rfl⟩, htg _ xw_427, trivial⟩ ⟨xB_blind, fun U hU hW => xB_mk va_P0 hK va_D0 hE hS (xsub0 hA hS) hU hW⟩ rfl rfl hl.1 rfl (lv_room (Nat.le_of_ble_eq_true rfl)) xd_C_guestOp_60 ⟨Nat.le_of_ble_eq_true rfl, Nat.le_of_ble_eq_true rfl⟩) hP hA hS (fun r8 H locs hr8 hP hS => ?_)
      refine lv_if_eq (tgt := 75) hx hb xd_C_guestOp_63 rfl (fun h9 => ?_) (fun h9 => ?_)
      · refine lv_aload_n hx hb xd_C_guestOp_75 rfl (lv_at hl 2 rfl) ?_
        refine xget_C_trap hx hb htg hown hK hP (htg _ xw_208) xd_C_guestOp_76 ?_
        refine lv_iconst (v := 1) hx hb xd_C_guestOp_79 (by decide) ?_
        refine xput_P_asGuest (v := true) hx hb htg hown hK hP hD hS hg (htg _ xw_170) xd_C_guestOp_80 (fun H locs hP hD hS hg => ?_)
        refine lv_aload_n hx hb xd_C_guestOp_83 rfl (lv_at hl 2 rfl) ?_
        refine lv_sipush (v := 256) hx hb xd_C_guestOp_84 (by decide) ?_
        refine xcW_i (va_runV (As := [.int 256]) (rest := []) ⟨hx, hb, hml, hown, htg⟩ (c_C_isSet l D z k a g H.size (xs_P_asGuest u true) hg (256 : Int32)) (cwV 1 htg (xg_V0 xkin_C_isSet xw_618 xw_620 xsel_C_isSet xw_2) rfl rfl rfl (by decide +kernel) ⟨Nat.le_of_ble_eq_true rfl, Nat.le_of_ble_eq_true rfl⟩) ⟨xB_blind, xrecv_C hK hP, fun U hU hW => xB_mk hP hK hD hE hS (xsubW hD hA hS) hU hW⟩ rfl rfl hl.1 rfl (lv_room (Nat.le_of_ble_eq_true rfl)) xd_C_guestOp_87 ⟨Nat.le_of_ble_eq_true rfl, Nat.le_of_ble_eq_true rfl⟩) hD hA hS (fun r w1 H locs hw hP hD hS => ?_)
        obtain ⟨u1, g⟩ := w1
        obtain ⟨q10, hq10⟩ : ∃ q, q = xf_C_isSet (xs_P_asGuest u true) (256 : Int32) := ⟨_, rfl⟩
        obtain ⟨e1, e2, hg⟩ := hw
        rw [← hq10] at e1
        obtain rfl : q10 = r := e1.symm
        obtain rfl : (xs_P_asGuest u true) = u1 := e2.symm
        have hP : va_P D xCl (xWH k a g (xs_P_asGuest u true)) H := hP
        have hD : va_D A (xWH k a g (xs_P_asGuest u true)) := hD
        have hg : xok k g (xs_P_asGuest u true) := hg
        refine lv_if_eq (tgt := 97) hx hb xd_C_guestOp_90 rfl (fun h11 => ?_) (fun h11 => ?_)
        · refine lv_iconst (v := 2) hx hb xd_C_guestOp_97 (by decide) ?_
          refine lv_istore_n (lv' := [(3, .int 2), (2, .int r2), (1, .int r1), (0, .ref ((a 1)))]) hx hb xd_C_guestOp_98 rfl hl (by decide) rfl (fun ls hl => ?_)
          refine lv_iload_n hx hb xd_C_guestOp_99 rfl (lv_at hl 2 rfl) ?_
          refine lv_bipush (v := 48) hx hb xd_C_guestOp_100 (by decide) ?_
          refine lv_isub hx hb xd_C_guestOp_102 ?_
          refine lv_iconst (v := 1) hx hb xd_C_guestOp_103 (by decide) ?_
          refine lv_ishr hx hb xd_C_guestOp_104 ?_
          refine lv_istore (lv' := [(4, .int (((r1 - (48 : Int32)) >>> ((1 : Int32) &&& 31)))), (3, .int 2), (2, .int r2), (1, .int r1), (0, .ref ((a 1)))]) hx hb xd_C_guestOp_105 hl (by decide) rfl (fun ls hl => ?_)
          refine lv_aload_n hx hb xd_C_guestOp_107 rfl (lv_at hl 4 rfl) ?_
          refine xget_C_x hx hb htg hown hK hP (htg _ xw_199) xd_C_guestOp_108 ?_
          refine lv_aload_n hx hb xd_C_guestOp_111 rfl (lv_at hl 4 rfl) ?_
          refine xget_C_word (v := (xg_C_word (xs_P_asGuest u true))) hx hb htg hown hK hP (htg _ xw_224) rfl xd_C_guestOp_112 ?_
          refine xc0_i (va_runS (As := [.int ((xg_C_word (xs_P_asGuest u true)))]) (rest := [.ref ((a 2))]) ⟨hx, hb, hml, hown, htg⟩ (c_D_a l D (xTy k) z H.size (xg_C_word (xs_P_asGuest u true))) (va_cwS 1 htg (xg_S0 xkin_D_a xw_513 xw_514 xw_13) rfl rfl rfl (by decide +kernel) ⟨Nat.le_of_ble_eq_true rfl, Nat.le_of_ble_eq_true rfl⟩) ⟨xB_blind, fun U hU hW => xB_mk va_P0 hK va_D0 hE hS (xsub0 hA hS) hU hW⟩ rfl rfl hl.1 rfl (lv_room (Nat.le_of_ble_eq_true rfl)) xd_C_guestOp_115 ⟨Nat.le_of_ble_eq_true rfl, Nat.le_of_ble_eq_true rfl⟩) hP hA hS (fun r12 H locs hr12 hP hS => ?_)
          refine xald_x (f := (xg_x (xs_P_asGuest u true))) hx hb hK hP (xin_eq hr12 (xin_a _)) rfl xd_C_guestOp_118 ?_
          refine lv_istore (lv' := [(5, .int (((xg_x (xs_P_asGuest u true)) r12.toNatClampNeg))), (4, .int (((r1 - (48 : Int32)) >>> ((1 : Int32) &&& 31)))), (3, .int 2), (2, .int r2), (1, .int r1), (0, .ref ((a 1)))]) hx hb xd_C_guestOp_119 hl (by decide) rfl (fun ls hl => ?_)
          refine lv_iload_n hx hb xd_C_guestOp_121 rfl (lv_at hl 4 rfl) ?_
          refine lv_iconst (v := 1) hx hb xd_C_guestOp_122 (by decide) ?_
          refine lv_iand hx hb xd_C_guestOp_123 ?_
          refine lv_if_eq (tgt := 139) hx hb xd_C_guestOp_124 rfl (fun h13 => ?_) (fun h13 => ?_)
          · refine lv_aload_n hx hb xd_C_guestOp_139 rfl (lv_at hl 5 rfl) ?_
            refine lv_iload hx hb xd_C_guestOp_140 (lv_at hl 0 rfl) ?_
            refine lv_iload hx hb xd_C_guestOp_142 (lv_at hl 1 rfl) ?_
            refine lv_iload_n hx hb xd_C_guestOp_144 rfl (lv_at hl 3 rfl) ?_
            refine lv_if_eq (tgt := 152) hx hb xd_C_guestOp_145 rfl (fun h14 => ?_) (fun h14 => ?_)
            · refine lv_iconst (v := 0) hx hb xd_C_guestOp_152 (by decide) ?_
              refine lv_iload_n hx hb xd_C_guestOp_153 rfl (lv_at hl 3 rfl) ?_
              refine lv_iconst (v := 3) hx hb xd_C_guestOp_154 (by decide) ?_
              refine lv_icmp_ne (tgt := 164) hx hb xd_C_guestOp_155 rfl (fun h15 => ?_) (fun h15 => ?_)
              · refine va_gets hx hb (hE.1.1 1 (by decide)).1 hS hown (htg _ xw_519) (fun _ h9 => h9) xd_C_guestOp_164 ?_
                refine lv_iload_n hx hb xd_C_guestOp_167 rfl (lv_at hl 2 rfl) ?_
                refine xcW_v (va_runV (As := [.int (((xg_x (xs_P_asGuest u true)) r12.toNatClampNeg)), .int (((r1 - (48 : Int32)) >>> ((1 : Int32) &&& 31))), .int 0, .ref ((z.1 1)), .int 2]) (rest := []) ⟨hx, hb, hml, hown, htg⟩ (c_C_load l D z k a g H.size (xs_P_asGuest u true) hg ((xg_x (xs_P_asGuest u true)) r12.toNatClampNeg) ((r1 - (48 : Int32)) >>> ((1 : Int32) &&& 31)) (0 : Int32) 1 (2 : Int32) (by decide)) (cwV 5 htg (xg_V0 xkin_C_load xw_520 xw_522 xsel_C_load xw_2) rfl rfl rfl (by decide +kernel) ⟨Nat.le_of_ble_eq_true rfl, Nat.le_of_ble_eq_true rfl⟩) ⟨xB_blind, xrecv_C hK hP, fun U hU hW => xB_mk hP hK hD hE hS (xsubW hD hA hS) hU hW⟩ rfl rfl hl.1 rfl (lv_room (Nat.le_of_ble_eq_true rfl)) xd_C_guestOp_168 ⟨Nat.le_of_ble_eq_true rfl, Nat.le_of_ble_eq_true rfl⟩) hD hA hS (fun w1 H locs hw hP hD hS => ?_)
                obtain ⟨u1, g⟩ := w1
                obtain ⟨q16, hq16⟩ : ∃ q, q = xf_C_load (xs_P_asGuest u true) ((xg_x (xs_P_asGuest u true)) r12.toNatClampNeg) ((r1 - (48 : Int32)) >>> ((1 : Int32) &&& 31)) (0 : Int32) 1 (2 : Int32) := ⟨_, rfl⟩
                obtain ⟨e2, hg⟩ := hw
                rw [← hq16] at e2
                obtain rfl : q16 = u1 := e2.symm
                have hP : va_P D xCl (xWH k a g q16) H := hP
                have hD : va_D A (xWH k a g q16) := hD
                have hg : xok k g q16 := hg
                exact W.widen (by omega) (by omega) (hret (q16, g) H locs ls _ ⟨(by unfold xf_C_guestOp; exact (xlt_e hr1 (xlt_e hr2 (xlt_e hr3 (xlt_e hr4 (xif h5 (xif h7 (xlt_e hr8 (xit h9 (xlt_e hq10 (xit h11 (xlt_e hr12 (xit h13 (xit h14 (xif h15 (xlt_e hq16 rfl)))))))))))))))), hg⟩ hP hD hS xd_C_guestOp_171)
              · refine va_gets hx hb (hE.1.1 2 (by decide)).1 hS hown (htg _ xw_658) (fun _ h9 => h9) xd_C_guestOp_158 ?_
                refine lv_goto (tgt := 167) hx hb xd_C_guestOp_161 rfl ?_
                refine lv_iload_n hx hb xd_C_guestOp_167 rfl (lv_at hl 2 rfl) ?_
                refine xcW_v (va_runV (As := [.int (((xg_x (xs_P_asGuest u true)) r12.toNatClampNeg)), .int (((r1 - (48 : Int32)) >>> ((1 : Int32) &&& 31))), .int 0, .ref ((z.1 2)), .int 2]) (rest := []) ⟨hx, hb, hml, hown, htg⟩ (c_C_load l D z k a g H.size (xs_P_asGuest u true) hg ((xg_x (xs_P_asGuest u true)) r12.toNatClampNeg) ((r1 - (48 : Int32)) >>> ((1 : Int32) &&& 31)) (0 : Int32) 2 (2 : Int32) (by decide)) (cwV 5 htg (xg_V0 xkin_C_load xw_520 xw_522 xsel_C_load xw_2) rfl rfl rfl (by decide +kernel) ⟨Nat.le_of_ble_eq_true rfl, Nat.le_of_ble_eq_true rfl⟩) ⟨xB_blind, xrecv_C hK hP, fun U hU hW => xB_mk hP hK hD hE hS (xsubW hD hA hS) hU hW⟩ rfl rfl hl.1 rfl (lv_room (Nat.le_of_ble_eq_true rfl)) xd_C_guestOp_168 ⟨Nat.le_of_ble_eq_true rfl, Nat.le_of_ble_eq_true rfl⟩) hD hA hS (fun w1 H locs hw hP hD hS => ?_)
                obtain ⟨u1, g⟩ := w1
                obtain ⟨q17, hq17⟩ : ∃ q, q = xf_C_load (xs_P_asGuest u true) ((xg_x (xs_P_asGuest u true)) r12.toNatClampNeg) ((r1 - (48 : Int32)) >>> ((1 : Int32) &&& 31)) (0 : Int32) 2 (2 : Int32) := ⟨_, rfl⟩
                obtain ⟨e2, hg⟩ := hw
                rw [← hq17] at e2
                obtain rfl : q17 = u1 := e2.symm
                have hP : va_P D xCl (xWH k a g q17) H := hP
                have hD : va_D A (xWH k a g q17) := hD
                have hg : xok k g q17 := hg
                exact W.widen (by omega) (by omega) (hret (q17, g) H locs ls _ ⟨(by unfold xf_C_guestOp; exact (xlt_e hr1 (xlt_e hr2 (xlt_e hr3 (xlt_e hr4 (xif h5 (xif h7 (xlt_e hr8 (xit h9 (xlt_e hq10 (xit h11 (xlt_e hr12 (xit h13 (xit h14 (xit h15 (xlt_e hq17 rfl)))))))))))))))), hg⟩ hP hD hS xd_C_guestOp_171)
            · refine lv_iconst (v := 1) hx hb xd_C_guestOp_148 (by decide) ?_
              refine lv_goto (tgt := 153) hx hb xd_C_guestOp_149 rfl ?_
              refine lv_iload_n hx hb xd_C_guestOp_153 rfl (lv_at hl 3 rfl) ?_
              refine lv_iconst (v := 3) hx hb xd_C_guestOp_154 (by decide) ?_
              refine lv_icmp_ne (tgt := 164) hx hb xd_C_guestOp_155 rfl (fun h18 => ?_) (fun h18 => ?_)
              · refine va_gets hx hb (hE.1.1 1 (by decide)).1 hS hown (htg _ xw_519) (fun _ h9 => h9) xd_C_guestOp_164 ?_
                refine lv_iload_n hx hb xd_C_guestOp_167 rfl (lv_at hl 2 rfl) ?_
                refine xcW_v (va_runV (As := [.int (((xg_x (xs_P_asGuest u true)) r12.toNatClampNeg)), .int (((r1 - (48 : Int32)) >>> ((1 : Int32) &&& 31))), .int 1, .ref ((z.1 1)), .int 2]) (rest := []) ⟨hx, hb, hml, hown, htg⟩ (c_C_load l D z k a g H.size (xs_P_asGuest u true) hg ((xg_x (xs_P_asGuest u true)) r12.toNatClampNeg) ((r1 - (48 : Int32)) >>> ((1 : Int32) &&& 31)) (1 : Int32) 1 (2 : Int32) (by decide)) (cwV 5 htg (xg_V0 xkin_C_load xw_520 xw_522 xsel_C_load xw_2) rfl rfl rfl (by decide +kernel) ⟨Nat.le_of_ble_eq_true rfl, Nat.le_of_ble_eq_true rfl⟩) ⟨xB_blind, xrecv_C hK hP, fun U hU hW => xB_mk hP hK hD hE hS (xsubW hD hA hS) hU hW⟩ rfl rfl hl.1 rfl (lv_room (Nat.le_of_ble_eq_true rfl)) xd_C_guestOp_168 ⟨Nat.le_of_ble_eq_true rfl, Nat.le_of_ble_eq_true rfl⟩) hD hA hS (fun w1 H locs hw hP hD hS => ?_)
                obtain ⟨u1, g⟩ := w1
                obtain ⟨q19, hq19⟩ : ∃ q, q = xf_C_load (xs_P_asGuest u true) ((xg_x (xs_P_asGuest u true)) r12.toNatClampNeg) ((r1 - (48 : Int32)) >>> ((1 : Int32) &&& 31)) (1 : Int32) 1 (2 : Int32) := ⟨_, rfl⟩
                obtain ⟨e2, hg⟩ := hw
                rw [← hq19] at e2
                obtain rfl : q19 = u1 := e2.symm
                have hP : va_P D xCl (xWH k a g q19) H := hP
                have hD : va_D A (xWH k a g q19) := hD
                have hg : xok k g q19 := hg
                exact W.widen (by omega) (by omega) (hret (q19, g) H locs ls _ ⟨(by unfold xf_C_guestOp; exact (xlt_e hr1 (xlt_e hr2 (xlt_e hr3 (xlt_e hr4 (xif h5 (xif h7 (xlt_e hr8 (xit h9 (xlt_e hq10 (xit h11 (xlt_e hr12 (xit h13 (xif h14 (xif h18 (xlt_e hq19 rfl)))))))))))))))), hg⟩ hP hD hS xd_C_guestOp_171)
              · refine va_gets hx hb (hE.1.1 2 (by decide)).1 hS hown (htg _ xw_658) (fun _ h9 => h9) xd_C_guestOp_158 ?_
                refine lv_goto (tgt := 167) hx hb xd_C_guestOp_161 rfl ?_
                refine lv_iload_n hx hb xd_C_guestOp_167 rfl (lv_at hl 2 rfl) ?_
                refine xcW_v (va_runV (As := [.int (((xg_x (xs_P_asGuest u true)) r12.toNatClampNeg)), .int (((r1 - (48 : Int32)) >>> ((1 : Int32) &&& 31))), .int 1, .ref ((z.1 2)), .int 2]) (rest := []) ⟨hx, hb, hml, hown, htg⟩ (c_C_load l D z k a g H.size (xs_P_asGuest u true) hg ((xg_x (xs_P_asGuest u true)) r12.toNatClampNeg) ((r1 - (48 : Int32)) >>> ((1 : Int32) &&& 31)) (1 : Int32) 2 (2 : Int32) (by decide)) (cwV 5 htg (xg_V0 xkin_C_load xw_520 xw_522 xsel_C_load xw_2) rfl rfl rfl (by decide +kernel) ⟨Nat.le_of_ble_eq_true rfl, Nat.le_of_ble_eq_true rfl⟩) ⟨xB_blind, xrecv_C hK hP, fun U hU hW => xB_mk hP hK hD hE hS (xsubW hD hA hS) hU hW⟩ rfl rfl hl.1 rfl (lv_room (Nat.le_of_ble_eq_true rfl)) xd_C_guestOp_168 ⟨Nat.le_of_ble_eq_true rfl, Nat.le_of_ble_eq_true rfl⟩) hD hA hS (fun w1 H locs hw hP hD hS => ?_)
                obtain ⟨u1, g⟩ := w1
                obtain ⟨q20, hq20⟩ : ∃ q, q = xf_C_load (xs_P_asGuest u true) ((xg_x (xs_P_asGuest u true)) r12.toNatClampNeg) ((r1 - (48 : Int32)) >>> ((1 : Int32) &&& 31)) (1 : Int32) 2 (2 : Int32) := ⟨_, rfl⟩
                obtain ⟨e2, hg⟩ := hw
                rw [← hq20] at e2
                obtain rfl : q20 = u1 := e2.symm
                have hP : va_P D xCl (xWH k a g q20) H := hP
                have hD : va_D A (xWH k a g q20) := hD
                have hg : xok k g q20 := hg
                exact W.widen (by omega) (by omega) (hret (q20, g) H locs ls _ ⟨(by unfold xf_C_guestOp; exact (xlt_e hr1 (xlt_e hr2 (xlt_e hr3 (xlt_e hr4 (xif h5 (xif h7 (xlt_e hr8 (xit h9 (xlt_e hq10 (xit h11 (xlt_e hr12 (xit h13 (xif h14 (xit h18 (xlt_e hq20 rfl)))))))))))))))), hg⟩ hP hD hS xd_C_guestOp_171)
          · refine lv_aload_n hx hb xd_C_guestOp_127 rfl (lv_at hl 5 rfl) ?_
            refine lv_iload hx hb xd_C_guestOp_128 (lv_at hl 0 rfl) ?_
            refine lv_iload hx hb xd_C_guestOp_130 (lv_at hl 1 rfl) ?_
            refine lv_iload_n hx hb xd_C_guestOp_132 rfl (lv_at hl 2 rfl) ?_
            refine xcW_v (va_runV (As := [.int (((xg_x (xs_P_asGuest u true)) r12.toNatClampNeg)), .int (((r1 - (48 : Int32)) >>> ((1 : Int32) &&& 31))), .int 2]) (rest := []) ⟨hx, hb, hml, hown, htg⟩ (c_C_store l D z k a g H.size (xs_P_asGuest u true) hg ((xg_x (xs_P_asGuest u true)) r12.toNatClampNeg) ((r1 - (48 : Int32)) >>> ((1 : Int32) &&& 31)) (2 : Int32) kk (by unfold xf_C_guestOp at hk; have hk0 := xlt_k hr1 hk; have hk1 := xlt_k hr2 hk0; have hk2 := xlt_k hr3 hk1; have hk3 := xlt_k hr4 hk2; have hk4 := xif_k h5 hk3; have hk5 := xif_k h7 hk4; have hk6 := xlt_k hr8 hk5; have hk7 := xit_k h9 hk6; have hk8 := xlt_k hq10 hk7; have hk9 := xit_k h11 hk8; have hk10 := xlt_k hr12 hk9; have hk11 := xif_k h13 hk10; exact xkT (u := u) (xcH_P_asGuest.trans rfl) (fun _ => rfl) hk11)) (cwV 3 htg (xg_V0 xkin_C_store xw_566 xw_568 xsel_C_store xw_2) rfl rfl rfl (by decide +kernel) ⟨Nat.le_of_ble_eq_true rfl, Nat.le_of_ble_eq_true rfl⟩) ⟨xB_blind, xrecv_C hK hP, fun U hU hW => xB_mk hP hK hD hE hS (xsubW hD hA hS) hU hW⟩ rfl rfl hl.1 rfl (lv_room (Nat.le_of_ble_eq_true rfl)) xd_C_guestOp_133 ⟨by show 0 + 2 * kk ≤ 2 * kk; omega, by show 0 + 1025 * kk ≤ 1025 * kk; omega⟩) hD hA hS (fun w1 H locs hw hP hD hS => ?_)
            obtain ⟨u1, g⟩ := w1
            obtain ⟨q21, hq21⟩ : ∃ q, q = xf_C_store (xs_P_asGuest u true) ((xg_x (xs_P_asGuest u true)) r12.toNatClampNeg) ((r1 - (48 : Int32)) >>> ((1 : Int32) &&& 31)) (2 : Int32) := ⟨_, rfl⟩
            obtain ⟨e2, hg⟩ := hw
            rw [← hq21] at e2
            obtain rfl : q21 = u1 := e2.symm
            have hP : va_P D xCl (xWH k a g q21) H := hP
            have hD : va_D A (xWH k a g q21) := hD
            have hg : xok k g q21 := hg
            refine lv_goto (tgt := 171) hx hb xd_C_guestOp_136 rfl ?_
            exact W.widen (by omega) (by omega) (hret (q21, g) H locs ls _ ⟨(by unfold xf_C_guestOp; exact (xlt_e hr1 (xlt_e hr2 (xlt_e hr3 (xlt_e hr4 (xif h5 (xif h7 (xlt_e hr8 (xit h9 (xlt_e hq10 (xit h11 (xlt_e hr12 (xif h13 (xlt_e hq21 rfl)))))))))))))), hg⟩ hP hD hS xd_C_guestOp_171)
        · refine lv_iconst (v := 3) hx hb xd_C_guestOp_93 (by decide) ?_
          refine lv_goto (tgt := 98) hx hb xd_C_guestOp_94 rfl ?_
          refine lv_istore_n (lv' := [(3, .int 3), (2, .int r2), (1, .int r1), (0, .ref ((a 1)))]) hx hb xd_C_guestOp_98 rfl hl (by decide) rfl (fun ls hl => ?_)
          refine lv_iload_n hx hb xd_C_guestOp_99 rfl (lv_at hl 2 rfl) ?_
          refine lv_bipush (v := 48) hx hb xd_C_guestOp_100 (by decide) ?_
          refine lv_isub hx hb xd_C_guestOp_102 ?_
          refine lv_iconst (v := 1) hx hb xd_C_guestOp_103 (by decide) ?_
          refine lv_ishr hx hb xd_C_guestOp_104 ?_
          refine lv_istore (lv' := [(4, .int (((r1 - (48 : Int32)) >>> ((1 : Int32) &&& 31)))), (3, .int 3), (2, .int r2), (1, .int r1), (0, .ref ((a 1)))]) hx hb xd_C_guestOp_105 hl (by decide) rfl (fun ls hl => ?_)
          refine lv_aload_n hx hb xd_C_guestOp_107 rfl (lv_at hl 4 rfl) ?_
          refine xget_C_x hx hb htg hown hK hP (htg _ xw_199) xd_C_guestOp_108 ?_
          refine lv_aload_n hx hb xd_C_guestOp_111 rfl (lv_at hl 4 rfl) ?_
          refine xget_C_word (v := (xg_C_word (xs_P_asGuest u true))) hx hb htg hown hK hP (htg _ xw_224) rfl xd_C_guestOp_112 ?_
          refine xc0_i (va_runS (As := [.int ((xg_C_word (xs_P_asGuest u true)))]) (rest := [.ref ((a 2))]) ⟨hx, hb, hml, hown, htg⟩ (c_D_a l D (xTy k) z H.size (xg_C_word (xs_P_asGuest u true))) (va_cwS 1 htg (xg_S0 xkin_D_a xw_513 xw_514 xw_13) rfl rfl rfl (by decide +kernel) ⟨Nat.le_of_ble_eq_true rfl, Nat.le_of_ble_eq_true rfl⟩) ⟨xB_blind, fun U hU hW => xB_mk va_P0 hK va_D0 hE hS (xsub0 hA hS) hU hW⟩ rfl rfl hl.1 rfl (lv_room (Nat.le_of_ble_eq_true rfl)) xd_C_guestOp_115 ⟨Nat.le_of_ble_eq_true rfl, Nat.le_of_ble_eq_true rfl⟩) hP hA hS (fun r22 H locs hr22 hP hS => ?_)
          refine xald_x (f := (xg_x (xs_P_asGuest u true))) hx hb hK hP (xin_eq hr22 (xin_a _)) rfl xd_C_guestOp_118 ?_
          refine lv_istore (lv' := [(5, .int (((xg_x (xs_P_asGuest u true)) r22.toNatClampNeg))), (4, .int (((r1 - (48 : Int32)) >>> ((1 : Int32) &&& 31)))), (3, .int 3), (2, .int r2), (1, .int r1), (0, .ref ((a 1)))]) hx hb xd_C_guestOp_119 hl (by decide) rfl (fun ls hl => ?_)
          refine lv_iload_n hx hb xd_C_guestOp_121 rfl (lv_at hl 4 rfl) ?_
          refine lv_iconst (v := 1) hx hb xd_C_guestOp_122 (by decide) ?_
          refine lv_iand hx hb xd_C_guestOp_123 ?_
          refine lv_if_eq (tgt := 139) hx hb xd_C_guestOp_124 rfl (fun h23 => ?_) (fun h23 => ?_)
          · refine lv_aload_n hx hb xd_C_guestOp_139 rfl (lv_at hl 5 rfl) ?_
            refine lv_iload hx hb xd_C_guestOp_140 (lv_at hl 0 rfl) ?_
            refine lv_iload hx hb xd_C_guestOp_142 (lv_at hl 1 rfl) ?_
            refine lv_iload_n hx hb xd_C_guestOp_144 rfl (lv_at hl 3 rfl) ?_
            refine lv_if_eq (tgt := 152) hx hb xd_C_guestOp_145 rfl (fun h24 => ?_) (fun h24 => ?_)
            · refine lv_iconst (v := 0) hx hb xd_C_guestOp_152 (by decide) ?_
              refine lv_iload_n hx hb xd_C_guestOp_153 rfl (lv_at hl 3 rfl) ?_
              refine lv_iconst (v := 3) hx hb xd_C_guestOp_154 (by decide) ?_
              refine lv_icmp_ne (tgt := 164) hx hb xd_C_guestOp_155 rfl (fun h25 => ?_) (fun h25 => ?_)
              · refine va_gets hx hb (hE.1.1 1 (by decide)).1 hS hown (htg _ xw_519) (fun _ h9 => h9) xd_C_guestOp_164 ?_
                refine lv_iload_n hx hb xd_C_guestOp_167 rfl (lv_at hl 2 rfl) ?_
                refine xcW_v (va_runV (As := [.int (((xg_x (xs_P_asGuest u true)) r22.toNatClampNeg)), .int (((r1 - (48 : Int32)) >>> ((1 : Int32) &&& 31))), .int 0, .ref ((z.1 1)), .int 3]) (rest := []) ⟨hx, hb, hml, hown, htg⟩ (c_C_load l D z k a g H.size (xs_P_asGuest u true) hg ((xg_x (xs_P_asGuest u true)) r22.toNatClampNeg) ((r1 - (48 : Int32)) >>> ((1 : Int32) &&& 31)) (0 : Int32) 1 (3 : Int32) (by decide)) (cwV 5 htg (xg_V0 xkin_C_load xw_520 xw_522 xsel_C_load xw_2) rfl rfl rfl (by decide +kernel) ⟨Nat.le_of_ble_eq_true rfl, Nat.le_of_ble_eq_true rfl⟩) ⟨xB_blind, xrecv_C hK hP, fun U hU hW => xB_mk hP hK hD hE hS (xsubW hD hA hS) hU hW⟩ rfl rfl hl.1 rfl (lv_room (Nat.le_of_ble_eq_true rfl)) xd_C_guestOp_168 ⟨Nat.le_of_ble_eq_true rfl, Nat.le_of_ble_eq_true rfl⟩) hD hA hS (fun w1 H locs hw hP hD hS => ?_)
                obtain ⟨u1, g⟩ := w1
                obtain ⟨q26, hq26⟩ : ∃ q, q = xf_C_load (xs_P_asGuest u true) ((xg_x (xs_P_asGuest u true)) r22.toNatClampNeg) ((r1 - (48 : Int32)) >>> ((1 : Int32) &&& 31)) (0 : Int32) 1 (3 : Int32) := ⟨_, rfl⟩
                obtain ⟨e2, hg⟩ := hw
                rw [← hq26] at e2
                obtain rfl : q26 = u1 := e2.symm
                have hP : va_P D xCl (xWH k a g q26) H := hP
                have hD : va_D A (xWH k a g q26) := hD
                have hg : xok k g q26 := hg
                exact W.widen (by omega) (by omega) (hret (q26, g) H locs ls _ ⟨(by unfold xf_C_guestOp; exact (xlt_e hr1 (xlt_e hr2 (xlt_e hr3 (xlt_e hr4 (xif h5 (xif h7 (xlt_e hr8 (xit h9 (xlt_e hq10 (xif h11 (xlt_e hr22 (xit h23 (xit h24 (xif h25 (xlt_e hq26 rfl)))))))))))))))), hg⟩ hP hD hS xd_C_guestOp_171)
              · refine va_gets hx hb (hE.1.1 2 (by decide)).1 hS hown (htg _ xw_658) (fun _ h9 => h9) xd_C_guestOp_158 ?_
                refine lv_goto (tgt := 167) hx hb xd_C_guestOp_161 rfl ?_
                refine lv_iload_n hx hb xd_C_guestOp_167 rfl (lv_at hl 2 rfl) ?_
                refine xcW_v (va_runV (As := [.int (((xg_x (xs_P_asGuest u true)) r22.toNatClampNeg)), .int (((r1 - (48 : Int32)) >>> ((1 : Int32) &&& 31))), .int 0, .ref ((z.1 2)), .int 3]) (rest := []) ⟨hx, hb, hml, hown, htg⟩ (c_C_load l D z k a g H.size (xs_P_asGuest u true) hg ((xg_x (xs_P_asGuest u true)) r22.toNatClampNeg) ((r1 - (48 : Int32)) >>> ((1 : Int32) &&& 31)) (0 : Int32) 2 (3 : Int32) (by decide)) (cwV 5 htg (xg_V0 xkin_C_load xw_520 xw_522 xsel_C_load xw_2) rfl rfl rfl (by decide +kernel) ⟨Nat.le_of_ble_eq_true rfl, Nat.le_of_ble_eq_true rfl⟩) ⟨xB_blind, xrecv_C hK hP, fun U hU hW => xB_mk hP hK hD hE hS (xsubW hD hA hS) hU hW⟩ rfl rfl hl.1 rfl (lv_room (Nat.le_of_ble_eq_true rfl)) xd_C_guestOp_168 ⟨Nat.le_of_ble_eq_true rfl, Nat.le_of_ble_eq_true rfl⟩) hD hA hS (fun w1 H locs hw hP hD hS => ?_)
                obtain ⟨u1, g⟩ := w1
                obtain ⟨q27, hq27⟩ : ∃ q, q = xf_C_load (xs_P_asGuest u true) ((xg_x (xs_P_asGuest u true)) r22.toNatClampNeg) ((r1 - (48 : Int32)) >>> ((1 : Int32) &&& 31)) (0 : Int32) 2 (3 : Int32) := ⟨_, rfl⟩
                obtain ⟨e2, hg⟩ := hw
                rw [← hq27] at e2
                obtain rfl : q27 = u1 := e2.symm
                have hP : va_P D xCl (xWH k a g q27) H := hP
                have hD : va_D A (xWH k a g q27) := hD
                have hg : xok k g q27 := hg
                exact W.widen (by omega) (by omega) (hret (q27, g) H locs ls _ ⟨(by unfold xf_C_guestOp; exact (xlt_e hr1 (xlt_e hr2 (xlt_e hr3 (xlt_e hr4 (xif h5 (xif h7 (xlt_e hr8 (xit h9 (xlt_e hq10 (xif h11 (xlt_e hr22 (xit h23 (xit h24 (xit h25 (xlt_e hq27 rfl)))))))))))))))), hg⟩ hP hD hS xd_C_guestOp_171)
            · refine lv_iconst (v := 1) hx hb xd_C_guestOp_148 (by decide) ?_
              refine lv_goto (tgt := 153) hx hb xd_C_guestOp_149 rfl ?_
              refine lv_iload_n hx hb xd_C_guestOp_153 rfl (lv_at hl 3 rfl) ?_
              refine lv_iconst (v := 3) hx hb xd_C_guestOp_154 (by decide) ?_
              refine lv_icmp_ne (tgt := 164) hx hb xd_C_guestOp_155 rfl (fun h28 => ?_) (fun h28 => ?_)
              · refine va_gets hx hb (hE.1.1 1 (by decide)).1 hS hown (htg _ xw_519) (fun _ h9 => h9) xd_C_guestOp_164 ?_
                refine lv_iload_n hx hb xd_C_guestOp_167 rfl (lv_at hl 2 rfl) ?_
                refine xcW_v (va_runV (As := [.int (((xg_x (xs_P_asGuest u true)) r22.toNatClampNeg)), .int (((r1 - (48 : Int32)) >>> ((1 : Int32) &&& 31))), .int 1, .ref ((z.1 1)), .int 3]) (rest := []) ⟨hx, hb, hml, hown, htg⟩ (c_C_load l D z k a g H.size (xs_P_asGuest u true) hg ((xg_x (xs_P_asGuest u true)) r22.toNatClampNeg) ((r1 - (48 : Int32)) >>> ((1 : Int32) &&& 31)) (1 : Int32) 1 (3 : Int32) (by decide)) (cwV 5 htg (xg_V0 xkin_C_load xw_520 xw_522 xsel_C_load xw_2) rfl rfl rfl (by decide +kernel) ⟨Nat.le_of_ble_eq_true rfl, Nat.le_of_ble_eq_true rfl⟩) ⟨xB_blind, xrecv_C hK hP, fun U hU hW => xB_mk hP hK hD hE hS (xsubW hD hA hS) hU hW⟩ rfl rfl hl.1 rfl (lv_room (Nat.le_of_ble_eq_true rfl)) xd_C_guestOp_168 ⟨Nat.le_of_ble_eq_true rfl, Nat.le_of_ble_eq_true rfl⟩) hD hA hS (fun w1 H locs hw hP hD hS => ?_)
                obtain ⟨u1, g⟩ := w1
                obtain ⟨q29, hq29⟩ : ∃ q, q = xf_C_load (xs_P_asGuest u true) ((xg_x (xs_P_asGuest u true)) r22.toNatClampNeg) ((r1 - (48 : Int32)) >>> ((1 : Int32) &&& 31)) (1 : Int32) 1 (3 : Int32) := ⟨_, rfl⟩
                obtain ⟨e2, hg⟩ := hw
                rw [← hq29] at e2
                obtain rfl : q29 = u1 := e2.symm
                have hP : va_P D xCl (xWH k a g q29) H := hP
                have hD : va_D A (xWH k a g q29) := hD
                have hg : xok k g q29 := hg
                exact W.widen (by omega) (by omega) (hret (q29, g) H locs ls _ ⟨(by unfold xf_C_guestOp; exact (xlt_e hr1 (xlt_e hr2 (xlt_e hr3 (xlt_e hr4 (xif h5 (xif h7 (xlt_e hr8 (xit h9 (xlt_e hq10 (xif h11 (xlt_e hr22 (xit h23 (xif h24 (xif h28 (xlt_e hq29 rfl)))))))))))))))), hg⟩ hP hD hS xd_C_guestOp_171)
              · refine va_gets hx hb (hE.1.1 2 (by decide)).1 hS hown (htg _ xw_658) (fun _ h9 => h9) xd_C_guestOp_158 ?_
                refine lv_goto (tgt := 167) hx hb xd_C_guestOp_161 rfl ?_
                refine lv_iload_n hx hb xd_C_guestOp_167 rfl (lv_at hl 2 rfl) ?_
                refine xcW_v (va_runV (As := [.int (((xg_x (xs_P_asGuest u true)) r22.toNatClampNeg)), .int (((r1 - (48 : Int32)) >>> ((1 : Int32) &&& 31))), .int 1, .ref ((z.1 2)), .int 3]) (rest := []) ⟨hx, hb, hml, hown, htg⟩ (c_C_load l D z k a g H.size (xs_P_asGuest u true) hg ((xg_x (xs_P_asGuest u true)) r22.toNatClampNeg) ((r1 - (48 : Int32)) >>> ((1 : Int32) &&& 31)) (1 : Int32) 2 (3 : Int32) (by decide)) (cwV 5 htg (xg_V0 xkin_C_load xw_520 xw_522 xsel_C_load xw_2) rfl rfl rfl (by decide +kernel) ⟨Nat.le_of_ble_eq_true rfl, Nat.le_of_ble_eq_true rfl⟩) ⟨xB_blind, xrecv_C hK hP, fun U hU hW => xB_mk hP hK hD hE hS (xsubW hD hA hS) hU hW⟩ rfl rfl hl.1 rfl (lv_room (Nat.le_of_ble_eq_true rfl)) xd_C_guestOp_168 ⟨Nat.le_of_ble_eq_true rfl, Nat.le_of_ble_eq_true rfl⟩) hD hA hS (fun w1 H locs hw hP hD hS => ?_)
                obtain ⟨u1, g⟩ := w1
                obtain ⟨q30, hq30⟩ : ∃ q, q = xf_C_load (xs_P_asGuest u true) ((xg_x (xs_P_asGuest u true)) r22.toNatClampNeg) ((r1 - (48 : Int32)) >>> ((1 : Int32) &&& 31)) (1 : Int32) 2 (3 : Int32) := ⟨_, rfl⟩
                obtain ⟨e2, hg⟩ := hw
                rw [← hq30] at e2
                obtain rfl : q30 = u1 := e2.symm
                have hP : va_P D xCl (xWH k a g q30) H := hP
                have hD : va_D A (xWH k a g q30) := hD
                have hg : xok k g q30 := hg
                exact W.widen (by omega) (by omega) (hret (q30, g) H locs ls _ ⟨(by unfold xf_C_guestOp; exact (xlt_e hr1 (xlt_e hr2 (xlt_e hr3 (xlt_e hr4 (xif h5 (xif h7 (xlt_e hr8 (xit h9 (xlt_e hq10 (xif h11 (xlt_e hr22 (xit h23 (xif h24 (xit h28 (xlt_e hq30 rfl)))))))))))))))), hg⟩ hP hD hS xd_C_guestOp_171)
          · refine lv_aload_n hx hb xd_C_guestOp_127 rfl (lv_at hl 5 rfl) ?_
            refine lv_iload hx hb xd_C_guestOp_128 (lv_at hl 0 rfl) ?_
            refine lv_iload hx hb xd_C_guestOp_130 (lv_at hl 1 rfl) ?_
            refine lv_iload_n hx hb xd_C_guestOp_132 rfl (lv_at hl 2 rfl) ?_
            refine xcW_v (va_runV (As := [.int (((xg_x (xs_P_asGuest u true)) r22.toNatClampNeg)), .int (((r1 - (48 : Int32)) >>> ((1 : Int32) &&& 31))), .int 3]) (rest := []) ⟨hx, hb, hml, hown, htg⟩ (c_C_store l D z k a g H.size (xs_P_asGuest u true) hg ((xg_x (xs_P_asGuest u true)) r22.toNatClampNeg) ((r1 - (48 : Int32)) >>> ((1 : Int32) &&& 31)) (3 : Int32) kk (by unfold xf_C_guestOp at hk; have hk0 := xlt_k hr1 hk; have hk1 := xlt_k hr2 hk0; have hk2 := xlt_k hr3 hk1; have hk3 := xlt_k hr4 hk2; have hk4 := xif_k h5 hk3; have hk5 := xif_k h7 hk4; have hk6 := xlt_k hr8 hk5; have hk7 := xit_k h9 hk6; have hk8 := xlt_k hq10 hk7; have hk9 := xif_k h11 hk8; have hk10 := xlt_k hr22 hk9; have hk11 := xif_k h23 hk10; exact xkT (u := u) (xcH_P_asGuest.trans rfl) (fun _ => rfl) hk11)) (cwV 3 htg (xg_V0 xkin_C_store xw_566 xw_568 xsel_C_store xw_2) rfl rfl rfl (by decide +kernel) ⟨Nat.le_of_ble_eq_true rfl, Nat.le_of_ble_eq_true rfl⟩) ⟨xB_blind, xrecv_C hK hP, fun U hU hW => xB_mk hP hK hD hE hS (xsubW hD hA hS) hU hW⟩ rfl rfl hl.1 rfl (lv_room (Nat.le_of_ble_eq_true rfl)) xd_C_guestOp_133 ⟨by show 0 + 2 * kk ≤ 2 * kk; omega, by show 0 + 1025 * kk ≤ 1025 * kk; omega⟩) hD hA hS (fun w1 H locs hw hP hD hS => ?_)
            obtain ⟨u1, g⟩ := w1
            obtain ⟨q31, hq31⟩ : ∃ q, q = xf_C_store (xs_P_asGuest u true) ((xg_x (xs_P_asGuest u true)) r22.toNatClampNeg) ((r1 - (48 : Int32)) >>> ((1 : Int32) &&& 31)) (3 : Int32) := ⟨_, rfl⟩
            obtain ⟨e2, hg⟩ := hw
            rw [← hq31] at e2
            obtain rfl : q31 = u1 := e2.symm
            have hP : va_P D xCl (xWH k a g q31) H := hP
            have hD : va_D A (xWH k a g q31) := hD
            have hg : xok k g q31 := hg
            refine lv_goto (tgt := 171) hx hb xd_C_guestOp_136 rfl ?_
            exact W.widen (by omega) (by omega) (hret (q31, g) H locs ls _ ⟨(by unfold xf_C_guestOp; exact (xlt_e hr1 (xlt_e hr2 (xlt_e hr3 (xlt_e hr4 (xif h5 (xif h7 (xlt_e hr8 (xit h9 (xlt_e hq10 (xif h11 (xlt_e hr22 (xif h23 (xlt_e hq31 rfl)))))))))))))), hg⟩ hP hD hS xd_C_guestOp_171)
      · refine lv_aload_n hx hb xd_C_guestOp_66 rfl (lv_at hl 2 rfl) ?_
        refine lv_bipush (v := 22) hx hb xd_C_guestOp_67 (by decide) ?_
        refine xcW_v (va_runV (As := [.int 22]) (rest := []) ⟨hx, hb, hml, hown, htg⟩ (c_C_refuse l D z k a g H.size u hg (22 : Int32)) (cwV 1 htg (xg_V0 xkin_C_refuse xw_509 xw_511 xsel_C_refuse xw_2) rfl rfl rfl (by decide +kernel) ⟨Nat.le_of_ble_eq_true rfl, Nat.le_of_ble_eq_true rfl⟩) ⟨xB_blind, xrecv_C hK hP, fun U hU hW => xB_mk hP hK hD hE hS (xsubW hD hA hS) hU hW⟩ rfl rfl hl.1 rfl (lv_room (Nat.le_of_ble_eq_true rfl)) xd_C_guestOp_69 ⟨Nat.le_of_ble_eq_true rfl, Nat.le_of_ble_eq_true rfl⟩) hD hA hS (fun w1 H locs hw hP hD hS => ?_)
        obtain ⟨u1, g⟩ := w1
        obtain ⟨q32, hq32⟩ : ∃ q, q = xf_C_refuse u (22 : Int32) := ⟨_, rfl⟩
        obtain ⟨e2, hg⟩ := hw
        rw [← hq32] at e2
        obtain rfl : q32 = u1 := e2.symm
        have hP : va_P D xCl (xWH k a g q32) H := hP
        have hD : va_D A (xWH k a g q32) := hD
        have hg : xok k g q32 := hg
        refine lv_goto (tgt := 171) hx hb xd_C_guestOp_72 rfl ?_
        exact W.widen (by omega) (by omega) (hret (q32, g) H locs ls _ ⟨(by unfold xf_C_guestOp; exact (xlt_e hr1 (xlt_e hr2 (xlt_e hr3 (xlt_e hr4 (xif h5 (xif h7 (xlt_e hr8 (xif h9 (xlt_e hq32 rfl)))))))))), hg⟩ hP hD hS xd_C_guestOp_171)
    · refine lv_aload_n hx hb xd_C_guestOp_38 rfl (lv_at hl 2 rfl) ?_
      refine lv_sipush (v := 512) hx hb xd_C_guestOp_39 (by decide) ?_
      refine xcW_i (va_runV (As := [.int 512]) (rest := []) ⟨hx, hb, hml, hown, htg⟩ (c_C_isSet l D z k a g H.size u hg (512 : Int32)) (cwV 1 htg (xg_V0 xkin_C_isSet xw_618 xw_620 xsel_C_isSet xw_2) rfl rfl rfl (by decide +kernel) ⟨Nat.le_of_ble_eq_true rfl, Nat.le_of_ble_eq_true rfl⟩) ⟨xB_blind, xrecv_C hK hP, fun U hU hW => xB_mk hP hK hD hE hS (xsubW hD hA hS) hU hW⟩ rfl rfl hl.1 rfl (lv_room (Nat.le_of_ble_eq_true rfl)) xd_C_guestOp_42 ⟨Nat.le_of_ble_eq_true rfl, Nat.le_of_ble_eq_true rfl⟩) hD hA hS (fun r w1 H locs hw hP hD hS => ?_)
      obtain ⟨u1, g⟩ := w1
      obtain ⟨q33, hq33⟩ : ∃ q, q = xf_C_isSet u (512 : Int32) := ⟨_, rfl⟩
      obtain ⟨e1, e2, hg⟩ := hw
      rw [← hq33] at e1
      obtain rfl : q33 = r := e1.symm
      obtain rfl : u = u1 := e2.symm
      have hP : va_P D xCl (xWH k a g u) H := hP
      have hD : va_D A (xWH k a g u) := hD
      have hg : xok k g u := hg
      refine lv_if_ne (tgt := 56) hx hb xd_C_guestOp_45 rfl (fun h34 => ?_) (fun h34 => ?_)
      · refine lv_aload_n hx hb xd_C_guestOp_56 rfl (lv_at hl 2 rfl) ?_
        refine xget_C_mode (v := (xg_C_mode u)) hx hb htg hown hK hP (htg _ xw_213) rfl xd_C_guestOp_57 ?_
        refine xc0_i (va_runSN (As := [.int ((xg_C_mode u))]) (rest := []) ⟨hx, hb, hml, hown, htg⟩ (c_H_isVirtual l D (xTy k) z H.size (xg_C_mode u)) ⟨va_cnB (host := "HyperHost") 1 htg (xg_C0 xkin_H_isVirtual) rfl rfl rfl (xnest hE (by decide +kernel)) (htg _ xw_1) (by decide +kernel) ⟨Nat.le_of_ble_eq_true rfl, Nat.le_of_ble_eq_true rfl⟩, htg _ xw_427, trivial⟩ ⟨xB_blind, fun U hU hW => xB_mk va_P0 hK va_D0 hE hS (xsub0 hA hS) hU hW⟩ rfl rfl hl.1 rfl (lv_room (Nat.le_of_ble_eq_true rfl)) xd_C_guestOp_60 ⟨Nat.le_of_ble_eq_true rfl, Nat.le_of_ble_eq_true rfl⟩) hP hA hS (fun r35 H locs hr35 hP hS => ?_)
        refine lv_if_eq (tgt := 75) hx hb xd_C_guestOp_63 rfl (fun h36 => ?_) (fun h36 => ?_)
        · refine lv_aload_n hx hb xd_C_guestOp_75 rfl (lv_at hl 2 rfl) ?_
          refine xget_C_trap hx hb htg hown hK hP (htg _ xw_208) xd_C_guestOp_76 ?_
          refine lv_iconst (v := 1) hx hb xd_C_guestOp_79 (by decide) ?_
          refine xput_P_asGuest (v := true) hx hb htg hown hK hP hD hS hg (htg _ xw_170) xd_C_guestOp_80 (fun H locs hP hD hS hg => ?_)
          refine lv_aload_n hx hb xd_C_guestOp_83 rfl (lv_at hl 2 rfl) ?_
          refine lv_sipush (v := 256) hx hb xd_C_guestOp_84 (by decide) ?_
          refine xcW_i (va_runV (As := [.int 256]) (rest := []) ⟨hx, hb, hml, hown, htg⟩ (c_C_isSet l D z k a g H.size (xs_P_asGuest u true) hg (256 : Int32)) (cwV 1 htg (xg_V0 xkin_C_isSet xw_618 xw_620 xsel_C_isSet xw_2) rfl rfl rfl (by decide +kernel) ⟨Nat.le_of_ble_eq_true rfl, Nat.le_of_ble_eq_true rfl⟩) ⟨xB_blind, xrecv_C hK hP, fun U hU hW => xB_mk hP hK hD hE hS (xsubW hD hA hS) hU hW⟩ rfl rfl hl.1 rfl (lv_room (Nat.le_of_ble_eq_true rfl)) xd_C_guestOp_87 ⟨Nat.le_of_ble_eq_true rfl, Nat.le_of_ble_eq_true rfl⟩) hD hA hS (fun r w1 H locs hw hP hD hS => ?_)
          obtain ⟨u1, g⟩ := w1
          obtain ⟨q37, hq37⟩ : ∃ q, q = xf_C_isSet (xs_P_asGuest u true) (256 : Int32) := ⟨_, rfl⟩
          obtain ⟨e1, e2, hg⟩ := hw
          rw [← hq37] at e1
          obtain rfl : q37 = r := e1.symm
          obtain rfl : (xs_P_asGuest u true) = u1 := e2.symm
          have hP : va_P D xCl (xWH k a g (xs_P_asGuest u true)) H := hP
          have hD : va_D A (xWH k a g (xs_P_asGuest u true)) := hD
          have hg : xok k g (xs_P_asGuest u true) := hg
          refine lv_if_eq (tgt := 97) hx hb xd_C_guestOp_90 rfl (fun h38 => ?_) (fun h38 => ?_)
          · refine lv_iconst (v := 2) hx hb xd_C_guestOp_97 (by decide) ?_
            refine lv_istore_n (lv' := [(3, .int 2), (2, .int r2), (1, .int r1), (0, .ref ((a 1)))]) hx hb xd_C_guestOp_98 rfl hl (by decide) rfl (fun ls hl => ?_)
            refine lv_iload_n hx hb xd_C_guestOp_99 rfl (lv_at hl 2 rfl) ?_
            refine lv_bipush (v := 48) hx hb xd_C_guestOp_100 (by decide) ?_
            refine lv_isub hx hb xd_C_guestOp_102 ?_
            refine lv_iconst (v := 1) hx hb xd_C_guestOp_103 (by decide) ?_
            refine lv_ishr hx hb xd_C_guestOp_104 ?_
            refine lv_istore (lv' := [(4, .int (((r1 - (48 : Int32)) >>> ((1 : Int32) &&& 31)))), (3, .int 2), (2, .int r2), (1, .int r1), (0, .ref ((a 1)))]) hx hb xd_C_guestOp_105 hl (by decide) rfl (fun ls hl => ?_)
            refine lv_aload_n hx hb xd_C_guestOp_107 rfl (lv_at hl 4 rfl) ?_
            refine xget_C_x hx hb htg hown hK hP (htg _ xw_199) xd_C_guestOp_108 ?_
            refine lv_aload_n hx hb xd_C_guestOp_111 rfl (lv_at hl 4 rfl) ?_
            refine xget_C_word (v := (xg_C_word (xs_P_asGuest u true))) hx hb htg hown hK hP (htg _ xw_224) rfl xd_C_guestOp_112 ?_
            refine xc0_i (va_runS (As := [.int ((xg_C_word (xs_P_asGuest u true)))]) (rest := [.ref ((a 2))]) ⟨hx, hb, hml, hown, htg⟩ (c_D_a l D (xTy k) z H.size (xg_C_word (xs_P_asGuest u true))) (va_cwS 1 htg (xg_S0 xkin_D_a xw_513 xw_514 xw_13) rfl rfl rfl (by decide +kernel) ⟨Nat.le_of_ble_eq_true rfl, Nat.le_of_ble_eq_true rfl⟩) ⟨xB_blind, fun U hU hW => xB_mk va_P0 hK va_D0 hE hS (xsub0 hA hS) hU hW⟩ rfl rfl hl.1 rfl (lv_room (Nat.le_of_ble_eq_true rfl)) xd_C_guestOp_115 ⟨Nat.le_of_ble_eq_true rfl, Nat.le_of_ble_eq_true rfl⟩) hP hA hS (fun r39 H locs hr39 hP hS => ?_)
            refine xald_x (f := (xg_x (xs_P_asGuest u true))) hx hb hK hP (xin_eq hr39 (xin_a _)) rfl xd_C_guestOp_118 ?_
            refine lv_istore (lv' := [(5, .int (((xg_x (xs_P_asGuest u true)) r39.toNatClampNeg))), (4, .int (((r1 - (48 : Int32)) >>> ((1 : Int32) &&& 31)))), (3, .int 2), (2, .int r2), (1, .int r1), (0, .ref ((a 1)))]) hx hb xd_C_guestOp_119 hl (by decide) rfl (fun ls hl => ?_)
            refine lv_iload_n hx hb xd_C_guestOp_121 rfl (lv_at hl 4 rfl) ?_
            refine lv_iconst (v := 1) hx hb xd_C_guestOp_122 (by decide) ?_
            refine lv_iand hx hb xd_C_guestOp_123 ?_
            refine lv_if_eq (tgt := 139) hx hb xd_C_guestOp_124 rfl (fun h40 => ?_) (fun h40 => ?_)
            · refine lv_aload_n hx hb xd_C_guestOp_139 rfl (lv_at hl 5 rfl) ?_
              refine lv_iload hx hb xd_C_guestOp_140 (lv_at hl 0 rfl) ?_
              refine lv_iload hx hb xd_C_guestOp_142 (lv_at hl 1 rfl) ?_
              refine lv_iload_n hx hb xd_C_guestOp_144 rfl (lv_at hl 3 rfl) ?_
              refine lv_if_eq (tgt := 152) hx hb xd_C_guestOp_145 rfl (fun h41 => ?_) (fun h41 => ?_)
              · refine lv_iconst (v := 0) hx hb xd_C_guestOp_152 (by decide) ?_
                refine lv_iload_n hx hb xd_C_guestOp_153 rfl (lv_at hl 3 rfl) ?_
                refine lv_iconst (v := 3) hx hb xd_C_guestOp_154 (by decide) ?_
                refine lv_icmp_ne (tgt := 164) hx hb xd_C_guestOp_155 rfl (fun h42 => ?_) (fun h42 => ?_)
                · refine va_gets hx hb (hE.1.1 1 (by decide)).1 hS hown (htg _ xw_519) (fun _ h9 => h9) xd_C_guestOp_164 ?_
                  refine lv_iload_n hx hb xd_C_guestOp_167 rfl (lv_at hl 2 rfl) ?_
                  refine xcW_v (va_runV (As := [.int (((xg_x (xs_P_asGuest u true)) r39.toNatClampNeg)), .int (((r1 - (48 : Int32)) >>> ((1 : Int32) &&& 31))), .int 0, .ref ((z.1 1)), .int 2]) (rest := []) ⟨hx, hb, hml, hown, htg⟩ (c_C_load l D z k a g H.size (xs_P_asGuest u true) hg ((xg_x (xs_P_asGuest u true)) r39.toNatClampNeg) ((r1 - (48 : Int32)) >>> ((1 : Int32) &&& 31)) (0 : Int32) 1 (2 : Int32) (by decide)) (cwV 5 htg (xg_V0 xkin_C_load xw_520 xw_522 xsel_C_load xw_2) rfl rfl rfl (by decide +kernel) ⟨Nat.le_of_ble_eq_true rfl, Nat.le_of_ble_eq_true rfl⟩) ⟨xB_blind, xrecv_C hK hP, fun U hU hW => xB_mk hP hK hD hE hS (xsubW hD hA hS) hU hW⟩ rfl rfl hl.1 rfl (lv_room (Nat.le_of_ble_eq_true rfl)) xd_C_guestOp_168 ⟨Nat.le_of_ble_eq_true rfl, Nat.le_of_ble_eq_true rfl⟩) hD hA hS (fun w1 H locs hw hP hD hS => ?_)
                  obtain ⟨u1, g⟩ := w1
                  obtain ⟨q43, hq43⟩ : ∃ q, q = xf_C_load (xs_P_asGuest u true) ((xg_x (xs_P_asGuest u true)) r39.toNatClampNeg) ((r1 - (48 : Int32)) >>> ((1 : Int32) &&& 31)) (0 : Int32) 1 (2 : Int32) := ⟨_, rfl⟩
                  obtain ⟨e2, hg⟩ := hw
                  rw [← hq43] at e2
                  obtain rfl : q43 = u1 := e2.symm
                  have hP : va_P D xCl (xWH k a g q43) H := hP
                  have hD : va_D A (xWH k a g q43) := hD
                  have hg : xok k g q43 := hg
                  exact W.widen (by omega) (by omega) (hret (q43, g) H locs ls _ ⟨(by unfold xf_C_guestOp; exact (xlt_e hr1 (xlt_e hr2 (xlt_e hr3 (xlt_e hr4 (xif h5 (xit h7 (xlt_e hq33 (xif h34 (xlt_e hr35 (xit h36 (xlt_e hq37 (xit h38 (xlt_e hr39 (xit h40 (xit h41 (xif h42 (xlt_e hq43 rfl)))))))))))))))))), hg⟩ hP hD hS xd_C_guestOp_171)
                · refine va_gets hx hb (hE.1.1 2 (by decide)).1 hS hown (htg _ xw_658) (fun _ h9 => h9) xd_C_guestOp_158 ?_
                  refine lv_goto (tgt := 167) hx hb xd_C_guestOp_161 rfl ?_
                  refine lv_iload_n hx hb xd_C_guestOp_167 rfl (lv_at hl 2 rfl) ?_
                  refine xcW_v (va_runV (As := [.int (((xg_x (xs_P_asGuest u true)) r39.toNatClampNeg)), .int (((r1 - (48 : Int32)) >>> ((1 : Int32) &&& 31))), .int 0, .ref ((z.1 2)), .int 2]) (rest := []) ⟨hx, hb, hml, hown, htg⟩ (c_C_load l D z k a g H.size (xs_P_asGuest u true) hg ((xg_x (xs_P_asGuest u true)) r39.toNatClampNeg) ((r1 - (48 : Int32)) >>> ((1 : Int32) &&& 31)) (0 : Int32) 2 (2 : Int32) (by decide)) (cwV 5 htg (xg_V0 xkin_C_load xw_520 xw_522 xsel_C_load xw_2) rfl rfl rfl (by decide +kernel) ⟨Nat.le_of_ble_eq_true rfl, Nat.le_of_ble_eq_true rfl⟩) ⟨xB_blind, xrecv_C hK hP, fun U hU hW => xB_mk hP hK hD hE hS (xsubW hD hA hS) hU hW⟩ rfl rfl hl.1 rfl (lv_room (Nat.le_of_ble_eq_true rfl)) xd_C_guestOp_168 ⟨Nat.le_of_ble_eq_true rfl, Nat.le_of_ble_eq_true rfl⟩) hD hA hS (fun w1 H locs hw hP hD hS => ?_)
                  obtain ⟨u1, g⟩ := w1
                  obtain ⟨q44, hq44⟩ : ∃ q, q = xf_C_load (xs_P_asGuest u true) ((xg_x (xs_P_asGuest u true)) r39.toNatClampNeg) ((r1 - (48 : Int32)) >>> ((1 : Int32) &&& 31)) (0 : Int32) 2 (2 : Int32) := ⟨_, rfl⟩
                  obtain ⟨e2, hg⟩ := hw
                  rw [← hq44] at e2
                  obtain rfl : q44 = u1 := e2.symm
                  have hP : va_P D xCl (xWH k a g q44) H := hP
                  have hD : va_D A (xWH k a g q44) := hD
                  have hg : xok k g q44 := hg
                  exact W.widen (by omega) (by omega) (hret (q44, g) H locs ls _ ⟨(by unfold xf_C_guestOp; exact (xlt_e hr1 (xlt_e hr2 (xlt_e hr3 (xlt_e hr4 (xif h5 (xit h7 (xlt_e hq33 (xif h34 (xlt_e hr35 (xit h36 (xlt_e hq37 (xit h38 (xlt_e hr39 (xit h40 (xit h41 (xit h42 (xlt_e hq44 rfl)))))))))))))))))), hg⟩ hP hD hS xd_C_guestOp_171)
              · refine lv_iconst (v := 1) hx hb xd_C_guestOp_148 (by decide) ?_
                refine lv_goto (tgt := 153) hx hb xd_C_guestOp_149 rfl ?_
                refine lv_iload_n hx hb xd_C_guestOp_153 rfl (lv_at hl 3 rfl) ?_
                refine lv_iconst (v := 3) hx hb xd_C_guestOp_154 (by decide) ?_
                refine lv_icmp_ne (tgt := 164) hx hb xd_C_guestOp_155 rfl (fun h45 => ?_) (fun h45 => ?_)
                · refine va_gets hx hb (hE.1.1 1 (by decide)).1 hS hown (htg _ xw_519) (fun _ h9 => h9) xd_C_guestOp_164 ?_
                  refine lv_iload_n hx hb xd_C_guestOp_167 rfl (lv_at hl 2 rfl) ?_
                  refine xcW_v (va_runV (As := [.int (((xg_x (xs_P_asGuest u true)) r39.toNatClampNeg)), .int (((r1 - (48 : Int32)) >>> ((1 : Int32) &&& 31))), .int 1, .ref ((z.1 1)), .int 2]) (rest := []) ⟨hx, hb, hml, hown, htg⟩ (c_C_load l D z k a g H.size (xs_P_asGuest u true) hg ((xg_x (xs_P_asGuest u true)) r39.toNatClampNeg) ((r1 - (48 : Int32)) >>> ((1 : Int32) &&& 31)) (1 : Int32) 1 (2 : Int32) (by decide)) (cwV 5 htg (xg_V0 xkin_C_load xw_520 xw_522 xsel_C_load xw_2) rfl rfl rfl (by decide +kernel) ⟨Nat.le_of_ble_eq_true rfl, Nat.le_of_ble_eq_true rfl⟩) ⟨xB_blind, xrecv_C hK hP, fun U hU hW => xB_mk hP hK hD hE hS (xsubW hD hA hS) hU hW⟩ rfl rfl hl.1 rfl (lv_room (Nat.le_of_ble_eq_true rfl)) xd_C_guestOp_168 ⟨Nat.le_of_ble_eq_true rfl, Nat.le_of_ble_eq_true rfl⟩) hD hA hS (fun w1 H locs hw hP hD hS => ?_)
                  obtain ⟨u1, g⟩ := w1
                  obtain ⟨q46, hq46⟩ : ∃ q, q = xf_C_load (xs_P_asGuest u true) ((xg_x (xs_P_asGuest u true)) r39.toNatClampNeg) ((r1 - (48 : Int32)) >>> ((1 : Int32) &&& 31)) (1 : Int32) 1 (2 : Int32) := ⟨_, rfl⟩
                  obtain ⟨e2, hg⟩ := hw
                  rw [← hq46] at e2
                  obtain rfl : q46 = u1 := e2.symm
                  have hP : va_P D xCl (xWH k a g q46) H := hP
                  have hD : va_D A (xWH k a g q46) := hD
                  have hg : xok k g q46 := hg
                  exact W.widen (by omega) (by omega) (hret (q46, g) H locs ls _ ⟨(by unfold xf_C_guestOp; exact (xlt_e hr1 (xlt_e hr2 (xlt_e hr3 (xlt_e hr4 (xif h5 (xit h7 (xlt_e hq33 (xif h34 (xlt_e hr35 (xit h36 (xlt_e hq37 (xit h38 (xlt_e hr39 (xit h40 (xif h41 (xif h45 (xlt_e hq46 rfl)))))))))))))))))), hg⟩ hP hD hS xd_C_guestOp_171)
                · refine va_gets hx hb (hE.1.1 2 (by decide)).1 hS hown (htg _ xw_658) (fun _ h9 => h9) xd_C_guestOp_158 ?_
                  refine lv_goto (tgt := 167) hx hb xd_C_guestOp_161 rfl ?_
                  refine lv_iload_n hx hb xd_C_guestOp_167 rfl (lv_at hl 2 rfl) ?_
                  refine xcW_v (va_runV (As := [.int (((xg_x (xs_P_asGuest u true)) r39.toNatClampNeg)), .int (((r1 - (48 : Int32)) >>> ((1 : Int32) &&& 31))), .int 1, .ref ((z.1 2)), .int 2]) (rest := []) ⟨hx, hb, hml, hown, htg⟩ (c_C_load l D z k a g H.size (xs_P_asGuest u true) hg ((xg_x (xs_P_asGuest u true)) r39.toNatClampNeg) ((r1 - (48 : Int32)) >>> ((1 : Int32) &&& 31)) (1 : Int32) 2 (2 : Int32) (by decide)) (cwV 5 htg (xg_V0 xkin_C_load xw_520 xw_522 xsel_C_load xw_2) rfl rfl rfl (by decide +kernel) ⟨Nat.le_of_ble_eq_true rfl, Nat.le_of_ble_eq_true rfl⟩) ⟨xB_blind, xrecv_C hK hP, fun U hU hW => xB_mk hP hK hD hE hS (xsubW hD hA hS) hU hW⟩ rfl rfl hl.1 rfl (lv_room (Nat.le_of_ble_eq_true rfl)) xd_C_guestOp_168 ⟨Nat.le_of_ble_eq_true rfl, Nat.le_of_ble_eq_true rfl⟩) hD hA hS (fun w1 H locs hw hP hD hS => ?_)
                  obtain ⟨u1, g⟩ := w1
                  obtain ⟨q47, hq47⟩ : ∃ q, q = xf_C_load (xs_P_asGuest u true) ((xg_x (xs_P_asGuest u true)) r39.toNatClampNeg) ((r1 - (48 : Int32)) >>> ((1 : Int32) &&& 31)) (1 : Int32) 2 (2 : Int32) := ⟨_, rfl⟩
                  obtain ⟨e2, hg⟩ := hw
                  rw [← hq47] at e2
                  obtain rfl : q47 = u1 := e2.symm
                  have hP : va_P D xCl (xWH k a g q47) H := hP
                  have hD : va_D A (xWH k a g q47) := hD
                  have hg : xok k g q47 := hg
                  exact W.widen (by omega) (by omega) (hret (q47, g) H locs ls _ ⟨(by unfold xf_C_guestOp; exact (xlt_e hr1 (xlt_e hr2 (xlt_e hr3 (xlt_e hr4 (xif h5 (xit h7 (xlt_e hq33 (xif h34 (xlt_e hr35 (xit h36 (xlt_e hq37 (xit h38 (xlt_e hr39 (xit h40 (xif h41 (xit h45 (xlt_e hq47 rfl)))))))))))))))))), hg⟩ hP hD hS xd_C_guestOp_171)
            · refine lv_aload_n hx hb xd_C_guestOp_127 rfl (lv_at hl 5 rfl) ?_
              refine lv_iload hx hb xd_C_guestOp_128 (lv_at hl 0 rfl) ?_
              refine lv_iload hx hb xd_C_guestOp_130 (lv_at hl 1 rfl) ?_
              refine lv_iload_n hx hb xd_C_guestOp_132 rfl (lv_at hl 2 rfl) ?_
              refine xcW_v (va_runV (As := [.int (((xg_x (xs_P_asGuest u true)) r39.toNatClampNeg)), .int (((r1 - (48 : Int32)) >>> ((1 : Int32) &&& 31))), .int 2]) (rest := []) ⟨hx, hb, hml, hown, htg⟩ (c_C_store l D z k a g H.size (xs_P_asGuest u true) hg ((xg_x (xs_P_asGuest u true)) r39.toNatClampNeg) ((r1 - (48 : Int32)) >>> ((1 : Int32) &&& 31)) (2 : Int32) kk (by unfold xf_C_guestOp at hk; have hk0 := xlt_k hr1 hk; have hk1 := xlt_k hr2 hk0; have hk2 := xlt_k hr3 hk1; have hk3 := xlt_k hr4 hk2; have hk4 := xif_k h5 hk3; have hk5 := xit_k h7 hk4; have hk6 := xlt_k hq33 hk5; have hk7 := xif_k h34 hk6; have hk8 := xlt_k hr35 hk7; have hk9 := xit_k h36 hk8; have hk10 := xlt_k hq37 hk9; have hk11 := xit_k h38 hk10; have hk12 := xlt_k hr39 hk11; have hk13 := xif_k h40 hk12; exact xkT (u := u) (xcH_P_asGuest.trans rfl) (fun _ => rfl) hk13)) (cwV 3 htg (xg_V0 xkin_C_store xw_566 xw_568 xsel_C_store xw_2) rfl rfl rfl (by decide +kernel) ⟨Nat.le_of_ble_eq_true rfl, Nat.le_of_ble_eq_true rfl⟩) ⟨xB_blind, xrecv_C hK hP, fun U hU hW => xB_mk hP hK hD hE hS (xsubW hD hA hS) hU hW⟩ rfl rfl hl.1 rfl (lv_room (Nat.le_of_ble_eq_true rfl)) xd_C_guestOp_133 ⟨by show 0 + 2 * kk ≤ 2 * kk; omega, by show 0 + 1025 * kk ≤ 1025 * kk; omega⟩) hD hA hS (fun w1 H locs hw hP hD hS => ?_)
              obtain ⟨u1, g⟩ := w1
              obtain ⟨q48, hq48⟩ : ∃ q, q = xf_C_store (xs_P_asGuest u true) ((xg_x (xs_P_asGuest u true)) r39.toNatClampNeg) ((r1 - (48 : Int32)) >>> ((1 : Int32) &&& 31)) (2 : Int32) := ⟨_, rfl⟩
              obtain ⟨e2, hg⟩ := hw
              rw [← hq48] at e2
              obtain rfl : q48 = u1 := e2.symm
              have hP : va_P D xCl (xWH k a g q48) H := hP
              have hD : va_D A (xWH k a g q48) := hD
              have hg : xok k g q48 := hg
              refine lv_goto (tgt := 171) hx hb xd_C_guestOp_136 rfl ?_
              exact W.widen (by omega) (by omega) (hret (q48, g) H locs ls _ ⟨(by unfold xf_C_guestOp; exact (xlt_e hr1 (xlt_e hr2 (xlt_e hr3 (xlt_e hr4 (xif h5 (xit h7 (xlt_e hq33 (xif h34 (xlt_e hr35 (xit h36 (xlt_e hq37 (xit h38 (xlt_e hr39 (xif h40 (xlt_e hq48 rfl)))))))))))))))), hg⟩ hP hD hS xd_C_guestOp_171)
          · refine lv_iconst (v := 3) hx hb xd_C_guestOp_93 (by decide) ?_
            refine lv_goto (tgt := 98) hx hb xd_C_guestOp_94 rfl ?_
            refine lv_istore_n (lv' := [(3, .int 3), (2, .int r2), (1, .int r1), (0, .ref ((a 1)))]) hx hb xd_C_guestOp_98 rfl hl (by decide) rfl (fun ls hl => ?_)
            refine lv_iload_n hx hb xd_C_guestOp_99 rfl (lv_at hl 2 rfl) ?_
            refine lv_bipush (v := 48) hx hb xd_C_guestOp_100 (by decide) ?_
            refine lv_isub hx hb xd_C_guestOp_102 ?_
            refine lv_iconst (v := 1) hx hb xd_C_guestOp_103 (by decide) ?_
            refine lv_ishr hx hb xd_C_guestOp_104 ?_
            refine lv_istore (lv' := [(4, .int (((r1 - (48 : Int32)) >>> ((1 : Int32) &&& 31)))), (3, .int 3), (2, .int r2), (1, .int r1), (0, .ref ((a 1)))]) hx hb xd_C_guestOp_105 hl (by decide) rfl (fun ls hl => ?_)
            refine lv_aload_n hx hb xd_C_guestOp_107 rfl (lv_at hl 4 rfl) ?_
            refine xget_C_x hx hb htg hown hK hP (htg _ xw_199) xd_C_guestOp_108 ?_
            refine lv_aload_n hx hb xd_C_guestOp_111 rfl (lv_at hl 4 rfl) ?_
            refine xget_C_word (v := (xg_C_word (xs_P_asGuest u true))) hx hb htg hown hK hP (htg _ xw_224) rfl xd_C_guestOp_112 ?_
            refine xc0_i (va_runS (As := [.int ((xg_C_word (xs_P_asGuest u true)))]) (rest := [.ref ((a 2))]) ⟨hx, hb, hml, hown, htg⟩ (c_D_a l D (xTy k) z H.size (xg_C_word (xs_P_asGuest u true))) (va_cwS 1 htg (xg_S0 xkin_D_a xw_513 xw_514 xw_13) rfl rfl rfl (by decide +kernel) ⟨Nat.le_of_ble_eq_true rfl, Nat.le_of_ble_eq_true rfl⟩) ⟨xB_blind, fun U hU hW => xB_mk va_P0 hK va_D0 hE hS (xsub0 hA hS) hU hW⟩ rfl rfl hl.1 rfl (lv_room (Nat.le_of_ble_eq_true rfl)) xd_C_guestOp_115 ⟨Nat.le_of_ble_eq_true rfl, Nat.le_of_ble_eq_true rfl⟩) hP hA hS (fun r49 H locs hr49 hP hS => ?_)
            refine xald_x (f := (xg_x (xs_P_asGuest u true))) hx hb hK hP (xin_eq hr49 (xin_a _)) rfl xd_C_guestOp_118 ?_
            refine lv_istore (lv' := [(5, .int (((xg_x (xs_P_asGuest u true)) r49.toNatClampNeg))), (4, .int (((r1 - (48 : Int32)) >>> ((1 : Int32) &&& 31)))), (3, .int 3), (2, .int r2), (1, .int r1), (0, .ref ((a 1)))]) hx hb xd_C_guestOp_119 hl (by decide) rfl (fun ls hl => ?_)
            refine lv_iload_n hx hb xd_C_guestOp_121 rfl (lv_at hl 4 rfl) ?_
            refine lv_iconst (v := 1) hx hb xd_C_guestOp_122 (by decide) ?_
            refine lv_iand hx hb xd_C_guestOp_123 ?_
            refine lv_if_eq (tgt := 139) hx hb xd_C_guestOp_124 rfl (fun h50 => ?_) (fun h50 => ?_)
            · refine lv_aload_n hx hb xd_C_guestOp_139 rfl (lv_at hl 5 rfl) ?_
              refine lv_iload hx hb xd_C_guestOp_140 (lv_at hl 0 rfl) ?_
              refine lv_iload hx hb xd_C_guestOp_142 (lv_at hl 1 rfl) ?_
              refine lv_iload_n hx hb xd_C_guestOp_144 rfl (lv_at hl 3 rfl) ?_
              refine lv_if_eq (tgt := 152) hx hb xd_C_guestOp_145 rfl (fun h51 => ?_) (fun h51 => ?_)
              · refine lv_iconst (v := 0) hx hb xd_C_guestOp_152 (by decide) ?_
                refine lv_iload_n hx hb xd_C_guestOp_153 rfl (lv_at hl 3 rfl) ?_
                refine lv_iconst (v := 3) hx hb xd_C_guestOp_154 (by decide) ?_
                refine lv_icmp_ne (tgt := 164) hx hb xd_C_guestOp_155 rfl (fun h52 => ?_) (fun h52 => ?_)
                · refine va_gets hx hb (hE.1.1 1 (by decide)).1 hS hown (htg _ xw_519) (fun _ h9 => h9) xd_C_guestOp_164 ?_
                  refine lv_iload_n hx hb xd_C_guestOp_167 rfl (lv_at hl 2 rfl) ?_
                  refine xcW_v (va_runV (As := [.int (((xg_x (xs_P_asGuest u true)) r49.toNatClampNeg)), .int (((r1 - (48 : Int32)) >>> ((1 : Int32) &&& 31))), .int 0, .ref ((z.1 1)), .int 3]) (rest := []) ⟨hx, hb, hml, hown, htg⟩ (c_C_load l D z k a g H.size (xs_P_asGuest u true) hg ((xg_x (xs_P_asGuest u true)) r49.toNatClampNeg) ((r1 - (48 : Int32)) >>> ((1 : Int32) &&& 31)) (0 : Int32) 1 (3 : Int32) (by decide)) (cwV 5 htg (xg_V0 xkin_C_load xw_520 xw_522 xsel_C_load xw_2) rfl rfl rfl (by decide +kernel) ⟨Nat.le_of_ble_eq_true rfl, Nat.le_of_ble_eq_true rfl⟩) ⟨xB_blind, xrecv_C hK hP, fun U hU hW => xB_mk hP hK hD hE hS (xsubW hD hA hS) hU hW⟩ rfl rfl hl.1 rfl (lv_room (Nat.le_of_ble_eq_true rfl)) xd_C_guestOp_168 ⟨Nat.le_of_ble_eq_true rfl, Nat.le_of_ble_eq_true rfl⟩) hD hA hS (fun w1 H locs hw hP hD hS => ?_)
                  obtain ⟨u1, g⟩ := w1
                  obtain ⟨q53, hq53⟩ : ∃ q, q = xf_C_load (xs_P_asGuest u true) ((xg_x (xs_P_asGuest u true)) r49.toNatClampNeg) ((r1 - (48 : Int32)) >>> ((1 : Int32) &&& 31)) (0 : Int32) 1 (3 : Int32) := ⟨_, rfl⟩
                  obtain ⟨e2, hg⟩ := hw
                  rw [← hq53] at e2
                  obtain rfl : q53 = u1 := e2.symm
                  have hP : va_P D xCl (xWH k a g q53) H := hP
                  have hD : va_D A (xWH k a g q53) := hD
                  have hg : xok k g q53 := hg
                  exact W.widen (by omega) (by omega) (hret (q53, g) H locs ls _ ⟨(by unfold xf_C_guestOp; exact (xlt_e hr1 (xlt_e hr2 (xlt_e hr3 (xlt_e hr4 (xif h5 (xit h7 (xlt_e hq33 (xif h34 (xlt_e hr35 (xit h36 (xlt_e hq37 (xif h38 (xlt_e hr49 (xit h50 (xit h51 (xif h52 (xlt_e hq53 rfl)))))))))))))))))), hg⟩ hP hD hS xd_C_guestOp_171)
                · refine va_gets hx hb (hE.1.1 2 (by decide)).1 hS hown (htg _ xw_658) (fun _ h9 => h9) xd_C_guestOp_158 ?_
                  refine lv_goto (tgt := 167) hx hb xd_C_guestOp_161 rfl ?_
                  refine lv_iload_n hx hb xd_C_guestOp_167 rfl (lv_at hl 2 rfl) ?_
                  refine xcW_v (va_runV (As := [.int (((xg_x (xs_P_asGuest u true)) r49.toNatClampNeg)), .int (((r1 - (48 : Int32)) >>> ((1 : Int32) &&& 31))), .int 0, .ref ((z.1 2)), .int 3]) (rest := []) ⟨hx, hb, hml, hown, htg⟩ (c_C_load l D z k a g H.size (xs_P_asGuest u true) hg ((xg_x (xs_P_asGuest u true)) r49.toNatClampNeg) ((r1 - (48 : Int32)) >>> ((1 : Int32) &&& 31)) (0 : Int32) 2 (3 : Int32) (by decide)) (cwV 5 htg (xg_V0 xkin_C_load xw_520 xw_522 xsel_C_load xw_2) rfl rfl rfl (by decide +kernel) ⟨Nat.le_of_ble_eq_true rfl, Nat.le_of_ble_eq_true rfl⟩) ⟨xB_blind, xrecv_C hK hP, fun U hU hW => xB_mk hP hK hD hE hS (xsubW hD hA hS) hU hW⟩ rfl rfl hl.1 rfl (lv_room (Nat.le_of_ble_eq_true rfl)) xd_C_guestOp_168 ⟨Nat.le_of_ble_eq_true rfl, Nat.le_of_ble_eq_true rfl⟩) hD hA hS (fun w1 H locs hw hP hD hS => ?_)
                  obtain ⟨u1, g⟩ := w1
                  obtain ⟨q54, hq54⟩ : ∃ q, q = xf_C_load (xs_P_asGuest u true) ((xg_x (xs_P_asGuest u true)) r49.toNatClampNeg) ((r1 - (48 : Int32)) >>> ((1 : Int32) &&& 31)) (0 : Int32) 2 (3 : Int32) := ⟨_, rfl⟩
                  obtain ⟨e2, hg⟩ := hw
                  rw [← hq54] at e2
                  obtain rfl : q54 = u1 := e2.symm
                  have hP : va_P D xCl (xWH k a g q54) H := hP
                  have hD : va_D A (xWH k a g q54) := hD
                  have hg : xok k g q54 := hg
                  exact W.widen (by omega) (by omega) (hret (q54, g) H locs ls _ ⟨(by unfold xf_C_guestOp; exact (xlt_e hr1 (xlt_e hr2 (xlt_e hr3 (xlt_e hr4 (xif h5 (xit h7 (xlt_e hq33 (xif h34 (xlt_e hr35 (xit h36 (xlt_e hq37 (xif h38 (xlt_e hr49 (xit h50 (xit h51 (xit h52 (xlt_e hq54 rfl)))))))))))))))))), hg⟩ hP hD hS xd_C_guestOp_171)
              · refine lv_iconst (v := 1) hx hb xd_C_guestOp_148 (by decide) ?_
                refine lv_goto (tgt := 153) hx hb xd_C_guestOp_149 rfl ?_
                refine lv_iload_n hx hb xd_C_guestOp_153 rfl (lv_at hl 3 rfl) ?_
                refine lv_iconst (v := 3) hx hb xd_C_guestOp_154 (by decide) ?_
                refine lv_icmp_ne (tgt := 164) hx hb xd_C_guestOp_155 rfl (fun h55 => ?_) (fun h55 => ?_)
                · refine va_gets hx hb (hE.1.1 1 (by decide)).1 hS hown (htg _ xw_519) (fun _ h9 => h9) xd_C_guestOp_164 ?_
                  refine lv_iload_n hx hb xd_C_guestOp_167 rfl (lv_at hl 2 rfl) ?_
                  refine xcW_v (va_runV (As := [.int (((xg_x (xs_P_asGuest u true)) r49.toNatClampNeg)), .int (((r1 - (48 : Int32)) >>> ((1 : Int32) &&& 31))), .int 1, .ref ((z.1 1)), .int 3]) (rest := []) ⟨hx, hb, hml, hown, htg⟩ (c_C_load l D z k a g H.size (xs_P_asGuest u true) hg ((xg_x (xs_P_asGuest u true)) r49.toNatClampNeg) ((r1 - (48 : Int32)) >>> ((1 : Int32) &&& 31)) (1 : Int32) 1 (3 : Int32) (by decide)) (cwV 5 htg (xg_V0 xkin_C_load xw_520 xw_522 xsel_C_load xw_2) rfl rfl rfl (by decide +kernel) ⟨Nat.le_of_ble_eq_true rfl, Nat.le_of_ble_eq_true rfl⟩) ⟨xB_blind, xrecv_C hK hP, fun U hU hW => xB_mk hP hK hD hE hS (xsubW hD hA hS) hU hW⟩ rfl rfl hl.1 rfl (lv_room (Nat.le_of_ble_eq_true rfl)) xd_C_guestOp_168 ⟨Nat.le_of_ble_eq_true rfl, Nat.le_of_ble_eq_true rfl⟩) hD hA hS (fun w1 H locs hw hP hD hS => ?_)
                  obtain ⟨u1, g⟩ := w1
                  obtain ⟨q56, hq56⟩ : ∃ q, q = xf_C_load (xs_P_asGuest u true) ((xg_x (xs_P_asGuest u true)) r49.toNatClampNeg) ((r1 - (48 : Int32)) >>> ((1 : Int32) &&& 31)) (1 : Int32) 1 (3 : Int32) := ⟨_, rfl⟩
                  obtain ⟨e2, hg⟩ := hw
                  rw [← hq56] at e2
                  obtain rfl : q56 = u1 := e2.symm
                  have hP : va_P D xCl (xWH k a g q56) H := hP
                  have hD : va_D A (xWH k a g q56) := hD
                  have hg : xok k g q56 := hg
                  exact W.widen (by omega) (by omega) (hret (q56, g) H locs ls _ ⟨(by unfold xf_C_guestOp; exact (xlt_e hr1 (xlt_e hr2 (xlt_e hr3 (xlt_e hr4 (xif h5 (xit h7 (xlt_e hq33 (xif h34 (xlt_e hr35 (xit h36 (xlt_e hq37 (xif h38 (xlt_e hr49 (xit h50 (xif h51 (xif h55 (xlt_e hq56 rfl)))))))))))))))))), hg⟩ hP hD hS xd_C_guestOp_171)
                · refine va_gets hx hb (hE.1.1 2 (by decide)).1 hS hown (htg _ xw_658) (fun _ h9 => h9) xd_C_guestOp_158 ?_
                  refine lv_goto (tgt := 167) hx hb xd_C_guestOp_161 rfl ?_
                  refine lv_iload_n hx hb xd_C_guestOp_167 rfl (lv_at hl 2 rfl) ?_
                  refine xcW_v (va_runV (As := [.int (((xg_x (xs_P_asGuest u true)) r49.toNatClampNeg)), .int (((r1 - (48 : Int32)) >>> ((1 : Int32) &&& 31))), .int 1, .ref ((z.1 2)), .int 3]) (rest := []) ⟨hx, hb, hml, hown, htg⟩ (c_C_load l D z k a g H.size (xs_P_asGuest u true) hg ((xg_x (xs_P_asGuest u true)) r49.toNatClampNeg) ((r1 - (48 : Int32)) >>> ((1 : Int32) &&& 31)) (1 : Int32) 2 (3 : Int32) (by decide)) (cwV 5 htg (xg_V0 xkin_C_load xw_520 xw_522 xsel_C_load xw_2) rfl rfl rfl (by decide +kernel) ⟨Nat.le_of_ble_eq_true rfl, Nat.le_of_ble_eq_true rfl⟩) ⟨xB_blind, xrecv_C hK hP, fun U hU hW => xB_mk hP hK hD hE hS (xsubW hD hA hS) hU hW⟩ rfl rfl hl.1 rfl (lv_room (Nat.le_of_ble_eq_true rfl)) xd_C_guestOp_168 ⟨Nat.le_of_ble_eq_true rfl, Nat.le_of_ble_eq_true rfl⟩) hD hA hS (fun w1 H locs hw hP hD hS => ?_)
                  obtain ⟨u1, g⟩ := w1
                  obtain ⟨q57, hq57⟩ : ∃ q, q = xf_C_load (xs_P_asGuest u true) ((xg_x (xs_P_asGuest u true)) r49.toNatClampNeg) ((r1 - (48 : Int32)) >>> ((1 : Int32) &&& 31)) (1 : Int32) 2 (3 : Int32) := ⟨_, rfl⟩
                  obtain ⟨e2, hg⟩ := hw
                  rw [← hq57] at e2
                  obtain rfl : q57 = u1 := e2.symm
                  have hP : va_P D xCl (xWH k a g q57) H := hP
                  have hD : va_D A (xWH k a g q57) := hD
                  have hg : xok k g q57 := hg
                  exact W.widen (by omega) (by omega) (hret (q57, g) H locs ls _ ⟨(by unfold xf_C_guestOp; exact (xlt_e hr1 (xlt_e hr2 (xlt_e hr3 (xlt_e hr4 (xif h5 (xit h7 (xlt_e hq33 (xif h34 (xlt_e hr35 (xit h36 (xlt_e hq37 (xif h38 (xlt_e hr49 (xit h50 (xif h51 (xit h55 (xlt_e hq57 rfl)))))))))))))))))), hg⟩ hP hD hS xd_C_guestOp_171)
            · refine lv_aload_n hx hb xd_C_guestOp_127 rfl (lv_at hl 5 rfl) ?_
              refine lv_iload hx hb xd_C_guestOp_128 (lv_at hl 0 rfl) ?_
              refine lv_iload hx hb xd_C_guestOp_130 (lv_at hl 1 rfl) ?_
              refine lv_iload_n hx hb xd_C_guestOp_132 rfl (lv_at hl 2 rfl) ?_
              refine xcW_v (va_runV (As := [.int (((xg_x (xs_P_asGuest u true)) r49.toNatClampNeg)), .int (((r1 - (48 : Int32)) >>> ((1 : Int32) &&& 31))), .int 3]) (rest := []) ⟨hx, hb, hml, hown, htg⟩ (c_C_store l D z k a g H.size (xs_P_asGuest u true) hg ((xg_x (xs_P_asGuest u true)) r49.toNatClampNeg) ((r1 - (48 : Int32)) >>> ((1 : Int32) &&& 31)) (3 : Int32) kk (by unfold xf_C_guestOp at hk; have hk0 := xlt_k hr1 hk; have hk1 := xlt_k hr2 hk0; have hk2 := xlt_k hr3 hk1; have hk3 := xlt_k hr4 hk2; have hk4 := xif_k h5 hk3; have hk5 := xit_k h7 hk4; have hk6 := xlt_k hq33 hk5; have hk7 := xif_k h34 hk6; have hk8 := xlt_k hr35 hk7; have hk9 := xit_k h36 hk8; have hk10 := xlt_k hq37 hk9; have hk11 := xif_k h38 hk10; have hk12 := xlt_k hr49 hk11; have hk13 := xif_k h50 hk12; exact xkT (u := u) (xcH_P_asGuest.trans rfl) (fun _ => rfl) hk13)) (cwV 3 htg (xg_V0 xkin_C_store xw_566 xw_568 xsel_C_store xw_2) rfl rfl rfl (by decide +kernel) ⟨Nat.le_of_ble_eq_true rfl, Nat.le_of_ble_eq_true rfl⟩) ⟨xB_blind, xrecv_C hK hP, fun U hU hW => xB_mk hP hK hD hE hS (xsubW hD hA hS) hU hW⟩ rfl rfl hl.1 rfl (lv_room (Nat.le_of_ble_eq_true rfl)) xd_C_guestOp_133 ⟨by show 0 + 2 * kk ≤ 2 * kk; omega, by show 0 + 1025 * kk ≤ 1025 * kk; omega⟩) hD hA hS (fun w1 H locs hw hP hD hS => ?_)
              obtain ⟨u1, g⟩ := w1
              obtain ⟨q58, hq58⟩ : ∃ q, q = xf_C_store (xs_P_asGuest u true) ((xg_x (xs_P_asGuest u true)) r49.toNatClampNeg) ((r1 - (48 : Int32)) >>> ((1 : Int32) &&& 31)) (3 : Int32) := ⟨_, rfl⟩
              obtain ⟨e2, hg⟩ := hw
              rw [← hq58] at e2
              obtain rfl : q58 = u1 := e2.symm
              have hP : va_P D xCl (xWH k a g q58) H := hP
              have hD : va_D A (xWH k a g q58) := hD
              have hg : xok k g q58 := hg
              refine lv_goto (tgt := 171) hx hb xd_C_guestOp_136 rfl ?_
              exact W.widen (by omega) (by omega) (hret (q58, g) H locs ls _ ⟨(by unfold xf_C_guestOp; exact (xlt_e hr1 (xlt_e hr2 (xlt_e hr3 (xlt_e hr4 (xif h5 (xit h7 (xlt_e hq33 (xif h34 (xlt_e hr35 (xit h36 (xlt_e hq37 (xif h38 (xlt_e hr49 (xif h50 (xlt_e hq58 rfl)))))))))))))))), hg⟩ hP hD hS xd_C_guestOp_171)
        · refine lv_aload_n hx hb xd_C_guestOp_66 rfl (lv_at hl 2 rfl) ?_
          refine lv_bipush (v := 22) hx hb xd_C_guestOp_67 (by decide) ?_
          refine xcW_v (va_runV (As := [.int 22]) (rest := []) ⟨hx, hb, hml, hown, htg⟩ (c_C_refuse l D z k a g H.size u hg (22 : Int32)) (cwV 1 htg (xg_V0 xkin_C_refuse xw_509 xw_511 xsel_C_refuse xw_2) rfl rfl rfl (by decide +kernel) ⟨Nat.le_of_ble_eq_true rfl, Nat.le_of_ble_eq_true rfl⟩) ⟨xB_blind, xrecv_C hK hP, fun U hU hW => xB_mk hP hK hD hE hS (xsubW hD hA hS) hU hW⟩ rfl rfl hl.1 rfl (lv_room (Nat.le_of_ble_eq_true rfl)) xd_C_guestOp_69 ⟨Nat.le_of_ble_eq_true rfl, Nat.le_of_ble_eq_true rfl⟩) hD hA hS (fun w1 H locs hw hP hD hS => ?_)
          obtain ⟨u1, g⟩ := w1
          obtain ⟨q59, hq59⟩ : ∃ q, q = xf_C_refuse u (22 : Int32) := ⟨_, rfl⟩
          obtain ⟨e2, hg⟩ := hw
          rw [← hq59] at e2
          obtain rfl : q59 = u1 := e2.symm
          have hP : va_P D xCl (xWH k a g q59) H := hP
          have hD : va_D A (xWH k a g q59) := hD
          have hg : xok k g q59 := hg
          refine lv_goto (tgt := 171) hx hb xd_C_guestOp_72 rfl ?_
          exact W.widen (by omega) (by omega) (hret (q59, g) H locs ls _ ⟨(by unfold xf_C_guestOp; exact (xlt_e hr1 (xlt_e hr2 (xlt_e hr3 (xlt_e hr4 (xif h5 (xit h7 (xlt_e hq33 (xif h34 (xlt_e hr35 (xif h36 (xlt_e hq59 rfl)))))))))))), hg⟩ hP hD hS xd_C_guestOp_171)
      · refine lv_aload_n hx hb xd_C_guestOp_48 rfl (lv_at hl 2 rfl) ?_
        refine lv_iconst (v := 2) hx hb xd_C_guestOp_49 (by decide) ?_
        refine xcW_v (va_runV (As := [.int 2]) (rest := []) ⟨hx, hb, hml, hown, htg⟩ (c_C_refuse l D z k a g H.size u hg (2 : Int32)) (cwV 1 htg (xg_V0 xkin_C_refuse xw_509 xw_511 xsel_C_refuse xw_2) rfl rfl rfl (by decide +kernel) ⟨Nat.le_of_ble_eq_true rfl, Nat.le_of_ble_eq_true rfl⟩) ⟨xB_blind, xrecv_C hK hP, fun U hU hW => xB_mk hP hK hD hE hS (xsubW hD hA hS) hU hW⟩ rfl rfl hl.1 rfl (lv_room (Nat.le_of_ble_eq_true rfl)) xd_C_guestOp_50 ⟨Nat.le_of_ble_eq_true rfl, Nat.le_of_ble_eq_true rfl⟩) hD hA hS (fun w1 H locs hw hP hD hS => ?_)
        obtain ⟨u1, g⟩ := w1
        obtain ⟨q60, hq60⟩ : ∃ q, q = xf_C_refuse u (2 : Int32) := ⟨_, rfl⟩
        obtain ⟨e2, hg⟩ := hw
        rw [← hq60] at e2
        obtain rfl : q60 = u1 := e2.symm
        have hP : va_P D xCl (xWH k a g q60) H := hP
        have hD : va_D A (xWH k a g q60) := hD
        have hg : xok k g q60 := hg
        refine lv_goto (tgt := 171) hx hb xd_C_guestOp_53 rfl ?_
        exact W.widen (by omega) (by omega) (hret (q60, g) H locs ls _ ⟨(by unfold xf_C_guestOp; exact (xlt_e hr1 (xlt_e hr2 (xlt_e hr3 (xlt_e hr4 (xif h5 (xit h7 (xlt_e hq33 (xit h34 (xlt_e hq60 rfl)))))))))), hg⟩ hP hD hS xd_C_guestOp_171)

noncomputable def xf_C_loadOp (u : XH) : XH :=
  xlt (xf_D_f (xg_C_word u) : Int32) fun r1 =>
  if r1 = 3 then
    xlt (xf_C_refuse u (2 : Int32) : XH) fun q3 =>
    q3
  else
    if r1 ≤ 5 then
      xlt (xf_D_a (xg_C_word u) : Int32) fun r5 =>
      xlt (xf_D_immediate (xg_C_word u) : Int32) fun r6 =>
      xlt (if r1 ≤ 3 then (0) else (1) : Int32) fun v8 =>
      xlt (xf_C_load u (((xg_x u) r5.toNatClampNeg) + r6) (r1 &&& (3 : Int32)) v8 1 (xg_C_mode u) : XH) fun q10 =>
      q10
    else
      xlt (xf_C_refuse u (2 : Int32) : XH) fun q12 =>
      q12
set_option maxHeartbeats 4000000 in
set_option maxRecDepth 100000 in
theorem c_C_loadOp (l : Launch) (D : va_G) (z : (Nat → Nat) × (Nat → Nat)) (k : ClassId × ClassId) (a : Nat → Nat) (g : XG) (sz : Nat) (u : XH) (hg : xok k g u) : Met l xy_C_loadOp (xk_C_loadOp :: lw_g) { frames := 5, cells := 0, slots := 0, locals := 148 } (va_Pc [.ref ((a 1))] (xB D (xTy k) z sz (xWH k a g u))) (va_Qv (fun q : XH × XG => q.1 = xf_C_loadOp u ∧ xok k q.2 q.1) (fun q t => xQ D (xTy k) (xWH k a q.2 q.1) (va_A (xWH k a g u) sz) t) (va_A (xWH k a g u) sz)) 0 0 (va_A (xWH k a g u) sz) := by
  refine xopen_v (wf := fun q : XH × XG => xWH k a q.2 q.1) (lv := [(0, .ref ((a 1)))]) (by decide) rfl (Nat.le_of_ble_eq_true rfl) ?_
  intro p e s m args below meth c Q ls A H locs hx hb hml htg hown hin hK hP hD hE hS hA hl hret
  refine lv_aload_n hx hb xd_C_loadOp_0 rfl (lv_at hl 0 rfl) ?_
  refine xget_C_word (v := (xg_C_word u)) hx hb htg hown hK hP (htg _ xw_224) rfl xd_C_loadOp_1 ?_
  refine xc0_i (va_runS (As := [.int ((xg_C_word u))]) (rest := []) ⟨hx, hb, hml, hown, htg⟩ (c_D_f l D (xTy k) z H.size (xg_C_word u)) (va_cwS 1 htg (xg_S0 xkin_D_f xw_499 xw_500 xw_13) rfl rfl rfl (by decide +kernel) ⟨Nat.le_of_ble_eq_true rfl, Nat.le_of_ble_eq_true rfl⟩) ⟨xB_blind, fun U hU hW => xB_mk va_P0 hK va_D0 hE hS (xsub0 hA hS) hU hW⟩ rfl rfl hl.1 rfl (lv_room (Nat.le_of_ble_eq_true rfl)) xd_C_loadOp_4 ⟨Nat.le_of_ble_eq_true rfl, Nat.le_of_ble_eq_true rfl⟩) hP hA hS (fun r1 H locs hr1 hP hS => ?_)
  refine lv_istore_n (lv' := [(1, .int r1), (0, .ref ((a 1)))]) hx hb xd_C_loadOp_7 rfl hl (by decide) rfl (fun ls hl => ?_)
  refine lv_iload_n hx hb xd_C_loadOp_8 rfl (lv_at hl 0 rfl) ?_
  refine lv_iconst (v := 3) hx hb xd_C_loadOp_9 (by decide) ?_
  refine lv_icmp_eq (tgt := 18) hx hb xd_C_loadOp_10 rfl (fun h2 => ?_) (fun h2 => ?_)
  · refine lv_aload_n hx hb xd_C_loadOp_18 rfl (lv_at hl 1 rfl) ?_
    refine lv_iconst (v := 2) hx hb xd_C_loadOp_19 (by decide) ?_
    refine xcW_v (va_runV (As := [.int 2]) (rest := []) ⟨hx, hb, hml, hown, htg⟩ (c_C_refuse l D z k a g H.size u hg (2 : Int32)) (cwV 1 htg (xg_V0 xkin_C_refuse xw_509 xw_511 xsel_C_refuse xw_2) rfl rfl rfl (by decide +kernel) ⟨Nat.le_of_ble_eq_true rfl, Nat.le_of_ble_eq_true rfl⟩) ⟨xB_blind, xrecv_C hK hP, fun U hU hW => xB_mk hP hK hD hE hS (xsubW hD hA hS) hU hW⟩ rfl rfl hl.1 rfl (lv_room (Nat.le_of_ble_eq_true rfl)) xd_C_loadOp_20 ⟨Nat.le_of_ble_eq_true rfl, Nat.le_of_ble_eq_true rfl⟩) hD hA hS (fun w1 H locs hw hP hD hS => ?_)
    obtain ⟨u1, g⟩ := w1
    obtain ⟨q3, hq3⟩ : ∃ q, q = xf_C_refuse u (2 : Int32) := ⟨_, rfl⟩
    obtain ⟨e2, hg⟩ := hw
    rw [← hq3] at e2
    obtain rfl : q3 = u1 := e2.symm
    have hP : va_P D xCl (xWH k a g q3) H := hP
    have hD : va_D A (xWH k a g q3) := hD
    have hg : xok k g q3 := hg
    exact hret (q3, g) H locs ls _ ⟨(by unfold xf_C_loadOp; exact (xlt_e hr1 (xit h2 (xlt_e hq3 rfl)))), hg⟩ hP hD hS xd_C_loadOp_23
  · refine lv_iload_n hx hb xd_C_loadOp_13 rfl (lv_at hl 0 rfl) ?_
    refine lv_iconst (v := 5) hx hb xd_C_loadOp_14 (by decide) ?_
    refine lv_icmp_le (tgt := 24) hx hb xd_C_loadOp_15 rfl (fun h4 => ?_) (fun h4 => ?_)
    · refine lv_aload_n hx hb xd_C_loadOp_24 rfl (lv_at hl 1 rfl) ?_
      refine lv_aload_n hx hb xd_C_loadOp_25 rfl (lv_at hl 1 rfl) ?_
      refine xget_C_x hx hb htg hown hK hP (htg _ xw_199) xd_C_loadOp_26 ?_
      refine lv_aload_n hx hb xd_C_loadOp_29 rfl (lv_at hl 1 rfl) ?_
      refine xget_C_word (v := (xg_C_word u)) hx hb htg hown hK hP (htg _ xw_224) rfl xd_C_loadOp_30 ?_
      refine xc0_i (va_runS (As := [.int ((xg_C_word u))]) (rest := [.ref ((a 2)), .ref ((a 1))]) ⟨hx, hb, hml, hown, htg⟩ (c_D_a l D (xTy k) z H.size (xg_C_word u)) (va_cwS 1 htg (xg_S0 xkin_D_a xw_513 xw_514 xw_13) rfl rfl rfl (by decide +kernel) ⟨Nat.le_of_ble_eq_true rfl, Nat.le_of_ble_eq_true rfl⟩) ⟨xB_blind, fun U hU hW => xB_mk va_P0 hK va_D0 hE hS (xsub0 hA hS) hU hW⟩ rfl rfl hl.1 rfl (lv_room (Nat.le_of_ble_eq_true rfl)) xd_C_loadOp_33 ⟨Nat.le_of_ble_eq_true rfl, Nat.le_of_ble_eq_true rfl⟩) hP hA hS (fun r5 H locs hr5 hP hS => ?_)
      refine xald_x (f := (xg_x u)) hx hb hK hP (xin_eq hr5 (xin_a _)) rfl xd_C_loadOp_36 ?_
      refine lv_aload_n hx hb xd_C_loadOp_37 rfl (lv_at hl 1 rfl) ?_
      refine xget_C_word (v := (xg_C_word u)) hx hb htg hown hK hP (htg _ xw_224) rfl xd_C_loadOp_38 ?_
      refine xc0_i (va_runS (As := [.int ((xg_C_word u))]) (rest := [.int (((xg_x u) r5.toNatClampNeg)), .ref ((a 1))]) ⟨hx, hb, hml, hown, htg⟩ (c_D_immediate l D (xTy k) z H.size (xg_C_word u)) (va_cwS 1 htg (xg_S0 xkin_D_immediate xw_516 xw_517 xw_13) rfl rfl rfl (by decide +kernel) ⟨Nat.le_of_ble_eq_true rfl, Nat.le_of_ble_eq_true rfl⟩) ⟨xB_blind, fun U hU hW => xB_mk va_P0 hK va_D0 hE hS (xsub0 hA hS) hU hW⟩ rfl rfl hl.1 rfl (lv_room (Nat.le_of_ble_eq_true rfl)) xd_C_loadOp_41 ⟨Nat.le_of_ble_eq_true rfl, Nat.le_of_ble_eq_true rfl⟩) hP hA hS (fun r6 H locs hr6 hP hS => ?_)
      refine lv_iadd hx hb xd_C_loadOp_44 ?_
      refine lv_iload_n hx hb xd_C_loadOp_45 rfl (lv_at hl 0 rfl) ?_
      refine lv_iconst (v := 3) hx hb xd_C_loadOp_46 (by decide) ?_
      refine lv_iand hx hb xd_C_loadOp_47 ?_
      refine lv_iload_n hx hb xd_C_loadOp_48 rfl (lv_at hl 0 rfl) ?_
      refine lv_iconst (v := 3) hx hb xd_C_loadOp_49 (by decide) ?_
      have hj9 : ∀ (H : Heap) (locs : List Loc) (ls : Array Slot) (g : XG) (v8 : Int32), v8 = (if r1 ≤ 3 then (0) else (1)) → xok k g u → lv_has ls 2 [(1, .int r1), (0, .ref ((a 1)))] → va_P D xCl (xWH k a g u) H → va_D A (xWH k a g u) → va_S A s.heap H locs → W p l e { frames := 5, cells := 0, slots := 0, locals := 148 } s m args below meth c H locs (0) (0) Q (F0 m 58 ls [.int v8, .int ((r1 &&& (3 : Int32))), .int ((((xg_x u) r5.toNatClampNeg) + r6)), .ref ((a 1))]) := by
        intro H locs ls g v8 hv8 hg hl hP hD hS
        refine va_gets hx hb (hE.1.1 1 (by decide)).1 hS hown (htg _ xw_519) (fun _ h9 => h9) xd_C_loadOp_58 ?_
        refine lv_aload_n hx hb xd_C_loadOp_61 rfl (lv_at hl 1 rfl) ?_
        refine xget_C_mode (v := (xg_C_mode u)) hx hb htg hown hK hP (htg _ xw_213) rfl xd_C_loadOp_62 ?_
        refine xcW_v (va_runV (As := [.int ((((xg_x u) r5.toNatClampNeg) + r6)), .int ((r1 &&& (3 : Int32))), .int v8, .ref ((z.1 1)), .int ((xg_C_mode u))]) (rest := []) ⟨hx, hb, hml, hown, htg⟩ (c_C_load l D z k a g H.size u hg (((xg_x u) r5.toNatClampNeg) + r6) (r1 &&& (3 : Int32)) v8 1 (xg_C_mode u) (by decide)) (cwV 5 htg (xg_V0 xkin_C_load xw_520 xw_522 xsel_C_load xw_2) rfl rfl rfl (by decide +kernel) ⟨Nat.le_of_ble_eq_true rfl, Nat.le_of_ble_eq_true rfl⟩) ⟨xB_blind, xrecv_C hK hP, fun U hU hW => xB_mk hP hK hD hE hS (xsubW hD hA hS) hU hW⟩ rfl rfl hl.1 rfl (lv_room (Nat.le_of_ble_eq_true rfl)) xd_C_loadOp_65 ⟨Nat.le_of_ble_eq_true rfl, Nat.le_of_ble_eq_true rfl⟩) hD hA hS (fun w1 H locs hw hP hD hS => ?_)
        obtain ⟨u1, g⟩ := w1
        obtain ⟨q10, hq10⟩ : ∃ q, q = xf_C_load u (((xg_x u) r5.toNatClampNeg) + r6) (r1 &&& (3 : Int32)) v8 1 (xg_C_mode u) := ⟨_, rfl⟩
        obtain ⟨e2, hg⟩ := hw
        rw [← hq10] at e2
        obtain rfl : q10 = u1 := e2.symm
        have hP : va_P D xCl (xWH k a g q10) H := hP
        have hD : va_D A (xWH k a g q10) := hD
        have hg : xok k g q10 := hg
        exact hret (q10, g) H locs ls _ ⟨(by unfold xf_C_loadOp; exact (xlt_e hr1 (xif h2 (xit h4 (xlt_e hr5 (xlt_e hr6 (xlt_e hv8 (xlt_e hq10 rfl)))))))), hg⟩ hP hD hS xd_C_loadOp_68
      refine lv_icmp_le (tgt := 57) hx hb xd_C_loadOp_50 rfl (fun h11 => ?_) (fun h11 => ?_)
      · refine lv_iconst (v := 0) hx hb xd_C_loadOp_57 (by decide) ?_
        exact hj9 H locs ls g (0 : Int32) (xit h11 rfl) hg hl hP hD hS
      · refine lv_iconst (v := 1) hx hb xd_C_loadOp_53 (by decide) ?_
        refine lv_goto (tgt := 58) hx hb xd_C_loadOp_54 rfl ?_
        exact hj9 H locs ls g (1 : Int32) (xif h11 rfl) hg hl hP hD hS
    · refine lv_aload_n hx hb xd_C_loadOp_18 rfl (lv_at hl 1 rfl) ?_
      refine lv_iconst (v := 2) hx hb xd_C_loadOp_19 (by decide) ?_
      refine xcW_v (va_runV (As := [.int 2]) (rest := []) ⟨hx, hb, hml, hown, htg⟩ (c_C_refuse l D z k a g H.size u hg (2 : Int32)) (cwV 1 htg (xg_V0 xkin_C_refuse xw_509 xw_511 xsel_C_refuse xw_2) rfl rfl rfl (by decide +kernel) ⟨Nat.le_of_ble_eq_true rfl, Nat.le_of_ble_eq_true rfl⟩) ⟨xB_blind, xrecv_C hK hP, fun U hU hW => xB_mk hP hK hD hE hS (xsubW hD hA hS) hU hW⟩ rfl rfl hl.1 rfl (lv_room (Nat.le_of_ble_eq_true rfl)) xd_C_loadOp_20 ⟨Nat.le_of_ble_eq_true rfl, Nat.le_of_ble_eq_true rfl⟩) hD hA hS (fun w1 H locs hw hP hD hS => ?_)
      obtain ⟨u1, g⟩ := w1
      obtain ⟨q12, hq12⟩ : ∃ q, q = xf_C_refuse u (2 : Int32) := ⟨_, rfl⟩
      obtain ⟨e2, hg⟩ := hw
      rw [← hq12] at e2
      obtain rfl : q12 = u1 := e2.symm
      have hP : va_P D xCl (xWH k a g q12) H := hP
      have hD : va_D A (xWH k a g q12) := hD
      have hg : xok k g q12 := hg
      exact hret (q12, g) H locs ls _ ⟨(by unfold xf_C_loadOp; exact (xlt_e hr1 (xif h2 (xif h4 (xlt_e hq12 rfl))))), hg⟩ hP hD hS xd_C_loadOp_23
theorem xm_C_loadOp (u : XH) : XEs (xcH u) (xf_C_loadOp u) := by unfold xf_C_loadOp; exact (xlt_Es (fun r1 hr1 => (xit_Es (xlt_Es (fun q3 hq3 => ((XEs_of hq3 (xm_C_refuse u (2 : Int32))).trans rfl))) (xit_Es (xlt_Es (fun r5 hr5 => (xlt_Es (fun r6 hr6 => (xlt_Es (fun v8 hv8 => (xlt_Es (fun q10 hq10 => ((XEs_of hq10 (xm_C_load u (((xg_x u) r5.toNatClampNeg) + r6) (r1 &&& (3 : Int32)) v8 1 (xg_C_mode u))).trans rfl))))))))) (xlt_Es (fun q12 hq12 => ((XEs_of hq12 (xm_C_refuse u (2 : Int32))).trans rfl)))))))

noncomputable def xf_C_storeOp (u : XH) : XH :=
  xlt (xf_D_f (xg_C_word u) : Int32) fun r1 =>
  if r1 ≤ 2 then
    xlt (xf_D_a (xg_C_word u) : Int32) fun r3 =>
    xlt (xf_D_storeOffset (xg_C_word u) : Int32) fun r4 =>
    xlt (xf_C_store u (((xg_x u) r3.toNatClampNeg) + r4) r1 (xg_C_mode u) : XH) fun q5 =>
    q5
  else
    xlt (xf_C_refuse u (2 : Int32) : XH) fun q6 =>
    q6
set_option maxHeartbeats 4000000 in
set_option maxRecDepth 100000 in
theorem c_C_storeOp (l : Launch) (D : va_G) (z : (Nat → Nat) × (Nat → Nat)) (k : ClassId × ClassId) (a : Nat → Nat) (g : XG) (sz : Nat) (u : XH) (hg : xok k g u) (kk : Nat) (hk : XN (xcH u + kk) (xf_C_storeOp u)) : Met l xy_C_storeOp (xk_C_storeOp :: lw_g) { frames := 5, cells := 2 * kk, slots := 1025 * kk, locals := 145 } (va_Pc [.ref ((a 1))] (xB D (xTy k) z sz (xWH k a g u))) (va_Qv (fun q : XH × XG => q.1 = xf_C_storeOp u ∧ xok k q.2 q.1) (fun q t => xQ D (xTy k) (xWH k a q.2 q.1) (va_A (xWH k a g u) sz) t) (va_A (xWH k a g u) sz)) (2 * kk) (1025 * kk) (va_A (xWH k a g u) sz) := by
  refine xopen_v (wf := fun q : XH × XG => xWH k a q.2 q.1) (lv := [(0, .ref ((a 1)))]) (by decide) rfl (Nat.le_of_ble_eq_true rfl) ?_
  intro p e s m args below meth c Q ls A H locs hx hb hml htg hown hin hK hP hD hE hS hA hl hret
  refine lv_aload_n hx hb xd_C_storeOp_0 rfl (lv_at hl 0 rfl) ?_
  refine xget_C_word (v := (xg_C_word u)) hx hb htg hown hK hP (htg _ xw_224) rfl xd_C_storeOp_1 ?_
  refine xc0_i (va_runS (As := [.int ((xg_C_word u))]) (rest := []) ⟨hx, hb, hml, hown, htg⟩ (c_D_f l D (xTy k) z H.size (xg_C_word u)) (va_cwS 1 htg (xg_S0 xkin_D_f xw_499 xw_500 xw_13) rfl rfl rfl (by decide +kernel) ⟨Nat.le_of_ble_eq_true rfl, Nat.le_of_ble_eq_true rfl⟩) ⟨xB_blind, fun U hU hW => xB_mk va_P0 hK va_D0 hE hS (xsub0 hA hS) hU hW⟩ rfl rfl hl.1 rfl (lv_room (Nat.le_of_ble_eq_true rfl)) xd_C_storeOp_4 ⟨Nat.le_of_ble_eq_true rfl, Nat.le_of_ble_eq_true rfl⟩) hP hA hS (fun r1 H locs hr1 hP hS => ?_)
  refine lv_istore_n (lv' := [(1, .int r1), (0, .ref ((a 1)))]) hx hb xd_C_storeOp_7 rfl hl (by decide) rfl (fun ls hl => ?_)
  refine lv_iload_n hx hb xd_C_storeOp_8 rfl (lv_at hl 0 rfl) ?_
  refine lv_iconst (v := 2) hx hb xd_C_storeOp_9 (by decide) ?_
  refine lv_icmp_le (tgt := 19) hx hb xd_C_storeOp_10 rfl (fun h2 => ?_) (fun h2 => ?_)
  · refine lv_aload_n hx hb xd_C_storeOp_19 rfl (lv_at hl 1 rfl) ?_
    refine lv_aload_n hx hb xd_C_storeOp_20 rfl (lv_at hl 1 rfl) ?_
    refine xget_C_x hx hb htg hown hK hP (htg _ xw_199) xd_C_storeOp_21 ?_
    refine lv_aload_n hx hb xd_C_storeOp_24 rfl (lv_at hl 1 rfl) ?_
    refine xget_C_word (v := (xg_C_word u)) hx hb htg hown hK hP (htg _ xw_224) rfl xd_C_storeOp_25 ?_
    refine xc0_i (va_runS (As := [.int ((xg_C_word u))]) (rest := [.ref ((a 2)), .ref ((a 1))]) ⟨hx, hb, hml, hown, htg⟩ (c_D_a l D (xTy k) z H.size (xg_C_word u)) (va_cwS 1 htg (xg_S0 xkin_D_a xw_513 xw_514 xw_13) rfl rfl rfl (by decide +kernel) ⟨Nat.le_of_ble_eq_true rfl, Nat.le_of_ble_eq_true rfl⟩) ⟨xB_blind, fun U hU hW => xB_mk va_P0 hK va_D0 hE hS (xsub0 hA hS) hU hW⟩ rfl rfl hl.1 rfl (lv_room (Nat.le_of_ble_eq_true rfl)) xd_C_storeOp_28 ⟨Nat.le_of_ble_eq_true rfl, Nat.le_of_ble_eq_true rfl⟩) hP hA hS (fun r3 H locs hr3 hP hS => ?_)
    refine xald_x (f := (xg_x u)) hx hb hK hP (xin_eq hr3 (xin_a _)) rfl xd_C_storeOp_31 ?_
    refine lv_aload_n hx hb xd_C_storeOp_32 rfl (lv_at hl 1 rfl) ?_
    refine xget_C_word (v := (xg_C_word u)) hx hb htg hown hK hP (htg _ xw_224) rfl xd_C_storeOp_33 ?_
    refine xc0_i (va_runS (As := [.int ((xg_C_word u))]) (rest := [.int (((xg_x u) r3.toNatClampNeg)), .ref ((a 1))]) ⟨hx, hb, hml, hown, htg⟩ (c_D_storeOffset l D (xTy k) z H.size (xg_C_word u)) (va_cwS 1 htg (xg_S0 xkin_D_storeOffset xw_562 xw_563 xw_13) rfl rfl rfl (by decide +kernel) ⟨Nat.le_of_ble_eq_true rfl, Nat.le_of_ble_eq_true rfl⟩) ⟨xB_blind, fun U hU hW => xB_mk va_P0 hK va_D0 hE hS (xsub0 hA hS) hU hW⟩ rfl rfl hl.1 rfl (lv_room (Nat.le_of_ble_eq_true rfl)) xd_C_storeOp_36 ⟨Nat.le_of_ble_eq_true rfl, Nat.le_of_ble_eq_true rfl⟩) hP hA hS (fun r4 H locs hr4 hP hS => ?_)
    refine lv_iadd hx hb xd_C_storeOp_39 ?_
    refine lv_iload_n hx hb xd_C_storeOp_40 rfl (lv_at hl 0 rfl) ?_
    refine lv_aload_n hx hb xd_C_storeOp_41 rfl (lv_at hl 1 rfl) ?_
    refine xget_C_mode (v := (xg_C_mode u)) hx hb htg hown hK hP (htg _ xw_213) rfl xd_C_storeOp_42 ?_
    refine xcW_v (va_runV (As := [.int ((((xg_x u) r3.toNatClampNeg) + r4)), .int r1, .int ((xg_C_mode u))]) (rest := []) ⟨hx, hb, hml, hown, htg⟩ (c_C_store l D z k a g H.size u hg (((xg_x u) r3.toNatClampNeg) + r4) r1 (xg_C_mode u) kk (by unfold xf_C_storeOp at hk; have hk0 := xlt_k hr1 hk; have hk1 := xit_k h2 hk0; have hk2 := xlt_k hr3 hk1; have hk3 := xlt_k hr4 hk2; exact xkT (u := u) rfl (fun _ => rfl) hk3)) (cwV 3 htg (xg_V0 xkin_C_store xw_566 xw_568 xsel_C_store xw_2) rfl rfl rfl (by decide +kernel) ⟨Nat.le_of_ble_eq_true rfl, Nat.le_of_ble_eq_true rfl⟩) ⟨xB_blind, xrecv_C hK hP, fun U hU hW => xB_mk hP hK hD hE hS (xsubW hD hA hS) hU hW⟩ rfl rfl hl.1 rfl (lv_room (Nat.le_of_ble_eq_true rfl)) xd_C_storeOp_45 ⟨by show 0 + 2 * kk ≤ 2 * kk; omega, by show 0 + 1025 * kk ≤ 1025 * kk; omega⟩) hD hA hS (fun w1 H locs hw hP hD hS => ?_)
    obtain ⟨u1, g⟩ := w1
    obtain ⟨q5, hq5⟩ : ∃ q, q = xf_C_store u (((xg_x u) r3.toNatClampNeg) + r4) r1 (xg_C_mode u) := ⟨_, rfl⟩
    obtain ⟨e2, hg⟩ := hw
    rw [← hq5] at e2
    obtain rfl : q5 = u1 := e2.symm
    have hP : va_P D xCl (xWH k a g q5) H := hP
    have hD : va_D A (xWH k a g q5) := hD
    have hg : xok k g q5 := hg
    exact W.widen (by omega) (by omega) (hret (q5, g) H locs ls _ ⟨(by unfold xf_C_storeOp; exact (xlt_e hr1 (xit h2 (xlt_e hr3 (xlt_e hr4 (xlt_e hq5 rfl)))))), hg⟩ hP hD hS xd_C_storeOp_48)
  · refine lv_aload_n hx hb xd_C_storeOp_13 rfl (lv_at hl 1 rfl) ?_
    refine lv_iconst (v := 2) hx hb xd_C_storeOp_14 (by decide) ?_
    refine xcW_v (va_runV (As := [.int 2]) (rest := []) ⟨hx, hb, hml, hown, htg⟩ (c_C_refuse l D z k a g H.size u hg (2 : Int32)) (cwV 1 htg (xg_V0 xkin_C_refuse xw_509 xw_511 xsel_C_refuse xw_2) rfl rfl rfl (by decide +kernel) ⟨Nat.le_of_ble_eq_true rfl, Nat.le_of_ble_eq_true rfl⟩) ⟨xB_blind, xrecv_C hK hP, fun U hU hW => xB_mk hP hK hD hE hS (xsubW hD hA hS) hU hW⟩ rfl rfl hl.1 rfl (lv_room (Nat.le_of_ble_eq_true rfl)) xd_C_storeOp_15 ⟨Nat.le_of_ble_eq_true rfl, Nat.le_of_ble_eq_true rfl⟩) hD hA hS (fun w1 H locs hw hP hD hS => ?_)
    obtain ⟨u1, g⟩ := w1
    obtain ⟨q6, hq6⟩ : ∃ q, q = xf_C_refuse u (2 : Int32) := ⟨_, rfl⟩
    obtain ⟨e2, hg⟩ := hw
    rw [← hq6] at e2
    obtain rfl : q6 = u1 := e2.symm
    have hP : va_P D xCl (xWH k a g q6) H := hP
    have hD : va_D A (xWH k a g q6) := hD
    have hg : xok k g q6 := hg
    exact W.widen (by omega) (by omega) (hret (q6, g) H locs ls _ ⟨(by unfold xf_C_storeOp; exact (xlt_e hr1 (xif h2 (xlt_e hq6 rfl)))), hg⟩ hP hD hS xd_C_storeOp_18)

noncomputable def xf_C_perform (u : XH) : XH :=
  xlt (xf_D_f (xg_C_word u) : Int32) fun r1 =>
  xlt (xf_D_op (xg_C_word u) : Int32) fun r2 =>
  if r2 = 3 then
    xlt (xf_C_loadOp u : XH) fun q4 =>
    q4
  else
    if r2 = 15 then
      xlt (xf_C_fenceOp u : XH) fun q6 =>
      q6
    else
      if r2 = 19 then
        xlt (xf_C_immediateOp u : XH) fun q8 =>
        q8
      else
        if r2 = 23 then
          xlt (xf_D_d (xg_C_word u) : Int32) fun r10 =>
          xlt (xf_D_upper (xg_C_word u) : Int32) fun r11 =>
          xlt (xf_C_put u r10 ((xg_C_pc u) + r11) : XH) fun q12 =>
          q12
        else
          if r2 = 35 then
            xlt (xf_C_storeOp u : XH) fun q14 =>
            q14
          else
            if r2 = 51 then
              xlt (xf_C_registerOp u : XH) fun q16 =>
              q16
            else
              if r2 = 55 then
                xlt (xf_D_d (xg_C_word u) : Int32) fun r18 =>
                xlt (xf_D_upper (xg_C_word u) : Int32) fun r19 =>
                xlt (xf_C_put u r18 r19 : XH) fun q20 =>
                q20
              else
                if r2 = 99 then
                  xlt (xf_C_branchOp u : XH) fun q22 =>
                  q22
                else
                  if r2 = 103 then
                    xlt (xf_C_jumpToRegisterOp u : XH) fun q24 =>
                    q24
                  else
                    if r2 = 111 then
                      xlt (xf_D_jumpOffset (xg_C_word u) : Int32) fun r26 =>
                      xlt (xf_D_d (xg_C_word u) : Int32) fun r27 =>
                      xlt (xf_C_jump u ((xg_C_pc u) + r26) r27 : XH) fun q28 =>
                      q28
                    else
                      if r2 = 115 then
                        if r1 = 0 then
                          xlt (xf_C_systemOp u : XH) fun q34 =>
                          q34
                        else
                          if r1 = 4 then
                            xlt (xf_C_guestOp u : XH) fun q33 =>
                            q33
                          else
                            xlt (xf_C_controlOp u r1 : XH) fun q32 =>
                            q32
                      else
                        xlt (xf_C_refuse u (2 : Int32) : XH) fun q35 =>
                        q35
set_option maxHeartbeats 4000000 in
set_option maxRecDepth 100000 in
theorem c_C_perform (l : Launch) (D : va_G) (z : (Nat → Nat) × (Nat → Nat)) (k : ClassId × ClassId) (a : Nat → Nat) (g : XG) (sz : Nat) (u : XH) (hg : xok k g u) (kk : Nat) (hk : XN (xcH u + kk) (xf_C_perform u)) : Met l xy_C_perform (xk_C_perform :: lw_g) { frames := 7, cells := 2 * kk, slots := 1025 * kk, locals := 173 } (va_Pc [.ref ((a 1))] (xB D (xTy k) z sz (xWH k a g u))) (va_Qv (fun q : XH × XG => q.1 = xf_C_perform u ∧ xok k q.2 q.1) (fun q t => xQ D (xTy k) (xWH k a q.2 q.1) (va_A (xWH k a g u) sz) t) (va_A (xWH k a g u) sz)) (2 * kk) (1025 * kk) (va_A (xWH k a g u) sz) := by
  refine xopen_v (wf := fun q : XH × XG => xWH k a q.2 q.1) (lv := [(0, .ref ((a 1)))]) (by decide) rfl (Nat.le_of_ble_eq_true rfl) ?_
  intro p e s m args below meth c Q ls A H locs hx hb hml htg hown hin hK hP hD hE hS hA hl hret
  refine lv_aload_n hx hb xd_C_perform_0 rfl (lv_at hl 0 rfl) ?_
  refine xget_C_word (v := (xg_C_word u)) hx hb htg hown hK hP (htg _ xw_224) rfl xd_C_perform_1 ?_
  refine xc0_i (va_runS (As := [.int ((xg_C_word u))]) (rest := []) ⟨hx, hb, hml, hown, htg⟩ (c_D_f l D (xTy k) z H.size (xg_C_word u)) (va_cwS 1 htg (xg_S0 xkin_D_f xw_499 xw_500 xw_13) rfl rfl rfl (by decide +kernel) ⟨Nat.le_of_ble_eq_true rfl, Nat.le_of_ble_eq_true rfl⟩) ⟨xB_blind, fun U hU hW => xB_mk va_P0 hK va_D0 hE hS (xsub0 hA hS) hU hW⟩ rfl rfl hl.1 rfl (lv_room (Nat.le_of_ble_eq_true rfl)) xd_C_perform_4 ⟨Nat.le_of_ble_eq_true rfl, Nat.le_of_ble_eq_true rfl⟩) hP hA hS (fun r1 H locs hr1 hP hS => ?_)
  refine lv_istore_n (lv' := [(1, .int r1), (0, .ref ((a 1)))]) hx hb xd_C_perform_7 rfl hl (by decide) rfl (fun ls hl => ?_)
  refine lv_aload_n hx hb xd_C_perform_8 rfl (lv_at hl 1 rfl) ?_
  refine xget_C_word (v := (xg_C_word u)) hx hb htg hown hK hP (htg _ xw_224) rfl xd_C_perform_9 ?_
  refine xc0_i (va_runS (As := [.int ((xg_C_word u))]) (rest := []) ⟨hx, hb, hml, hown, htg⟩ (c_D_op l D (xTy k) z H.size (xg_C_word u)) (va_cwS 1 htg (xg_S0 xkin_D_op xw_502 xw_503 xw_13) rfl rfl rfl (by decide +kernel) ⟨Nat.le_of_ble_eq_true rfl, Nat.le_of_ble_eq_true rfl⟩) ⟨xB_blind, fun U hU hW => xB_mk va_P0 hK va_D0 hE hS (xsub0 hA hS) hU hW⟩ rfl rfl hl.1 rfl (lv_room (Nat.le_of_ble_eq_true rfl)) xd_C_perform_12 ⟨Nat.le_of_ble_eq_true rfl, Nat.le_of_ble_eq_true rfl⟩) hP hA hS (fun r2 H locs hr2 hP hS => ?_)
  refine (Decidable.em (r2 = 3)).elim (fun h3 => ?_) (fun h3 => ?_)
  · refine lv_lookup (tgt := 112) (off := 97) hx hb xd_C_perform_15 (by decide +kernel) (by rw [h3]; decide +kernel) rfl ?_
    refine lv_aload_n hx hb xd_C_perform_112 rfl (lv_at hl 1 rfl) ?_
    refine xcW_v (va_runV (As := []) (rest := []) ⟨hx, hb, hml, hown, htg⟩ (c_C_loadOp l D z k a g H.size u hg) (cwV 0 htg (xg_V0 xkin_C_loadOp xw_505 xw_507 xsel_C_loadOp xw_2) rfl rfl rfl (by decide +kernel) ⟨Nat.le_of_ble_eq_true rfl, Nat.le_of_ble_eq_true rfl⟩) ⟨xB_blind, xrecv_C hK hP, fun U hU hW => xB_mk hP hK hD hE hS (xsubW hD hA hS) hU hW⟩ rfl rfl hl.1 rfl (lv_room (Nat.le_of_ble_eq_true rfl)) xd_C_perform_113 ⟨Nat.le_of_ble_eq_true rfl, Nat.le_of_ble_eq_true rfl⟩) hD hA hS (fun w1 H locs hw hP hD hS => ?_)
    obtain ⟨u1, g⟩ := w1
    obtain ⟨q4, hq4⟩ : ∃ q, q = xf_C_loadOp u := ⟨_, rfl⟩
    obtain ⟨e2, hg⟩ := hw
    rw [← hq4] at e2
    obtain rfl : q4 = u1 := e2.symm
    have hP : va_P D xCl (xWH k a g q4) H := hP
    have hD : va_D A (xWH k a g q4) := hD
    have hg : xok k g q4 := hg
    refine lv_goto (tgt := 270) hx hb xd_C_perform_116 rfl ?_
    exact W.widen (by omega) (by omega) (hret (q4, g) H locs ls _ ⟨(by unfold xf_C_perform; exact (xlt_e hr1 (xlt_e hr2 (xit h3 (xlt_e hq4 rfl))))), hg⟩ hP hD hS xd_C_perform_270)
  · refine (Decidable.em (r2 = 15)).elim (fun h5 => ?_) (fun h5 => ?_)
    · refine lv_lookup (tgt := 119) (off := 104) hx hb xd_C_perform_15 (by decide +kernel) (by rw [h5]; decide +kernel) rfl ?_
      refine lv_aload_n hx hb xd_C_perform_119 rfl (lv_at hl 1 rfl) ?_
      refine xcW_v (va_runV (As := []) (rest := []) ⟨hx, hb, hml, hown, htg⟩ (c_C_fenceOp l D z k a g H.size u hg) (cwV 0 htg (xg_V0 xkin_C_fenceOp xw_534 xw_536 xsel_C_fenceOp xw_2) rfl rfl rfl (by decide +kernel) ⟨Nat.le_of_ble_eq_true rfl, Nat.le_of_ble_eq_true rfl⟩) ⟨xB_blind, xrecv_C hK hP, fun U hU hW => xB_mk hP hK hD hE hS (xsubW hD hA hS) hU hW⟩ rfl rfl hl.1 rfl (lv_room (Nat.le_of_ble_eq_true rfl)) xd_C_perform_120 ⟨Nat.le_of_ble_eq_true rfl, Nat.le_of_ble_eq_true rfl⟩) hD hA hS (fun w1 H locs hw hP hD hS => ?_)
      obtain ⟨u1, g⟩ := w1
      obtain ⟨q6, hq6⟩ : ∃ q, q = xf_C_fenceOp u := ⟨_, rfl⟩
      obtain ⟨e2, hg⟩ := hw
      rw [← hq6] at e2
      obtain rfl : q6 = u1 := e2.symm
      have hP : va_P D xCl (xWH k a g q6) H := hP
      have hD : va_D A (xWH k a g q6) := hD
      have hg : xok k g q6 := hg
      refine lv_goto (tgt := 270) hx hb xd_C_perform_123 rfl ?_
      exact W.widen (by omega) (by omega) (hret (q6, g) H locs ls _ ⟨(by unfold xf_C_perform; exact (xlt_e hr1 (xlt_e hr2 (xif h3 (xit h5 (xlt_e hq6 rfl)))))), hg⟩ hP hD hS xd_C_perform_270)
    · refine (Decidable.em (r2 = 19)).elim (fun h7 => ?_) (fun h7 => ?_)
      · refine lv_lookup (tgt := 126) (off := 111) hx hb xd_C_perform_15 (by decide +kernel) (by rw [h7]; decide +kernel) rfl ?_
        refine lv_aload_n hx hb xd_C_perform_126 rfl (lv_at hl 1 rfl) ?_
        refine xcW_v (va_runV (As := []) (rest := []) ⟨hx, hb, hml, hown, htg⟩ (c_C_immediateOp l D z k a g H.size u hg) (cwV 0 htg (xg_V0 xkin_C_immediateOp xw_538 xw_540 xsel_C_immediateOp xw_2) rfl rfl rfl (by decide +kernel) ⟨Nat.le_of_ble_eq_true rfl, Nat.le_of_ble_eq_true rfl⟩) ⟨xB_blind, xrecv_C hK hP, fun U hU hW => xB_mk hP hK hD hE hS (xsubW hD hA hS) hU hW⟩ rfl rfl hl.1 rfl (lv_room (Nat.le_of_ble_eq_true rfl)) xd_C_perform_127 ⟨Nat.le_of_ble_eq_true rfl, Nat.le_of_ble_eq_true rfl⟩) hD hA hS (fun w1 H locs hw hP hD hS => ?_)
        obtain ⟨u1, g⟩ := w1
        obtain ⟨q8, hq8⟩ : ∃ q, q = xf_C_immediateOp u := ⟨_, rfl⟩
        obtain ⟨e2, hg⟩ := hw
        rw [← hq8] at e2
        obtain rfl : q8 = u1 := e2.symm
        have hP : va_P D xCl (xWH k a g q8) H := hP
        have hD : va_D A (xWH k a g q8) := hD
        have hg : xok k g q8 := hg
        refine lv_goto (tgt := 270) hx hb xd_C_perform_130 rfl ?_
        exact W.widen (by omega) (by omega) (hret (q8, g) H locs ls _ ⟨(by unfold xf_C_perform; exact (xlt_e hr1 (xlt_e hr2 (xif h3 (xif h5 (xit h7 (xlt_e hq8 rfl))))))), hg⟩ hP hD hS xd_C_perform_270)
      · refine (Decidable.em (r2 = 23)).elim (fun h9 => ?_) (fun h9 => ?_)
        · refine lv_lookup (tgt := 133) (off := 118) hx hb xd_C_perform_15 (by decide +kernel) (by rw [h9]; decide +kernel) rfl ?_
          refine lv_aload_n hx hb xd_C_perform_133 rfl (lv_at hl 1 rfl) ?_
          refine lv_aload_n hx hb xd_C_perform_134 rfl (lv_at hl 1 rfl) ?_
          refine xget_C_word (v := (xg_C_word u)) hx hb htg hown hK hP (htg _ xw_224) rfl xd_C_perform_135 ?_
          refine xc0_i (va_runS (As := [.int ((xg_C_word u))]) (rest := [.ref ((a 1))]) ⟨hx, hb, hml, hown, htg⟩ (c_D_d l D (xTy k) z H.size (xg_C_word u)) (va_cwS 1 htg (xg_S0 xkin_D_d xw_529 xw_530 xw_13) rfl rfl rfl (by decide +kernel) ⟨Nat.le_of_ble_eq_true rfl, Nat.le_of_ble_eq_true rfl⟩) ⟨xB_blind, fun U hU hW => xB_mk va_P0 hK va_D0 hE hS (xsub0 hA hS) hU hW⟩ rfl rfl hl.1 rfl (lv_room (Nat.le_of_ble_eq_true rfl)) xd_C_perform_138 ⟨Nat.le_of_ble_eq_true rfl, Nat.le_of_ble_eq_true rfl⟩) hP hA hS (fun r10 H locs hr10 hP hS => ?_)
          refine lv_aload_n hx hb xd_C_perform_141 rfl (lv_at hl 1 rfl) ?_
          refine xget_C_pc (v := (xg_C_pc u)) hx hb htg hown hK hP (htg _ xw_211) rfl xd_C_perform_142 ?_
          refine lv_aload_n hx hb xd_C_perform_145 rfl (lv_at hl 1 rfl) ?_
          refine xget_C_word (v := (xg_C_word u)) hx hb htg hown hK hP (htg _ xw_224) rfl xd_C_perform_146 ?_
          refine xc0_i (va_runS (As := [.int ((xg_C_word u))]) (rest := [.int ((xg_C_pc u)), .int r10, .ref ((a 1))]) ⟨hx, hb, hml, hown, htg⟩ (c_D_upper l D (xTy k) z H.size (xg_C_word u)) (va_cwS 1 htg (xg_S0 xkin_D_upper xw_555 xw_556 xw_13) rfl rfl rfl (by decide +kernel) ⟨Nat.le_of_ble_eq_true rfl, Nat.le_of_ble_eq_true rfl⟩) ⟨xB_blind, fun U hU hW => xB_mk va_P0 hK va_D0 hE hS (xsub0 hA hS) hU hW⟩ rfl rfl hl.1 rfl (lv_room (Nat.le_of_ble_eq_true rfl)) xd_C_perform_149 ⟨Nat.le_of_ble_eq_true rfl, Nat.le_of_ble_eq_true rfl⟩) hP hA hS (fun r11 H locs hr11 hP hS => ?_)
          refine lv_iadd hx hb xd_C_perform_152 ?_
          refine xcW_v (va_runV (As := [.int r10, .int (((xg_C_pc u) + r11))]) (rest := []) ⟨hx, hb, hml, hown, htg⟩ (c_C_put l D z k a g H.size u hg r10 ((xg_C_pc u) + r11) (xin_eq hr10 (xin_d _))) (cwV 2 htg (xg_V0 xkin_C_put xw_533 xw_322 xsel_C_put xw_2) rfl rfl rfl (by decide +kernel) ⟨Nat.le_of_ble_eq_true rfl, Nat.le_of_ble_eq_true rfl⟩) ⟨xB_blind, xrecv_C hK hP, fun U hU hW => xB_mk hP hK hD hE hS (xsubW hD hA hS) hU hW⟩ rfl rfl hl.1 rfl (lv_room (Nat.le_of_ble_eq_true rfl)) xd_C_perform_153 ⟨Nat.le_of_ble_eq_true rfl, Nat.le_of_ble_eq_true rfl⟩) hD hA hS (fun w1 H locs hw hP hD hS => ?_)
          obtain ⟨u1, g⟩ := w1
          obtain ⟨q12, hq12⟩ : ∃ q, q = xf_C_put u r10 ((xg_C_pc u) + r11) := ⟨_, rfl⟩
          obtain ⟨e2, hg⟩ := hw
          rw [← hq12] at e2
          obtain rfl : q12 = u1 := e2.symm
          have hP : va_P D xCl (xWH k a g q12) H := hP
          have hD : va_D A (xWH k a g q12) := hD
          have hg : xok k g q12 := hg
          refine lv_goto (tgt := 270) hx hb xd_C_perform_156 rfl ?_
          exact W.widen (by omega) (by omega) (hret (q12, g) H locs ls _ ⟨(by unfold xf_C_perform; exact (xlt_e hr1 (xlt_e hr2 (xif h3 (xif h5 (xif h7 (xit h9 (xlt_e hr10 (xlt_e hr11 (xlt_e hq12 rfl)))))))))), hg⟩ hP hD hS xd_C_perform_270)
        · refine (Decidable.em (r2 = 35)).elim (fun h13 => ?_) (fun h13 => ?_)
          · refine lv_lookup (tgt := 159) (off := 144) hx hb xd_C_perform_15 (by decide +kernel) (by rw [h13]; decide +kernel) rfl ?_
            refine lv_aload_n hx hb xd_C_perform_159 rfl (lv_at hl 1 rfl) ?_
            refine xcW_v (va_runV (As := []) (rest := []) ⟨hx, hb, hml, hown, htg⟩ (c_C_storeOp l D z k a g H.size u hg kk (by unfold xf_C_perform at hk; have hk0 := xlt_k hr1 hk; have hk1 := xlt_k hr2 hk0; have hk2 := xif_k h3 hk1; have hk3 := xif_k h5 hk2; have hk4 := xif_k h7 hk3; have hk5 := xif_k h9 hk4; have hk6 := xit_k h13 hk5; exact xkT (u := u) rfl (fun _ => rfl) hk6)) (cwV 0 htg (xg_V0 xkin_C_storeOp xw_558 xw_560 xsel_C_storeOp xw_2) rfl rfl rfl (by decide +kernel) ⟨Nat.le_of_ble_eq_true rfl, Nat.le_of_ble_eq_true rfl⟩) ⟨xB_blind, xrecv_C hK hP, fun U hU hW => xB_mk hP hK hD hE hS (xsubW hD hA hS) hU hW⟩ rfl rfl hl.1 rfl (lv_room (Nat.le_of_ble_eq_true rfl)) xd_C_perform_160 ⟨by show 0 + 2 * kk ≤ 2 * kk; omega, by show 0 + 1025 * kk ≤ 1025 * kk; omega⟩) hD hA hS (fun w1 H locs hw hP hD hS => ?_)
            obtain ⟨u1, g⟩ := w1
            obtain ⟨q14, hq14⟩ : ∃ q, q = xf_C_storeOp u := ⟨_, rfl⟩
            obtain ⟨e2, hg⟩ := hw
            rw [← hq14] at e2
            obtain rfl : q14 = u1 := e2.symm
            have hP : va_P D xCl (xWH k a g q14) H := hP
            have hD : va_D A (xWH k a g q14) := hD
            have hg : xok k g q14 := hg
            refine lv_goto (tgt := 270) hx hb xd_C_perform_163 rfl ?_
            exact W.widen (by omega) (by omega) (hret (q14, g) H locs ls _ ⟨(by unfold xf_C_perform; exact (xlt_e hr1 (xlt_e hr2 (xif h3 (xif h5 (xif h7 (xif h9 (xit h13 (xlt_e hq14 rfl))))))))), hg⟩ hP hD hS xd_C_perform_270)
          · refine (Decidable.em (r2 = 51)).elim (fun h15 => ?_) (fun h15 => ?_)
            · refine lv_lookup (tgt := 166) (off := 151) hx hb xd_C_perform_15 (by decide +kernel) (by rw [h15]; decide +kernel) rfl ?_
              refine lv_aload_n hx hb xd_C_perform_166 rfl (lv_at hl 1 rfl) ?_
              refine xcW_v (va_runV (As := []) (rest := []) ⟨hx, hb, hml, hown, htg⟩ (c_C_registerOp l D z k a g H.size u hg) (cwV 0 htg (xg_V0 xkin_C_registerOp xw_578 xw_580 xsel_C_registerOp xw_2) rfl rfl rfl (by decide +kernel) ⟨Nat.le_of_ble_eq_true rfl, Nat.le_of_ble_eq_true rfl⟩) ⟨xB_blind, xrecv_C hK hP, fun U hU hW => xB_mk hP hK hD hE hS (xsubW hD hA hS) hU hW⟩ rfl rfl hl.1 rfl (lv_room (Nat.le_of_ble_eq_true rfl)) xd_C_perform_167 ⟨Nat.le_of_ble_eq_true rfl, Nat.le_of_ble_eq_true rfl⟩) hD hA hS (fun w1 H locs hw hP hD hS => ?_)
              obtain ⟨u1, g⟩ := w1
              obtain ⟨q16, hq16⟩ : ∃ q, q = xf_C_registerOp u := ⟨_, rfl⟩
              obtain ⟨e2, hg⟩ := hw
              rw [← hq16] at e2
              obtain rfl : q16 = u1 := e2.symm
              have hP : va_P D xCl (xWH k a g q16) H := hP
              have hD : va_D A (xWH k a g q16) := hD
              have hg : xok k g q16 := hg
              refine lv_goto (tgt := 270) hx hb xd_C_perform_170 rfl ?_
              exact W.widen (by omega) (by omega) (hret (q16, g) H locs ls _ ⟨(by unfold xf_C_perform; exact (xlt_e hr1 (xlt_e hr2 (xif h3 (xif h5 (xif h7 (xif h9 (xif h13 (xit h15 (xlt_e hq16 rfl)))))))))), hg⟩ hP hD hS xd_C_perform_270)
            · refine (Decidable.em (r2 = 55)).elim (fun h17 => ?_) (fun h17 => ?_)
              · refine lv_lookup (tgt := 173) (off := 158) hx hb xd_C_perform_15 (by decide +kernel) (by rw [h17]; decide +kernel) rfl ?_
                refine lv_aload_n hx hb xd_C_perform_173 rfl (lv_at hl 1 rfl) ?_
                refine lv_aload_n hx hb xd_C_perform_174 rfl (lv_at hl 1 rfl) ?_
                refine xget_C_word (v := (xg_C_word u)) hx hb htg hown hK hP (htg _ xw_224) rfl xd_C_perform_175 ?_
                refine xc0_i (va_runS (As := [.int ((xg_C_word u))]) (rest := [.ref ((a 1))]) ⟨hx, hb, hml, hown, htg⟩ (c_D_d l D (xTy k) z H.size (xg_C_word u)) (va_cwS 1 htg (xg_S0 xkin_D_d xw_529 xw_530 xw_13) rfl rfl rfl (by decide +kernel) ⟨Nat.le_of_ble_eq_true rfl, Nat.le_of_ble_eq_true rfl⟩) ⟨xB_blind, fun U hU hW => xB_mk va_P0 hK va_D0 hE hS (xsub0 hA hS) hU hW⟩ rfl rfl hl.1 rfl (lv_room (Nat.le_of_ble_eq_true rfl)) xd_C_perform_178 ⟨Nat.le_of_ble_eq_true rfl, Nat.le_of_ble_eq_true rfl⟩) hP hA hS (fun r18 H locs hr18 hP hS => ?_)
                refine lv_aload_n hx hb xd_C_perform_181 rfl (lv_at hl 1 rfl) ?_
                refine xget_C_word (v := (xg_C_word u)) hx hb htg hown hK hP (htg _ xw_224) rfl xd_C_perform_182 ?_
                refine xc0_i (va_runS (As := [.int ((xg_C_word u))]) (rest := [.int r18, .ref ((a 1))]) ⟨hx, hb, hml, hown, htg⟩ (c_D_upper l D (xTy k) z H.size (xg_C_word u)) (va_cwS 1 htg (xg_S0 xkin_D_upper xw_555 xw_556 xw_13) rfl rfl rfl (by decide +kernel) ⟨Nat.le_of_ble_eq_true rfl, Nat.le_of_ble_eq_true rfl⟩) ⟨xB_blind, fun U hU hW => xB_mk va_P0 hK va_D0 hE hS (xsub0 hA hS) hU hW⟩ rfl rfl hl.1 rfl (lv_room (Nat.le_of_ble_eq_true rfl)) xd_C_perform_185 ⟨Nat.le_of_ble_eq_true rfl, Nat.le_of_ble_eq_true rfl⟩) hP hA hS (fun r19 H locs hr19 hP hS => ?_)
                refine xcW_v (va_runV (As := [.int r18, .int r19]) (rest := []) ⟨hx, hb, hml, hown, htg⟩ (c_C_put l D z k a g H.size u hg r18 r19 (xin_eq hr18 (xin_d _))) (cwV 2 htg (xg_V0 xkin_C_put xw_533 xw_322 xsel_C_put xw_2) rfl rfl rfl (by decide +kernel) ⟨Nat.le_of_ble_eq_true rfl, Nat.le_of_ble_eq_true rfl⟩) ⟨xB_blind, xrecv_C hK hP, fun U hU hW => xB_mk hP hK hD hE hS (xsubW hD hA hS) hU hW⟩ rfl rfl hl.1 rfl (lv_room (Nat.le_of_ble_eq_true rfl)) xd_C_perform_188 ⟨Nat.le_of_ble_eq_true rfl, Nat.le_of_ble_eq_true rfl⟩) hD hA hS (fun w1 H locs hw hP hD hS => ?_)
                obtain ⟨u1, g⟩ := w1
                obtain ⟨q20, hq20⟩ : ∃ q, q = xf_C_put u r18 r19 := ⟨_, rfl⟩
                obtain ⟨e2, hg⟩ := hw
                rw [← hq20] at e2
                obtain rfl : q20 = u1 := e2.symm
                have hP : va_P D xCl (xWH k a g q20) H := hP
                have hD : va_D A (xWH k a g q20) := hD
                have hg : xok k g q20 := hg
                refine lv_goto (tgt := 270) hx hb xd_C_perform_191 rfl ?_
                exact W.widen (by omega) (by omega) (hret (q20, g) H locs ls _ ⟨(by unfold xf_C_perform; exact (xlt_e hr1 (xlt_e hr2 (xif h3 (xif h5 (xif h7 (xif h9 (xif h13 (xif h15 (xit h17 (xlt_e hr18 (xlt_e hr19 (xlt_e hq20 rfl))))))))))))), hg⟩ hP hD hS xd_C_perform_270)
              · refine (Decidable.em (r2 = 99)).elim (fun h21 => ?_) (fun h21 => ?_)
                · refine lv_lookup (tgt := 194) (off := 179) hx hb xd_C_perform_15 (by decide +kernel) (by rw [h21]; decide +kernel) rfl ?_
                  refine lv_aload_n hx hb xd_C_perform_194 rfl (lv_at hl 1 rfl) ?_
                  refine xcW_v (va_runV (As := []) (rest := []) ⟨hx, hb, hml, hown, htg⟩ (c_C_branchOp l D z k a g H.size u hg) (cwV 0 htg (xg_V0 xkin_C_branchOp xw_588 xw_590 xsel_C_branchOp xw_2) rfl rfl rfl (by decide +kernel) ⟨Nat.le_of_ble_eq_true rfl, Nat.le_of_ble_eq_true rfl⟩) ⟨xB_blind, xrecv_C hK hP, fun U hU hW => xB_mk hP hK hD hE hS (xsubW hD hA hS) hU hW⟩ rfl rfl hl.1 rfl (lv_room (Nat.le_of_ble_eq_true rfl)) xd_C_perform_195 ⟨Nat.le_of_ble_eq_true rfl, Nat.le_of_ble_eq_true rfl⟩) hD hA hS (fun w1 H locs hw hP hD hS => ?_)
                  obtain ⟨u1, g⟩ := w1
                  obtain ⟨q22, hq22⟩ : ∃ q, q = xf_C_branchOp u := ⟨_, rfl⟩
                  obtain ⟨e2, hg⟩ := hw
                  rw [← hq22] at e2
                  obtain rfl : q22 = u1 := e2.symm
                  have hP : va_P D xCl (xWH k a g q22) H := hP
                  have hD : va_D A (xWH k a g q22) := hD
                  have hg : xok k g q22 := hg
                  refine lv_goto (tgt := 270) hx hb xd_C_perform_198 rfl ?_
                  exact W.widen (by omega) (by omega) (hret (q22, g) H locs ls _ ⟨(by unfold xf_C_perform; exact (xlt_e hr1 (xlt_e hr2 (xif h3 (xif h5 (xif h7 (xif h9 (xif h13 (xif h15 (xif h17 (xit h21 (xlt_e hq22 rfl)))))))))))), hg⟩ hP hD hS xd_C_perform_270)
                · refine (Decidable.em (r2 = 103)).elim (fun h23 => ?_) (fun h23 => ?_)
                  · refine lv_lookup (tgt := 201) (off := 186) hx hb xd_C_perform_15 (by decide +kernel) (by rw [h23]; decide +kernel) rfl ?_
                    refine lv_aload_n hx hb xd_C_perform_201 rfl (lv_at hl 1 rfl) ?_
                    refine xcW_v (va_runV (As := []) (rest := []) ⟨hx, hb, hml, hown, htg⟩ (c_C_jumpToRegisterOp l D z k a g H.size u hg) (cwV 0 htg (xg_V0 xkin_C_jumpToRegisterOp xw_605 xw_607 xsel_C_jumpToRegisterOp xw_2) rfl rfl rfl (by decide +kernel) ⟨Nat.le_of_ble_eq_true rfl, Nat.le_of_ble_eq_true rfl⟩) ⟨xB_blind, xrecv_C hK hP, fun U hU hW => xB_mk hP hK hD hE hS (xsubW hD hA hS) hU hW⟩ rfl rfl hl.1 rfl (lv_room (Nat.le_of_ble_eq_true rfl)) xd_C_perform_202 ⟨Nat.le_of_ble_eq_true rfl, Nat.le_of_ble_eq_true rfl⟩) hD hA hS (fun w1 H locs hw hP hD hS => ?_)
                    obtain ⟨u1, g⟩ := w1
                    obtain ⟨q24, hq24⟩ : ∃ q, q = xf_C_jumpToRegisterOp u := ⟨_, rfl⟩
                    obtain ⟨e2, hg⟩ := hw
                    rw [← hq24] at e2
                    obtain rfl : q24 = u1 := e2.symm
                    have hP : va_P D xCl (xWH k a g q24) H := hP
                    have hD : va_D A (xWH k a g q24) := hD
                    have hg : xok k g q24 := hg
                    refine lv_goto (tgt := 270) hx hb xd_C_perform_205 rfl ?_
                    exact W.widen (by omega) (by omega) (hret (q24, g) H locs ls _ ⟨(by unfold xf_C_perform; exact (xlt_e hr1 (xlt_e hr2 (xif h3 (xif h5 (xif h7 (xif h9 (xif h13 (xif h15 (xif h17 (xif h21 (xit h23 (xlt_e hq24 rfl))))))))))))), hg⟩ hP hD hS xd_C_perform_270)
                  · refine (Decidable.em (r2 = 111)).elim (fun h25 => ?_) (fun h25 => ?_)
                    · refine lv_lookup (tgt := 208) (off := 193) hx hb xd_C_perform_15 (by decide +kernel) (by rw [h25]; decide +kernel) rfl ?_
                      refine lv_aload_n hx hb xd_C_perform_208 rfl (lv_at hl 1 rfl) ?_
                      refine lv_aload_n hx hb xd_C_perform_209 rfl (lv_at hl 1 rfl) ?_
                      refine xget_C_pc (v := (xg_C_pc u)) hx hb htg hown hK hP (htg _ xw_211) rfl xd_C_perform_210 ?_
                      refine lv_aload_n hx hb xd_C_perform_213 rfl (lv_at hl 1 rfl) ?_
                      refine xget_C_word (v := (xg_C_word u)) hx hb htg hown hK hP (htg _ xw_224) rfl xd_C_perform_214 ?_
                      refine xc0_i (va_runS (As := [.int ((xg_C_word u))]) (rest := [.int ((xg_C_pc u)), .ref ((a 1))]) ⟨hx, hb, hml, hown, htg⟩ (c_D_jumpOffset l D (xTy k) z H.size (xg_C_word u)) (va_cwS 1 htg (xg_S0 xkin_D_jumpOffset xw_609 xw_610 xw_13) rfl rfl rfl (by decide +kernel) ⟨Nat.le_of_ble_eq_true rfl, Nat.le_of_ble_eq_true rfl⟩) ⟨xB_blind, fun U hU hW => xB_mk va_P0 hK va_D0 hE hS (xsub0 hA hS) hU hW⟩ rfl rfl hl.1 rfl (lv_room (Nat.le_of_ble_eq_true rfl)) xd_C_perform_217 ⟨Nat.le_of_ble_eq_true rfl, Nat.le_of_ble_eq_true rfl⟩) hP hA hS (fun r26 H locs hr26 hP hS => ?_)
                      refine lv_iadd hx hb xd_C_perform_220 ?_
                      refine lv_aload_n hx hb xd_C_perform_221 rfl (lv_at hl 1 rfl) ?_
                      refine xget_C_word (v := (xg_C_word u)) hx hb htg hown hK hP (htg _ xw_224) rfl xd_C_perform_222 ?_
                      refine xc0_i (va_runS (As := [.int ((xg_C_word u))]) (rest := [.int (((xg_C_pc u) + r26)), .ref ((a 1))]) ⟨hx, hb, hml, hown, htg⟩ (c_D_d l D (xTy k) z H.size (xg_C_word u)) (va_cwS 1 htg (xg_S0 xkin_D_d xw_529 xw_530 xw_13) rfl rfl rfl (by decide +kernel) ⟨Nat.le_of_ble_eq_true rfl, Nat.le_of_ble_eq_true rfl⟩) ⟨xB_blind, fun U hU hW => xB_mk va_P0 hK va_D0 hE hS (xsub0 hA hS) hU hW⟩ rfl rfl hl.1 rfl (lv_room (Nat.le_of_ble_eq_true rfl)) xd_C_perform_225 ⟨Nat.le_of_ble_eq_true rfl, Nat.le_of_ble_eq_true rfl⟩) hP hA hS (fun r27 H locs hr27 hP hS => ?_)
                      refine xcW_v (va_runV (As := [.int (((xg_C_pc u) + r26)), .int r27]) (rest := []) ⟨hx, hb, hml, hown, htg⟩ (c_C_jump l D z k a g H.size u hg ((xg_C_pc u) + r26) r27 (xin_eq hr27 (xin_d _))) (cwV 2 htg (xg_V0 xkin_C_jump xw_601 xw_603 xsel_C_jump xw_2) rfl rfl rfl (by decide +kernel) ⟨Nat.le_of_ble_eq_true rfl, Nat.le_of_ble_eq_true rfl⟩) ⟨xB_blind, xrecv_C hK hP, fun U hU hW => xB_mk hP hK hD hE hS (xsubW hD hA hS) hU hW⟩ rfl rfl hl.1 rfl (lv_room (Nat.le_of_ble_eq_true rfl)) xd_C_perform_228 ⟨Nat.le_of_ble_eq_true rfl, Nat.le_of_ble_eq_true rfl⟩) hD hA hS (fun w1 H locs hw hP hD hS => ?_)
                      obtain ⟨u1, g⟩ := w1
                      obtain ⟨q28, hq28⟩ : ∃ q, q = xf_C_jump u ((xg_C_pc u) + r26) r27 := ⟨_, rfl⟩
                      obtain ⟨e2, hg⟩ := hw
                      rw [← hq28] at e2
                      obtain rfl : q28 = u1 := e2.symm
                      have hP : va_P D xCl (xWH k a g q28) H := hP
                      have hD : va_D A (xWH k a g q28) := hD
                      have hg : xok k g q28 := hg
                      refine lv_goto (tgt := 270) hx hb xd_C_perform_231 rfl ?_
                      exact W.widen (by omega) (by omega) (hret (q28, g) H locs ls _ ⟨(by unfold xf_C_perform; exact (xlt_e hr1 (xlt_e hr2 (xif h3 (xif h5 (xif h7 (xif h9 (xif h13 (xif h15 (xif h17 (xif h21 (xif h23 (xit h25 (xlt_e hr26 (xlt_e hr27 (xlt_e hq28 rfl)))))))))))))))), hg⟩ hP hD hS xd_C_perform_270)
                    · refine (Decidable.em (r2 = 115)).elim (fun h29 => ?_) (fun h29 => ?_)
                      · refine lv_lookup (tgt := 234) (off := 219) hx hb xd_C_perform_15 (by decide +kernel) (by rw [h29]; decide +kernel) rfl ?_
                        refine lv_iload_n hx hb xd_C_perform_234 rfl (lv_at hl 0 rfl) ?_
                        refine lv_if_ne (tgt := 245) hx hb xd_C_perform_235 rfl (fun h30 => ?_) (fun h30 => ?_)
                        · refine lv_iload_n hx hb xd_C_perform_245 rfl (lv_at hl 0 rfl) ?_
                          refine lv_iconst (v := 4) hx hb xd_C_perform_246 (by decide) ?_
                          refine lv_icmp_ne (tgt := 257) hx hb xd_C_perform_247 rfl (fun h31 => ?_) (fun h31 => ?_)
                          · refine lv_aload_n hx hb xd_C_perform_257 rfl (lv_at hl 1 rfl) ?_
                            refine lv_iload_n hx hb xd_C_perform_258 rfl (lv_at hl 0 rfl) ?_
                            refine xcW_v (va_runV (As := [.int r1]) (rest := []) ⟨hx, hb, hml, hown, htg⟩ (c_C_controlOp l D z k a g H.size u hg r1) (cwV 1 htg (xg_V0 xkin_C_controlOp xw_660 xw_662 xsel_C_controlOp xw_2) rfl rfl rfl (by decide +kernel) ⟨Nat.le_of_ble_eq_true rfl, Nat.le_of_ble_eq_true rfl⟩) ⟨xB_blind, xrecv_C hK hP, fun U hU hW => xB_mk hP hK hD hE hS (xsubW hD hA hS) hU hW⟩ rfl rfl hl.1 rfl (lv_room (Nat.le_of_ble_eq_true rfl)) xd_C_perform_259 ⟨Nat.le_of_ble_eq_true rfl, Nat.le_of_ble_eq_true rfl⟩) hD hA hS (fun w1 H locs hw hP hD hS => ?_)
                            obtain ⟨u1, g⟩ := w1
                            obtain ⟨q32, hq32⟩ : ∃ q, q = xf_C_controlOp u r1 := ⟨_, rfl⟩
                            obtain ⟨e2, hg⟩ := hw
                            rw [← hq32] at e2
                            obtain rfl : q32 = u1 := e2.symm
                            have hP : va_P D xCl (xWH k a g q32) H := hP
                            have hD : va_D A (xWH k a g q32) := hD
                            have hg : xok k g q32 := hg
                            refine lv_goto (tgt := 270) hx hb xd_C_perform_262 rfl ?_
                            exact W.widen (by omega) (by omega) (hret (q32, g) H locs ls _ ⟨(by unfold xf_C_perform; exact (xlt_e hr1 (xlt_e hr2 (xif h3 (xif h5 (xif h7 (xif h9 (xif h13 (xif h15 (xif h17 (xif h21 (xif h23 (xif h25 (xit h29 (xif h30 (xif h31 (xlt_e hq32 rfl))))))))))))))))), hg⟩ hP hD hS xd_C_perform_270)
                          · refine lv_aload_n hx hb xd_C_perform_250 rfl (lv_at hl 1 rfl) ?_
                            refine xcW_v (va_runV (As := []) (rest := []) ⟨hx, hb, hml, hown, htg⟩ (c_C_guestOp l D z k a g H.size u hg kk (by unfold xf_C_perform at hk; have hk0 := xlt_k hr1 hk; have hk1 := xlt_k hr2 hk0; have hk2 := xif_k h3 hk1; have hk3 := xif_k h5 hk2; have hk4 := xif_k h7 hk3; have hk5 := xif_k h9 hk4; have hk6 := xif_k h13 hk5; have hk7 := xif_k h15 hk6; have hk8 := xif_k h17 hk7; have hk9 := xif_k h21 hk8; have hk10 := xif_k h23 hk9; have hk11 := xif_k h25 hk10; have hk12 := xit_k h29 hk11; have hk13 := xif_k h30 hk12; have hk14 := xit_k h31 hk13; exact xkT (u := u) rfl (fun _ => rfl) hk14)) (cwV 0 htg (xg_V0 xkin_C_guestOp xw_650 xw_652 xsel_C_guestOp xw_2) rfl rfl rfl (by decide +kernel) ⟨Nat.le_of_ble_eq_true rfl, Nat.le_of_ble_eq_true rfl⟩) ⟨xB_blind, xrecv_C hK hP, fun U hU hW => xB_mk hP hK hD hE hS (xsubW hD hA hS) hU hW⟩ rfl rfl hl.1 rfl (lv_room (Nat.le_of_ble_eq_true rfl)) xd_C_perform_251 ⟨by show 0 + 2 * kk ≤ 2 * kk; omega, by show 0 + 1025 * kk ≤ 1025 * kk; omega⟩) hD hA hS (fun w1 H locs hw hP hD hS => ?_)
                            obtain ⟨u1, g⟩ := w1
                            obtain ⟨q33, hq33⟩ : ∃ q, q = xf_C_guestOp u := ⟨_, rfl⟩
                            obtain ⟨e2, hg⟩ := hw
                            rw [← hq33] at e2
                            obtain rfl : q33 = u1 := e2.symm
                            have hP : va_P D xCl (xWH k a g q33) H := hP
                            have hD : va_D A (xWH k a g q33) := hD
                            have hg : xok k g q33 := hg
                            refine lv_goto (tgt := 270) hx hb xd_C_perform_254 rfl ?_
                            exact W.widen (by omega) (by omega) (hret (q33, g) H locs ls _ ⟨(by unfold xf_C_perform; exact (xlt_e hr1 (xlt_e hr2 (xif h3 (xif h5 (xif h7 (xif h9 (xif h13 (xif h15 (xif h17 (xif h21 (xif h23 (xif h25 (xit h29 (xif h30 (xit h31 (xlt_e hq33 rfl))))))))))))))))), hg⟩ hP hD hS xd_C_perform_270)
                        · refine lv_aload_n hx hb xd_C_perform_238 rfl (lv_at hl 1 rfl) ?_
                          refine xcW_v (va_runV (As := []) (rest := []) ⟨hx, hb, hml, hown, htg⟩ (c_C_systemOp l D z k a g H.size u hg kk (by unfold xf_C_perform at hk; have hk0 := xlt_k hr1 hk; have hk1 := xlt_k hr2 hk0; have hk2 := xif_k h3 hk1; have hk3 := xif_k h5 hk2; have hk4 := xif_k h7 hk3; have hk5 := xif_k h9 hk4; have hk6 := xif_k h13 hk5; have hk7 := xif_k h15 hk6; have hk8 := xif_k h17 hk7; have hk9 := xif_k h21 hk8; have hk10 := xif_k h23 hk9; have hk11 := xif_k h25 hk10; have hk12 := xit_k h29 hk11; have hk13 := xit_k h30 hk12; exact xkT (u := u) rfl (fun _ => rfl) hk13)) (cwV 0 htg (xg_V0 xkin_C_systemOp xw_613 xw_615 xsel_C_systemOp xw_2) rfl rfl rfl (by decide +kernel) ⟨Nat.le_of_ble_eq_true rfl, Nat.le_of_ble_eq_true rfl⟩) ⟨xB_blind, xrecv_C hK hP, fun U hU hW => xB_mk hP hK hD hE hS (xsubW hD hA hS) hU hW⟩ rfl rfl hl.1 rfl (lv_room (Nat.le_of_ble_eq_true rfl)) xd_C_perform_239 ⟨by show 0 + 2 * kk ≤ 2 * kk; omega, by show 0 + 1025 * kk ≤ 1025 * kk; omega⟩) hD hA hS (fun w1 H locs hw hP hD hS => ?_)
                          obtain ⟨u1, g⟩ := w1
                          obtain ⟨q34, hq34⟩ : ∃ q, q = xf_C_systemOp u := ⟨_, rfl⟩
                          obtain ⟨e2, hg⟩ := hw
                          rw [← hq34] at e2
                          obtain rfl : q34 = u1 := e2.symm
                          have hP : va_P D xCl (xWH k a g q34) H := hP
                          have hD : va_D A (xWH k a g q34) := hD
                          have hg : xok k g q34 := hg
                          refine lv_goto (tgt := 270) hx hb xd_C_perform_242 rfl ?_
                          exact W.widen (by omega) (by omega) (hret (q34, g) H locs ls _ ⟨(by unfold xf_C_perform; exact (xlt_e hr1 (xlt_e hr2 (xif h3 (xif h5 (xif h7 (xif h9 (xif h13 (xif h15 (xif h17 (xif h21 (xif h23 (xif h25 (xit h29 (xit h30 (xlt_e hq34 rfl)))))))))))))))), hg⟩ hP hD hS xd_C_perform_270)
                      · refine lv_lookup (tgt := 265) (off := 250) hx hb xd_C_perform_15 (by decide +kernel) (by first | (rw [lv_osw h3 (by decide), lv_osw h5 (by decide), lv_osw h7 (by decide), lv_osw h9 (by decide), lv_osw h13 (by decide), lv_osw h15 (by decide), lv_osw h17 (by decide), lv_osw h21 (by decide), lv_osw h23 (by decide), lv_osw h25 (by decide), lv_osw h29 (by decide)]; rfl) | (simp only [lv_osw h3 (by decide), lv_osw h5 (by decide), lv_osw h7 (by decide), lv_osw h9 (by decide), lv_osw h13 (by decide), lv_osw h15 (by decide), lv_osw h17 (by decide), lv_osw h21 (by decide), lv_osw h23 (by decide), lv_osw h25 (by decide), lv_osw h29 (by decide)]; rfl)) rfl ?_
                        refine lv_aload_n hx hb xd_C_perform_265 rfl (lv_at hl 1 rfl) ?_
                        refine lv_iconst (v := 2) hx hb xd_C_perform_266 (by decide) ?_
                        refine xcW_v (va_runV (As := [.int 2]) (rest := []) ⟨hx, hb, hml, hown, htg⟩ (c_C_refuse l D z k a g H.size u hg (2 : Int32)) (cwV 1 htg (xg_V0 xkin_C_refuse xw_509 xw_511 xsel_C_refuse xw_2) rfl rfl rfl (by decide +kernel) ⟨Nat.le_of_ble_eq_true rfl, Nat.le_of_ble_eq_true rfl⟩) ⟨xB_blind, xrecv_C hK hP, fun U hU hW => xB_mk hP hK hD hE hS (xsubW hD hA hS) hU hW⟩ rfl rfl hl.1 rfl (lv_room (Nat.le_of_ble_eq_true rfl)) xd_C_perform_267 ⟨Nat.le_of_ble_eq_true rfl, Nat.le_of_ble_eq_true rfl⟩) hD hA hS (fun w1 H locs hw hP hD hS => ?_)
                        obtain ⟨u1, g⟩ := w1
                        obtain ⟨q35, hq35⟩ : ∃ q, q = xf_C_refuse u (2 : Int32) := ⟨_, rfl⟩
                        obtain ⟨e2, hg⟩ := hw
                        rw [← hq35] at e2
                        obtain rfl : q35 = u1 := e2.symm
                        have hP : va_P D xCl (xWH k a g q35) H := hP
                        have hD : va_D A (xWH k a g q35) := hD
                        have hg : xok k g q35 := hg
                        exact W.widen (by omega) (by omega) (hret (q35, g) H locs ls _ ⟨(by unfold xf_C_perform; exact (xlt_e hr1 (xlt_e hr2 (xif h3 (xif h5 (xif h7 (xif h9 (xif h13 (xif h15 (xif h17 (xif h21 (xif h23 (xif h25 (xif h29 (xlt_e hq35 rfl))))))))))))))), hg⟩ hP hD hS xd_C_perform_270)
