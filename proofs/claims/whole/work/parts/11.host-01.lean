noncomputable def xf_P_clear (u : XH) : XH :=
  (xs_P_interruptForVs (xs_P_asGuest (xs_P_inst (xs_P_guest (xs_P_tval (xs_P_cause u (-1 : Int32)) (0 : Int32)) (0 : Int32)) (0 : Int32)) false) false)
set_option maxHeartbeats 4000000 in
set_option maxRecDepth 100000 in
theorem c_P_clear (l : Launch) (D : va_G) (z : (Nat → Nat) × (Nat → Nat)) (k : ClassId × ClassId) (a : Nat → Nat) (g : XG) (sz : Nat) (u : XH) (hg : xok k g u) : Met l xy_P_clear (xk_P_clear :: lw_g) { frames := 0, cells := 0, slots := 0, locals := 0 } (va_Pc [.ref ((a 7))] (xB D (xTy k) z sz (xWH k a g u))) (va_Qv (fun q : XH × XG => q.1 = xf_P_clear u ∧ xok k q.2 q.1) (fun q t => xQ D (xTy k) (xWH k a q.2 q.1) (va_A (xWH k a g u) sz) t) (va_A (xWH k a g u) sz)) 0 0 (va_A (xWH k a g u) sz) := by
  refine xopen_v (wf := fun q : XH × XG => xWH k a q.2 q.1) (lv := [(0, .ref ((a 7)))]) (by decide) rfl (Nat.le_of_ble_eq_true rfl) ?_
  intro p e s m args below meth c Q ls A H locs hx hb hml htg hown hin hK hP hD hE hS hA hl hret
  refine lv_aload_n hx hb xd_P_clear_0 rfl (lv_at hl 0 rfl) ?_
  refine lv_iconst (v := (-1)) hx hb xd_P_clear_1 (by decide) ?_
  refine xput_P_cause (v := (-1 : Int32)) hx hb htg hown hK hP hD hS hg (htg _ xw_158) xd_P_clear_2 (fun H locs hP hD hS hg => ?_)
  refine lv_aload_n hx hb xd_P_clear_5 rfl (lv_at hl 0 rfl) ?_
  refine lv_iconst (v := 0) hx hb xd_P_clear_6 (by decide) ?_
  refine xput_P_tval (v := (0 : Int32)) hx hb htg hown hK hP hD hS hg (htg _ xw_160) xd_P_clear_7 (fun H locs hP hD hS hg => ?_)
  refine lv_aload_n hx hb xd_P_clear_10 rfl (lv_at hl 0 rfl) ?_
  refine lv_iconst (v := 0) hx hb xd_P_clear_11 (by decide) ?_
  refine xput_P_guest (v := (0 : Int32)) hx hb htg hown hK hP hD hS hg (htg _ xw_162) xd_P_clear_12 (fun H locs hP hD hS hg => ?_)
  refine lv_aload_n hx hb xd_P_clear_15 rfl (lv_at hl 0 rfl) ?_
  refine lv_iconst (v := 0) hx hb xd_P_clear_16 (by decide) ?_
  refine xput_P_inst (v := (0 : Int32)) hx hb htg hown hK hP hD hS hg (htg _ xw_165) xd_P_clear_17 (fun H locs hP hD hS hg => ?_)
  refine lv_aload_n hx hb xd_P_clear_20 rfl (lv_at hl 0 rfl) ?_
  refine lv_iconst (v := 0) hx hb xd_P_clear_21 (by decide) ?_
  refine xput_P_asGuest (v := false) hx hb htg hown hK hP hD hS hg (htg _ xw_168) xd_P_clear_22 (fun H locs hP hD hS hg => ?_)
  refine lv_aload_n hx hb xd_P_clear_25 rfl (lv_at hl 0 rfl) ?_
  refine lv_iconst (v := 0) hx hb xd_P_clear_26 (by decide) ?_
  refine xput_P_interruptForVs (v := false) hx hb htg hown hK hP hD hS hg (htg _ xw_171) xd_P_clear_27 (fun H locs hP hD hS hg => ?_)
  exact hret ((xs_P_interruptForVs (xs_P_asGuest (xs_P_inst (xs_P_guest (xs_P_tval (xs_P_cause u (-1 : Int32)) (0 : Int32)) (0 : Int32)) (0 : Int32)) false) false), g) H locs ls _ ⟨(by unfold xf_P_clear; exact rfl), hg⟩ hP hD hS xd_P_clear_30
theorem xm_P_clear (u : XH) : XEs (xcH u) (xf_P_clear u) := by unfold xf_P_clear; exact (xcH_P_interruptForVs.trans (xcH_P_asGuest.trans (xcH_P_inst.trans (xcH_P_guest.trans (xcH_P_tval.trans (xcH_P_cause.trans rfl))))))

noncomputable def xf_P_raise (u : XH) (p0 : Int32) (p1 : Int32) : XH :=
  (xs_P_tval (xs_P_cause u p0) p1)
set_option maxHeartbeats 4000000 in
set_option maxRecDepth 100000 in
theorem c_P_raise (l : Launch) (D : va_G) (z : (Nat → Nat) × (Nat → Nat)) (k : ClassId × ClassId) (a : Nat → Nat) (g : XG) (sz : Nat) (u : XH) (hg : xok k g u) (p0 : Int32) (p1 : Int32) : Met l xy_P_raise (xk_P_raise :: lw_g) { frames := 0, cells := 0, slots := 0, locals := 0 } (va_Pc [.ref ((a 7)), .int p0, .int p1] (xB D (xTy k) z sz (xWH k a g u))) (va_Qv (fun q : XH × XG => q.1 = xf_P_raise u p0 p1 ∧ xok k q.2 q.1) (fun q t => xQ D (xTy k) (xWH k a q.2 q.1) (va_A (xWH k a g u) sz) t) (va_A (xWH k a g u) sz)) 0 0 (va_A (xWH k a g u) sz) := by
  refine xopen_v (wf := fun q : XH × XG => xWH k a q.2 q.1) (lv := [(0, .ref ((a 7))), (1, .int p0), (2, .int p1)]) (by decide) rfl (Nat.le_of_ble_eq_true rfl) ?_
  intro p e s m args below meth c Q ls A H locs hx hb hml htg hown hin hK hP hD hE hS hA hl hret
  refine lv_aload_n hx hb xd_P_raise_0 rfl (lv_at hl 0 rfl) ?_
  refine lv_iload_n hx hb xd_P_raise_1 rfl (lv_at hl 1 rfl) ?_
  refine xput_P_cause (v := p0) hx hb htg hown hK hP hD hS hg (htg _ xw_158) xd_P_raise_2 (fun H locs hP hD hS hg => ?_)
  refine lv_aload_n hx hb xd_P_raise_5 rfl (lv_at hl 0 rfl) ?_
  refine lv_iload_n hx hb xd_P_raise_6 rfl (lv_at hl 2 rfl) ?_
  refine xput_P_tval (v := p1) hx hb htg hown hK hP hD hS hg (htg _ xw_160) xd_P_raise_7 (fun H locs hP hD hS hg => ?_)
  exact hret ((xs_P_tval (xs_P_cause u p0) p1), g) H locs ls _ ⟨(by unfold xf_P_raise; exact rfl), hg⟩ hP hD hS xd_P_raise_10
theorem xm_P_raise (u : XH) (p0 : Int32) (p1 : Int32) : XEs (xcH u) (xf_P_raise u p0 p1) := by unfold xf_P_raise; exact (xcH_P_tval.trans (xcH_P_cause.trans rfl))

noncomputable def xf_P_tellsAddress (u : XH) : Int32 :=
  xlt (if (xg_P_cause u) < 0 then (0) else (if ((xus (11579643 : Int32) (xg_P_cause u)) &&& (1 : Int32)) = 0 then (0) else (1)) : Int32) fun v3 =>
  v3
set_option maxHeartbeats 4000000 in
set_option maxRecDepth 100000 in
theorem c_P_tellsAddress (l : Launch) (D : va_G) (z : (Nat → Nat) × (Nat → Nat)) (k : ClassId × ClassId) (a : Nat → Nat) (g : XG) (sz : Nat) (u : XH) (hg : xok k g u) : Met l xy_P_tellsAddress (xk_P_tellsAddress :: lw_g) { frames := 0, cells := 0, slots := 0, locals := 0 } (va_Pc [.ref ((a 7))] (xB D (xTy k) z sz (xWH k a g u))) (va_Qi (fun r (q : XH × XG) => r = xf_P_tellsAddress u ∧ q.1 = u ∧ xok k q.2 q.1) (fun q t => xQ D (xTy k) (xWH k a q.2 q.1) (va_A (xWH k a g u) sz) t) (va_A (xWH k a g u) sz)) 0 0 (va_A (xWH k a g u) sz) := by
  refine xopen_z (wf := fun q : XH × XG => xWH k a q.2 q.1) (lv := [(0, .ref ((a 7)))]) (by decide) rfl (Nat.le_of_ble_eq_true rfl) ?_
  intro p e s m args below meth c Q ls A H locs hx hb hml htg hown hin hK hP hD hE hS hA hl hret
  refine lv_aload_n hx hb xd_P_tellsAddress_0 rfl (lv_at hl 0 rfl) ?_
  refine xget_P_cause (v := (xg_P_cause u)) hx hb htg hown hK hP (htg _ xw_158) rfl xd_P_tellsAddress_1 ?_
  have hj4 : ∀ (H : Heap) (locs : List Loc) (ls : Array Slot) (g : XG) (v3 : Int32), v3 = (if (xg_P_cause u) < 0 then (0) else (if ((xus (11579643 : Int32) (xg_P_cause u)) &&& (1 : Int32)) = 0 then (0) else (1))) → xok k g u → lv_has ls 1 [(0, .ref ((a 7)))] → va_P D xCl (xWH k a g u) H → va_D A (xWH k a g u) → va_S A s.heap H locs → W p l e { frames := 0, cells := 0, slots := 0, locals := 0 } s m args below meth c H locs (0) (0) Q (F0 m 24 ls [.int v3]) := by
    intro H locs ls g v3 hv3 hg hl hP hD hS
    exact hret _ (u, g) H locs ls _ (xnar (X01_of hv3 (xit_01 (Or.inl rfl) (xit_01 (Or.inl rfl) (Or.inr rfl))))) ⟨(by unfold xf_P_tellsAddress; exact (xlt_e hv3 rfl)), rfl, hg⟩ hP hD hS xd_P_tellsAddress_24
  refine lv_if_lt (tgt := 23) hx hb xd_P_tellsAddress_4 rfl (fun h5 => ?_) (fun h5 => ?_)
  · refine lv_iconst (v := 0) hx hb xd_P_tellsAddress_23 (by decide) ?_
    exact hj4 H locs ls g (0 : Int32) (xit h5 rfl) hg hl hP hD hS
  · refine lv_ldc (v := 11579643) hx hb hown (htg _ xw_702) xd_P_tellsAddress_7 ?_
    refine lv_aload_n hx hb xd_P_tellsAddress_9 rfl (lv_at hl 0 rfl) ?_
    refine xget_P_cause (v := (xg_P_cause u)) hx hb htg hown hK hP (htg _ xw_158) rfl xd_P_tellsAddress_10 ?_
    refine lv_iushr (v := (xus (11579643 : Int32) (xg_P_cause u))) hx hb xd_P_tellsAddress_13 rfl ?_
    refine lv_iconst (v := 1) hx hb xd_P_tellsAddress_14 (by decide) ?_
    refine lv_iand hx hb xd_P_tellsAddress_15 ?_
    refine lv_if_eq (tgt := 23) hx hb xd_P_tellsAddress_16 rfl (fun h6 => ?_) (fun h6 => ?_)
    · refine lv_iconst (v := 0) hx hb xd_P_tellsAddress_23 (by decide) ?_
      exact hj4 H locs ls g (0 : Int32) (xif h5 (xit h6 rfl)) hg hl hP hD hS
    · refine lv_iconst (v := 1) hx hb xd_P_tellsAddress_19 (by decide) ?_
      refine lv_goto (tgt := 24) hx hb xd_P_tellsAddress_20 rfl ?_
      exact hj4 H locs ls g (1 : Int32) (xif h5 (xif h6 rfl)) hg hl hP hD hS
theorem xt01_P_tellsAddress (u : XH) : X01 (xf_P_tellsAddress u) := by unfold xf_P_tellsAddress; exact (xlt_01 (fun v3 hv3 => (X01_of hv3 (xit_01 (Or.inl rfl) (xit_01 (Or.inl rfl) (Or.inr rfl))))))

noncomputable def xf_P_goesToVs (u : XH) (p0 : Int32) (p1 : Int32) : Int32 :=
  xlt (if 0 ≤ (xg_P_cause u) then (xlt (xf_H_isVirtual p0 : Int32) fun r2 => if r2 = 0 then (0) else (if ((xus p1 (xg_P_cause u)) &&& (1 : Int32)) = 0 then (0) else (1))) else ((xz (xg_P_interruptForVs u))) : Int32) fun v5 =>
  v5
set_option maxHeartbeats 4000000 in
set_option maxRecDepth 100000 in
theorem c_P_goesToVs (l : Launch) (D : va_G) (z : (Nat → Nat) × (Nat → Nat)) (k : ClassId × ClassId) (a : Nat → Nat) (g : XG) (sz : Nat) (u : XH) (hg : xok k g u) (p0 : Int32) (p1 : Int32) : Met l xy_P_goesToVs (xk_P_goesToVs :: lw_g) { frames := 1, cells := 0, slots := 0, locals := 20 } (va_Pc [.ref ((a 7)), .int p0, .int p1] (xB D (xTy k) z sz (xWH k a g u))) (va_Qi (fun r (q : XH × XG) => r = xf_P_goesToVs u p0 p1 ∧ q.1 = u ∧ xok k q.2 q.1) (fun q t => xQ D (xTy k) (xWH k a q.2 q.1) (va_A (xWH k a g u) sz) t) (va_A (xWH k a g u) sz)) 0 0 (va_A (xWH k a g u) sz) := by
  refine xopen_z (wf := fun q : XH × XG => xWH k a q.2 q.1) (lv := [(0, .ref ((a 7))), (1, .int p0), (2, .int p1)]) (by decide) rfl (Nat.le_of_ble_eq_true rfl) ?_
  intro p e s m args below meth c Q ls A H locs hx hb hml htg hown hin hK hP hD hE hS hA hl hret
  refine lv_aload_n hx hb xd_P_goesToVs_0 rfl (lv_at hl 0 rfl) ?_
  refine xget_P_cause (v := (xg_P_cause u)) hx hb htg hown hK hP (htg _ xw_158) rfl xd_P_goesToVs_1 ?_
  have hj6 : ∀ (H : Heap) (locs : List Loc) (ls : Array Slot) (g : XG) (v5 : Int32), v5 = (if 0 ≤ (xg_P_cause u) then (xlt (xf_H_isVirtual p0 : Int32) fun r2 => if r2 = 0 then (0) else (if ((xus p1 (xg_P_cause u)) &&& (1 : Int32)) = 0 then (0) else (1))) else ((xz (xg_P_interruptForVs u)))) → xok k g u → lv_has ls 3 [(0, .ref ((a 7))), (1, .int p0), (2, .int p1)] → va_P D xCl (xWH k a g u) H → va_D A (xWH k a g u) → va_S A s.heap H locs → W p l e { frames := 1, cells := 0, slots := 0, locals := 20 } s m args below meth c H locs (0) (0) Q (F0 m 37 ls [.int v5]) := by
    intro H locs ls g v5 hv5 hg hl hP hD hS
    exact hret _ (u, g) H locs ls _ (xnar (X01_of hv5 (xit_01 (xlt_01 (fun r2 hr2 => (xit_01 (Or.inl rfl) (xit_01 (Or.inl rfl) (Or.inr rfl))))) (xz01 _)))) ⟨(by unfold xf_P_goesToVs; exact (xlt_e hv5 rfl)), rfl, hg⟩ hP hD hS xd_P_goesToVs_37
  refine lv_if_ge (tgt := 14) hx hb xd_P_goesToVs_4 rfl (fun h7 => ?_) (fun h7 => ?_)
  · refine lv_iload_n hx hb xd_P_goesToVs_14 rfl (lv_at hl 1 rfl) ?_
    refine xc0_i (va_runSN (As := [.int p0]) (rest := []) ⟨hx, hb, hml, hown, htg⟩ (c_H_isVirtual l D (xTy k) z H.size p0) ⟨va_cnB (host := "HyperHost") 1 htg (xg_C0 xkin_H_isVirtual) rfl rfl rfl (xnest hE (by decide +kernel)) (htg _ xw_1) (by decide +kernel) ⟨Nat.le_of_ble_eq_true rfl, Nat.le_of_ble_eq_true rfl⟩, htg _ xw_427, trivial⟩ ⟨xB_blind, fun U hU hW => xB_mk va_P0 hK va_D0 hE hS (xsub0 hA hS) hU hW⟩ rfl rfl hl.1 rfl (lv_room (Nat.le_of_ble_eq_true rfl)) xd_P_goesToVs_15 ⟨Nat.le_of_ble_eq_true rfl, Nat.le_of_ble_eq_true rfl⟩) hP hA hS (fun r8 H locs hr8 hP hS => ?_)
    refine lv_if_eq (tgt := 36) hx hb xd_P_goesToVs_18 rfl (fun h9 => ?_) (fun h9 => ?_)
    · refine lv_iconst (v := 0) hx hb xd_P_goesToVs_36 (by decide) ?_
      exact hj6 H locs ls g (0 : Int32) (xit h7 (xlt_e hr8 (xit h9 rfl))) hg hl hP hD hS
    · refine lv_iload_n hx hb xd_P_goesToVs_21 rfl (lv_at hl 2 rfl) ?_
      refine lv_aload_n hx hb xd_P_goesToVs_22 rfl (lv_at hl 0 rfl) ?_
      refine xget_P_cause (v := (xg_P_cause u)) hx hb htg hown hK hP (htg _ xw_158) rfl xd_P_goesToVs_23 ?_
      refine lv_iushr (v := (xus p1 (xg_P_cause u))) hx hb xd_P_goesToVs_26 rfl ?_
      refine lv_iconst (v := 1) hx hb xd_P_goesToVs_27 (by decide) ?_
      refine lv_iand hx hb xd_P_goesToVs_28 ?_
      refine lv_if_eq (tgt := 36) hx hb xd_P_goesToVs_29 rfl (fun h10 => ?_) (fun h10 => ?_)
      · refine lv_iconst (v := 0) hx hb xd_P_goesToVs_36 (by decide) ?_
        exact hj6 H locs ls g (0 : Int32) (xit h7 (xlt_e hr8 (xif h9 (xit h10 rfl)))) hg hl hP hD hS
      · refine lv_iconst (v := 1) hx hb xd_P_goesToVs_32 (by decide) ?_
        refine lv_goto (tgt := 37) hx hb xd_P_goesToVs_33 rfl ?_
        exact hj6 H locs ls g (1 : Int32) (xit h7 (xlt_e hr8 (xif h9 (xif h10 rfl)))) hg hl hP hD hS
  · refine lv_aload_n hx hb xd_P_goesToVs_7 rfl (lv_at hl 0 rfl) ?_
    refine xget_P_interruptForVs (v := (xg_P_interruptForVs u)) hx hb htg hown hK hP (htg _ xw_171) rfl xd_P_goesToVs_8 ?_
    refine lv_goto (tgt := 37) hx hb xd_P_goesToVs_11 rfl ?_
    exact hj6 H locs ls g (xz (xg_P_interruptForVs u)) (xif h7 rfl) hg hl hP hD hS
theorem xt01_P_goesToVs (u : XH) (p0 : Int32) (p1 : Int32) : X01 (xf_P_goesToVs u p0 p1) := by unfold xf_P_goesToVs; exact (xlt_01 (fun v5 hv5 => (X01_of hv5 (xit_01 (xlt_01 (fun r2 hr2 => (xit_01 (Or.inl rfl) (xit_01 (Or.inl rfl) (Or.inr rfl))))) (xz01 _)))))

noncomputable def xf_K_clear (u : XH) : XH :=
  xlt (xf_B_clear (xg_S u) : XB) fun q1 =>
  xlt (xf_B_clear (xg_V (xs_S u q1)) : XB) fun q2 =>
  (xs_K_lineOn (xs_K_alarm (xs_K_time (xs_K_hgatp (xs_K_htinst (xs_K_hvip (xs_K_htval (xs_K_hie (xs_K_hideleg (xs_K_hedeleg (xs_K_hstatus (xs_V (xs_S u q1) q2) (0 : Int32)) (0 : Int32)) (0 : Int32)) (0 : Int32)) (0 : Int32)) (0 : Int32)) (0 : Int32)) (0 : Int32)) (0 : Int64)) (9223372036854775807 : Int64)) false)
set_option maxHeartbeats 4000000 in
set_option maxRecDepth 100000 in
theorem c_K_clear (l : Launch) (D : va_G) (z : (Nat → Nat) × (Nat → Nat)) (k : ClassId × ClassId) (a : Nat → Nat) (g : XG) (sz : Nat) (u : XH) (hg : xok k g u) : Met l xy_K_clear (xk_K_clear :: lw_g) { frames := 1, cells := 0, slots := 0, locals := 20 } (va_Pc [.ref ((a 4))] (xB D (xTy k) z sz (xWH k a g u))) (va_Qv (fun q : XH × XG => q.1 = xf_K_clear u ∧ xok k q.2 q.1) (fun q t => xQ D (xTy k) (xWH k a q.2 q.1) (va_A (xWH k a g u) sz) t) (va_A (xWH k a g u) sz)) 0 0 (va_A (xWH k a g u) sz) := by
  refine xopen_v (wf := fun q : XH × XG => xWH k a q.2 q.1) (lv := [(0, .ref ((a 4)))]) (by decide) rfl (Nat.le_of_ble_eq_true rfl) ?_
  intro p e s m args below meth c Q ls A H locs hx hb hml htg hown hin hK hP hD hE hS hA hl hret
  refine lv_aload_n hx hb xd_K_clear_0 rfl (lv_at hl 0 rfl) ?_
  refine xget_K_s hx hb htg hown hK hP (htg _ xw_100) xd_K_clear_1 ?_
  refine xcb_S_v (b0 := (xg_S u)) rfl (va_runV (As := []) (rest := []) ⟨hx, hb, hml, hown, htg⟩ (c_B_clear l D (xTy k) z H.size (a 5) (xg_S u)) (cwV 0 htg (xg_V0 xkin_B_clear xw_272 xw_273 xsel_B_clear xw_6) rfl rfl rfl (by decide +kernel) ⟨Nat.le_of_ble_eq_true rfl, Nat.le_of_ble_eq_true rfl⟩) ⟨xB_blind, xrecv_S hK hP, fun U hU hW => xpre_S hP hK hD hE hS hA hU hW⟩ rfl rfl hl.1 rfl (lv_room (Nat.le_of_ble_eq_true rfl)) xd_K_clear_4 ⟨Nat.le_of_ble_eq_true rfl, Nat.le_of_ble_eq_true rfl⟩) hP hD hA hS (fun u1 H locs hw hP hD hS => ?_)
  obtain ⟨q1, hq1⟩ : ∃ q, q = xf_B_clear (xg_S u) := ⟨_, rfl⟩
  rw [← hq1] at hw
  obtain rfl : q1 = u1 := hw.symm
  have hg := xok_S (b := q1) hg
  refine lv_aload_n hx hb xd_K_clear_7 rfl (lv_at hl 0 rfl) ?_
  refine xget_K_vs hx hb htg hown hK hP (htg _ xw_103) xd_K_clear_8 ?_
  refine xcb_V_v (b0 := (xg_V (xs_S u q1))) rfl (va_runV (As := []) (rest := []) ⟨hx, hb, hml, hown, htg⟩ (c_B_clear l D (xTy k) z H.size (a 6) (xg_V (xs_S u q1))) (cwV 0 htg (xg_V0 xkin_B_clear xw_272 xw_273 xsel_B_clear xw_6) rfl rfl rfl (by decide +kernel) ⟨Nat.le_of_ble_eq_true rfl, Nat.le_of_ble_eq_true rfl⟩) ⟨xB_blind, xrecv_V hK hP, fun U hU hW => xpre_V hP hK hD hE hS hA hU hW⟩ rfl rfl hl.1 rfl (lv_room (Nat.le_of_ble_eq_true rfl)) xd_K_clear_11 ⟨Nat.le_of_ble_eq_true rfl, Nat.le_of_ble_eq_true rfl⟩) hP hD hA hS (fun u1 H locs hw hP hD hS => ?_)
  obtain ⟨q2, hq2⟩ : ∃ q, q = xf_B_clear (xg_V (xs_S u q1)) := ⟨_, rfl⟩
  rw [← hq2] at hw
  obtain rfl : q2 = u1 := hw.symm
  have hg := xok_V (b := q2) hg
  refine lv_aload_n hx hb xd_K_clear_14 rfl (lv_at hl 0 rfl) ?_
  refine lv_iconst (v := 0) hx hb xd_K_clear_15 (by decide) ?_
  refine xput_K_hstatus (v := (0 : Int32)) hx hb htg hown hK hP hD hS hg (htg _ xw_106) xd_K_clear_16 (fun H locs hP hD hS hg => ?_)
  refine lv_aload_n hx hb xd_K_clear_19 rfl (lv_at hl 0 rfl) ?_
  refine lv_iconst (v := 0) hx hb xd_K_clear_20 (by decide) ?_
  refine xput_K_hedeleg (v := (0 : Int32)) hx hb htg hown hK hP hD hS hg (htg _ xw_108) xd_K_clear_21 (fun H locs hP hD hS hg => ?_)
  refine lv_aload_n hx hb xd_K_clear_24 rfl (lv_at hl 0 rfl) ?_
  refine lv_iconst (v := 0) hx hb xd_K_clear_25 (by decide) ?_
  refine xput_K_hideleg (v := (0 : Int32)) hx hb htg hown hK hP hD hS hg (htg _ xw_110) xd_K_clear_26 (fun H locs hP hD hS hg => ?_)
  refine lv_aload_n hx hb xd_K_clear_29 rfl (lv_at hl 0 rfl) ?_
  refine lv_iconst (v := 0) hx hb xd_K_clear_30 (by decide) ?_
  refine xput_K_hie (v := (0 : Int32)) hx hb htg hown hK hP hD hS hg (htg _ xw_111) xd_K_clear_31 (fun H locs hP hD hS hg => ?_)
  refine lv_aload_n hx hb xd_K_clear_34 rfl (lv_at hl 0 rfl) ?_
  refine lv_iconst (v := 0) hx hb xd_K_clear_35 (by decide) ?_
  refine xput_K_htval (v := (0 : Int32)) hx hb htg hown hK hP hD hS hg (htg _ xw_112) xd_K_clear_36 (fun H locs hP hD hS hg => ?_)
  refine lv_aload_n hx hb xd_K_clear_39 rfl (lv_at hl 0 rfl) ?_
  refine lv_iconst (v := 0) hx hb xd_K_clear_40 (by decide) ?_
  refine xput_K_hvip (v := (0 : Int32)) hx hb htg hown hK hP hD hS hg (htg _ xw_113) xd_K_clear_41 (fun H locs hP hD hS hg => ?_)
  refine lv_aload_n hx hb xd_K_clear_44 rfl (lv_at hl 0 rfl) ?_
  refine lv_iconst (v := 0) hx hb xd_K_clear_45 (by decide) ?_
  refine xput_K_htinst (v := (0 : Int32)) hx hb htg hown hK hP hD hS hg (htg _ xw_114) xd_K_clear_46 (fun H locs hP hD hS hg => ?_)
  refine lv_aload_n hx hb xd_K_clear_49 rfl (lv_at hl 0 rfl) ?_
  refine lv_iconst (v := 0) hx hb xd_K_clear_50 (by decide) ?_
  refine xput_K_hgatp (v := (0 : Int32)) hx hb htg hown hK hP hD hS hg (htg _ xw_115) xd_K_clear_51 (fun H locs hP hD hS hg => ?_)
  refine lv_aload_n hx hb xd_K_clear_54 rfl (lv_at hl 0 rfl) ?_
  refine lv_lconst (v := 0) hx hb xd_K_clear_55 (by decide) ?_
  refine xput_K_time (v := (0 : Int64)) hx hb htg hown hK hP hD hS hg (htg _ xw_117) xd_K_clear_56 (fun H locs hP hD hS hg => ?_)
  refine lv_aload_n hx hb xd_K_clear_59 rfl (lv_at hl 0 rfl) ?_
  refine lv_ldc2 (v := 9223372036854775807) hx hb hown (htg _ xw_276) xd_K_clear_60 ?_
  refine xput_K_alarm (v := (9223372036854775807 : Int64)) hx hb htg hown hK hP hD hS hg (htg _ xw_120) xd_K_clear_63 (fun H locs hP hD hS hg => ?_)
  refine lv_aload_n hx hb xd_K_clear_66 rfl (lv_at hl 0 rfl) ?_
  refine lv_iconst (v := 0) hx hb xd_K_clear_67 (by decide) ?_
  refine xput_K_lineOn (v := false) hx hb htg hown hK hP hD hS hg (htg _ xw_123) xd_K_clear_68 (fun H locs hP hD hS hg => ?_)
  exact hret ((xs_K_lineOn (xs_K_alarm (xs_K_time (xs_K_hgatp (xs_K_htinst (xs_K_hvip (xs_K_htval (xs_K_hie (xs_K_hideleg (xs_K_hedeleg (xs_K_hstatus (xs_V (xs_S u q1) q2) (0 : Int32)) (0 : Int32)) (0 : Int32)) (0 : Int32)) (0 : Int32)) (0 : Int32)) (0 : Int32)) (0 : Int32)) (0 : Int64)) (9223372036854775807 : Int64)) false), g) H locs ls _ ⟨(by unfold xf_K_clear; exact (xlt_e hq1 (xlt_e hq2 rfl))), hg⟩ hP hD hS xd_K_clear_71
theorem xm_K_clear (u : XH) : XEs (xcH u) (xf_K_clear u) := by unfold xf_K_clear; exact (xlt_Es (fun q1 hq1 => (xlt_Es (fun q2 hq2 => (xcH_K_lineOn.trans (xcH_K_alarm.trans (xcH_K_time.trans (xcH_K_hgatp.trans (xcH_K_htinst.trans (xcH_K_hvip.trans (xcH_K_htval.trans (xcH_K_hie.trans (xcH_K_hideleg.trans (xcH_K_hedeleg.trans (xcH_K_hstatus.trans (xcH_V.trans (xcH_S.trans rfl)))))))))))))))))

noncomputable def xf_K_refusal (u : XH) (p0 : Int32) (p1 : Int32) (p2 : Int32) : Int32 :=
  if p0 = 3073 then
    xlt (if p1 = 0 then ((-1)) else (2) : Int32) fun v3 =>
    v3
  else
    if p0 = 3201 then
      xlt (if p1 = 0 then ((-1)) else (2) : Int32) fun v68 =>
      v68
    else
      xlt (xf_K_isOfS p0 : Int32) fun r7 =>
      if r7 = 0 then
        xlt (xf_K_isOfS (p0 - (256 : Int32)) : Int32) fun r27 =>
        if r27 = 0 then
          xlt (xf_K_isOfH p0 : Int32) fun r47 =>
          if r47 = 0 then
            2
          else
            if p2 = 1 then
              (-1)
            else
              if p2 = 0 then
                2
              else
                xlt (if p0 = 384 then (if ((xg_K_hstatus u) &&& (1048576 : Int32)) = 0 then (0) else (1)) else (0) : Int32) fun v53 =>
                xlt (if p2 = 3 then (xlt (xf_K_isOfS p0 : Int32) fun r56 => if r56 = 0 then (22) else (if v53 = 0 then ((-1)) else (22))) else (22) : Int32) fun v59 =>
                v59
        else
          if p2 = 1 then
            (-1)
          else
            if p2 = 0 then
              2
            else
              xlt (if p0 = 384 then (if ((xg_K_hstatus u) &&& (1048576 : Int32)) = 0 then (0) else (1)) else (0) : Int32) fun v33 =>
              xlt (if p2 = 3 then (xlt (xf_K_isOfS p0 : Int32) fun r36 => if r36 = 0 then (22) else (if v33 = 0 then ((-1)) else (22))) else (22) : Int32) fun v39 =>
              v39
      else
        if p2 = 1 then
          (-1)
        else
          if p2 = 0 then
            2
          else
            xlt (if p0 = 384 then (if ((xg_K_hstatus u) &&& (1048576 : Int32)) = 0 then (0) else (1)) else (0) : Int32) fun v13 =>
            xlt (if p2 = 3 then (xlt (xf_K_isOfS p0 : Int32) fun r16 => if r16 = 0 then (22) else (if v13 = 0 then ((-1)) else (22))) else (22) : Int32) fun v19 =>
            v19
set_option maxHeartbeats 4000000 in
set_option maxRecDepth 100000 in
theorem c_K_refusal (l : Launch) (D : va_G) (z : (Nat → Nat) × (Nat → Nat)) (k : ClassId × ClassId) (a : Nat → Nat) (g : XG) (sz : Nat) (u : XH) (hg : xok k g u) (p0 : Int32) (p1 : Int32) (p2 : Int32) : Met l xy_K_refusal (xk_K_refusal :: lw_g) { frames := 1, cells := 0, slots := 0, locals := 20 } (va_Pc [.ref ((a 4)), .int p0, .int p1, .int p2] (xB D (xTy k) z sz (xWH k a g u))) (va_Qi (fun r (q : XH × XG) => r = xf_K_refusal u p0 p1 p2 ∧ q.1 = u ∧ xok k q.2 q.1) (fun q t => xQ D (xTy k) (xWH k a q.2 q.1) (va_A (xWH k a g u) sz) t) (va_A (xWH k a g u) sz)) 0 0 (va_A (xWH k a g u) sz) := by
  refine xopen_i (wf := fun q : XH × XG => xWH k a q.2 q.1) (lv := [(0, .ref ((a 4))), (1, .int p0), (2, .int p1), (3, .int p2)]) (by decide) rfl (Nat.le_of_ble_eq_true rfl) ?_
  intro p e s m args below meth c Q ls A H locs hx hb hml htg hown hin hK hP hD hE hS hA hl hret
  refine lv_iload_n hx hb xd_K_refusal_0 rfl (lv_at hl 1 rfl) ?_
  refine lv_sipush (v := 3073) hx hb xd_K_refusal_1 (by decide) ?_
  refine lv_icmp_eq (tgt := 14) hx hb xd_K_refusal_4 rfl (fun h1 => ?_) (fun h1 => ?_)
  · refine lv_iload_n hx hb xd_K_refusal_14 rfl (lv_at hl 2 rfl) ?_
    have hj4 : ∀ (H : Heap) (locs : List Loc) (ls : Array Slot) (g : XG) (v3 : Int32), v3 = (if p1 = 0 then ((-1)) else (2)) → xok k g u → lv_has ls 5 [(0, .ref ((a 4))), (1, .int p0), (2, .int p1), (3, .int p2)] → va_P D xCl (xWH k a g u) H → va_D A (xWH k a g u) → va_S A s.heap H locs → W p l e { frames := 1, cells := 0, slots := 0, locals := 20 } s m args below meth c H locs (0) (0) Q (F0 m 23 ls [.int v3]) := by
      intro H locs ls g v3 hv3 hg hl hP hD hS
      exact hret _ (u, g) H locs ls _ ⟨(by unfold xf_K_refusal; exact (xit h1 (xlt_e hv3 rfl))), rfl, hg⟩ hP hD hS xd_K_refusal_23
    refine lv_if_eq (tgt := 22) hx hb xd_K_refusal_15 rfl (fun h5 => ?_) (fun h5 => ?_)
    · refine lv_iconst (v := (-1)) hx hb xd_K_refusal_22 (by decide) ?_
      exact hj4 H locs ls g (-1 : Int32) (xit h5 rfl) hg hl hP hD hS
    · refine lv_iconst (v := 2) hx hb xd_K_refusal_18 (by decide) ?_
      refine lv_goto (tgt := 23) hx hb xd_K_refusal_19 rfl ?_
      exact hj4 H locs ls g (2 : Int32) (xif h5 rfl) hg hl hP hD hS
  · refine lv_iload_n hx hb xd_K_refusal_7 rfl (lv_at hl 1 rfl) ?_
    refine lv_sipush (v := 3201) hx hb xd_K_refusal_8 (by decide) ?_
    refine lv_icmp_ne (tgt := 24) hx hb xd_K_refusal_11 rfl (fun h6 => ?_) (fun h6 => ?_)
    · refine lv_iload_n hx hb xd_K_refusal_24 rfl (lv_at hl 1 rfl) ?_
      refine xc0_i (va_runS (As := [.int p0]) (rest := []) ⟨hx, hb, hml, hown, htg⟩ (c_K_isOfS l D (xTy k) z H.size p0) (va_cwS 1 htg (xg_S0 xkin_K_isOfS xw_337 xw_338 xw_5) rfl rfl rfl (by decide +kernel) ⟨Nat.le_of_ble_eq_true rfl, Nat.le_of_ble_eq_true rfl⟩) ⟨xB_blind, fun U hU hW => xB_mk va_P0 hK va_D0 hE hS (xsub0 hA hS) hU hW⟩ rfl rfl hl.1 rfl (lv_room (Nat.le_of_ble_eq_true rfl)) xd_K_refusal_25 ⟨Nat.le_of_ble_eq_true rfl, Nat.le_of_ble_eq_true rfl⟩) hP hA hS (fun r7 H locs hr7 hP hS => ?_)
      refine lv_if_ne (tgt := 51) hx hb xd_K_refusal_28 rfl (fun h8 => ?_) (fun h8 => ?_)
      · refine lv_iload_n hx hb xd_K_refusal_51 rfl (lv_at hl 3 rfl) ?_
        refine lv_iconst (v := 1) hx hb xd_K_refusal_52 (by decide) ?_
        refine lv_icmp_ne (tgt := 58) hx hb xd_K_refusal_53 rfl (fun h9 => ?_) (fun h9 => ?_)
        · refine lv_iload_n hx hb xd_K_refusal_58 rfl (lv_at hl 3 rfl) ?_
          refine lv_if_ne (tgt := 64) hx hb xd_K_refusal_59 rfl (fun h10 => ?_) (fun h10 => ?_)
          · refine lv_iload_n hx hb xd_K_refusal_64 rfl (lv_at hl 1 rfl) ?_
            refine lv_sipush (v := 384) hx hb xd_K_refusal_65 (by decide) ?_
            have hj14 : ∀ (H : Heap) (locs : List Loc) (ls : Array Slot) (g : XG) (v13 : Int32), v13 = (if p0 = 384 then (if ((xg_K_hstatus u) &&& (1048576 : Int32)) = 0 then (0) else (1)) else (0)) → xok k g u → lv_has ls 5 [(0, .ref ((a 4))), (1, .int p0), (2, .int p1), (3, .int p2)] → va_P D xCl (xWH k a g u) H → va_D A (xWH k a g u) → va_S A s.heap H locs → W p l e { frames := 1, cells := 0, slots := 0, locals := 20 } s m args below meth c H locs (0) (0) Q (F0 m 86 ls [.int v13]) := by
              intro H locs ls g v13 hv13 hg hl hP hD hS
              refine lv_istore (lv' := [(4, .int v13), (0, .ref ((a 4))), (1, .int p0), (2, .int p1), (3, .int p2)]) hx hb xd_K_refusal_86 hl (by decide) rfl (fun ls hl => ?_)
              refine lv_iload_n hx hb xd_K_refusal_88 rfl (lv_at hl 4 rfl) ?_
              refine lv_iconst (v := 3) hx hb xd_K_refusal_89 (by decide) ?_
              have hj20 : ∀ (H : Heap) (locs : List Loc) (ls : Array Slot) (g : XG) (v19 : Int32), v19 = (if p2 = 3 then (xlt (xf_K_isOfS p0 : Int32) fun r16 => if r16 = 0 then (22) else (if v13 = 0 then ((-1)) else (22))) else (22)) → xok k g u → lv_has ls 5 [(4, .int v13), (0, .ref ((a 4))), (1, .int p0), (2, .int p1), (3, .int p2)] → va_P D xCl (xWH k a g u) H → va_D A (xWH k a g u) → va_S A s.heap H locs → W p l e { frames := 1, cells := 0, slots := 0, locals := 20 } s m args below meth c H locs (0) (0) Q (F0 m 111 ls [.int v19]) := by
                intro H locs ls g v19 hv19 hg hl hP hD hS
                exact hret _ (u, g) H locs ls _ ⟨(by unfold xf_K_refusal; exact (xif h1 (xif h6 (xlt_e hr7 (xif h8 (xif h9 (xif h10 (xlt_e hv13 (xlt_e hv19 rfl))))))))), rfl, hg⟩ hP hD hS xd_K_refusal_111
              refine lv_icmp_ne (tgt := 109) hx hb xd_K_refusal_90 rfl (fun h21 => ?_) (fun h21 => ?_)
              · refine lv_bipush (v := 22) hx hb xd_K_refusal_109 (by decide) ?_
                exact hj20 H locs ls g (22 : Int32) (xif h21 rfl) hg hl hP hD hS
              · refine lv_iload_n hx hb xd_K_refusal_93 rfl (lv_at hl 2 rfl) ?_
                refine xc0_i (va_runS (As := [.int p0]) (rest := []) ⟨hx, hb, hml, hown, htg⟩ (c_K_isOfS l D (xTy k) z H.size p0) (va_cwS 1 htg (xg_S0 xkin_K_isOfS xw_337 xw_338 xw_5) rfl rfl rfl (by decide +kernel) ⟨Nat.le_of_ble_eq_true rfl, Nat.le_of_ble_eq_true rfl⟩) ⟨xB_blind, fun U hU hW => xB_mk va_P0 hK va_D0 hE hS (xsub0 hA hS) hU hW⟩ rfl rfl hl.1 rfl (lv_room (Nat.le_of_ble_eq_true rfl)) xd_K_refusal_94 ⟨Nat.le_of_ble_eq_true rfl, Nat.le_of_ble_eq_true rfl⟩) hP hA hS (fun r22 H locs hr22 hP hS => ?_)
                refine lv_if_eq (tgt := 109) hx hb xd_K_refusal_97 rfl (fun h23 => ?_) (fun h23 => ?_)
                · refine lv_bipush (v := 22) hx hb xd_K_refusal_109 (by decide) ?_
                  exact hj20 H locs ls g (22 : Int32) (xit h21 (xlt_e hr22 (xit h23 rfl))) hg hl hP hD hS
                · refine lv_iload hx hb xd_K_refusal_100 (lv_at hl 0 rfl) ?_
                  refine lv_if_ne (tgt := 109) hx hb xd_K_refusal_102 rfl (fun h24 => ?_) (fun h24 => ?_)
                  · refine lv_bipush (v := 22) hx hb xd_K_refusal_109 (by decide) ?_
                    exact hj20 H locs ls g (22 : Int32) (xit h21 (xlt_e hr22 (xif h23 (xif h24 rfl)))) hg hl hP hD hS
                  · refine lv_iconst (v := (-1)) hx hb xd_K_refusal_105 (by decide) ?_
                    refine lv_goto (tgt := 111) hx hb xd_K_refusal_106 rfl ?_
                    exact hj20 H locs ls g (-1 : Int32) (xit h21 (xlt_e hr22 (xif h23 (xit h24 rfl)))) hg hl hP hD hS
            refine lv_icmp_ne (tgt := 85) hx hb xd_K_refusal_68 rfl (fun h25 => ?_) (fun h25 => ?_)
            · refine lv_iconst (v := 0) hx hb xd_K_refusal_85 (by decide) ?_
              exact hj14 H locs ls g (0 : Int32) (xif h25 rfl) hg hl hP hD hS
            · refine lv_aload_n hx hb xd_K_refusal_71 rfl (lv_at hl 0 rfl) ?_
              refine xget_K_hstatus (v := (xg_K_hstatus u)) hx hb htg hown hK hP (htg _ xw_106) rfl xd_K_refusal_72 ?_
              refine lv_ldc (v := 1048576) hx hb hown (htg _ xw_343) xd_K_refusal_75 ?_
              refine lv_iand hx hb xd_K_refusal_77 ?_
              refine lv_if_eq (tgt := 85) hx hb xd_K_refusal_78 rfl (fun h26 => ?_) (fun h26 => ?_)
              · refine lv_iconst (v := 0) hx hb xd_K_refusal_85 (by decide) ?_
                exact hj14 H locs ls g (0 : Int32) (xit h25 (xit h26 rfl)) hg hl hP hD hS
              · refine lv_iconst (v := 1) hx hb xd_K_refusal_81 (by decide) ?_
                refine lv_goto (tgt := 86) hx hb xd_K_refusal_82 rfl ?_
                exact hj14 H locs ls g (1 : Int32) (xit h25 (xif h26 rfl)) hg hl hP hD hS
          · refine lv_iconst (v := 2) hx hb xd_K_refusal_62 (by decide) ?_
            exact hret _ (u, g) H locs ls _ ⟨(by unfold xf_K_refusal; exact (xif h1 (xif h6 (xlt_e hr7 (xif h8 (xif h9 (xit h10 rfl))))))), rfl, hg⟩ hP hD hS xd_K_refusal_63
        · refine lv_iconst (v := (-1)) hx hb xd_K_refusal_56 (by decide) ?_
          exact hret _ (u, g) H locs ls _ ⟨(by unfold xf_K_refusal; exact (xif h1 (xif h6 (xlt_e hr7 (xif h8 (xit h9 rfl)))))), rfl, hg⟩ hP hD hS xd_K_refusal_57
      · refine lv_iload_n hx hb xd_K_refusal_31 rfl (lv_at hl 1 rfl) ?_
        refine lv_sipush (v := 256) hx hb xd_K_refusal_32 (by decide) ?_
        refine lv_isub hx hb xd_K_refusal_35 ?_
        refine xc0_i (va_runS (As := [.int ((p0 - (256 : Int32)))]) (rest := []) ⟨hx, hb, hml, hown, htg⟩ (c_K_isOfS l D (xTy k) z H.size (p0 - (256 : Int32))) (va_cwS 1 htg (xg_S0 xkin_K_isOfS xw_337 xw_338 xw_5) rfl rfl rfl (by decide +kernel) ⟨Nat.le_of_ble_eq_true rfl, Nat.le_of_ble_eq_true rfl⟩) ⟨xB_blind, fun U hU hW => xB_mk va_P0 hK va_D0 hE hS (xsub0 hA hS) hU hW⟩ rfl rfl hl.1 rfl (lv_room (Nat.le_of_ble_eq_true rfl)) xd_K_refusal_36 ⟨Nat.le_of_ble_eq_true rfl, Nat.le_of_ble_eq_true rfl⟩) hP hA hS (fun r27 H locs hr27 hP hS => ?_)
        refine lv_if_ne (tgt := 51) hx hb xd_K_refusal_39 rfl (fun h28 => ?_) (fun h28 => ?_)
        · refine lv_iload_n hx hb xd_K_refusal_51 rfl (lv_at hl 3 rfl) ?_
          refine lv_iconst (v := 1) hx hb xd_K_refusal_52 (by decide) ?_
          refine lv_icmp_ne (tgt := 58) hx hb xd_K_refusal_53 rfl (fun h29 => ?_) (fun h29 => ?_)
          · refine lv_iload_n hx hb xd_K_refusal_58 rfl (lv_at hl 3 rfl) ?_
            refine lv_if_ne (tgt := 64) hx hb xd_K_refusal_59 rfl (fun h30 => ?_) (fun h30 => ?_)
            · refine lv_iload_n hx hb xd_K_refusal_64 rfl (lv_at hl 1 rfl) ?_
              refine lv_sipush (v := 384) hx hb xd_K_refusal_65 (by decide) ?_
              have hj34 : ∀ (H : Heap) (locs : List Loc) (ls : Array Slot) (g : XG) (v33 : Int32), v33 = (if p0 = 384 then (if ((xg_K_hstatus u) &&& (1048576 : Int32)) = 0 then (0) else (1)) else (0)) → xok k g u → lv_has ls 5 [(0, .ref ((a 4))), (1, .int p0), (2, .int p1), (3, .int p2)] → va_P D xCl (xWH k a g u) H → va_D A (xWH k a g u) → va_S A s.heap H locs → W p l e { frames := 1, cells := 0, slots := 0, locals := 20 } s m args below meth c H locs (0) (0) Q (F0 m 86 ls [.int v33]) := by
                intro H locs ls g v33 hv33 hg hl hP hD hS
                refine lv_istore (lv' := [(4, .int v33), (0, .ref ((a 4))), (1, .int p0), (2, .int p1), (3, .int p2)]) hx hb xd_K_refusal_86 hl (by decide) rfl (fun ls hl => ?_)
                refine lv_iload_n hx hb xd_K_refusal_88 rfl (lv_at hl 4 rfl) ?_
                refine lv_iconst (v := 3) hx hb xd_K_refusal_89 (by decide) ?_
                have hj40 : ∀ (H : Heap) (locs : List Loc) (ls : Array Slot) (g : XG) (v39 : Int32), v39 = (if p2 = 3 then (xlt (xf_K_isOfS p0 : Int32) fun r36 => if r36 = 0 then (22) else (if v33 = 0 then ((-1)) else (22))) else (22)) → xok k g u → lv_has ls 5 [(4, .int v33), (0, .ref ((a 4))), (1, .int p0), (2, .int p1), (3, .int p2)] → va_P D xCl (xWH k a g u) H → va_D A (xWH k a g u) → va_S A s.heap H locs → W p l e { frames := 1, cells := 0, slots := 0, locals := 20 } s m args below meth c H locs (0) (0) Q (F0 m 111 ls [.int v39]) := by
                  intro H locs ls g v39 hv39 hg hl hP hD hS
                  exact hret _ (u, g) H locs ls _ ⟨(by unfold xf_K_refusal; exact (xif h1 (xif h6 (xlt_e hr7 (xit h8 (xlt_e hr27 (xif h28 (xif h29 (xif h30 (xlt_e hv33 (xlt_e hv39 rfl))))))))))), rfl, hg⟩ hP hD hS xd_K_refusal_111
                refine lv_icmp_ne (tgt := 109) hx hb xd_K_refusal_90 rfl (fun h41 => ?_) (fun h41 => ?_)
                · refine lv_bipush (v := 22) hx hb xd_K_refusal_109 (by decide) ?_
                  exact hj40 H locs ls g (22 : Int32) (xif h41 rfl) hg hl hP hD hS
                · refine lv_iload_n hx hb xd_K_refusal_93 rfl (lv_at hl 2 rfl) ?_
                  refine xc0_i (va_runS (As := [.int p0]) (rest := []) ⟨hx, hb, hml, hown, htg⟩ (c_K_isOfS l D (xTy k) z H.size p0) (va_cwS 1 htg (xg_S0 xkin_K_isOfS xw_337 xw_338 xw_5) rfl rfl rfl (by decide +kernel) ⟨Nat.le_of_ble_eq_true rfl, Nat.le_of_ble_eq_true rfl⟩) ⟨xB_blind, fun U hU hW => xB_mk va_P0 hK va_D0 hE hS (xsub0 hA hS) hU hW⟩ rfl rfl hl.1 rfl (lv_room (Nat.le_of_ble_eq_true rfl)) xd_K_refusal_94 ⟨Nat.le_of_ble_eq_true rfl, Nat.le_of_ble_eq_true rfl⟩) hP hA hS (fun r42 H locs hr42 hP hS => ?_)
                  refine lv_if_eq (tgt := 109) hx hb xd_K_refusal_97 rfl (fun h43 => ?_) (fun h43 => ?_)
                  · refine lv_bipush (v := 22) hx hb xd_K_refusal_109 (by decide) ?_
                    exact hj40 H locs ls g (22 : Int32) (xit h41 (xlt_e hr42 (xit h43 rfl))) hg hl hP hD hS
                  · refine lv_iload hx hb xd_K_refusal_100 (lv_at hl 0 rfl) ?_
                    refine lv_if_ne (tgt := 109) hx hb xd_K_refusal_102 rfl (fun h44 => ?_) (fun h44 => ?_)
                    · refine lv_bipush (v := 22) hx hb xd_K_refusal_109 (by decide) ?_
                      exact hj40 H locs ls g (22 : Int32) (xit h41 (xlt_e hr42 (xif h43 (xif h44 rfl)))) hg hl hP hD hS
                    · refine lv_iconst (v := (-1)) hx hb xd_K_refusal_105 (by decide) ?_
                      refine lv_goto (tgt := 111) hx hb xd_K_refusal_106 rfl ?_
                      exact hj40 H locs ls g (-1 : Int32) (xit h41 (xlt_e hr42 (xif h43 (xit h44 rfl)))) hg hl hP hD hS
              refine lv_icmp_ne (tgt := 85) hx hb xd_K_refusal_68 rfl (fun h45 => ?_) (fun h45 => ?_)
              · refine lv_iconst (v := 0) hx hb xd_K_refusal_85 (by decide) ?_
                exact hj34 H locs ls g (0 : Int32) (xif h45 rfl) hg hl hP hD hS
              · refine lv_aload_n hx hb xd_K_refusal_71 rfl (lv_at hl 0 rfl) ?_
                refine xget_K_hstatus (v := (xg_K_hstatus u)) hx hb htg hown hK hP (htg _ xw_106) rfl xd_K_refusal_72 ?_
                refine lv_ldc (v := 1048576) hx hb hown (htg _ xw_343) xd_K_refusal_75 ?_
                refine lv_iand hx hb xd_K_refusal_77 ?_
                refine lv_if_eq (tgt := 85) hx hb xd_K_refusal_78 rfl (fun h46 => ?_) (fun h46 => ?_)
                · refine lv_iconst (v := 0) hx hb xd_K_refusal_85 (by decide) ?_
                  exact hj34 H locs ls g (0 : Int32) (xit h45 (xit h46 rfl)) hg hl hP hD hS
                · refine lv_iconst (v := 1) hx hb xd_K_refusal_81 (by decide) ?_
                  refine lv_goto (tgt := 86) hx hb xd_K_refusal_82 rfl ?_
                  exact hj34 H locs ls g (1 : Int32) (xit h45 (xif h46 rfl)) hg hl hP hD hS
            · refine lv_iconst (v := 2) hx hb xd_K_refusal_62 (by decide) ?_
              exact hret _ (u, g) H locs ls _ ⟨(by unfold xf_K_refusal; exact (xif h1 (xif h6 (xlt_e hr7 (xit h8 (xlt_e hr27 (xif h28 (xif h29 (xit h30 rfl))))))))), rfl, hg⟩ hP hD hS xd_K_refusal_63
          · refine lv_iconst (v := (-1)) hx hb xd_K_refusal_56 (by decide) ?_
            exact hret _ (u, g) H locs ls _ ⟨(by unfold xf_K_refusal; exact (xif h1 (xif h6 (xlt_e hr7 (xit h8 (xlt_e hr27 (xif h28 (xit h29 rfl)))))))), rfl, hg⟩ hP hD hS xd_K_refusal_57
        · refine lv_iload_n hx hb xd_K_refusal_42 rfl (lv_at hl 1 rfl) ?_
          refine xc0_i (va_runS (As := [.int p0]) (rest := []) ⟨hx, hb, hml, hown, htg⟩ (c_K_isOfH l D (xTy k) z H.size p0) (va_cwS 1 htg (xg_S0 xkin_K_isOfH xw_340 xw_341 xw_5) rfl rfl rfl (by decide +kernel) ⟨Nat.le_of_ble_eq_true rfl, Nat.le_of_ble_eq_true rfl⟩) ⟨xB_blind, fun U hU hW => xB_mk va_P0 hK va_D0 hE hS (xsub0 hA hS) hU hW⟩ rfl rfl hl.1 rfl (lv_room (Nat.le_of_ble_eq_true rfl)) xd_K_refusal_43 ⟨Nat.le_of_ble_eq_true rfl, Nat.le_of_ble_eq_true rfl⟩) hP hA hS (fun r47 H locs hr47 hP hS => ?_)
          refine lv_if_ne (tgt := 51) hx hb xd_K_refusal_46 rfl (fun h48 => ?_) (fun h48 => ?_)
          · refine lv_iload_n hx hb xd_K_refusal_51 rfl (lv_at hl 3 rfl) ?_
            refine lv_iconst (v := 1) hx hb xd_K_refusal_52 (by decide) ?_
            refine lv_icmp_ne (tgt := 58) hx hb xd_K_refusal_53 rfl (fun h49 => ?_) (fun h49 => ?_)
            · refine lv_iload_n hx hb xd_K_refusal_58 rfl (lv_at hl 3 rfl) ?_
              refine lv_if_ne (tgt := 64) hx hb xd_K_refusal_59 rfl (fun h50 => ?_) (fun h50 => ?_)
              · refine lv_iload_n hx hb xd_K_refusal_64 rfl (lv_at hl 1 rfl) ?_
                refine lv_sipush (v := 384) hx hb xd_K_refusal_65 (by decide) ?_
                have hj54 : ∀ (H : Heap) (locs : List Loc) (ls : Array Slot) (g : XG) (v53 : Int32), v53 = (if p0 = 384 then (if ((xg_K_hstatus u) &&& (1048576 : Int32)) = 0 then (0) else (1)) else (0)) → xok k g u → lv_has ls 5 [(0, .ref ((a 4))), (1, .int p0), (2, .int p1), (3, .int p2)] → va_P D xCl (xWH k a g u) H → va_D A (xWH k a g u) → va_S A s.heap H locs → W p l e { frames := 1, cells := 0, slots := 0, locals := 20 } s m args below meth c H locs (0) (0) Q (F0 m 86 ls [.int v53]) := by
                  intro H locs ls g v53 hv53 hg hl hP hD hS
                  refine lv_istore (lv' := [(4, .int v53), (0, .ref ((a 4))), (1, .int p0), (2, .int p1), (3, .int p2)]) hx hb xd_K_refusal_86 hl (by decide) rfl (fun ls hl => ?_)
                  refine lv_iload_n hx hb xd_K_refusal_88 rfl (lv_at hl 4 rfl) ?_
                  refine lv_iconst (v := 3) hx hb xd_K_refusal_89 (by decide) ?_
                  have hj60 : ∀ (H : Heap) (locs : List Loc) (ls : Array Slot) (g : XG) (v59 : Int32), v59 = (if p2 = 3 then (xlt (xf_K_isOfS p0 : Int32) fun r56 => if r56 = 0 then (22) else (if v53 = 0 then ((-1)) else (22))) else (22)) → xok k g u → lv_has ls 5 [(4, .int v53), (0, .ref ((a 4))), (1, .int p0), (2, .int p1), (3, .int p2)] → va_P D xCl (xWH k a g u) H → va_D A (xWH k a g u) → va_S A s.heap H locs → W p l e { frames := 1, cells := 0, slots := 0, locals := 20 } s m args below meth c H locs (0) (0) Q (F0 m 111 ls [.int v59]) := by
                    intro H locs ls g v59 hv59 hg hl hP hD hS
                    exact hret _ (u, g) H locs ls _ ⟨(by unfold xf_K_refusal; exact (xif h1 (xif h6 (xlt_e hr7 (xit h8 (xlt_e hr27 (xit h28 (xlt_e hr47 (xif h48 (xif h49 (xif h50 (xlt_e hv53 (xlt_e hv59 rfl))))))))))))), rfl, hg⟩ hP hD hS xd_K_refusal_111
                  refine lv_icmp_ne (tgt := 109) hx hb xd_K_refusal_90 rfl (fun h61 => ?_) (fun h61 => ?_)
                  · refine lv_bipush (v := 22) hx hb xd_K_refusal_109 (by decide) ?_
                    exact hj60 H locs ls g (22 : Int32) (xif h61 rfl) hg hl hP hD hS
                  · refine lv_iload_n hx hb xd_K_refusal_93 rfl (lv_at hl 2 rfl) ?_
                    refine xc0_i (va_runS (As := [.int p0]) (rest := []) ⟨hx, hb, hml, hown, htg⟩ (c_K_isOfS l D (xTy k) z H.size p0) (va_cwS 1 htg (xg_S0 xkin_K_isOfS xw_337 xw_338 xw_5) rfl rfl rfl (by decide +kernel) ⟨Nat.le_of_ble_eq_true rfl, Nat.le_of_ble_eq_true rfl⟩) ⟨xB_blind, fun U hU hW => xB_mk va_P0 hK va_D0 hE hS (xsub0 hA hS) hU hW⟩ rfl rfl hl.1 rfl (lv_room (Nat.le_of_ble_eq_true rfl)) xd_K_refusal_94 ⟨Nat.le_of_ble_eq_true rfl, Nat.le_of_ble_eq_true rfl⟩) hP hA hS (fun r62 H locs hr62 hP hS => ?_)
                    refine lv_if_eq (tgt := 109) hx hb xd_K_refusal_97 rfl (fun h63 => ?_) (fun h63 => ?_)
                    · refine lv_bipush (v := 22) hx hb xd_K_refusal_109 (by decide) ?_
                      exact hj60 H locs ls g (22 : Int32) (xit h61 (xlt_e hr62 (xit h63 rfl))) hg hl hP hD hS
                    · refine lv_iload hx hb xd_K_refusal_100 (lv_at hl 0 rfl) ?_
                      refine lv_if_ne (tgt := 109) hx hb xd_K_refusal_102 rfl (fun h64 => ?_) (fun h64 => ?_)
                      · refine lv_bipush (v := 22) hx hb xd_K_refusal_109 (by decide) ?_
                        exact hj60 H locs ls g (22 : Int32) (xit h61 (xlt_e hr62 (xif h63 (xif h64 rfl)))) hg hl hP hD hS
                      · refine lv_iconst (v := (-1)) hx hb xd_K_refusal_105 (by decide) ?_
                        refine lv_goto (tgt := 111) hx hb xd_K_refusal_106 rfl ?_
                        exact hj60 H locs ls g (-1 : Int32) (xit h61 (xlt_e hr62 (xif h63 (xit h64 rfl)))) hg hl hP hD hS
                refine lv_icmp_ne (tgt := 85) hx hb xd_K_refusal_68 rfl (fun h65 => ?_) (fun h65 => ?_)
                · refine lv_iconst (v := 0) hx hb xd_K_refusal_85 (by decide) ?_
                  exact hj54 H locs ls g (0 : Int32) (xif h65 rfl) hg hl hP hD hS
                · refine lv_aload_n hx hb xd_K_refusal_71 rfl (lv_at hl 0 rfl) ?_
                  refine xget_K_hstatus (v := (xg_K_hstatus u)) hx hb htg hown hK hP (htg _ xw_106) rfl xd_K_refusal_72 ?_
                  refine lv_ldc (v := 1048576) hx hb hown (htg _ xw_343) xd_K_refusal_75 ?_
                  refine lv_iand hx hb xd_K_refusal_77 ?_
                  refine lv_if_eq (tgt := 85) hx hb xd_K_refusal_78 rfl (fun h66 => ?_) (fun h66 => ?_)
                  · refine lv_iconst (v := 0) hx hb xd_K_refusal_85 (by decide) ?_
                    exact hj54 H locs ls g (0 : Int32) (xit h65 (xit h66 rfl)) hg hl hP hD hS
                  · refine lv_iconst (v := 1) hx hb xd_K_refusal_81 (by decide) ?_
                    refine lv_goto (tgt := 86) hx hb xd_K_refusal_82 rfl ?_
                    exact hj54 H locs ls g (1 : Int32) (xit h65 (xif h66 rfl)) hg hl hP hD hS
              · refine lv_iconst (v := 2) hx hb xd_K_refusal_62 (by decide) ?_
                exact hret _ (u, g) H locs ls _ ⟨(by unfold xf_K_refusal; exact (xif h1 (xif h6 (xlt_e hr7 (xit h8 (xlt_e hr27 (xit h28 (xlt_e hr47 (xif h48 (xif h49 (xit h50 rfl))))))))))), rfl, hg⟩ hP hD hS xd_K_refusal_63
            · refine lv_iconst (v := (-1)) hx hb xd_K_refusal_56 (by decide) ?_
              exact hret _ (u, g) H locs ls _ ⟨(by unfold xf_K_refusal; exact (xif h1 (xif h6 (xlt_e hr7 (xit h8 (xlt_e hr27 (xit h28 (xlt_e hr47 (xif h48 (xit h49 rfl)))))))))), rfl, hg⟩ hP hD hS xd_K_refusal_57
          · refine lv_iconst (v := 2) hx hb xd_K_refusal_49 (by decide) ?_
            exact hret _ (u, g) H locs ls _ ⟨(by unfold xf_K_refusal; exact (xif h1 (xif h6 (xlt_e hr7 (xit h8 (xlt_e hr27 (xit h28 (xlt_e hr47 (xit h48 rfl))))))))), rfl, hg⟩ hP hD hS xd_K_refusal_50
    · refine lv_iload_n hx hb xd_K_refusal_14 rfl (lv_at hl 2 rfl) ?_
      have hj69 : ∀ (H : Heap) (locs : List Loc) (ls : Array Slot) (g : XG) (v68 : Int32), v68 = (if p1 = 0 then ((-1)) else (2)) → xok k g u → lv_has ls 5 [(0, .ref ((a 4))), (1, .int p0), (2, .int p1), (3, .int p2)] → va_P D xCl (xWH k a g u) H → va_D A (xWH k a g u) → va_S A s.heap H locs → W p l e { frames := 1, cells := 0, slots := 0, locals := 20 } s m args below meth c H locs (0) (0) Q (F0 m 23 ls [.int v68]) := by
        intro H locs ls g v68 hv68 hg hl hP hD hS
        exact hret _ (u, g) H locs ls _ ⟨(by unfold xf_K_refusal; exact (xif h1 (xit h6 (xlt_e hv68 rfl)))), rfl, hg⟩ hP hD hS xd_K_refusal_23
      refine lv_if_eq (tgt := 22) hx hb xd_K_refusal_15 rfl (fun h70 => ?_) (fun h70 => ?_)
      · refine lv_iconst (v := (-1)) hx hb xd_K_refusal_22 (by decide) ?_
        exact hj69 H locs ls g (-1 : Int32) (xit h70 rfl) hg hl hP hD hS
      · refine lv_iconst (v := 2) hx hb xd_K_refusal_18 (by decide) ?_
        refine lv_goto (tgt := 23) hx hb xd_K_refusal_19 rfl ?_
        exact hj69 H locs ls g (2 : Int32) (xif h70 rfl) hg hl hP hD hS

noncomputable def xf_K_raiseSoft (u : XH) (p0 : Int32) (p1 : Int32) : XH :=
  (xs_K_hvip u (((xg_K_hvip u) &&& (p1 ^^^ (-1 : Int32))) ||| (p0 &&& p1)))
set_option maxHeartbeats 4000000 in
set_option maxRecDepth 100000 in
theorem c_K_raiseSoft (l : Launch) (D : va_G) (z : (Nat → Nat) × (Nat → Nat)) (k : ClassId × ClassId) (a : Nat → Nat) (g : XG) (sz : Nat) (u : XH) (hg : xok k g u) (p0 : Int32) (p1 : Int32) : Met l xy_K_raiseSoft (xk_K_raiseSoft :: lw_g) { frames := 0, cells := 0, slots := 0, locals := 0 } (va_Pc [.ref ((a 4)), .int p0, .int p1] (xB D (xTy k) z sz (xWH k a g u))) (va_Qv (fun q : XH × XG => q.1 = xf_K_raiseSoft u p0 p1 ∧ xok k q.2 q.1) (fun q t => xQ D (xTy k) (xWH k a q.2 q.1) (va_A (xWH k a g u) sz) t) (va_A (xWH k a g u) sz)) 0 0 (va_A (xWH k a g u) sz) := by
  refine xopen_v (wf := fun q : XH × XG => xWH k a q.2 q.1) (lv := [(0, .ref ((a 4))), (1, .int p0), (2, .int p1)]) (by decide) rfl (Nat.le_of_ble_eq_true rfl) ?_
  intro p e s m args below meth c Q ls A H locs hx hb hml htg hown hin hK hP hD hE hS hA hl hret
  refine lv_aload_n hx hb xd_K_raiseSoft_0 rfl (lv_at hl 0 rfl) ?_
  refine lv_aload_n hx hb xd_K_raiseSoft_1 rfl (lv_at hl 0 rfl) ?_
  refine xget_K_hvip (v := (xg_K_hvip u)) hx hb htg hown hK hP (htg _ xw_113) rfl xd_K_raiseSoft_2 ?_
  refine lv_iload_n hx hb xd_K_raiseSoft_5 rfl (lv_at hl 2 rfl) ?_
  refine lv_iconst (v := (-1)) hx hb xd_K_raiseSoft_6 (by decide) ?_
  refine lv_ixor hx hb xd_K_raiseSoft_7 ?_
  refine lv_iand hx hb xd_K_raiseSoft_8 ?_
  refine lv_iload_n hx hb xd_K_raiseSoft_9 rfl (lv_at hl 1 rfl) ?_
  refine lv_iload_n hx hb xd_K_raiseSoft_10 rfl (lv_at hl 2 rfl) ?_
  refine lv_iand hx hb xd_K_raiseSoft_11 ?_
  refine lv_ior hx hb xd_K_raiseSoft_12 ?_
  refine xput_K_hvip (v := (((xg_K_hvip u) &&& (p1 ^^^ (-1 : Int32))) ||| (p0 &&& p1))) hx hb htg hown hK hP hD hS hg (htg _ xw_113) xd_K_raiseSoft_13 (fun H locs hP hD hS hg => ?_)
  exact hret ((xs_K_hvip u (((xg_K_hvip u) &&& (p1 ^^^ (-1 : Int32))) ||| (p0 &&& p1))), g) H locs ls _ ⟨(by unfold xf_K_raiseSoft; exact rfl), hg⟩ hP hD hS xd_K_raiseSoft_16
theorem xm_K_raiseSoft (u : XH) (p0 : Int32) (p1 : Int32) : XEs (xcH u) (xf_K_raiseSoft u p0 p1) := by unfold xf_K_raiseSoft; exact (xcH_K_hvip.trans rfl)

noncomputable def xf_K_pendingForS (u : XH) : Int32 :=
  xlt (if (lg_cmp (xg_K_time u) (xg_K_alarm u)) < 0 then (0) else (32) : Int32) fun v2 =>
  xlt (if (xz (xg_K_lineOn u)) = 0 then (0) else (512) : Int32) fun v5 =>
  (((xg_S_ip u) ||| v2) ||| v5)
set_option maxHeartbeats 4000000 in
set_option maxRecDepth 100000 in
theorem c_K_pendingForS (l : Launch) (D : va_G) (z : (Nat → Nat) × (Nat → Nat)) (k : ClassId × ClassId) (a : Nat → Nat) (g : XG) (sz : Nat) (u : XH) (hg : xok k g u) : Met l xy_K_pendingForS (xk_K_pendingForS :: lw_g) { frames := 0, cells := 0, slots := 0, locals := 0 } (va_Pc [.ref ((a 4))] (xB D (xTy k) z sz (xWH k a g u))) (va_Qi (fun r (q : XH × XG) => r = xf_K_pendingForS u ∧ q.1 = u ∧ xok k q.2 q.1) (fun q t => xQ D (xTy k) (xWH k a q.2 q.1) (va_A (xWH k a g u) sz) t) (va_A (xWH k a g u) sz)) 0 0 (va_A (xWH k a g u) sz) := by
  refine xopen_i (wf := fun q : XH × XG => xWH k a q.2 q.1) (lv := [(0, .ref ((a 4)))]) (by decide) rfl (Nat.le_of_ble_eq_true rfl) ?_
  intro p e s m args below meth c Q ls A H locs hx hb hml htg hown hin hK hP hD hE hS hA hl hret
  refine lv_aload_n hx hb xd_K_pendingForS_0 rfl (lv_at hl 0 rfl) ?_
  refine xget_K_s hx hb htg hown hK hP (htg _ xw_100) xd_K_pendingForS_1 ?_
  refine xget_S_ip (v := (xg_S_ip u)) hx hb htg hown hK hP (htg _ xw_78) rfl xd_K_pendingForS_4 ?_
  refine lv_aload_n hx hb xd_K_pendingForS_7 rfl (lv_at hl 0 rfl) ?_
  refine xget_K_time (v := (xg_K_time u)) hx hb htg hown hK hP (htg _ xw_117) rfl xd_K_pendingForS_8 ?_
  refine lv_aload_n hx hb xd_K_pendingForS_11 rfl (lv_at hl 0 rfl) ?_
  refine xget_K_alarm (v := (xg_K_alarm u)) hx hb htg hown hK hP (htg _ xw_120) rfl xd_K_pendingForS_12 ?_
  refine W.lcmp hx hb xd_K_pendingForS_15 ?_
  have hj3 : ∀ (H : Heap) (locs : List Loc) (ls : Array Slot) (g : XG) (v2 : Int32), v2 = (if (lg_cmp (xg_K_time u) (xg_K_alarm u)) < 0 then (0) else (32)) → xok k g u → lv_has ls 1 [(0, .ref ((a 4)))] → va_P D xCl (xWH k a g u) H → va_D A (xWH k a g u) → va_S A s.heap H locs → W p l e { frames := 0, cells := 0, slots := 0, locals := 0 } s m args below meth c H locs (0) (0) Q (F0 m 25 ls [.int v2, .int ((xg_S_ip u))]) := by
    intro H locs ls g v2 hv2 hg hl hP hD hS
    refine lv_ior hx hb xd_K_pendingForS_25 ?_
    refine lv_aload_n hx hb xd_K_pendingForS_26 rfl (lv_at hl 0 rfl) ?_
    refine xget_K_lineOn (v := (xg_K_lineOn u)) hx hb htg hown hK hP (htg _ xw_123) rfl xd_K_pendingForS_27 ?_
    have hj6 : ∀ (H : Heap) (locs : List Loc) (ls : Array Slot) (g : XG) (v5 : Int32), v5 = (if (xz (xg_K_lineOn u)) = 0 then (0) else (512)) → xok k g u → lv_has ls 1 [(0, .ref ((a 4)))] → va_P D xCl (xWH k a g u) H → va_D A (xWH k a g u) → va_S A s.heap H locs → W p l e { frames := 0, cells := 0, slots := 0, locals := 0 } s m args below meth c H locs (0) (0) Q (F0 m 40 ls [.int v5, .int (((xg_S_ip u) ||| v2))]) := by
      intro H locs ls g v5 hv5 hg hl hP hD hS
      refine lv_ior hx hb xd_K_pendingForS_40 ?_
      exact hret _ (u, g) H locs ls _ ⟨(by unfold xf_K_pendingForS; exact (xlt_e hv2 (xlt_e hv5 rfl))), rfl, hg⟩ hP hD hS xd_K_pendingForS_41
    refine lv_if_eq (tgt := 39) hx hb xd_K_pendingForS_30 rfl (fun h7 => ?_) (fun h7 => ?_)
    · refine lv_iconst (v := 0) hx hb xd_K_pendingForS_39 (by decide) ?_
      exact hj6 H locs ls g (0 : Int32) (xit h7 rfl) hg hl hP hD hS
    · refine lv_sipush (v := 512) hx hb xd_K_pendingForS_33 (by decide) ?_
      refine lv_goto (tgt := 40) hx hb xd_K_pendingForS_36 rfl ?_
      exact hj6 H locs ls g (512 : Int32) (xif h7 rfl) hg hl hP hD hS
  refine lv_if_lt (tgt := 24) hx hb xd_K_pendingForS_16 rfl (fun h8 => ?_) (fun h8 => ?_)
  · refine lv_iconst (v := 0) hx hb xd_K_pendingForS_24 (by decide) ?_
    exact hj3 H locs ls g (0 : Int32) (xit h8 rfl) hg hl hP hD hS
  · refine lv_bipush (v := 32) hx hb xd_K_pendingForS_19 (by decide) ?_
    refine lv_goto (tgt := 25) hx hb xd_K_pendingForS_21 rfl ?_
    exact hj3 H locs ls g (32 : Int32) (xif h8 rfl) hg hl hP hD hS

noncomputable def xf_K_dueForS (u : XH) (p0 : Int32) : Int32 :=
  if p0 = 1 then
    if ((xg_S_status u) &&& (2 : Int32)) = 0 then
      (-1)
    else
      xlt (xf_K_pendingForS u : Int32) fun q5 =>
      xlt (xf_K_first ((q5 &&& (xg_S_ie u)) ||| (((xg_K_hvip u) &&& (xg_K_hie u)) &&& ((xg_K_hideleg u) ^^^ (-1 : Int32)))) : Int32) fun r6 =>
      r6
  else
    xlt (xf_K_pendingForS u : Int32) fun q2 =>
    xlt (xf_K_first ((q2 &&& (xg_S_ie u)) ||| (((xg_K_hvip u) &&& (xg_K_hie u)) &&& ((xg_K_hideleg u) ^^^ (-1 : Int32)))) : Int32) fun r3 =>
    r3
set_option maxHeartbeats 4000000 in
set_option maxRecDepth 100000 in
theorem c_K_dueForS (l : Launch) (D : va_G) (z : (Nat → Nat) × (Nat → Nat)) (k : ClassId × ClassId) (a : Nat → Nat) (g : XG) (sz : Nat) (u : XH) (hg : xok k g u) (p0 : Int32) : Met l xy_K_dueForS (xk_K_dueForS :: lw_g) { frames := 1, cells := 0, slots := 0, locals := 21 } (va_Pc [.ref ((a 4)), .int p0] (xB D (xTy k) z sz (xWH k a g u))) (va_Qi (fun r (q : XH × XG) => r = xf_K_dueForS u p0 ∧ q.1 = u ∧ xok k q.2 q.1) (fun q t => xQ D (xTy k) (xWH k a q.2 q.1) (va_A (xWH k a g u) sz) t) (va_A (xWH k a g u) sz)) 0 0 (va_A (xWH k a g u) sz) := by
  refine xopen_i (wf := fun q : XH × XG => xWH k a q.2 q.1) (lv := [(0, .ref ((a 4))), (1, .int p0)]) (by decide) rfl (Nat.le_of_ble_eq_true rfl) ?_
  intro p e s m args below meth c Q ls A H locs hx hb hml htg hown hin hK hP hD hE hS hA hl hret
  refine lv_iload_n hx hb xd_K_dueForS_0 rfl (lv_at hl 1 rfl) ?_
  refine lv_iconst (v := 1) hx hb xd_K_dueForS_1 (by decide) ?_
  refine lv_icmp_ne (tgt := 19) hx hb xd_K_dueForS_2 rfl (fun h1 => ?_) (fun h1 => ?_)
  · refine lv_aload_n hx hb xd_K_dueForS_19 rfl (lv_at hl 0 rfl) ?_
    refine xcW_i (va_runV (As := []) (rest := []) ⟨hx, hb, hml, hown, htg⟩ (c_K_pendingForS l D z k a g H.size u hg) (cwV 0 htg (xg_V0 xkin_K_pendingForS xw_369 xw_371 xsel_K_pendingForS xw_5) rfl rfl rfl (by decide +kernel) ⟨Nat.le_of_ble_eq_true rfl, Nat.le_of_ble_eq_true rfl⟩) ⟨xB_blind, xrecv_K hK hP, fun U hU hW => xB_mk hP hK hD hE hS (xsubW hD hA hS) hU hW⟩ rfl rfl hl.1 rfl (lv_room (Nat.le_of_ble_eq_true rfl)) xd_K_dueForS_20 ⟨Nat.le_of_ble_eq_true rfl, Nat.le_of_ble_eq_true rfl⟩) hD hA hS (fun r w1 H locs hw hP hD hS => ?_)
    obtain ⟨u1, g⟩ := w1
    obtain ⟨q2, hq2⟩ : ∃ q, q = xf_K_pendingForS u := ⟨_, rfl⟩
    obtain ⟨e1, e2, hg⟩ := hw
    rw [← hq2] at e1
    obtain rfl : q2 = r := e1.symm
    obtain rfl : u = u1 := e2.symm
    have hP : va_P D xCl (xWH k a g u) H := hP
    have hD : va_D A (xWH k a g u) := hD
    have hg : xok k g u := hg
    refine lv_aload_n hx hb xd_K_dueForS_23 rfl (lv_at hl 0 rfl) ?_
    refine xget_K_s hx hb htg hown hK hP (htg _ xw_100) xd_K_dueForS_24 ?_
    refine xget_S_ie (v := (xg_S_ie u)) hx hb htg hown hK hP (htg _ xw_70) rfl xd_K_dueForS_27 ?_
    refine lv_iand hx hb xd_K_dueForS_30 ?_
    refine lv_aload_n hx hb xd_K_dueForS_31 rfl (lv_at hl 0 rfl) ?_
    refine xget_K_hvip (v := (xg_K_hvip u)) hx hb htg hown hK hP (htg _ xw_113) rfl xd_K_dueForS_32 ?_
    refine lv_aload_n hx hb xd_K_dueForS_35 rfl (lv_at hl 0 rfl) ?_
    refine xget_K_hie (v := (xg_K_hie u)) hx hb htg hown hK hP (htg _ xw_111) rfl xd_K_dueForS_36 ?_
    refine lv_iand hx hb xd_K_dueForS_39 ?_
    refine lv_aload_n hx hb xd_K_dueForS_40 rfl (lv_at hl 0 rfl) ?_
    refine xget_K_hideleg (v := (xg_K_hideleg u)) hx hb htg hown hK hP (htg _ xw_110) rfl xd_K_dueForS_41 ?_
    refine lv_iconst (v := (-1)) hx hb xd_K_dueForS_44 (by decide) ?_
    refine lv_ixor hx hb xd_K_dueForS_45 ?_
    refine lv_iand hx hb xd_K_dueForS_46 ?_
    refine lv_ior hx hb xd_K_dueForS_47 ?_
    refine xc0_i (va_runS (As := [.int (((q2 &&& (xg_S_ie u)) ||| (((xg_K_hvip u) &&& (xg_K_hie u)) &&& ((xg_K_hideleg u) ^^^ (-1 : Int32)))))]) (rest := []) ⟨hx, hb, hml, hown, htg⟩ (c_K_first l D (xTy k) z H.size ((q2 &&& (xg_S_ie u)) ||| (((xg_K_hvip u) &&& (xg_K_hie u)) &&& ((xg_K_hideleg u) ^^^ (-1 : Int32))))) (va_cwS 1 htg (xg_S0 xkin_K_first xw_405 xw_406 xw_5) rfl rfl rfl (by decide +kernel) ⟨Nat.le_of_ble_eq_true rfl, Nat.le_of_ble_eq_true rfl⟩) ⟨xB_blind, fun U hU hW => xB_mk va_P0 hK va_D0 hE hS (xsub0 hA hS) hU hW⟩ rfl rfl hl.1 rfl (lv_room (Nat.le_of_ble_eq_true rfl)) xd_K_dueForS_48 ⟨Nat.le_of_ble_eq_true rfl, Nat.le_of_ble_eq_true rfl⟩) hP hA hS (fun r3 H locs hr3 hP hS => ?_)
    exact hret _ (u, g) H locs ls _ ⟨(by unfold xf_K_dueForS; exact (xif h1 (xlt_e hq2 (xlt_e hr3 rfl)))), rfl, hg⟩ hP hD hS xd_K_dueForS_51
  · refine lv_aload_n hx hb xd_K_dueForS_5 rfl (lv_at hl 0 rfl) ?_
    refine xget_K_s hx hb htg hown hK hP (htg _ xw_100) xd_K_dueForS_6 ?_
    refine xget_S_status (v := (xg_S_status u)) hx hb htg hown hK hP (htg _ xw_68) rfl xd_K_dueForS_9 ?_
    refine lv_iconst (v := 2) hx hb xd_K_dueForS_12 (by decide) ?_
    refine lv_iand hx hb xd_K_dueForS_13 ?_
    refine lv_if_ne (tgt := 19) hx hb xd_K_dueForS_14 rfl (fun h4 => ?_) (fun h4 => ?_)
    · refine lv_aload_n hx hb xd_K_dueForS_19 rfl (lv_at hl 0 rfl) ?_
      refine xcW_i (va_runV (As := []) (rest := []) ⟨hx, hb, hml, hown, htg⟩ (c_K_pendingForS l D z k a g H.size u hg) (cwV 0 htg (xg_V0 xkin_K_pendingForS xw_369 xw_371 xsel_K_pendingForS xw_5) rfl rfl rfl (by decide +kernel) ⟨Nat.le_of_ble_eq_true rfl, Nat.le_of_ble_eq_true rfl⟩) ⟨xB_blind, xrecv_K hK hP, fun U hU hW => xB_mk hP hK hD hE hS (xsubW hD hA hS) hU hW⟩ rfl rfl hl.1 rfl (lv_room (Nat.le_of_ble_eq_true rfl)) xd_K_dueForS_20 ⟨Nat.le_of_ble_eq_true rfl, Nat.le_of_ble_eq_true rfl⟩) hD hA hS (fun r w1 H locs hw hP hD hS => ?_)
      obtain ⟨u1, g⟩ := w1
      obtain ⟨q5, hq5⟩ : ∃ q, q = xf_K_pendingForS u := ⟨_, rfl⟩
      obtain ⟨e1, e2, hg⟩ := hw
      rw [← hq5] at e1
      obtain rfl : q5 = r := e1.symm
      obtain rfl : u = u1 := e2.symm
      have hP : va_P D xCl (xWH k a g u) H := hP
      have hD : va_D A (xWH k a g u) := hD
      have hg : xok k g u := hg
      refine lv_aload_n hx hb xd_K_dueForS_23 rfl (lv_at hl 0 rfl) ?_
      refine xget_K_s hx hb htg hown hK hP (htg _ xw_100) xd_K_dueForS_24 ?_
      refine xget_S_ie (v := (xg_S_ie u)) hx hb htg hown hK hP (htg _ xw_70) rfl xd_K_dueForS_27 ?_
      refine lv_iand hx hb xd_K_dueForS_30 ?_
      refine lv_aload_n hx hb xd_K_dueForS_31 rfl (lv_at hl 0 rfl) ?_
      refine xget_K_hvip (v := (xg_K_hvip u)) hx hb htg hown hK hP (htg _ xw_113) rfl xd_K_dueForS_32 ?_
      refine lv_aload_n hx hb xd_K_dueForS_35 rfl (lv_at hl 0 rfl) ?_
      refine xget_K_hie (v := (xg_K_hie u)) hx hb htg hown hK hP (htg _ xw_111) rfl xd_K_dueForS_36 ?_
      refine lv_iand hx hb xd_K_dueForS_39 ?_
      refine lv_aload_n hx hb xd_K_dueForS_40 rfl (lv_at hl 0 rfl) ?_
      refine xget_K_hideleg (v := (xg_K_hideleg u)) hx hb htg hown hK hP (htg _ xw_110) rfl xd_K_dueForS_41 ?_
      refine lv_iconst (v := (-1)) hx hb xd_K_dueForS_44 (by decide) ?_
      refine lv_ixor hx hb xd_K_dueForS_45 ?_
      refine lv_iand hx hb xd_K_dueForS_46 ?_
      refine lv_ior hx hb xd_K_dueForS_47 ?_
      refine xc0_i (va_runS (As := [.int (((q5 &&& (xg_S_ie u)) ||| (((xg_K_hvip u) &&& (xg_K_hie u)) &&& ((xg_K_hideleg u) ^^^ (-1 : Int32)))))]) (rest := []) ⟨hx, hb, hml, hown, htg⟩ (c_K_first l D (xTy k) z H.size ((q5 &&& (xg_S_ie u)) ||| (((xg_K_hvip u) &&& (xg_K_hie u)) &&& ((xg_K_hideleg u) ^^^ (-1 : Int32))))) (va_cwS 1 htg (xg_S0 xkin_K_first xw_405 xw_406 xw_5) rfl rfl rfl (by decide +kernel) ⟨Nat.le_of_ble_eq_true rfl, Nat.le_of_ble_eq_true rfl⟩) ⟨xB_blind, fun U hU hW => xB_mk va_P0 hK va_D0 hE hS (xsub0 hA hS) hU hW⟩ rfl rfl hl.1 rfl (lv_room (Nat.le_of_ble_eq_true rfl)) xd_K_dueForS_48 ⟨Nat.le_of_ble_eq_true rfl, Nat.le_of_ble_eq_true rfl⟩) hP hA hS (fun r6 H locs hr6 hP hS => ?_)
      exact hret _ (u, g) H locs ls _ ⟨(by unfold xf_K_dueForS; exact (xit h1 (xif h4 (xlt_e hq5 (xlt_e hr6 rfl))))), rfl, hg⟩ hP hD hS xd_K_dueForS_51
    · refine lv_iconst (v := (-1)) hx hb xd_K_dueForS_17 (by decide) ?_
      exact hret _ (u, g) H locs ls _ ⟨(by unfold xf_K_dueForS; exact (xit h1 (xit h4 rfl))), rfl, hg⟩ hP hD hS xd_K_dueForS_18

noncomputable def xf_K_dueForVs (u : XH) (p0 : Int32) : Int32 :=
  xlt (if p0 = 2 then (1) else (if p0 = 3 then (if ((xg_V_status u) &&& (2 : Int32)) = 0 then (0) else (1)) else (0)) : Int32) fun v4 =>
  xlt (if v4 = 0 then ((-1)) else (xlt (xf_K_first (((xg_K_hvip u) &&& (xg_K_hie u)) &&& (xg_K_hideleg u)) : Int32) fun r7 => r7) : Int32) fun v8 =>
  v8
set_option maxHeartbeats 4000000 in
set_option maxRecDepth 100000 in
theorem c_K_dueForVs (l : Launch) (D : va_G) (z : (Nat → Nat) × (Nat → Nat)) (k : ClassId × ClassId) (a : Nat → Nat) (g : XG) (sz : Nat) (u : XH) (hg : xok k g u) (p0 : Int32) : Met l xy_K_dueForVs (xk_K_dueForVs :: lw_g) { frames := 1, cells := 0, slots := 0, locals := 21 } (va_Pc [.ref ((a 4)), .int p0] (xB D (xTy k) z sz (xWH k a g u))) (va_Qi (fun r (q : XH × XG) => r = xf_K_dueForVs u p0 ∧ q.1 = u ∧ xok k q.2 q.1) (fun q t => xQ D (xTy k) (xWH k a q.2 q.1) (va_A (xWH k a g u) sz) t) (va_A (xWH k a g u) sz)) 0 0 (va_A (xWH k a g u) sz) := by
  refine xopen_i (wf := fun q : XH × XG => xWH k a q.2 q.1) (lv := [(0, .ref ((a 4))), (1, .int p0)]) (by decide) rfl (Nat.le_of_ble_eq_true rfl) ?_
  intro p e s m args below meth c Q ls A H locs hx hb hml htg hown hin hK hP hD hE hS hA hl hret
  refine lv_iload_n hx hb xd_K_dueForVs_0 rfl (lv_at hl 1 rfl) ?_
  refine lv_iconst (v := 2) hx hb xd_K_dueForVs_1 (by decide) ?_
  have hj5 : ∀ (H : Heap) (locs : List Loc) (ls : Array Slot) (g : XG) (v4 : Int32), v4 = (if p0 = 2 then (1) else (if p0 = 3 then (if ((xg_V_status u) &&& (2 : Int32)) = 0 then (0) else (1)) else (0))) → xok k g u → lv_has ls 3 [(0, .ref ((a 4))), (1, .int p0)] → va_P D xCl (xWH k a g u) H → va_D A (xWH k a g u) → va_S A s.heap H locs → W p l e { frames := 1, cells := 0, slots := 0, locals := 21 } s m args below meth c H locs (0) (0) Q (F0 m 27 ls [.int v4]) := by
    intro H locs ls g v4 hv4 hg hl hP hD hS
    refine lv_istore_n (lv' := [(2, .int v4), (0, .ref ((a 4))), (1, .int p0)]) hx hb xd_K_dueForVs_27 rfl hl (by decide) rfl (fun ls hl => ?_)
    refine lv_iload_n hx hb xd_K_dueForVs_28 rfl (lv_at hl 0 rfl) ?_
    have hj9 : ∀ (H : Heap) (locs : List Loc) (ls : Array Slot) (g : XG) (v8 : Int32), v8 = (if v4 = 0 then ((-1)) else (xlt (xf_K_first (((xg_K_hvip u) &&& (xg_K_hie u)) &&& (xg_K_hideleg u)) : Int32) fun r7 => r7)) → xok k g u → lv_has ls 3 [(2, .int v4), (0, .ref ((a 4))), (1, .int p0)] → va_P D xCl (xWH k a g u) H → va_D A (xWH k a g u) → va_S A s.heap H locs → W p l e { frames := 1, cells := 0, slots := 0, locals := 21 } s m args below meth c H locs (0) (0) Q (F0 m 53 ls [.int v8]) := by
      intro H locs ls g v8 hv8 hg hl hP hD hS
      exact hret _ (u, g) H locs ls _ ⟨(by unfold xf_K_dueForVs; exact (xlt_e hv4 (xlt_e hv8 rfl))), rfl, hg⟩ hP hD hS xd_K_dueForVs_53
    refine lv_if_eq (tgt := 52) hx hb xd_K_dueForVs_29 rfl (fun h10 => ?_) (fun h10 => ?_)
    · refine lv_iconst (v := (-1)) hx hb xd_K_dueForVs_52 (by decide) ?_
      exact hj9 H locs ls g (-1 : Int32) (xit h10 rfl) hg hl hP hD hS
    · refine lv_aload_n hx hb xd_K_dueForVs_32 rfl (lv_at hl 1 rfl) ?_
      refine xget_K_hvip (v := (xg_K_hvip u)) hx hb htg hown hK hP (htg _ xw_113) rfl xd_K_dueForVs_33 ?_
      refine lv_aload_n hx hb xd_K_dueForVs_36 rfl (lv_at hl 1 rfl) ?_
      refine xget_K_hie (v := (xg_K_hie u)) hx hb htg hown hK hP (htg _ xw_111) rfl xd_K_dueForVs_37 ?_
      refine lv_iand hx hb xd_K_dueForVs_40 ?_
      refine lv_aload_n hx hb xd_K_dueForVs_41 rfl (lv_at hl 1 rfl) ?_
      refine xget_K_hideleg (v := (xg_K_hideleg u)) hx hb htg hown hK hP (htg _ xw_110) rfl xd_K_dueForVs_42 ?_
      refine lv_iand hx hb xd_K_dueForVs_45 ?_
      refine xc0_i (va_runS (As := [.int ((((xg_K_hvip u) &&& (xg_K_hie u)) &&& (xg_K_hideleg u)))]) (rest := []) ⟨hx, hb, hml, hown, htg⟩ (c_K_first l D (xTy k) z H.size (((xg_K_hvip u) &&& (xg_K_hie u)) &&& (xg_K_hideleg u))) (va_cwS 1 htg (xg_S0 xkin_K_first xw_405 xw_406 xw_5) rfl rfl rfl (by decide +kernel) ⟨Nat.le_of_ble_eq_true rfl, Nat.le_of_ble_eq_true rfl⟩) ⟨xB_blind, fun U hU hW => xB_mk va_P0 hK va_D0 hE hS (xsub0 hA hS) hU hW⟩ rfl rfl hl.1 rfl (lv_room (Nat.le_of_ble_eq_true rfl)) xd_K_dueForVs_46 ⟨Nat.le_of_ble_eq_true rfl, Nat.le_of_ble_eq_true rfl⟩) hP hA hS (fun r11 H locs hr11 hP hS => ?_)
      refine lv_goto (tgt := 53) hx hb xd_K_dueForVs_49 rfl ?_
      exact hj9 H locs ls g r11 (xif h10 (xlt_e hr11 rfl)) hg hl hP hD hS
  refine lv_icmp_eq (tgt := 22) hx hb xd_K_dueForVs_2 rfl (fun h12 => ?_) (fun h12 => ?_)
  · refine lv_iconst (v := 1) hx hb xd_K_dueForVs_22 (by decide) ?_
    refine lv_goto (tgt := 27) hx hb xd_K_dueForVs_23 rfl ?_
    exact hj5 H locs ls g (1 : Int32) (xit h12 rfl) hg hl hP hD hS
  · refine lv_iload_n hx hb xd_K_dueForVs_5 rfl (lv_at hl 1 rfl) ?_
    refine lv_iconst (v := 3) hx hb xd_K_dueForVs_6 (by decide) ?_
    refine lv_icmp_ne (tgt := 26) hx hb xd_K_dueForVs_7 rfl (fun h13 => ?_) (fun h13 => ?_)
    · refine lv_iconst (v := 0) hx hb xd_K_dueForVs_26 (by decide) ?_
      exact hj5 H locs ls g (0 : Int32) (xif h12 (xif h13 rfl)) hg hl hP hD hS
    · refine lv_aload_n hx hb xd_K_dueForVs_10 rfl (lv_at hl 0 rfl) ?_
      refine xget_K_vs hx hb htg hown hK hP (htg _ xw_103) xd_K_dueForVs_11 ?_
      refine xget_V_status (v := (xg_V_status u)) hx hb htg hown hK hP (htg _ xw_68) rfl xd_K_dueForVs_14 ?_
      refine lv_iconst (v := 2) hx hb xd_K_dueForVs_17 (by decide) ?_
      refine lv_iand hx hb xd_K_dueForVs_18 ?_
      refine lv_if_eq (tgt := 26) hx hb xd_K_dueForVs_19 rfl (fun h14 => ?_) (fun h14 => ?_)
      · refine lv_iconst (v := 0) hx hb xd_K_dueForVs_26 (by decide) ?_
        exact hj5 H locs ls g (0 : Int32) (xif h12 (xit h13 (xit h14 rfl))) hg hl hP hD hS
      · refine lv_iconst (v := 1) hx hb xd_K_dueForVs_22 (by decide) ?_
        refine lv_goto (tgt := 27) hx hb xd_K_dueForVs_23 rfl ?_
        exact hj5 H locs ls g (1 : Int32) (xif h12 (xit h13 (xif h14 rfl))) hg hl hP hD hS

noncomputable def xf_K_noteTrap (u : XH) (p1 : Int32) : XH :=
  xlt (xf_H_isVirtual p1 : Int32) fun r1 =>
  xlt (if r1 = 0 then ((xs_K_hstatus u ((xg_K_hstatus u) &&& (-193 : Int32)))) else (xlt (xf_H_isSupervisor p1 : Int32) fun r3 => xlt (if r3 = 0 then (0) else (256) : Int32) fun v5 => (xs_K_hstatus (xs_K_hstatus u ((xg_K_hstatus u) &&& (-193 : Int32))) ((((xg_K_hstatus (xs_K_hstatus u ((xg_K_hstatus u) &&& (-193 : Int32)))) &&& (-257 : Int32)) ||| (128 : Int32)) ||| v5))) : XH) fun v8 =>
  xlt (xf_P_tellsAddress v8 : Int32) fun q10 =>
  xlt (if q10 = 0 then (v8) else (xlt (xf_H_isVirtual p1 : Int32) fun r12 => if r12 = 0 then (if (xz (xg_P_asGuest v8)) = 0 then (v8) else ((xs_K_hstatus v8 ((xg_K_hstatus v8) ||| (64 : Int32))))) else ((xs_K_hstatus v8 ((xg_K_hstatus v8) ||| (64 : Int32))))) : XH) fun v15 =>
  (xs_K_htinst (xs_K_htval v15 (xg_P_guest v15)) (xg_P_inst (xs_K_htval v15 (xg_P_guest v15))))
set_option maxHeartbeats 4000000 in
set_option maxRecDepth 100000 in
theorem c_K_noteTrap (l : Launch) (D : va_G) (z : (Nat → Nat) × (Nat → Nat)) (k : ClassId × ClassId) (a : Nat → Nat) (g : XG) (sz : Nat) (u : XH) (hg : xok k g u) (p1 : Int32) : Met l xy_K_noteTrap (xk_K_noteTrap :: lw_g) { frames := 1, cells := 0, slots := 0, locals := 20 } (va_Pc [.ref ((a 4)), .ref ((a 7)), .int p1] (xB D (xTy k) z sz (xWH k a g u))) (va_Qv (fun q : XH × XG => q.1 = xf_K_noteTrap u p1 ∧ xok k q.2 q.1) (fun q t => xQ D (xTy k) (xWH k a q.2 q.1) (va_A (xWH k a g u) sz) t) (va_A (xWH k a g u) sz)) 0 0 (va_A (xWH k a g u) sz) := by
  refine xopen_v (wf := fun q : XH × XG => xWH k a q.2 q.1) (lv := [(0, .ref ((a 4))), (1, .ref ((a 7))), (2, .int p1)]) (by decide) rfl (Nat.le_of_ble_eq_true rfl) ?_
  intro p e s m args below meth c Q ls A H locs hx hb hml htg hown hin hK hP hD hE hS hA hl hret
  refine lv_aload_n hx hb xd_K_noteTrap_0 rfl (lv_at hl 0 rfl) ?_
  refine lv_dup hx hb xd_K_noteTrap_1 rfl ?_
  refine xget_K_hstatus (v := (xg_K_hstatus u)) hx hb htg hown hK hP (htg _ xw_106) rfl xd_K_noteTrap_2 ?_
  refine lv_sipush (v := (-193)) hx hb xd_K_noteTrap_5 (by decide) ?_
  refine lv_iand hx hb xd_K_noteTrap_8 ?_
  refine xput_K_hstatus (v := ((xg_K_hstatus u) &&& (-193 : Int32))) hx hb htg hown hK hP hD hS hg (htg _ xw_106) xd_K_noteTrap_9 (fun H locs hP hD hS hg => ?_)
  refine lv_iload_n hx hb xd_K_noteTrap_12 rfl (lv_at hl 2 rfl) ?_
  refine xc0_i (va_runSN (As := [.int p1]) (rest := []) ⟨hx, hb, hml, hown, htg⟩ (c_H_isVirtual l D (xTy k) z H.size p1) ⟨va_cnB (host := "HyperHost") 1 htg (xg_C0 xkin_H_isVirtual) rfl rfl rfl (xnest hE (by decide +kernel)) (htg _ xw_1) (by decide +kernel) ⟨Nat.le_of_ble_eq_true rfl, Nat.le_of_ble_eq_true rfl⟩, htg _ xw_427, trivial⟩ ⟨xB_blind, fun U hU hW => xB_mk va_P0 hK va_D0 hE hS (xsub0 hA hS) hU hW⟩ rfl rfl hl.1 rfl (lv_room (Nat.le_of_ble_eq_true rfl)) xd_K_noteTrap_13 ⟨Nat.le_of_ble_eq_true rfl, Nat.le_of_ble_eq_true rfl⟩) hP hA hS (fun r1 H locs hr1 hP hS => ?_)
  have hj9 : ∀ (H : Heap) (locs : List Loc) (ls : Array Slot) (g : XG) (v8 : XH), v8 = (if r1 = 0 then ((xs_K_hstatus u ((xg_K_hstatus u) &&& (-193 : Int32)))) else (xlt (xf_H_isSupervisor p1 : Int32) fun r3 => xlt (if r3 = 0 then (0) else (256) : Int32) fun v5 => (xs_K_hstatus (xs_K_hstatus u ((xg_K_hstatus u) &&& (-193 : Int32))) ((((xg_K_hstatus (xs_K_hstatus u ((xg_K_hstatus u) &&& (-193 : Int32)))) &&& (-257 : Int32)) ||| (128 : Int32)) ||| v5)))) → xok k g v8 → lv_has ls 3 [(0, .ref ((a 4))), (1, .ref ((a 7))), (2, .int p1)] → va_P D xCl (xWH k a g v8) H → va_D A (xWH k a g v8) → va_S A s.heap H locs → W p l e { frames := 1, cells := 0, slots := 0, locals := 20 } s m args below meth c H locs (0) (0) Q (F0 m 50 ls []) := by
    intro H locs ls g v8 hv8 hg hl hP hD hS
    refine lv_aload_n hx hb xd_K_noteTrap_50 rfl (lv_at hl 1 rfl) ?_
    refine xcW_i (va_runV (As := []) (rest := []) ⟨hx, hb, hml, hown, htg⟩ (c_P_tellsAddress l D z k a g H.size v8 hg) (cwV 0 htg (xg_V0 xkin_P_tellsAddress xw_698 xw_699 xsel_P_tellsAddress xw_7) rfl rfl rfl (by decide +kernel) ⟨Nat.le_of_ble_eq_true rfl, Nat.le_of_ble_eq_true rfl⟩) ⟨xB_blind, xrecv_P hK hP, fun U hU hW => xB_mk hP hK hD hE hS (xsubW hD hA hS) hU hW⟩ rfl rfl hl.1 rfl (lv_room (Nat.le_of_ble_eq_true rfl)) xd_K_noteTrap_51 ⟨Nat.le_of_ble_eq_true rfl, Nat.le_of_ble_eq_true rfl⟩) hD hA hS (fun r w1 H locs hw hP hD hS => ?_)
    obtain ⟨u1, g⟩ := w1
    obtain ⟨q10, hq10⟩ : ∃ q, q = xf_P_tellsAddress v8 := ⟨_, rfl⟩
    obtain ⟨e1, e2, hg⟩ := hw
    rw [← hq10] at e1
    obtain rfl : q10 = r := e1.symm
    obtain rfl : v8 = u1 := e2.symm
    have hP : va_P D xCl (xWH k a g v8) H := hP
    have hD : va_D A (xWH k a g v8) := hD
    have hg : xok k g v8 := hg
    have hj16 : ∀ (H : Heap) (locs : List Loc) (ls : Array Slot) (g : XG) (v15 : XH), v15 = (if q10 = 0 then (v8) else (xlt (xf_H_isVirtual p1 : Int32) fun r12 => if r12 = 0 then (if (xz (xg_P_asGuest v8)) = 0 then (v8) else ((xs_K_hstatus v8 ((xg_K_hstatus v8) ||| (64 : Int32))))) else ((xs_K_hstatus v8 ((xg_K_hstatus v8) ||| (64 : Int32)))))) → xok k g v15 → lv_has ls 3 [(0, .ref ((a 4))), (1, .ref ((a 7))), (2, .int p1)] → va_P D xCl (xWH k a g v15) H → va_D A (xWH k a g v15) → va_S A s.heap H locs → W p l e { frames := 1, cells := 0, slots := 0, locals := 20 } s m args below meth c H locs (0) (0) Q (F0 m 82 ls []) := by
      intro H locs ls g v15 hv15 hg hl hP hD hS
      refine lv_aload_n hx hb xd_K_noteTrap_82 rfl (lv_at hl 0 rfl) ?_
      refine lv_aload_n hx hb xd_K_noteTrap_83 rfl (lv_at hl 1 rfl) ?_
      refine xget_P_guest (v := (xg_P_guest v15)) hx hb htg hown hK hP (htg _ xw_164) rfl xd_K_noteTrap_84 ?_
      refine xput_K_htval (v := (xg_P_guest v15)) hx hb htg hown hK hP hD hS hg (htg _ xw_112) xd_K_noteTrap_87 (fun H locs hP hD hS hg => ?_)
      refine lv_aload_n hx hb xd_K_noteTrap_90 rfl (lv_at hl 0 rfl) ?_
      refine lv_aload_n hx hb xd_K_noteTrap_91 rfl (lv_at hl 1 rfl) ?_
      refine xget_P_inst (v := (xg_P_inst (xs_K_htval v15 (xg_P_guest v15)))) hx hb htg hown hK hP (htg _ xw_167) rfl xd_K_noteTrap_92 ?_
      refine xput_K_htinst (v := (xg_P_inst (xs_K_htval v15 (xg_P_guest v15)))) hx hb htg hown hK hP hD hS hg (htg _ xw_114) xd_K_noteTrap_95 (fun H locs hP hD hS hg => ?_)
      exact hret ((xs_K_htinst (xs_K_htval v15 (xg_P_guest v15)) (xg_P_inst (xs_K_htval v15 (xg_P_guest v15)))), g) H locs ls _ ⟨(by unfold xf_K_noteTrap; exact (xlt_e hr1 (xlt_e hv8 (xlt_e hq10 (xlt_e hv15 rfl))))), hg⟩ hP hD hS xd_K_noteTrap_98
    refine lv_if_eq (tgt := 82) hx hb xd_K_noteTrap_54 rfl (fun h17 => ?_) (fun h17 => ?_)
    · exact hj16 H locs ls g v8 (xit h17 rfl) hg hl hP hD hS
    · refine lv_iload_n hx hb xd_K_noteTrap_57 rfl (lv_at hl 2 rfl) ?_
      refine xc0_i (va_runSN (As := [.int p1]) (rest := []) ⟨hx, hb, hml, hown, htg⟩ (c_H_isVirtual l D (xTy k) z H.size p1) ⟨va_cnB (host := "HyperHost") 1 htg (xg_C0 xkin_H_isVirtual) rfl rfl rfl (xnest hE (by decide +kernel)) (htg _ xw_1) (by decide +kernel) ⟨Nat.le_of_ble_eq_true rfl, Nat.le_of_ble_eq_true rfl⟩, htg _ xw_427, trivial⟩ ⟨xB_blind, fun U hU hW => xB_mk va_P0 hK va_D0 hE hS (xsub0 hA hS) hU hW⟩ rfl rfl hl.1 rfl (lv_room (Nat.le_of_ble_eq_true rfl)) xd_K_noteTrap_58 ⟨Nat.le_of_ble_eq_true rfl, Nat.le_of_ble_eq_true rfl⟩) hP hA hS (fun r18 H locs hr18 hP hS => ?_)
      refine lv_if_ne (tgt := 71) hx hb xd_K_noteTrap_61 rfl (fun h19 => ?_) (fun h19 => ?_)
      · refine lv_aload_n hx hb xd_K_noteTrap_71 rfl (lv_at hl 0 rfl) ?_
        refine lv_dup hx hb xd_K_noteTrap_72 rfl ?_
        refine xget_K_hstatus (v := (xg_K_hstatus v8)) hx hb htg hown hK hP (htg _ xw_106) rfl xd_K_noteTrap_73 ?_
        refine lv_bipush (v := 64) hx hb xd_K_noteTrap_76 (by decide) ?_
        refine lv_ior hx hb xd_K_noteTrap_78 ?_
        refine xput_K_hstatus (v := ((xg_K_hstatus v8) ||| (64 : Int32))) hx hb htg hown hK hP hD hS hg (htg _ xw_106) xd_K_noteTrap_79 (fun H locs hP hD hS hg => ?_)
        exact hj16 H locs ls g (xs_K_hstatus v8 ((xg_K_hstatus v8) ||| (64 : Int32))) (xif h17 (xlt_e hr18 (xif h19 rfl))) hg hl hP hD hS
      · refine lv_aload_n hx hb xd_K_noteTrap_64 rfl (lv_at hl 1 rfl) ?_
        refine xget_P_asGuest (v := (xg_P_asGuest v8)) hx hb htg hown hK hP (htg _ xw_169) rfl xd_K_noteTrap_65 ?_
        refine lv_if_eq (tgt := 82) hx hb xd_K_noteTrap_68 rfl (fun h20 => ?_) (fun h20 => ?_)
        · exact hj16 H locs ls g v8 (xif h17 (xlt_e hr18 (xit h19 (xit h20 rfl)))) hg hl hP hD hS
        · refine lv_aload_n hx hb xd_K_noteTrap_71 rfl (lv_at hl 0 rfl) ?_
          refine lv_dup hx hb xd_K_noteTrap_72 rfl ?_
          refine xget_K_hstatus (v := (xg_K_hstatus v8)) hx hb htg hown hK hP (htg _ xw_106) rfl xd_K_noteTrap_73 ?_
          refine lv_bipush (v := 64) hx hb xd_K_noteTrap_76 (by decide) ?_
          refine lv_ior hx hb xd_K_noteTrap_78 ?_
          refine xput_K_hstatus (v := ((xg_K_hstatus v8) ||| (64 : Int32))) hx hb htg hown hK hP hD hS hg (htg _ xw_106) xd_K_noteTrap_79 (fun H locs hP hD hS hg => ?_)
          exact hj16 H locs ls g (xs_K_hstatus v8 ((xg_K_hstatus v8) ||| (64 : Int32))) (xif h17 (xlt_e hr18 (xit h19 (xif h20 rfl)))) hg hl hP hD hS
  refine lv_if_eq (tgt := 50) hx hb xd_K_noteTrap_16 rfl (fun h21 => ?_) (fun h21 => ?_)
  · exact hj9 H locs ls g (xs_K_hstatus u ((xg_K_hstatus u) &&& (-193 : Int32))) (xit h21 rfl) hg hl hP hD hS
  · refine lv_aload_n hx hb xd_K_noteTrap_19 rfl (lv_at hl 0 rfl) ?_
    refine lv_aload_n hx hb xd_K_noteTrap_20 rfl (lv_at hl 0 rfl) ?_
    refine xget_K_hstatus (v := (xg_K_hstatus (xs_K_hstatus u ((xg_K_hstatus u) &&& (-193 : Int32))))) hx hb htg hown hK hP (htg _ xw_106) rfl xd_K_noteTrap_21 ?_
    refine lv_sipush (v := (-257)) hx hb xd_K_noteTrap_24 (by decide) ?_
    refine lv_iand hx hb xd_K_noteTrap_27 ?_
    refine lv_sipush (v := 128) hx hb xd_K_noteTrap_28 (by decide) ?_
    refine lv_ior hx hb xd_K_noteTrap_31 ?_
    refine lv_iload_n hx hb xd_K_noteTrap_32 rfl (lv_at hl 2 rfl) ?_
    refine xc0_i (va_runSN (As := [.int p1]) (rest := [.int ((((xg_K_hstatus (xs_K_hstatus u ((xg_K_hstatus u) &&& (-193 : Int32)))) &&& (-257 : Int32)) ||| (128 : Int32))), .ref ((a 4))]) ⟨hx, hb, hml, hown, htg⟩ (c_H_isSupervisor l D (xTy k) z H.size p1) ⟨va_cnB (host := "HyperHost") 1 htg (xg_C0 xkin_H_isSupervisor) rfl rfl rfl (xnest hE (by decide +kernel)) (htg _ xw_1) (by decide +kernel) ⟨Nat.le_of_ble_eq_true rfl, Nat.le_of_ble_eq_true rfl⟩, htg _ xw_437, trivial⟩ ⟨xB_blind, fun U hU hW => xB_mk va_P0 hK va_D0 hE hS (xsub0 hA hS) hU hW⟩ rfl rfl hl.1 rfl (lv_room (Nat.le_of_ble_eq_true rfl)) xd_K_noteTrap_33 ⟨Nat.le_of_ble_eq_true rfl, Nat.le_of_ble_eq_true rfl⟩) hP hA hS (fun r22 H locs hr22 hP hS => ?_)
    have hj25 : ∀ (H : Heap) (locs : List Loc) (ls : Array Slot) (g : XG) (v24 : Int32), v24 = (if r22 = 0 then (0) else (256)) → xok k g (xs_K_hstatus u ((xg_K_hstatus u) &&& (-193 : Int32))) → lv_has ls 3 [(0, .ref ((a 4))), (1, .ref ((a 7))), (2, .int p1)] → va_P D xCl (xWH k a g (xs_K_hstatus u ((xg_K_hstatus u) &&& (-193 : Int32)))) H → va_D A (xWH k a g (xs_K_hstatus u ((xg_K_hstatus u) &&& (-193 : Int32)))) → va_S A s.heap H locs → W p l e { frames := 1, cells := 0, slots := 0, locals := 20 } s m args below meth c H locs (0) (0) Q (F0 m 46 ls [.int v24, .int ((((xg_K_hstatus (xs_K_hstatus u ((xg_K_hstatus u) &&& (-193 : Int32)))) &&& (-257 : Int32)) ||| (128 : Int32))), .ref ((a 4))]) := by
      intro H locs ls g v24 hv24 hg hl hP hD hS
      refine lv_ior hx hb xd_K_noteTrap_46 ?_
      refine xput_K_hstatus (v := ((((xg_K_hstatus (xs_K_hstatus u ((xg_K_hstatus u) &&& (-193 : Int32)))) &&& (-257 : Int32)) ||| (128 : Int32)) ||| v24)) hx hb htg hown hK hP hD hS hg (htg _ xw_106) xd_K_noteTrap_47 (fun H locs hP hD hS hg => ?_)
      exact hj9 H locs ls g (xs_K_hstatus (xs_K_hstatus u ((xg_K_hstatus u) &&& (-193 : Int32))) ((((xg_K_hstatus (xs_K_hstatus u ((xg_K_hstatus u) &&& (-193 : Int32)))) &&& (-257 : Int32)) ||| (128 : Int32)) ||| v24)) (xif h21 (xlt_e hr22 (xlt_e hv24 rfl))) hg hl hP hD hS
    refine lv_if_eq (tgt := 45) hx hb xd_K_noteTrap_36 rfl (fun h26 => ?_) (fun h26 => ?_)
    · refine lv_iconst (v := 0) hx hb xd_K_noteTrap_45 (by decide) ?_
      exact hj25 H locs ls g (0 : Int32) (xit h26 rfl) hg hl hP hD hS
    · refine lv_sipush (v := 256) hx hb xd_K_noteTrap_39 (by decide) ?_
      refine lv_goto (tgt := 46) hx hb xd_K_noteTrap_42 rfl ?_
      exact hj25 H locs ls g (256 : Int32) (xif h26 rfl) hg hl hP hD hS
theorem xm_K_noteTrap (u : XH) (p1 : Int32) : XEs (xcH u) (xf_K_noteTrap u p1) := by unfold xf_K_noteTrap; exact (xlt_Es (fun r1 hr1 => (xlt_Es (fun v8 hv8 => (xlt_Es (fun q10 hq10 => (xlt_Es (fun v15 hv15 => (xcH_K_htinst.trans (xcH_K_htval.trans (XEs_of hv15 (xit_Es (XEs_of hv8 (xit_Es (xcH_K_hstatus.trans rfl) (xlt_Es (fun r3 hr3 => (xlt_Es (fun v5 hv5 => (xcH_K_hstatus.trans (xcH_K_hstatus.trans rfl)))))))) (xlt_Es (fun r12 hr12 => (xit_Es (xit_Es (XEs_of hv8 (xit_Es (xcH_K_hstatus.trans rfl) (xlt_Es (fun r3 hr3 => (xlt_Es (fun v5 hv5 => (xcH_K_hstatus.trans (xcH_K_hstatus.trans rfl)))))))) (xcH_K_hstatus.trans (XEs_of hv8 (xit_Es (xcH_K_hstatus.trans rfl) (xlt_Es (fun r3 hr3 => (xlt_Es (fun v5 hv5 => (xcH_K_hstatus.trans (xcH_K_hstatus.trans rfl)))))))))) (xcH_K_hstatus.trans (XEs_of hv8 (xit_Es (xcH_K_hstatus.trans rfl) (xlt_Es (fun r3 hr3 => (xlt_Es (fun v5 hv5 => (xcH_K_hstatus.trans (xcH_K_hstatus.trans rfl))))))))))))))))))))))))

noncomputable def xf_T_guestVerdict (u : XH) (p0 : Int64) (p1 : Int64) (p2 : Int32) : Int64 × XH :=
  if (lg_cmp p0 (-1 : Int64)) = 0 then
    ((-2), (xs_P_inst (xs_P_guest u (Int64.toInt32 (xul p1 (2 : Int32)))) p2))
  else
    (p0, u)
set_option maxHeartbeats 4000000 in
set_option maxRecDepth 100000 in
theorem c_T_guestVerdict (l : Launch) (D : va_G) (z : (Nat → Nat) × (Nat → Nat)) (k : ClassId × ClassId) (a : Nat → Nat) (g : XG) (sz : Nat) (u : XH) (hg : xok k g u) (p0 : Int64) (p1 : Int64) (p2 : Int32) : Met l xy_T_guestVerdict (xk_T_guestVerdict :: lw_g) { frames := 0, cells := 0, slots := 0, locals := 0 } (va_Pc [.ref ((a 3)), .long p0, .long p1, .int p2] (xB D (xTy k) z sz (xWH k a g u))) (va_Ql (fun r (q : XH × XG) => (r, q.1) = xf_T_guestVerdict u p0 p1 p2 ∧ xok k q.2 q.1) (fun q t => xQ D (xTy k) (xWH k a q.2 q.1) (va_A (xWH k a g u) sz) t) (va_A (xWH k a g u) sz)) 0 0 (va_A (xWH k a g u) sz) := by
  refine xopen_l (wf := fun q : XH × XG => xWH k a q.2 q.1) (lv := [(0, .ref ((a 3))), (1, .long p0), (3, .long p1), (5, .int p2)]) (by decide) rfl (Nat.le_of_ble_eq_true rfl) ?_
  intro p e s m args below meth c Q ls A H locs hx hb hml htg hown hin hK hP hD hE hS hA hl hret
  refine lv_lload_n hx hb xd_T_guestVerdict_0 rfl (lv_at hl 1 rfl) ?_
  refine lv_ldc2 (v := (-1)) hx hb hown (htg _ xw_471) xd_T_guestVerdict_1 ?_
  refine W.lcmp hx hb xd_T_guestVerdict_4 ?_
  refine lv_if_eq (tgt := 10) hx hb xd_T_guestVerdict_5 rfl (fun h1 => ?_) (fun h1 => ?_)
  · refine lv_aload_n hx hb xd_T_guestVerdict_10 rfl (lv_at hl 0 rfl) ?_
    refine xget_T_trap hx hb htg hown hK hP (htg _ xw_190) xd_T_guestVerdict_11 ?_
    refine lv_lload_n hx hb xd_T_guestVerdict_14 rfl (lv_at hl 2 rfl) ?_
    refine lv_iconst (v := 2) hx hb xd_T_guestVerdict_15 (by decide) ?_
    refine lv_lushr (v := (xul p1 (2 : Int32))) hx hb xd_T_guestVerdict_16 rfl ?_
    refine lv_l2i (v := (Int64.toInt32 (xul p1 (2 : Int32)))) hx hb xd_T_guestVerdict_17 rfl ?_
    refine xput_P_guest (v := (Int64.toInt32 (xul p1 (2 : Int32)))) hx hb htg hown hK hP hD hS hg (htg _ xw_163) xd_T_guestVerdict_18 (fun H locs hP hD hS hg => ?_)
    refine lv_aload_n hx hb xd_T_guestVerdict_21 rfl (lv_at hl 0 rfl) ?_
    refine xget_T_trap hx hb htg hown hK hP (htg _ xw_190) xd_T_guestVerdict_22 ?_
    refine lv_iload hx hb xd_T_guestVerdict_25 (lv_at hl 3 rfl) ?_
    refine xput_P_inst (v := p2) hx hb htg hown hK hP hD hS hg (htg _ xw_166) xd_T_guestVerdict_27 (fun H locs hP hD hS hg => ?_)
    refine lv_ldc2 (v := (-2)) hx hb hown (htg _ xw_483) xd_T_guestVerdict_30 ?_
    exact hret _ ((xs_P_inst (xs_P_guest u (Int64.toInt32 (xul p1 (2 : Int32)))) p2), g) H locs ls _ ⟨(by unfold xf_T_guestVerdict; exact (xit h1 rfl)), hg⟩ hP hD hS xd_T_guestVerdict_33
  · refine lv_lload_n hx hb xd_T_guestVerdict_8 rfl (lv_at hl 1 rfl) ?_
    exact hret _ (u, g) H locs ls _ ⟨(by unfold xf_T_guestVerdict; exact (xif h1 rfl)), hg⟩ hP hD hS xd_T_guestVerdict_9
theorem xm_T_guestVerdict (u : XH) (p0 : Int64) (p1 : Int64) (p2 : Int32) : XE (xcH u) (xf_T_guestVerdict u p0 p1 p2) := by unfold xf_T_guestVerdict; exact (xit_E (xcH_P_inst.trans (xcH_P_guest.trans rfl)) rfl)
