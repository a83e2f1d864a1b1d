noncomputable def xf_Z_setRegister (u : XZ) (p0 : Int32) (p1 : Int32) : Int32 × XZ :=
  xlt (xf_Z_isIn p0 (0 : Int32) (31 : Int32) : Int32) fun r1 =>
  if r1 = 0 then
    (0, u)
  else
    xlt (xf_Z_put u p0 p1 : Int32 × XZ) fun q4 =>
    ((xg_Z_x u p0.toNatClampNeg), q4.2)
def xv_Z_setRegister (u : XZ) (p0 : Int32) (p1 : Int32) : Prop := XVc (
  xlt (xf_Z_isIn p0 (0 : Int32) (31 : Int32) : Int32) fun r1 =>
  if r1 = 0 then
    True
  else
    (vp_in p0 32) ∧
    (xv_Z_put u p0 p1) ∧
    xlt (xf_Z_put u p0 p1 : Int32 × XZ) fun q4 =>
    True)
set_option maxHeartbeats 4000000 in
set_option maxRecDepth 100000 in
theorem c_Z_setRegister (l : Launch) (D : va_G) (z : (Nat → Nat) × (Nat → Nat)) (k : ClassId × ClassId) (b : Nat → Nat) (sz : Nat) (u : XZ) (p0 : Int32) (p1 : Int32) (hv : xv_Z_setRegister u p0 p1) : Met l xy_Z_setRegister (xk_Z_setRegister :: lw_g) { frames := 1, cells := 0, slots := 0, locals := 22 } (va_Pc [.ref ((b 0)), .int p0, .int p1] (xB D (xTy k) z sz (xWZ k b u))) (va_Qi (fun r (q : XZ) => (r, q) = xf_Z_setRegister u p0 p1) (fun q t => xQ D (xTy k) (xWZ k b q) (va_A (xWZ k b u) sz) t) (va_A (xWZ k b u) sz)) 0 0 (va_A (xWZ k b u) sz) := by
  refine xopen_i (wf := fun q : XZ => xWZ k b q) (lv := [(0, .ref ((b 0))), (1, .int p0), (2, .int p1)]) (by decide) rfl (Nat.le_of_ble_eq_true rfl) ?_
  intro p e s m args below meth c Q ls A H locs hx hb hml htg hown hin hK hP hD hE hS hA hl hret
  unfold xv_Z_setRegister at hv
  refine lv_iload_n hx hb xd_Z_setRegister_0 rfl (lv_at hl 1 rfl) ?_
  refine lv_iconst (v := 0) hx hb xd_Z_setRegister_1 (by decide) ?_
  refine lv_bipush (v := 31) hx hb xd_Z_setRegister_2 (by decide) ?_
  refine xc0_i (va_runS (As := [.int p0, .int 0, .int 31]) (rest := []) ⟨hx, hb, hml, hown, htg⟩ (c_Z_isIn l D (xTy k) z H.size p0 (0 : Int32) (31 : Int32)) (va_cwS 3 htg (xg_S0 xkin_Z_isIn xw_831 xw_832 xw_9) rfl rfl rfl (by decide +kernel) ⟨Nat.le_of_ble_eq_true rfl, Nat.le_of_ble_eq_true rfl⟩) ⟨xB_blind, fun U hU hW => xB_mk va_P0 hK va_D0 hE hS (xsub0 hA hS) hU hW⟩ rfl rfl hl.1 rfl (lv_room (Nat.le_of_ble_eq_true rfl)) xd_Z_setRegister_4 ⟨Nat.le_of_ble_eq_true rfl, Nat.le_of_ble_eq_true rfl⟩) hP hA hS (fun r1 H locs hr1 hP hS => ?_)
  have hv := xlt_v hr1 hv
  refine lv_if_ne (tgt := 12) hx hb xd_Z_setRegister_7 rfl (fun h2 => ?_) (fun h2 => ?_)
  · have hv := xif_v h2 hv
    refine lv_aload_n hx hb xd_Z_setRegister_12 rfl (lv_at hl 0 rfl) ?_
    refine xget_Z_x hx hb htg hown hK hP (htg _ xw_729) xd_Z_setRegister_13 ?_
    refine lv_iload_n hx hb xd_Z_setRegister_16 rfl (lv_at hl 1 rfl) ?_
    obtain ⟨hn3, hv⟩ := xan_v hv
    refine xald_Z_x hx hb hK hP hn3 xd_Z_setRegister_17 ?_
    refine lv_istore_n (lv' := [(3, .int ((xg_Z_x u p0.toNatClampNeg))), (0, .ref ((b 0))), (1, .int p0), (2, .int p1)]) hx hb xd_Z_setRegister_18 rfl hl (by decide) rfl (fun ls hl => ?_)
    refine lv_aload_n hx hb xd_Z_setRegister_19 rfl (lv_at hl 1 rfl) ?_
    refine lv_iload_n hx hb xd_Z_setRegister_20 rfl (lv_at hl 2 rfl) ?_
    refine lv_iload_n hx hb xd_Z_setRegister_21 rfl (lv_at hl 3 rfl) ?_
    obtain ⟨hn5, hv⟩ := xan_v hv
    refine xcW_i (va_runV (As := [.int p0, .int p1]) (rest := []) ⟨hx, hb, hml, hown, htg⟩ (c_Z_put l D z k b H.size u p0 p1 hn5) (cwV 2 htg (xg_V0 xkin_Z_put xw_834 xw_836 xsel_Z_put xw_9) rfl rfl rfl (by decide +kernel) ⟨Nat.le_of_ble_eq_true rfl, Nat.le_of_ble_eq_true rfl⟩) ⟨xB_blind, xrecv_Z hK hP, fun U hU hW => xB_mk hP hK hD hE hS (xsubW hD hA hS) hU hW⟩ rfl rfl hl.1 rfl (lv_room (Nat.le_of_ble_eq_true rfl)) xd_Z_setRegister_22 ⟨Nat.le_of_ble_eq_true rfl, Nat.le_of_ble_eq_true rfl⟩) hD hA hS (fun r u1 H locs hw hP hD hS => ?_)
    obtain ⟨q4, hq4⟩ : ∃ q, q = xf_Z_put u p0 p1 := ⟨_, rfl⟩
    rw [← hq4] at hw
    obtain rfl : r = q4.1 := congrArg Prod.fst hw
    obtain rfl : u1 = q4.2 := congrArg Prod.snd hw
    have hP : va_P D xCl (xWZ k b q4.2) H := hP
    have hD : va_D A (xWZ k b q4.2) := hD
    have hv := xlt_v hq4 hv
    refine lv_istore (lv' := [(4, .int (q4.1)), (3, .int ((xg_Z_x u p0.toNatClampNeg))), (0, .ref ((b 0))), (1, .int p0), (2, .int p1)]) hx hb xd_Z_setRegister_25 hl (by decide) rfl (fun ls hl => ?_)
    refine lv_iload_n hx hb xd_Z_setRegister_27 rfl (lv_at hl 1 rfl) ?_
    exact hret _ q4.2 H locs ls _ (by unfold xf_Z_setRegister; exact (xlt_e hr1 (xif h2 (xlt_e hq4 rfl)))) hP hD hS xd_Z_setRegister_28
  · have hv := xit_v h2 hv
    refine lv_iconst (v := 0) hx hb xd_Z_setRegister_10 (by decide) ?_
    exact hret _ u H locs ls _ (by unfold xf_Z_setRegister; exact (xlt_e hr1 (xit h2 rfl))) hP hD hS xd_Z_setRegister_11

noncomputable def xf_Z_register (u : XZ) (p0 : Int32) : Int32 :=
  xlt (xf_Z_isIn p0 (0 : Int32) (31 : Int32) : Int32) fun r1 =>
  xlt (if r1 = 0 then (0) else ((xg_Z_x u p0.toNatClampNeg)) : Int32) fun v4 =>
  v4
def xv_Z_register (u : XZ) (p0 : Int32) : Prop := XVc (
  xlt (xf_Z_isIn p0 (0 : Int32) (31 : Int32) : Int32) fun r1 =>
  (if r1 = 0 then (True) else ((vp_in p0 32) ∧ (True))) ∧
  xlt (if r1 = 0 then (0) else ((xg_Z_x u p0.toNatClampNeg)) : Int32) fun v4 =>
  True)
set_option maxHeartbeats 4000000 in
set_option maxRecDepth 100000 in
theorem c_Z_register (l : Launch) (D : va_G) (z : (Nat → Nat) × (Nat → Nat)) (k : ClassId × ClassId) (b : Nat → Nat) (sz : Nat) (u : XZ) (p0 : Int32) (hv : xv_Z_register u p0) : Met l xy_Z_register (xk_Z_register :: lw_g) { frames := 1, cells := 0, slots := 0, locals := 22 } (va_Pc [.ref ((b 0)), .int p0] (xB D (xTy k) z sz (xWZ k b u))) (va_Qi (fun r (q : XZ) => r = xf_Z_register u p0 ∧ q = u) (fun q t => xQ D (xTy k) (xWZ k b q) (va_A (xWZ k b u) sz) t) (va_A (xWZ k b u) sz)) 0 0 (va_A (xWZ k b u) sz) := by
  refine xopen_i (wf := fun q : XZ => xWZ k b q) (lv := [(0, .ref ((b 0))), (1, .int p0)]) (by decide) rfl (Nat.le_of_ble_eq_true rfl) ?_
  intro p e s m args below meth c Q ls A H locs hx hb hml htg hown hin hK hP hD hE hS hA hl hret
  unfold xv_Z_register at hv
  refine lv_iload_n hx hb xd_Z_register_0 rfl (lv_at hl 1 rfl) ?_
  refine lv_iconst (v := 0) hx hb xd_Z_register_1 (by decide) ?_
  refine lv_bipush (v := 31) hx hb xd_Z_register_2 (by decide) ?_
  refine xc0_i (va_runS (As := [.int p0, .int 0, .int 31]) (rest := []) ⟨hx, hb, hml, hown, htg⟩ (c_Z_isIn l D (xTy k) z H.size p0 (0 : Int32) (31 : Int32)) (va_cwS 3 htg (xg_S0 xkin_Z_isIn xw_831 xw_832 xw_9) rfl rfl rfl (by decide +kernel) ⟨Nat.le_of_ble_eq_true rfl, Nat.le_of_ble_eq_true rfl⟩) ⟨xB_blind, fun U hU hW => xB_mk va_P0 hK va_D0 hE hS (xsub0 hA hS) hU hW⟩ rfl rfl hl.1 rfl (lv_room (Nat.le_of_ble_eq_true rfl)) xd_Z_register_4 ⟨Nat.le_of_ble_eq_true rfl, Nat.le_of_ble_eq_true rfl⟩) hP hA hS (fun r1 H locs hr1 hP hS => ?_)
  have hv := xlt_v hr1 hv
  obtain ⟨hva, hv⟩ := xan_v2 hv
  have hj5 : ∀ (H : Heap) (locs : List Loc) (ls : Array Slot) (v4 : Int32), v4 = (if r1 = 0 then (0) else ((xg_Z_x u p0.toNatClampNeg))) → lv_has ls 2 [(0, .ref ((b 0))), (1, .int p0)] → va_P D xCl (xWZ k b u) H → va_D A (xWZ k b u) → va_S A s.heap H locs → W p l e { frames := 1, cells := 0, slots := 0, locals := 22 } s m args below meth c H locs (0) (0) Q (F0 m 20 ls [.int v4]) := by
    intro H locs ls v4 hv4 hl hP hD hS
    have hv := xlt_v hv4 hv
    exact hret _ u H locs ls _ ⟨(by unfold xf_Z_register; exact (xlt_e hr1 (xlt_e hv4 rfl))), rfl⟩ hP hD hS xd_Z_register_20
  have hv := hva
  refine lv_if_eq (tgt := 19) hx hb xd_Z_register_7 rfl (fun h6 => ?_) (fun h6 => ?_)
  · have hv := xit_v h6 hv
    refine lv_iconst (v := 0) hx hb xd_Z_register_19 (by decide) ?_
    exact hj5 H locs ls (0 : Int32) (xit h6 rfl) hl hP hD hS
  · have hv := xif_v h6 hv
    refine lv_aload_n hx hb xd_Z_register_10 rfl (lv_at hl 0 rfl) ?_
    refine xget_Z_x hx hb htg hown hK hP (htg _ xw_729) xd_Z_register_11 ?_
    refine lv_iload_n hx hb xd_Z_register_14 rfl (lv_at hl 1 rfl) ?_
    obtain ⟨hn7, hv⟩ := xan_v hv
    refine xald_Z_x hx hb hK hP hn7 xd_Z_register_15 ?_
    refine lv_goto (tgt := 20) hx hb xd_Z_register_16 rfl ?_
    exact hj5 H locs ls (xg_Z_x u p0.toNatClampNeg) (xif h6 rfl) hl hP hD hS

noncomputable def xf_Z_setControl (u : XZ) (p0 : Int32) (p1 : Int32) : Int32 × XZ :=
  xlt (xf_Z_indexOf p0 : Int32) fun r1 =>
  if r1 < 0 then
    ((-1), u)
  else
    if p0 ≤ 3072 then
      xlt (xf_Z_write u p0 p1 : XZ) fun q4 =>
      (0, q4)
    else
      ((-1), u)
def xv_Z_setControl (u : XZ) (p0 : Int32) (p1 : Int32) : Prop := XVc (
  xlt (xf_Z_indexOf p0 : Int32) fun r1 =>
  if r1 < 0 then
    True
  else
    if p0 ≤ 3072 then
      (xv_Z_write u p0 p1) ∧
      xlt (xf_Z_write u p0 p1 : XZ) fun q4 =>
      True
    else
      True)
set_option maxHeartbeats 4000000 in
set_option maxRecDepth 100000 in
theorem c_Z_setControl (l : Launch) (D : va_G) (z : (Nat → Nat) × (Nat → Nat)) (k : ClassId × ClassId) (b : Nat → Nat) (sz : Nat) (u : XZ) (p0 : Int32) (p1 : Int32) (hv : xv_Z_setControl u p0 p1) : Met l xy_Z_setControl (xk_Z_setControl :: lw_g) { frames := 4, cells := 0, slots := 0, locals := 89 } (va_Pc [.ref ((b 0)), .int p0, .int p1] (xB D (xTy k) z sz (xWZ k b u))) (va_Qi (fun r (q : XZ) => (r, q) = xf_Z_setControl u p0 p1) (fun q t => xQ D (xTy k) (xWZ k b q) (va_A (xWZ k b u) sz) t) (va_A (xWZ k b u) sz)) 0 0 (va_A (xWZ k b u) sz) := by
  refine xopen_i (wf := fun q : XZ => xWZ k b q) (lv := [(0, .ref ((b 0))), (1, .int p0), (2, .int p1)]) (by decide) rfl (Nat.le_of_ble_eq_true rfl) ?_
  intro p e s m args below meth c Q ls A H locs hx hb hml htg hown hin hK hP hD hE hS hA hl hret
  unfold xv_Z_setControl at hv
  refine lv_iload_n hx hb xd_Z_setControl_0 rfl (lv_at hl 1 rfl) ?_
  refine xc0_i (va_runS (As := [.int p0]) (rest := []) ⟨hx, hb, hml, hown, htg⟩ (c_Z_indexOf l D (xTy k) z H.size p0) (va_cwS 1 htg (xg_S0 xkin_Z_indexOf xw_846 xw_847 xw_9) rfl rfl rfl (by decide +kernel) ⟨Nat.le_of_ble_eq_true rfl, Nat.le_of_ble_eq_true rfl⟩) ⟨xB_blind, fun U hU hW => xB_mk va_P0 hK va_D0 hE hS (xsub0 hA hS) hU hW⟩ rfl rfl hl.1 rfl (lv_room (Nat.le_of_ble_eq_true rfl)) xd_Z_setControl_1 ⟨Nat.le_of_ble_eq_true rfl, Nat.le_of_ble_eq_true rfl⟩) hP hA hS (fun r1 H locs hr1 hP hS => ?_)
  have hv := xlt_v hr1 hv
  refine lv_if_lt (tgt := 14) hx hb xd_Z_setControl_4 rfl (fun h2 => ?_) (fun h2 => ?_)
  · have hv := xit_v h2 hv
    refine lv_iconst (v := (-1)) hx hb xd_Z_setControl_14 (by decide) ?_
    exact hret _ u H locs ls _ (by unfold xf_Z_setControl; exact (xlt_e hr1 (xit h2 rfl))) hP hD hS xd_Z_setControl_15
  · have hv := xif_v h2 hv
    refine lv_iload_n hx hb xd_Z_setControl_7 rfl (lv_at hl 1 rfl) ?_
    refine lv_sipush (v := 3072) hx hb xd_Z_setControl_8 (by decide) ?_
    refine lv_icmp_le (tgt := 16) hx hb xd_Z_setControl_11 rfl (fun h3 => ?_) (fun h3 => ?_)
    · have hv := xit_v h3 hv
      refine lv_aload_n hx hb xd_Z_setControl_16 rfl (lv_at hl 0 rfl) ?_
      refine lv_iload_n hx hb xd_Z_setControl_17 rfl (lv_at hl 1 rfl) ?_
      refine lv_iload_n hx hb xd_Z_setControl_18 rfl (lv_at hl 2 rfl) ?_
      obtain ⟨hn5, hv⟩ := xan_v hv
      refine xcW_v (va_runV (As := [.int p0, .int p1]) (rest := []) ⟨hx, hb, hml, hown, htg⟩ (c_Z_write l D z k b H.size u p0 p1 hn5) (cwV 2 htg (xg_V0 xkin_Z_write xw_851 xw_853 xsel_Z_write xw_9) rfl rfl rfl (by decide +kernel) ⟨Nat.le_of_ble_eq_true rfl, Nat.le_of_ble_eq_true rfl⟩) ⟨xB_blind, xrecv_Z hK hP, fun U hU hW => xB_mk hP hK hD hE hS (xsubW hD hA hS) hU hW⟩ rfl rfl hl.1 rfl (lv_room (Nat.le_of_ble_eq_true rfl)) xd_Z_setControl_19 ⟨Nat.le_of_ble_eq_true rfl, Nat.le_of_ble_eq_true rfl⟩) hD hA hS (fun u1 H locs hw hP hD hS => ?_)
      obtain ⟨q4, hq4⟩ : ∃ q, q = xf_Z_write u p0 p1 := ⟨_, rfl⟩
      rw [← hq4] at hw
      obtain rfl : q4 = u1 := hw.symm
      have hP : va_P D xCl (xWZ k b q4) H := hP
      have hD : va_D A (xWZ k b q4) := hD
      have hv := xlt_v hq4 hv
      refine lv_iconst (v := 0) hx hb xd_Z_setControl_22 (by decide) ?_
      exact hret _ q4 H locs ls _ (by unfold xf_Z_setControl; exact (xlt_e hr1 (xif h2 (xit h3 (xlt_e hq4 rfl))))) hP hD hS xd_Z_setControl_23
    · have hv := xif_v h3 hv
      refine lv_iconst (v := (-1)) hx hb xd_Z_setControl_14 (by decide) ?_
      exact hret _ u H locs ls _ (by unfold xf_Z_setControl; exact (xlt_e hr1 (xif h2 (xif h3 rfl)))) hP hD hS xd_Z_setControl_15

noncomputable def xf_Z_control2 (u : XZ) (p0 : Int32) : Int32 :=
  xlt (xf_Z_indexOf p0 : Int32) fun r1 =>
  xlt (if 0 ≤ r1 then (xlt (xf_Z_tells u p0 : Int32) fun q3 => q3) else (0) : Int32) fun v5 =>
  v5
def xv_Z_control2 (u : XZ) (p0 : Int32) : Prop := XVc (
  xlt (xf_Z_indexOf p0 : Int32) fun r1 =>
  (if 0 ≤ r1 then ((xv_Z_tells u p0) ∧ (xlt (xf_Z_tells u p0 : Int32) fun q3 => True)) else (True)) ∧
  xlt (if 0 ≤ r1 then (xlt (xf_Z_tells u p0 : Int32) fun q3 => q3) else (0) : Int32) fun v5 =>
  True)
set_option maxHeartbeats 4000000 in
set_option maxRecDepth 100000 in
theorem c_Z_control2 (l : Launch) (D : va_G) (z : (Nat → Nat) × (Nat → Nat)) (k : ClassId × ClassId) (b : Nat → Nat) (sz : Nat) (u : XZ) (p0 : Int32) (hv : xv_Z_control2 u p0) : Met l xy_Z_control2 (xk_Z_control2 :: lw_g) { frames := 3, cells := 0, slots := 0, locals := 63 } (va_Pc [.ref ((b 0)), .int p0] (xB D (xTy k) z sz (xWZ k b u))) (va_Qi (fun r (q : XZ) => r = xf_Z_control2 u p0 ∧ q = u) (fun q t => xQ D (xTy k) (xWZ k b q) (va_A (xWZ k b u) sz) t) (va_A (xWZ k b u) sz)) 0 0 (va_A (xWZ k b u) sz) := by
  refine xopen_i (wf := fun q : XZ => xWZ k b q) (lv := [(0, .ref ((b 0))), (1, .int p0)]) (by decide) rfl (Nat.le_of_ble_eq_true rfl) ?_
  intro p e s m args below meth c Q ls A H locs hx hb hml htg hown hin hK hP hD hE hS hA hl hret
  unfold xv_Z_control2 at hv
  refine lv_iload_n hx hb xd_Z_control2_0 rfl (lv_at hl 1 rfl) ?_
  refine xc0_i (va_runS (As := [.int p0]) (rest := []) ⟨hx, hb, hml, hown, htg⟩ (c_Z_indexOf l D (xTy k) z H.size p0) (va_cwS 1 htg (xg_S0 xkin_Z_indexOf xw_846 xw_847 xw_9) rfl rfl rfl (by decide +kernel) ⟨Nat.le_of_ble_eq_true rfl, Nat.le_of_ble_eq_true rfl⟩) ⟨xB_blind, fun U hU hW => xB_mk va_P0 hK va_D0 hE hS (xsub0 hA hS) hU hW⟩ rfl rfl hl.1 rfl (lv_room (Nat.le_of_ble_eq_true rfl)) xd_Z_control2_1 ⟨Nat.le_of_ble_eq_true rfl, Nat.le_of_ble_eq_true rfl⟩) hP hA hS (fun r1 H locs hr1 hP hS => ?_)
  have hv := xlt_v hr1 hv
  obtain ⟨hva, hv⟩ := xan_v2 hv
  have hj6 : ∀ (H : Heap) (locs : List Loc) (ls : Array Slot) (v5 : Int32), v5 = (if 0 ≤ r1 then (xlt (xf_Z_tells u p0 : Int32) fun q3 => q3) else (0)) → lv_has ls 2 [(0, .ref ((b 0))), (1, .int p0)] → va_P D xCl (xWZ k b u) H → va_D A (xWZ k b u) → va_S A s.heap H locs → W p l e { frames := 3, cells := 0, slots := 0, locals := 63 } s m args below meth c H locs (0) (0) Q (F0 m 16 ls [.int v5]) := by
    intro H locs ls v5 hv5 hl hP hD hS
    have hv := xlt_v hv5 hv
    exact hret _ u H locs ls _ ⟨(by unfold xf_Z_control2; exact (xlt_e hr1 (xlt_e hv5 rfl))), rfl⟩ hP hD hS xd_Z_control2_16
  have hv := hva
  refine lv_if_ge (tgt := 11) hx hb xd_Z_control2_4 rfl (fun h7 => ?_) (fun h7 => ?_)
  · have hv := xit_v h7 hv
    refine lv_aload_n hx hb xd_Z_control2_11 rfl (lv_at hl 0 rfl) ?_
    refine lv_iload_n hx hb xd_Z_control2_12 rfl (lv_at hl 1 rfl) ?_
    obtain ⟨hn9, hv⟩ := xan_v hv
    refine xcW_i (va_runV (As := [.int p0]) (rest := []) ⟨hx, hb, hml, hown, htg⟩ (c_Z_tells l D z k b H.size u p0 hn9) (cwV 1 htg (xg_V0 xkin_Z_tells xw_883 xw_885 xsel_Z_tells xw_9) rfl rfl rfl (by decide +kernel) ⟨Nat.le_of_ble_eq_true rfl, Nat.le_of_ble_eq_true rfl⟩) ⟨xB_blind, xrecv_Z hK hP, fun U hU hW => xB_mk hP hK hD hE hS (xsubW hD hA hS) hU hW⟩ rfl rfl hl.1 rfl (lv_room (Nat.le_of_ble_eq_true rfl)) xd_Z_control2_13 ⟨Nat.le_of_ble_eq_true rfl, Nat.le_of_ble_eq_true rfl⟩) hD hA hS (fun r u1 H locs hw hP hD hS => ?_)
    obtain ⟨q8, hq8⟩ : ∃ q, q = xf_Z_tells u p0 := ⟨_, rfl⟩
    obtain ⟨e1, e2⟩ := hw
    rw [← hq8] at e1
    obtain rfl : q8 = r := e1.symm
    obtain rfl : u = u1 := e2.symm
    have hP : va_P D xCl (xWZ k b u) H := hP
    have hD : va_D A (xWZ k b u) := hD
    have hv := xlt_v hq8 hv
    exact hj6 H locs ls q8 (xit h7 (xlt_e hq8 rfl)) hl hP hD hS
  · have hv := xif_v h7 hv
    refine lv_iconst (v := 0) hx hb xd_Z_control2_7 (by decide) ?_
    refine lv_goto (tgt := 16) hx hb xd_Z_control2_8 rfl ?_
    exact hj6 H locs ls (0 : Int32) (xif h7 rfl) hl hP hD hS

noncomputable def xf_Z_place (u : XZ) (p0 : Int32) (p1 : Int32) : Int32 × XZ :=
  if (p0 - p0 / (4 : Int32) * (4 : Int32)) = 0 then
    xlt (xf_Z_isIn p1 (0 : Int32) (3 : Int32) : Int32) fun r2 =>
    if r2 = 0 then
      ((-1), u)
    else
      ((xg_Z_mode u), (xs_Z_mode (xs_Z_pc u p0) p1))
  else
    ((-1), u)
set_option maxHeartbeats 4000000 in
set_option maxRecDepth 100000 in
theorem c_Z_place (l : Launch) (D : va_G) (z : (Nat → Nat) × (Nat → Nat)) (k : ClassId × ClassId) (b : Nat → Nat) (sz : Nat) (u : XZ) (p0 : Int32) (p1 : Int32) : Met l xy_Z_place (xk_Z_place :: lw_g) { frames := 1, cells := 0, slots := 0, locals := 22 } (va_Pc [.ref ((b 0)), .int p0, .int p1] (xB D (xTy k) z sz (xWZ k b u))) (va_Qi (fun r (q : XZ) => (r, q) = xf_Z_place u p0 p1) (fun q t => xQ D (xTy k) (xWZ k b q) (va_A (xWZ k b u) sz) t) (va_A (xWZ k b u) sz)) 0 0 (va_A (xWZ k b u) sz) := by
  refine xopen_i (wf := fun q : XZ => xWZ k b q) (lv := [(0, .ref ((b 0))), (1, .int p0), (2, .int p1)]) (by decide) rfl (Nat.le_of_ble_eq_true rfl) ?_
  intro p e s m args below meth c Q ls A H locs hx hb hml htg hown hin hK hP hD hE hS hA hl hret
  refine lv_iload_n hx hb xd_Z_place_0 rfl (lv_at hl 1 rfl) ?_
  refine lv_iconst (v := 4) hx hb xd_Z_place_1 (by decide) ?_
  refine lv_irem hx hb xd_Z_place_2 (by decide) ?_
  refine lv_if_ne (tgt := 15) hx hb xd_Z_place_3 rfl (fun h1 => ?_) (fun h1 => ?_)
  · refine lv_iconst (v := (-1)) hx hb xd_Z_place_15 (by decide) ?_
    exact hret _ u H locs ls _ (by unfold xf_Z_place; exact (xif h1 rfl)) hP hD hS xd_Z_place_16
  · refine lv_iload_n hx hb xd_Z_place_6 rfl (lv_at hl 2 rfl) ?_
    refine lv_iconst (v := 0) hx hb xd_Z_place_7 (by decide) ?_
    refine lv_iconst (v := 3) hx hb xd_Z_place_8 (by decide) ?_
    refine xc0_i (va_runS (As := [.int p1, .int 0, .int 3]) (rest := []) ⟨hx, hb, hml, hown, htg⟩ (c_Z_isIn l D (xTy k) z H.size p1 (0 : Int32) (3 : Int32)) (va_cwS 3 htg (xg_S0 xkin_Z_isIn xw_831 xw_832 xw_9) rfl rfl rfl (by decide +kernel) ⟨Nat.le_of_ble_eq_true rfl, Nat.le_of_ble_eq_true rfl⟩) ⟨xB_blind, fun U hU hW => xB_mk va_P0 hK va_D0 hE hS (xsub0 hA hS) hU hW⟩ rfl rfl hl.1 rfl (lv_room (Nat.le_of_ble_eq_true rfl)) xd_Z_place_9 ⟨Nat.le_of_ble_eq_true rfl, Nat.le_of_ble_eq_true rfl⟩) hP hA hS (fun r2 H locs hr2 hP hS => ?_)
    refine lv_if_ne (tgt := 17) hx hb xd_Z_place_12 rfl (fun h3 => ?_) (fun h3 => ?_)
    · refine lv_aload_n hx hb xd_Z_place_17 rfl (lv_at hl 0 rfl) ?_
      refine xget_Z_mode (v := (xg_Z_mode u)) hx hb htg hown hK hP (htg _ xw_731) rfl xd_Z_place_18 ?_
      refine lv_istore_n (lv' := [(3, .int ((xg_Z_mode u))), (0, .ref ((b 0))), (1, .int p0), (2, .int p1)]) hx hb xd_Z_place_21 rfl hl (by decide) rfl (fun ls hl => ?_)
      refine lv_aload_n hx hb xd_Z_place_22 rfl (lv_at hl 1 rfl) ?_
      refine lv_iload_n hx hb xd_Z_place_23 rfl (lv_at hl 2 rfl) ?_
      refine xput_Z_pc (v := p0) hx hb htg hown hK hP hD hS (htg _ xw_730) xd_Z_place_24 (fun H locs hP hD hS => ?_)
      refine lv_aload_n hx hb xd_Z_place_27 rfl (lv_at hl 1 rfl) ?_
      refine lv_iload_n hx hb xd_Z_place_28 rfl (lv_at hl 3 rfl) ?_
      refine xput_Z_mode (v := p1) hx hb htg hown hK hP hD hS (htg _ xw_731) xd_Z_place_29 (fun H locs hP hD hS => ?_)
      refine lv_iload_n hx hb xd_Z_place_32 rfl (lv_at hl 0 rfl) ?_
      exact hret _ (xs_Z_mode (xs_Z_pc u p0) p1) H locs ls _ (by unfold xf_Z_place; exact (xit h1 (xlt_e hr2 (xif h3 rfl)))) hP hD hS xd_Z_place_33
    · refine lv_iconst (v := (-1)) hx hb xd_Z_place_15 (by decide) ?_
      exact hret _ u H locs ls _ (by unfold xf_Z_place; exact (xit h1 (xlt_e hr2 (xit h3 rfl)))) hP hD hS xd_Z_place_16

noncomputable def xf_Z_line (u : XZ) (p0 : Int32) : Int32 × XZ :=
  ((xz (xg_Z_line u)), (xs_Z_line u (xb p0)))
def xv_Z_line (u : XZ) (p0 : Int32) : Prop := XVc (
  (X01 p0) ∧
  True)
set_option maxHeartbeats 4000000 in
set_option maxRecDepth 100000 in
theorem c_Z_line (l : Launch) (D : va_G) (z : (Nat → Nat) × (Nat → Nat)) (k : ClassId × ClassId) (b : Nat → Nat) (sz : Nat) (u : XZ) (p0 : Int32) (hv : xv_Z_line u p0) : Met l xy_Z_line (xk_Z_line :: lw_g) { frames := 0, cells := 0, slots := 0, locals := 0 } (va_Pc [.ref ((b 0)), .int p0] (xB D (xTy k) z sz (xWZ k b u))) (va_Qi (fun r (q : XZ) => (r, q) = xf_Z_line u p0) (fun q t => xQ D (xTy k) (xWZ k b q) (va_A (xWZ k b u) sz) t) (va_A (xWZ k b u) sz)) 0 0 (va_A (xWZ k b u) sz) := by
  refine xopen_z (wf := fun q : XZ => xWZ k b q) (lv := [(0, .ref ((b 0))), (1, .int p0)]) (by decide) rfl (Nat.le_of_ble_eq_true rfl) ?_
  intro p e s m args below meth c Q ls A H locs hx hb hml htg hown hin hK hP hD hE hS hA hl hret
  unfold xv_Z_line at hv
  refine lv_aload_n hx hb xd_Z_line_0 rfl (lv_at hl 0 rfl) ?_
  refine xget_Z_line (v := (xg_Z_line u)) hx hb htg hown hK hP (htg _ xw_734) rfl xd_Z_line_1 ?_
  refine lv_istore_n (lv' := [(2, .int ((xz (xg_Z_line u)))), (0, .ref ((b 0))), (1, .int p0)]) hx hb xd_Z_line_4 rfl hl (by decide) rfl (fun ls hl => ?_)
  refine lv_aload_n hx hb xd_Z_line_5 rfl (lv_at hl 1 rfl) ?_
  refine lv_iload_n hx hb xd_Z_line_6 rfl (lv_at hl 2 rfl) ?_
  obtain ⟨hn1, hv⟩ := xan_v hv
  refine xput_Z_line (v := p0) hx hb htg hown hK hP hD hS (htg _ xw_734) hn1 xd_Z_line_7 (fun H locs hP hD hS => ?_)
  refine lv_iload_n hx hb xd_Z_line_10 rfl (lv_at hl 0 rfl) ?_
  exact hret _ (xs_Z_line u (xb p0)) H locs ls _ (xnar (xz01 _)) (by unfold xf_Z_line; exact rfl) hP hD hS xd_Z_line_11
theorem xt01_Z_line (u : XZ) (p0 : Int32) : X01p (xf_Z_line u p0) := by unfold xf_Z_line; exact (xz01 _)

noncomputable def xf_Z_count (u : XZ) (p0 : Int32) : Int32 :=
  if p0 = 0 then
    (xg_Z_mode u)
  else
    if p0 = 1 then
      (xg_Z_pc u)
    else
      if p0 = 2 then
        (Int64.toInt32 ((xg_Z_time u) &&& (4294967295 : Int64)))
      else
        if p0 = 3 then
          (Int64.toInt32 ((xg_Z_time u) >>> (Int32.toInt64 (32 : Int32) &&& 63)))
        else
          if p0 = 4 then
            (xg_Z_toS u)
          else
            if p0 = 5 then
              (xg_Z_toVs u)
            else
              if p0 = 6 then
                (xg_Z_interrupts u)
              else
                if p0 = 7 then
                  (xg_Z_printed u)
                else
                  if p0 = 8 then
                    xlt (if (xz (xg_Z_off u)) = 0 then (0) else (1) : Int32) fun v11 =>
                    v11
                  else
                    if p0 = 9 then
                      (Int64.toInt32 ((xg_Z_alarm u) &&& (4294967295 : Int64)))
                    else
                      if p0 = 10 then
                        (Int64.toInt32 ((xg_Z_alarm u) >>> (Int32.toInt64 (32 : Int32) &&& 63)))
                      else
                        (-1)
set_option maxHeartbeats 4000000 in
set_option maxRecDepth 100000 in
theorem c_Z_count (l : Launch) (D : va_G) (z : (Nat → Nat) × (Nat → Nat)) (k : ClassId × ClassId) (b : Nat → Nat) (sz : Nat) (u : XZ) (p0 : Int32) : Met l xy_Z_count (xk_Z_count :: lw_g) { frames := 0, cells := 0, slots := 0, locals := 0 } (va_Pc [.ref ((b 0)), .int p0] (xB D (xTy k) z sz (xWZ k b u))) (va_Qi (fun r (q : XZ) => r = xf_Z_count u p0 ∧ q = u) (fun q t => xQ D (xTy k) (xWZ k b q) (va_A (xWZ k b u) sz) t) (va_A (xWZ k b u) sz)) 0 0 (va_A (xWZ k b u) sz) := by
  refine xopen_i (wf := fun q : XZ => xWZ k b q) (lv := [(0, .ref ((b 0))), (1, .int p0)]) (by decide) rfl (Nat.le_of_ble_eq_true rfl) ?_
  intro p e s m args below meth c Q ls A H locs hx hb hml htg hown hin hK hP hD hE hS hA hl hret
  refine lv_iload_n hx hb xd_Z_count_0 rfl (lv_at hl 1 rfl) ?_
  refine (Decidable.em (p0 = 0)).elim (fun h1 => ?_) (fun h1 => ?_)
  · refine lv_tableIn (tgt := 60) (off := 59) hx hb xd_Z_count_1 (by rw [h1]; decide) (by rw [h1]; decide) (by rw [h1]; decide +kernel) rfl ?_
    refine lv_aload_n hx hb xd_Z_count_60 rfl (lv_at hl 0 rfl) ?_
    refine xget_Z_mode (v := (xg_Z_mode u)) hx hb htg hown hK hP (htg _ xw_731) rfl xd_Z_count_61 ?_
    exact hret _ u H locs ls _ ⟨(by unfold xf_Z_count; exact (xit h1 rfl)), rfl⟩ hP hD hS xd_Z_count_64
  · refine (Decidable.em (p0 = 1)).elim (fun h2 => ?_) (fun h2 => ?_)
    · refine lv_tableIn (tgt := 65) (off := 64) hx hb xd_Z_count_1 (by rw [h2]; decide) (by rw [h2]; decide) (by rw [h2]; decide +kernel) rfl ?_
      refine lv_aload_n hx hb xd_Z_count_65 rfl (lv_at hl 0 rfl) ?_
      refine xget_Z_pc (v := (xg_Z_pc u)) hx hb htg hown hK hP (htg _ xw_730) rfl xd_Z_count_66 ?_
      exact hret _ u H locs ls _ ⟨(by unfold xf_Z_count; exact (xif h1 (xit h2 rfl))), rfl⟩ hP hD hS xd_Z_count_69
    · refine (Decidable.em (p0 = 2)).elim (fun h3 => ?_) (fun h3 => ?_)
      · refine lv_tableIn (tgt := 70) (off := 69) hx hb xd_Z_count_1 (by rw [h3]; decide) (by rw [h3]; decide) (by rw [h3]; decide +kernel) rfl ?_
        refine lv_aload_n hx hb xd_Z_count_70 rfl (lv_at hl 0 rfl) ?_
        refine xget_Z_time (v := (xg_Z_time u)) hx hb htg hown hK hP (htg _ xw_732) rfl xd_Z_count_71 ?_
        refine lv_ldc2 (v := 4294967295) hx hb hown (htg _ xw_887) xd_Z_count_74 ?_
        refine lv_land hx hb xd_Z_count_77 ?_
        refine lv_l2i (v := (Int64.toInt32 ((xg_Z_time u) &&& (4294967295 : Int64)))) hx hb xd_Z_count_78 rfl ?_
        exact hret _ u H locs ls _ ⟨(by unfold xf_Z_count; exact (xif h1 (xif h2 (xit h3 rfl)))), rfl⟩ hP hD hS xd_Z_count_79
      · refine (Decidable.em (p0 = 3)).elim (fun h4 => ?_) (fun h4 => ?_)
        · refine lv_tableIn (tgt := 80) (off := 79) hx hb xd_Z_count_1 (by rw [h4]; decide) (by rw [h4]; decide) (by rw [h4]; decide +kernel) rfl ?_
          refine lv_aload_n hx hb xd_Z_count_80 rfl (lv_at hl 0 rfl) ?_
          refine xget_Z_time (v := (xg_Z_time u)) hx hb htg hown hK hP (htg _ xw_732) rfl xd_Z_count_81 ?_
          refine lv_bipush (v := 32) hx hb xd_Z_count_84 (by decide) ?_
          refine lv_lshr (v := ((xg_Z_time u) >>> (Int32.toInt64 (32 : Int32) &&& 63))) hx hb xd_Z_count_86 rfl ?_
          refine lv_l2i (v := (Int64.toInt32 ((xg_Z_time u) >>> (Int32.toInt64 (32 : Int32) &&& 63)))) hx hb xd_Z_count_87 rfl ?_
          exact hret _ u H locs ls _ ⟨(by unfold xf_Z_count; exact (xif h1 (xif h2 (xif h3 (xit h4 rfl))))), rfl⟩ hP hD hS xd_Z_count_88
        · refine (Decidable.em (p0 = 4)).elim (fun h5 => ?_) (fun h5 => ?_)
          · refine lv_tableIn (tgt := 89) (off := 88) hx hb xd_Z_count_1 (by rw [h5]; decide) (by rw [h5]; decide) (by rw [h5]; decide +kernel) rfl ?_
            refine lv_aload_n hx hb xd_Z_count_89 rfl (lv_at hl 0 rfl) ?_
            refine xget_Z_toS (v := (xg_Z_toS u)) hx hb htg hown hK hP (htg _ xw_739) rfl xd_Z_count_90 ?_
            exact hret _ u H locs ls _ ⟨(by unfold xf_Z_count; exact (xif h1 (xif h2 (xif h3 (xif h4 (xit h5 rfl)))))), rfl⟩ hP hD hS xd_Z_count_93
          · refine (Decidable.em (p0 = 5)).elim (fun h6 => ?_) (fun h6 => ?_)
            · refine lv_tableIn (tgt := 94) (off := 93) hx hb xd_Z_count_1 (by rw [h6]; decide) (by rw [h6]; decide) (by rw [h6]; decide +kernel) rfl ?_
              refine lv_aload_n hx hb xd_Z_count_94 rfl (lv_at hl 0 rfl) ?_
              refine xget_Z_toVs (v := (xg_Z_toVs u)) hx hb htg hown hK hP (htg _ xw_740) rfl xd_Z_count_95 ?_
              exact hret _ u H locs ls _ ⟨(by unfold xf_Z_count; exact (xif h1 (xif h2 (xif h3 (xif h4 (xif h5 (xit h6 rfl))))))), rfl⟩ hP hD hS xd_Z_count_98
            · refine (Decidable.em (p0 = 6)).elim (fun h7 => ?_) (fun h7 => ?_)
              · refine lv_tableIn (tgt := 99) (off := 98) hx hb xd_Z_count_1 (by rw [h7]; decide) (by rw [h7]; decide) (by rw [h7]; decide +kernel) rfl ?_
                refine lv_aload_n hx hb xd_Z_count_99 rfl (lv_at hl 0 rfl) ?_
                refine xget_Z_interrupts (v := (xg_Z_interrupts u)) hx hb htg hown hK hP (htg _ xw_741) rfl xd_Z_count_100 ?_
                exact hret _ u H locs ls _ ⟨(by unfold xf_Z_count; exact (xif h1 (xif h2 (xif h3 (xif h4 (xif h5 (xif h6 (xit h7 rfl)))))))), rfl⟩ hP hD hS xd_Z_count_103
              · refine (Decidable.em (p0 = 7)).elim (fun h8 => ?_) (fun h8 => ?_)
                · refine lv_tableIn (tgt := 104) (off := 103) hx hb xd_Z_count_1 (by rw [h8]; decide) (by rw [h8]; decide) (by rw [h8]; decide +kernel) rfl ?_
                  refine lv_aload_n hx hb xd_Z_count_104 rfl (lv_at hl 0 rfl) ?_
                  refine xget_Z_printed (v := (xg_Z_printed u)) hx hb htg hown hK hP (htg _ xw_738) rfl xd_Z_count_105 ?_
                  exact hret _ u H locs ls _ ⟨(by unfold xf_Z_count; exact (xif h1 (xif h2 (xif h3 (xif h4 (xif h5 (xif h6 (xif h7 (xit h8 rfl))))))))), rfl⟩ hP hD hS xd_Z_count_108
                · refine (Decidable.em (p0 = 8)).elim (fun h9 => ?_) (fun h9 => ?_)
                  · refine lv_tableIn (tgt := 109) (off := 108) hx hb xd_Z_count_1 (by rw [h9]; decide) (by rw [h9]; decide) (by rw [h9]; decide +kernel) rfl ?_
                    refine lv_aload_n hx hb xd_Z_count_109 rfl (lv_at hl 0 rfl) ?_
                    refine xget_Z_off (v := (xg_Z_off u)) hx hb htg hown hK hP (htg _ xw_735) rfl xd_Z_count_110 ?_
                    have hj12 : ∀ (H : Heap) (locs : List Loc) (ls : Array Slot) (v11 : Int32), v11 = (if (xz (xg_Z_off u)) = 0 then (0) else (1)) → lv_has ls 2 [(0, .ref ((b 0))), (1, .int p0)] → va_P D xCl (xWZ k b u) H → va_D A (xWZ k b u) → va_S A s.heap H locs → W p l e { frames := 0, cells := 0, slots := 0, locals := 0 } s m args below meth c H locs (0) (0) Q (F0 m 121 ls [.int v11]) := by
                      intro H locs ls v11 hv11 hl hP hD hS
                      exact hret _ u H locs ls _ ⟨(by unfold xf_Z_count; exact (xif h1 (xif h2 (xif h3 (xif h4 (xif h5 (xif h6 (xif h7 (xif h8 (xit h9 (xlt_e hv11 rfl))))))))))), rfl⟩ hP hD hS xd_Z_count_121
                    refine lv_if_eq (tgt := 120) hx hb xd_Z_count_113 rfl (fun h13 => ?_) (fun h13 => ?_)
                    · refine lv_iconst (v := 0) hx hb xd_Z_count_120 (by decide) ?_
                      exact hj12 H locs ls (0 : Int32) (xit h13 rfl) hl hP hD hS
                    · refine lv_iconst (v := 1) hx hb xd_Z_count_116 (by decide) ?_
                      refine lv_goto (tgt := 121) hx hb xd_Z_count_117 rfl ?_
                      exact hj12 H locs ls (1 : Int32) (xif h13 rfl) hl hP hD hS
                  · refine (Decidable.em (p0 = 9)).elim (fun h14 => ?_) (fun h14 => ?_)
                    · refine lv_tableIn (tgt := 122) (off := 121) hx hb xd_Z_count_1 (by rw [h14]; decide) (by rw [h14]; decide) (by rw [h14]; decide +kernel) rfl ?_
                      refine lv_aload_n hx hb xd_Z_count_122 rfl (lv_at hl 0 rfl) ?_
                      refine xget_Z_alarm (v := (xg_Z_alarm u)) hx hb htg hown hK hP (htg _ xw_733) rfl xd_Z_count_123 ?_
                      refine lv_ldc2 (v := 4294967295) hx hb hown (htg _ xw_887) xd_Z_count_126 ?_
                      refine lv_land hx hb xd_Z_count_129 ?_
                      refine lv_l2i (v := (Int64.toInt32 ((xg_Z_alarm u) &&& (4294967295 : Int64)))) hx hb xd_Z_count_130 rfl ?_
                      exact hret _ u H locs ls _ ⟨(by unfold xf_Z_count; exact (xif h1 (xif h2 (xif h3 (xif h4 (xif h5 (xif h6 (xif h7 (xif h8 (xif h9 (xit h14 rfl))))))))))), rfl⟩ hP hD hS xd_Z_count_131
                    · refine (Decidable.em (p0 = 10)).elim (fun h15 => ?_) (fun h15 => ?_)
                      · refine lv_tableIn (tgt := 132) (off := 131) hx hb xd_Z_count_1 (by rw [h15]; decide) (by rw [h15]; decide) (by rw [h15]; decide +kernel) rfl ?_
                        refine lv_aload_n hx hb xd_Z_count_132 rfl (lv_at hl 0 rfl) ?_
                        refine xget_Z_alarm (v := (xg_Z_alarm u)) hx hb htg hown hK hP (htg _ xw_733) rfl xd_Z_count_133 ?_
                        refine lv_bipush (v := 32) hx hb xd_Z_count_136 (by decide) ?_
                        refine lv_lshr (v := ((xg_Z_alarm u) >>> (Int32.toInt64 (32 : Int32) &&& 63))) hx hb xd_Z_count_138 rfl ?_
                        refine lv_l2i (v := (Int64.toInt32 ((xg_Z_alarm u) >>> (Int32.toInt64 (32 : Int32) &&& 63)))) hx hb xd_Z_count_139 rfl ?_
                        exact hret _ u H locs ls _ ⟨(by unfold xf_Z_count; exact (xif h1 (xif h2 (xif h3 (xif h4 (xif h5 (xif h6 (xif h7 (xif h8 (xif h9 (xif h14 (xit h15 rfl)))))))))))), rfl⟩ hP hD hS xd_Z_count_140
                      · refine lv_tableOut (tgt := 141) hx hb xd_Z_count_1 (xsw_out [0, 1, 2, 3, 4, 5, 6, 7, 8, 9, 10] (by decide) (by simp only [List.forall_mem_cons, List.not_mem_nil, false_imp_iff, implies_true, and_true]; exact ⟨h1, h2, h3, h4, h5, h6, h7, h8, h9, h14, h15⟩)) rfl ?_
                        refine lv_iconst (v := (-1)) hx hb xd_Z_count_141 (by decide) ?_
                        exact hret _ u H locs ls _ ⟨(by unfold xf_Z_count; exact (xif h1 (xif h2 (xif h3 (xif h4 (xif h5 (xif h6 (xif h7 (xif h8 (xif h9 (xif h14 (xif h15 rfl)))))))))))), rfl⟩ hP hD hS xd_Z_count_142

noncomputable def xf_Z_console (u : XZ) (p0 : Int32) : Int32 :=
  xlt (if p0 < 0 then ((-1)) else (if p0 < (xg_Z_printed u) then ((xg_Z_console u p0.toNatClampNeg)) else ((-1))) : Int32) fun v4 =>
  v4
def xv_Z_console (u : XZ) (p0 : Int32) : Prop := XVc (
  (if p0 < 0 then (True) else (if p0 < (xg_Z_printed u) then ((vp_in p0 4096) ∧ (True)) else (True))) ∧
  xlt (if p0 < 0 then ((-1)) else (if p0 < (xg_Z_printed u) then ((xg_Z_console u p0.toNatClampNeg)) else ((-1))) : Int32) fun v4 =>
  True)
set_option maxHeartbeats 4000000 in
set_option maxRecDepth 100000 in
theorem c_Z_console (l : Launch) (D : va_G) (z : (Nat → Nat) × (Nat → Nat)) (k : ClassId × ClassId) (b : Nat → Nat) (sz : Nat) (u : XZ) (p0 : Int32) (hv : xv_Z_console u p0) : Met l xy_Z_console (xk_Z_console :: lw_g) { frames := 0, cells := 0, slots := 0, locals := 0 } (va_Pc [.ref ((b 0)), .int p0] (xB D (xTy k) z sz (xWZ k b u))) (va_Qi (fun r (q : XZ) => r = xf_Z_console u p0 ∧ q = u) (fun q t => xQ D (xTy k) (xWZ k b q) (va_A (xWZ k b u) sz) t) (va_A (xWZ k b u) sz)) 0 0 (va_A (xWZ k b u) sz) := by
  refine xopen_i (wf := fun q : XZ => xWZ k b q) (lv := [(0, .ref ((b 0))), (1, .int p0)]) (by decide) rfl (Nat.le_of_ble_eq_true rfl) ?_
  intro p e s m args below meth c Q ls A H locs hx hb hml htg hown hin hK hP hD hE hS hA hl hret
  unfold xv_Z_console at hv
  refine lv_iload_n hx hb xd_Z_console_0 rfl (lv_at hl 1 rfl) ?_
  obtain ⟨hva, hv⟩ := xan_v2 hv
  have hj5 : ∀ (H : Heap) (locs : List Loc) (ls : Array Slot) (v4 : Int32), v4 = (if p0 < 0 then ((-1)) else (if p0 < (xg_Z_printed u) then ((xg_Z_console u p0.toNatClampNeg)) else ((-1)))) → lv_has ls 2 [(0, .ref ((b 0))), (1, .int p0)] → va_P D xCl (xWZ k b u) H → va_D A (xWZ k b u) → va_S A s.heap H locs → W p l e { frames := 0, cells := 0, slots := 0, locals := 0 } s m args below meth c H locs (0) (0) Q (F0 m 22 ls [.int v4]) := by
    intro H locs ls v4 hv4 hl hP hD hS
    have hv := xlt_v hv4 hv
    exact hret _ u H locs ls _ ⟨(by unfold xf_Z_console; exact (xlt_e hv4 rfl)), rfl⟩ hP hD hS xd_Z_console_22
  have hv := hva
  refine lv_if_lt (tgt := 12) hx hb xd_Z_console_1 rfl (fun h6 => ?_) (fun h6 => ?_)
  · have hv := xit_v h6 hv
    refine lv_iconst (v := (-1)) hx hb xd_Z_console_12 (by decide) ?_
    refine lv_goto (tgt := 22) hx hb xd_Z_console_13 rfl ?_
    exact hj5 H locs ls (-1 : Int32) (xit h6 rfl) hl hP hD hS
  · have hv := xif_v h6 hv
    refine lv_iload_n hx hb xd_Z_console_4 rfl (lv_at hl 1 rfl) ?_
    refine lv_aload_n hx hb xd_Z_console_5 rfl (lv_at hl 0 rfl) ?_
    refine xget_Z_printed (v := (xg_Z_printed u)) hx hb htg hown hK hP (htg _ xw_738) rfl xd_Z_console_6 ?_
    refine lv_icmp_lt (tgt := 16) hx hb xd_Z_console_9 rfl (fun h7 => ?_) (fun h7 => ?_)
    · have hv := xit_v h7 hv
      refine lv_aload_n hx hb xd_Z_console_16 rfl (lv_at hl 0 rfl) ?_
      refine xget_Z_console hx hb htg hown hK hP (htg _ xw_737) xd_Z_console_17 ?_
      refine lv_iload_n hx hb xd_Z_console_20 rfl (lv_at hl 1 rfl) ?_
      obtain ⟨hn8, hv⟩ := xan_v hv
      refine xald_Z_console hx hb hK hP hn8 xd_Z_console_21 ?_
      exact hj5 H locs ls (xg_Z_console u p0.toNatClampNeg) (xif h6 (xit h7 rfl)) hl hP hD hS
    · have hv := xif_v h7 hv
      refine lv_iconst (v := (-1)) hx hb xd_Z_console_12 (by decide) ?_
      refine lv_goto (tgt := 22) hx hb xd_Z_console_13 rfl ?_
      exact hj5 H locs ls (-1 : Int32) (xif h6 (xif h7 rfl)) hl hP hD hS

noncomputable def xf_Z_breaches (u : XZ) : Int32 :=
  0
set_option maxHeartbeats 4000000 in
set_option maxRecDepth 100000 in
theorem c_Z_breaches (l : Launch) (D : va_G) (z : (Nat → Nat) × (Nat → Nat)) (k : ClassId × ClassId) (b : Nat → Nat) (sz : Nat) (u : XZ) : Met l xy_Z_breaches (xk_Z_breaches :: lw_g) { frames := 0, cells := 0, slots := 0, locals := 0 } (va_Pc [.ref ((b 0))] (xB D (xTy k) z sz (xWZ k b u))) (va_Qi (fun r (q : XZ) => r = xf_Z_breaches u ∧ q = u) (fun q t => xQ D (xTy k) (xWZ k b q) (va_A (xWZ k b u) sz) t) (va_A (xWZ k b u) sz)) 0 0 (va_A (xWZ k b u) sz) := by
  refine xopen_i (wf := fun q : XZ => xWZ k b q) (lv := [(0, .ref ((b 0)))]) (by decide) rfl (Nat.le_of_ble_eq_true rfl) ?_
  intro p e s m args below meth c Q ls A H locs hx hb hml htg hown hin hK hP hD hE hS hA hl hret
  refine lv_iconst (v := 0) hx hb xd_Z_breaches_0 (by decide) ?_
  exact hret _ u H locs ls _ ⟨(by unfold xf_Z_breaches; exact rfl), rfl⟩ hP hD hS xd_Z_breaches_1

noncomputable def xf_Z_back_512 (u : XZ) : Int32 × XZ :=
  xlt (xf_Z_bit u (512 : Int32) (8 : Int32) : Int32) fun q1 =>
  xlt (xf_Z_value u ((512 : Int32) + (65 : Int32)) : Int32) fun q3 =>
  xlt (xf_Z_bit (xs_Z_next u q3) (512 : Int32) (5 : Int32) : Int32) fun q5 =>
  xlt (xf_Z_setBit (xs_Z_next u q3) (512 : Int32) (1 : Int32) q5 : XZ) fun q7 =>
  xlt (xf_Z_setBit q7 (512 : Int32) (5 : Int32) (1 : Int32) : XZ) fun q9 =>
  xlt (xf_Z_setBit q9 (512 : Int32) (8 : Int32) (0 : Int32) : XZ) fun q11 =>
  xlt (if q1 = 0 then (2) else (3) : Int32) fun v14 =>
  (1, (xs_Z_mode q11 v14))
def xv_Z_back_512 (u : XZ) : Prop := XVc (
  (xv_Z_bit u (512 : Int32) (8 : Int32)) ∧
  xlt (xf_Z_bit u (512 : Int32) (8 : Int32) : Int32) fun q1 =>
  (xv_Z_value u ((512 : Int32) + (65 : Int32))) ∧
  xlt (xf_Z_value u ((512 : Int32) + (65 : Int32)) : Int32) fun q3 =>
  (xv_Z_bit (xs_Z_next u q3) (512 : Int32) (5 : Int32)) ∧
  xlt (xf_Z_bit (xs_Z_next u q3) (512 : Int32) (5 : Int32) : Int32) fun q5 =>
  (xv_Z_setBit (xs_Z_next u q3) (512 : Int32) (1 : Int32) q5) ∧
  xlt (xf_Z_setBit (xs_Z_next u q3) (512 : Int32) (1 : Int32) q5 : XZ) fun q7 =>
  (xv_Z_setBit q7 (512 : Int32) (5 : Int32) (1 : Int32)) ∧
  xlt (xf_Z_setBit q7 (512 : Int32) (5 : Int32) (1 : Int32) : XZ) fun q9 =>
  (xv_Z_setBit q9 (512 : Int32) (8 : Int32) (0 : Int32)) ∧
  xlt (xf_Z_setBit q9 (512 : Int32) (8 : Int32) (0 : Int32) : XZ) fun q11 =>
  xlt (if q1 = 0 then (2) else (3) : Int32) fun v14 =>
  True)
set_option maxHeartbeats 4000000 in
set_option maxRecDepth 100000 in
theorem c_Z_back_512 (l : Launch) (D : va_G) (z : (Nat → Nat) × (Nat → Nat)) (k : ClassId × ClassId) (b : Nat → Nat) (sz : Nat) (u : XZ) (hv : xv_Z_back_512 u) : Met l xy_Z_back (xk_Z_back :: lw_g) { frames := 3, cells := 0, slots := 0, locals := 66 } (va_Pc [.ref ((b 0)), .int 512] (xB D (xTy k) z sz (xWZ k b u))) (va_Qi (fun r (q : XZ) => (r, q) = xf_Z_back_512 u) (fun q t => xQ D (xTy k) (xWZ k b q) (va_A (xWZ k b u) sz) t) (va_A (xWZ k b u) sz)) 0 0 (va_A (xWZ k b u) sz) := by
  refine xopen_z (wf := fun q : XZ => xWZ k b q) (lv := [(0, .ref ((b 0))), (1, .int 512)]) (by decide) rfl (Nat.le_of_ble_eq_true rfl) ?_
  intro p e s m args below meth c Q ls A H locs hx hb hml htg hown hin hK hP hD hE hS hA hl hret
  unfold xv_Z_back_512 at hv
  refine lv_aload_n hx hb xd_Z_back_0 rfl (lv_at hl 0 rfl) ?_
  refine lv_iload_n hx hb xd_Z_back_1 rfl (lv_at hl 1 rfl) ?_
  refine lv_bipush (v := 8) hx hb xd_Z_back_2 (by decide) ?_
  obtain ⟨hn2, hv⟩ := xan_v hv
  refine xcW_i (va_runV (As := [.int 512, .int 8]) (rest := []) ⟨hx, hb, hml, hown, htg⟩ (c_Z_bit l D z k b H.size u (512 : Int32) (8 : Int32) hn2) (cwV 2 htg (xg_V0 xkin_Z_bit xw_867 xw_869 xsel_Z_bit xw_9) rfl rfl rfl (by decide +kernel) ⟨Nat.le_of_ble_eq_true rfl, Nat.le_of_ble_eq_true rfl⟩) ⟨xB_blind, xrecv_Z hK hP, fun U hU hW => xB_mk hP hK hD hE hS (xsubW hD hA hS) hU hW⟩ rfl rfl hl.1 rfl (lv_room (Nat.le_of_ble_eq_true rfl)) xd_Z_back_4 ⟨Nat.le_of_ble_eq_true rfl, Nat.le_of_ble_eq_true rfl⟩) hD hA hS (fun r u1 H locs hw hP hD hS => ?_)
  obtain ⟨q1, hq1⟩ : ∃ q, q = xf_Z_bit u (512 : Int32) (8 : Int32) := ⟨_, rfl⟩
  obtain ⟨e1, e2⟩ := hw
  rw [← hq1] at e1
  obtain rfl : q1 = r := e1.symm
  obtain rfl : u = u1 := e2.symm
  have hP : va_P D xCl (xWZ k b u) H := hP
  have hD : va_D A (xWZ k b u) := hD
  have hv := xlt_v hq1 hv
  refine lv_istore_n (lv' := [(2, .int q1), (0, .ref ((b 0))), (1, .int 512)]) hx hb xd_Z_back_7 rfl hl (by decide) rfl (fun ls hl => ?_)
  refine lv_iload_n hx hb xd_Z_back_8 rfl (lv_at hl 2 rfl) ?_
  refine lv_sipush (v := 512) hx hb xd_Z_back_9 (by decide) ?_
  refine lv_icmp_eq (tgt := 27) hx hb xd_Z_back_12 rfl (fun _ => ?_) (fun h => absurd h (by decide))
  refine lv_iconst (v := 1) hx hb xd_Z_back_27 (by decide) ?_
  refine lv_goto (tgt := 32) hx hb xd_Z_back_28 rfl ?_
  refine lv_istore_n (lv' := [(3, .int 1), (2, .int q1), (0, .ref ((b 0))), (1, .int 512)]) hx hb xd_Z_back_32 rfl hl (by decide) rfl (fun ls hl => ?_)
  refine lv_aload_n hx hb xd_Z_back_33 rfl (lv_at hl 2 rfl) ?_
  refine lv_aload_n hx hb xd_Z_back_34 rfl (lv_at hl 2 rfl) ?_
  refine lv_iload_n hx hb xd_Z_back_35 rfl (lv_at hl 3 rfl) ?_
  refine lv_bipush (v := 65) hx hb xd_Z_back_36 (by decide) ?_
  refine lv_iadd hx hb xd_Z_back_38 ?_
  obtain ⟨hn4, hv⟩ := xan_v hv
  refine xcW_i (va_runV (As := [.int (((512 : Int32) + (65 : Int32)))]) (rest := [.ref ((b 0))]) ⟨hx, hb, hml, hown, htg⟩ (c_Z_value l D z k b H.size u ((512 : Int32) + (65 : Int32)) hn4) (cwV 1 htg (xg_V0 xkin_Z_value xw_859 xw_861 xsel_Z_value xw_9) rfl rfl rfl (by decide +kernel) ⟨Nat.le_of_ble_eq_true rfl, Nat.le_of_ble_eq_true rfl⟩) ⟨xB_blind, xrecv_Z hK hP, fun U hU hW => xB_mk hP hK hD hE hS (xsubW hD hA hS) hU hW⟩ rfl rfl hl.1 rfl (lv_room (Nat.le_of_ble_eq_true rfl)) xd_Z_back_39 ⟨Nat.le_of_ble_eq_true rfl, Nat.le_of_ble_eq_true rfl⟩) hD hA hS (fun r u1 H locs hw hP hD hS => ?_)
  obtain ⟨q3, hq3⟩ : ∃ q, q = xf_Z_value u ((512 : Int32) + (65 : Int32)) := ⟨_, rfl⟩
  obtain ⟨e1, e2⟩ := hw
  rw [← hq3] at e1
  obtain rfl : q3 = r := e1.symm
  obtain rfl : u = u1 := e2.symm
  have hP : va_P D xCl (xWZ k b u) H := hP
  have hD : va_D A (xWZ k b u) := hD
  have hv := xlt_v hq3 hv
  refine xput_Z_next (v := q3) hx hb htg hown hK hP hD hS (htg _ xw_753) xd_Z_back_42 (fun H locs hP hD hS => ?_)
  refine lv_aload_n hx hb xd_Z_back_45 rfl (lv_at hl 2 rfl) ?_
  refine lv_iload_n hx hb xd_Z_back_46 rfl (lv_at hl 3 rfl) ?_
  refine lv_iconst (v := 1) hx hb xd_Z_back_47 (by decide) ?_
  refine lv_aload_n hx hb xd_Z_back_48 rfl (lv_at hl 2 rfl) ?_
  refine lv_iload_n hx hb xd_Z_back_49 rfl (lv_at hl 3 rfl) ?_
  refine lv_iconst (v := 5) hx hb xd_Z_back_50 (by decide) ?_
  obtain ⟨hn6, hv⟩ := xan_v hv
  refine xcW_i (va_runV (As := [.int 512, .int 5]) (rest := [.int 1, .int 512, .ref ((b 0))]) ⟨hx, hb, hml, hown, htg⟩ (c_Z_bit l D z k b H.size (xs_Z_next u q3) (512 : Int32) (5 : Int32) hn6) (cwV 2 htg (xg_V0 xkin_Z_bit xw_867 xw_869 xsel_Z_bit xw_9) rfl rfl rfl (by decide +kernel) ⟨Nat.le_of_ble_eq_true rfl, Nat.le_of_ble_eq_true rfl⟩) ⟨xB_blind, xrecv_Z hK hP, fun U hU hW => xB_mk hP hK hD hE hS (xsubW hD hA hS) hU hW⟩ rfl rfl hl.1 rfl (lv_room (Nat.le_of_ble_eq_true rfl)) xd_Z_back_51 ⟨Nat.le_of_ble_eq_true rfl, Nat.le_of_ble_eq_true rfl⟩) hD hA hS (fun r u1 H locs hw hP hD hS => ?_)
  obtain ⟨q5, hq5⟩ : ∃ q, q = xf_Z_bit (xs_Z_next u q3) (512 : Int32) (5 : Int32) := ⟨_, rfl⟩
  obtain ⟨e1, e2⟩ := hw
  rw [← hq5] at e1
  obtain rfl : q5 = r := e1.symm
  obtain rfl : (xs_Z_next u q3) = u1 := e2.symm
  have hP : va_P D xCl (xWZ k b (xs_Z_next u q3)) H := hP
  have hD : va_D A (xWZ k b (xs_Z_next u q3)) := hD
  have hv := xlt_v hq5 hv
  obtain ⟨hn8, hv⟩ := xan_v hv
  refine xcW_v (va_runV (As := [.int 512, .int 1, .int q5]) (rest := []) ⟨hx, hb, hml, hown, htg⟩ (c_Z_setBit l D z k b H.size (xs_Z_next u q3) (512 : Int32) (1 : Int32) q5 hn8) (cwV 3 htg (xg_V0 xkin_Z_setBit xw_855 xw_857 xsel_Z_setBit xw_9) rfl rfl rfl (by decide +kernel) ⟨Nat.le_of_ble_eq_true rfl, Nat.le_of_ble_eq_true rfl⟩) ⟨xB_blind, xrecv_Z hK hP, fun U hU hW => xB_mk hP hK hD hE hS (xsubW hD hA hS) hU hW⟩ rfl rfl hl.1 rfl (lv_room (Nat.le_of_ble_eq_true rfl)) xd_Z_back_54 ⟨Nat.le_of_ble_eq_true rfl, Nat.le_of_ble_eq_true rfl⟩) hD hA hS (fun u1 H locs hw hP hD hS => ?_)
  obtain ⟨q7, hq7⟩ : ∃ q, q = xf_Z_setBit (xs_Z_next u q3) (512 : Int32) (1 : Int32) q5 := ⟨_, rfl⟩
  rw [← hq7] at hw
  obtain rfl : q7 = u1 := hw.symm
  have hP : va_P D xCl (xWZ k b q7) H := hP
  have hD : va_D A (xWZ k b q7) := hD
  have hv := xlt_v hq7 hv
  refine lv_aload_n hx hb xd_Z_back_57 rfl (lv_at hl 2 rfl) ?_
  refine lv_iload_n hx hb xd_Z_back_58 rfl (lv_at hl 3 rfl) ?_
  refine lv_iconst (v := 5) hx hb xd_Z_back_59 (by decide) ?_
  refine lv_iconst (v := 1) hx hb xd_Z_back_60 (by decide) ?_
  obtain ⟨hn10, hv⟩ := xan_v hv
  refine xcW_v (va_runV (As := [.int 512, .int 5, .int 1]) (rest := []) ⟨hx, hb, hml, hown, htg⟩ (c_Z_setBit l D z k b H.size q7 (512 : Int32) (5 : Int32) (1 : Int32) hn10) (cwV 3 htg (xg_V0 xkin_Z_setBit xw_855 xw_857 xsel_Z_setBit xw_9) rfl rfl rfl (by decide +kernel) ⟨Nat.le_of_ble_eq_true rfl, Nat.le_of_ble_eq_true rfl⟩) ⟨xB_blind, xrecv_Z hK hP, fun U hU hW => xB_mk hP hK hD hE hS (xsubW hD hA hS) hU hW⟩ rfl rfl hl.1 rfl (lv_room (Nat.le_of_ble_eq_true rfl)) xd_Z_back_61 ⟨Nat.le_of_ble_eq_true rfl, Nat.le_of_ble_eq_true rfl⟩) hD hA hS (fun u1 H locs hw hP hD hS => ?_)
  obtain ⟨q9, hq9⟩ : ∃ q, q = xf_Z_setBit q7 (512 : Int32) (5 : Int32) (1 : Int32) := ⟨_, rfl⟩
  rw [← hq9] at hw
  obtain rfl : q9 = u1 := hw.symm
  have hP : va_P D xCl (xWZ k b q9) H := hP
  have hD : va_D A (xWZ k b q9) := hD
  have hv := xlt_v hq9 hv
  refine lv_aload_n hx hb xd_Z_back_64 rfl (lv_at hl 2 rfl) ?_
  refine lv_iload_n hx hb xd_Z_back_65 rfl (lv_at hl 3 rfl) ?_
  refine lv_bipush (v := 8) hx hb xd_Z_back_66 (by decide) ?_
  refine lv_iconst (v := 0) hx hb xd_Z_back_68 (by decide) ?_
  obtain ⟨hn12, hv⟩ := xan_v hv
  refine xcW_v (va_runV (As := [.int 512, .int 8, .int 0]) (rest := []) ⟨hx, hb, hml, hown, htg⟩ (c_Z_setBit l D z k b H.size q9 (512 : Int32) (8 : Int32) (0 : Int32) hn12) (cwV 3 htg (xg_V0 xkin_Z_setBit xw_855 xw_857 xsel_Z_setBit xw_9) rfl rfl rfl (by decide +kernel) ⟨Nat.le_of_ble_eq_true rfl, Nat.le_of_ble_eq_true rfl⟩) ⟨xB_blind, xrecv_Z hK hP, fun U hU hW => xB_mk hP hK hD hE hS (xsubW hD hA hS) hU hW⟩ rfl rfl hl.1 rfl (lv_room (Nat.le_of_ble_eq_true rfl)) xd_Z_back_69 ⟨Nat.le_of_ble_eq_true rfl, Nat.le_of_ble_eq_true rfl⟩) hD hA hS (fun u1 H locs hw hP hD hS => ?_)
  obtain ⟨q11, hq11⟩ : ∃ q, q = xf_Z_setBit q9 (512 : Int32) (8 : Int32) (0 : Int32) := ⟨_, rfl⟩
  rw [← hq11] at hw
  obtain rfl : q11 = u1 := hw.symm
  have hP : va_P D xCl (xWZ k b q11) H := hP
  have hD : va_D A (xWZ k b q11) := hD
  have hv := xlt_v hq11 hv
  refine lv_iload_n hx hb xd_Z_back_72 rfl (lv_at hl 3 rfl) ?_
  refine lv_sipush (v := 256) hx hb xd_Z_back_73 (by decide) ?_
  refine lv_icmp_ne (tgt := 89) hx hb xd_Z_back_76 rfl (fun _ => ?_) (fun h => absurd h (by decide))
  refine lv_aload_n hx hb xd_Z_back_89 rfl (lv_at hl 2 rfl) ?_
  refine lv_iload_n hx hb xd_Z_back_90 rfl (lv_at hl 0 rfl) ?_
  refine lv_if_eq (tgt := 106) hx hb xd_Z_back_91 rfl (fun h => absurd h (by decide)) (fun _ => ?_)
  refine lv_iload_n hx hb xd_Z_back_94 rfl (lv_at hl 1 rfl) ?_
  have hj15 : ∀ (H : Heap) (locs : List Loc) (ls : Array Slot) (v14 : Int32), v14 = (if q1 = 0 then (2) else (3)) → lv_has ls 4 [(3, .int 1), (2, .int q1), (0, .ref ((b 0))), (1, .int 512)] → va_P D xCl (xWZ k b q11) H → va_D A (xWZ k b q11) → va_S A s.heap H locs → W p l e { frames := 3, cells := 0, slots := 0, locals := 66 } s m args below meth c H locs (0) (0) Q (F0 m 115 ls [.int v14, .ref ((b 0))]) := by
    intro H locs ls v14 hv14 hl hP hD hS
    have hv := xlt_v hv14 hv
    refine xput_Z_mode (v := v14) hx hb htg hown hK hP hD hS (htg _ xw_731) xd_Z_back_115 (fun H locs hP hD hS => ?_)
    refine lv_iconst (v := 1) hx hb xd_Z_back_118 (by decide) ?_
    exact hret _ (xs_Z_mode q11 v14) H locs ls _ rfl (by unfold xf_Z_back_512; exact (xlt_e hq1 (xlt_e hq3 (xlt_e hq5 (xlt_e hq7 (xlt_e hq9 (xlt_e hq11 (xlt_e hv14 rfl)))))))) hP hD hS xd_Z_back_119
  refine lv_if_eq (tgt := 102) hx hb xd_Z_back_95 rfl (fun h16 => ?_) (fun h16 => ?_)
  · refine lv_iconst (v := 2) hx hb xd_Z_back_102 (by decide) ?_
    refine lv_goto (tgt := 115) hx hb xd_Z_back_103 rfl ?_
    exact hj15 H locs ls (2 : Int32) (xit h16 rfl) hl hP hD hS
  · refine lv_iconst (v := 3) hx hb xd_Z_back_98 (by decide) ?_
    refine lv_goto (tgt := 115) hx hb xd_Z_back_99 rfl ?_
    exact hj15 H locs ls (3 : Int32) (xif h16 rfl) hl hP hD hS
theorem xt01_Z_back_512 (u : XZ) : X01p (xf_Z_back_512 u) := by unfold xf_Z_back_512; exact (xlt_01p (fun q1 hq1 => (xlt_01p (fun q3 hq3 => (xlt_01p (fun q5 hq5 => (xlt_01p (fun q7 hq7 => (xlt_01p (fun q9 hq9 => (xlt_01p (fun q11 hq11 => (xlt_01p (fun v14 hv14 => (Or.inr rfl)))))))))))))))

noncomputable def xf_Z_enter_256 (u : XZ) (p1 : Int32) (p2 : Int32) (p3 : Int32) : XZ :=
  xlt (xf_Z_become u ((256 : Int32) + (65 : Int32)) (xg_Z_pc u) : XZ) fun q1 =>
  xlt (xf_Z_become q1 ((256 : Int32) + (66 : Int32)) p1 : XZ) fun q3 =>
  xlt (xf_Z_become q3 ((256 : Int32) + (67 : Int32)) p2 : XZ) fun q5 =>
  xlt (xf_Z_bit q5 (256 : Int32) (1 : Int32) : Int32) fun q7 =>
  xlt (xf_Z_setBit q5 (256 : Int32) (5 : Int32) q7 : XZ) fun q9 =>
  xlt (xf_Z_setBit q9 (256 : Int32) (1 : Int32) (0 : Int32) : XZ) fun q11 =>
  xlt (if (xg_Z_mode q11) = 1 then (1) else (if (xg_Z_mode q11) = 3 then (1) else (0)) : Int32) fun v15 =>
  xlt (xf_Z_setBit q11 (256 : Int32) (8 : Int32) v15 : XZ) fun q17 =>
  xlt (xf_Z_value (xs_Z_mode q17 p3) ((256 : Int32) + (5 : Int32)) : Int32) fun q19 =>
  xlt (if 0 ≤ p1 then (0) else (if (q19 &&& (1 : Int32)) = 1 then (((4 : Int32) * (p1 &&& (31 : Int32)))) else (0)) : Int32) fun v23 =>
  (xs_Z_pc (xs_Z_mode q17 p3) ((q19 &&& (-4 : Int32)) + v23))
def xv_Z_enter_256 (u : XZ) (p1 : Int32) (p2 : Int32) (p3 : Int32) : Prop := XVc (
  (xv_Z_become u ((256 : Int32) + (65 : Int32)) (xg_Z_pc u)) ∧
  xlt (xf_Z_become u ((256 : Int32) + (65 : Int32)) (xg_Z_pc u) : XZ) fun q1 =>
  (xv_Z_become q1 ((256 : Int32) + (66 : Int32)) p1) ∧
  xlt (xf_Z_become q1 ((256 : Int32) + (66 : Int32)) p1 : XZ) fun q3 =>
  (xv_Z_become q3 ((256 : Int32) + (67 : Int32)) p2) ∧
  xlt (xf_Z_become q3 ((256 : Int32) + (67 : Int32)) p2 : XZ) fun q5 =>
  (xv_Z_bit q5 (256 : Int32) (1 : Int32)) ∧
  xlt (xf_Z_bit q5 (256 : Int32) (1 : Int32) : Int32) fun q7 =>
  (xv_Z_setBit q5 (256 : Int32) (5 : Int32) q7) ∧
  xlt (xf_Z_setBit q5 (256 : Int32) (5 : Int32) q7 : XZ) fun q9 =>
  (xv_Z_setBit q9 (256 : Int32) (1 : Int32) (0 : Int32)) ∧
  xlt (xf_Z_setBit q9 (256 : Int32) (1 : Int32) (0 : Int32) : XZ) fun q11 =>
  xlt (if (xg_Z_mode q11) = 1 then (1) else (if (xg_Z_mode q11) = 3 then (1) else (0)) : Int32) fun v15 =>
  (xv_Z_setBit q11 (256 : Int32) (8 : Int32) v15) ∧
  xlt (xf_Z_setBit q11 (256 : Int32) (8 : Int32) v15 : XZ) fun q17 =>
  (xv_Z_value (xs_Z_mode q17 p3) ((256 : Int32) + (5 : Int32))) ∧
  xlt (xf_Z_value (xs_Z_mode q17 p3) ((256 : Int32) + (5 : Int32)) : Int32) fun q19 =>
  xlt (if 0 ≤ p1 then (0) else (if (q19 &&& (1 : Int32)) = 1 then (((4 : Int32) * (p1 &&& (31 : Int32)))) else (0)) : Int32) fun v23 =>
  True)
set_option maxHeartbeats 4000000 in
set_option maxRecDepth 100000 in
theorem c_Z_enter_256 (l : Launch) (D : va_G) (z : (Nat → Nat) × (Nat → Nat)) (k : ClassId × ClassId) (b : Nat → Nat) (sz : Nat) (u : XZ) (p1 : Int32) (p2 : Int32) (p3 : Int32) (hv : xv_Z_enter_256 u p1 p2 p3) : Met l xy_Z_enter (xk_Z_enter :: lw_g) { frames := 3, cells := 0, slots := 0, locals := 66 } (va_Pc [.ref ((b 0)), .int 256, .int p1, .int p2, .int p3] (xB D (xTy k) z sz (xWZ k b u))) (va_Qv (fun q : XZ => q = xf_Z_enter_256 u p1 p2 p3) (fun q t => xQ D (xTy k) (xWZ k b q) (va_A (xWZ k b u) sz) t) (va_A (xWZ k b u) sz)) 0 0 (va_A (xWZ k b u) sz) := by
  refine xopen_v (wf := fun q : XZ => xWZ k b q) (lv := [(0, .ref ((b 0))), (1, .int 256), (2, .int p1), (3, .int p2), (4, .int p3)]) (by decide) rfl (Nat.le_of_ble_eq_true rfl) ?_
  intro p e s m args below meth c Q ls A H locs hx hb hml htg hown hin hK hP hD hE hS hA hl hret
  unfold xv_Z_enter_256 at hv
  refine lv_aload_n hx hb xd_Z_enter_0 rfl (lv_at hl 0 rfl) ?_
  refine lv_iload_n hx hb xd_Z_enter_1 rfl (lv_at hl 1 rfl) ?_
  refine lv_bipush (v := 65) hx hb xd_Z_enter_2 (by decide) ?_
  refine lv_iadd hx hb xd_Z_enter_4 ?_
  refine lv_aload_n hx hb xd_Z_enter_5 rfl (lv_at hl 0 rfl) ?_
  refine xget_Z_pc (v := (xg_Z_pc u)) hx hb htg hown hK hP (htg _ xw_730) rfl xd_Z_enter_6 ?_
  obtain ⟨hn2, hv⟩ := xan_v hv
  refine xcW_v (va_runV (As := [.int (((256 : Int32) + (65 : Int32))), .int ((xg_Z_pc u))]) (rest := []) ⟨hx, hb, hml, hown, htg⟩ (c_Z_become l D z k b H.size u ((256 : Int32) + (65 : Int32)) (xg_Z_pc u) hn2) (cwV 2 htg (xg_V0 xkin_Z_become xw_863 xw_865 xsel_Z_become xw_9) rfl rfl rfl (by decide +kernel) ⟨Nat.le_of_ble_eq_true rfl, Nat.le_of_ble_eq_true rfl⟩) ⟨xB_blind, xrecv_Z hK hP, fun U hU hW => xB_mk hP hK hD hE hS (xsubW hD hA hS) hU hW⟩ rfl rfl hl.1 rfl (lv_room (Nat.le_of_ble_eq_true rfl)) xd_Z_enter_9 ⟨Nat.le_of_ble_eq_true rfl, Nat.le_of_ble_eq_true rfl⟩) hD hA hS (fun u1 H locs hw hP hD hS => ?_)
  obtain ⟨q1, hq1⟩ : ∃ q, q = xf_Z_become u ((256 : Int32) + (65 : Int32)) (xg_Z_pc u) := ⟨_, rfl⟩
  rw [← hq1] at hw
  obtain rfl : q1 = u1 := hw.symm
  have hP : va_P D xCl (xWZ k b q1) H := hP
  have hD : va_D A (xWZ k b q1) := hD
  have hv := xlt_v hq1 hv
  refine lv_aload_n hx hb xd_Z_enter_12 rfl (lv_at hl 0 rfl) ?_
  refine lv_iload_n hx hb xd_Z_enter_13 rfl (lv_at hl 1 rfl) ?_
  refine lv_bipush (v := 66) hx hb xd_Z_enter_14 (by decide) ?_
  refine lv_iadd hx hb xd_Z_enter_16 ?_
  refine lv_iload_n hx hb xd_Z_enter_17 rfl (lv_at hl 2 rfl) ?_
  obtain ⟨hn4, hv⟩ := xan_v hv
  refine xcW_v (va_runV (As := [.int (((256 : Int32) + (66 : Int32))), .int p1]) (rest := []) ⟨hx, hb, hml, hown, htg⟩ (c_Z_become l D z k b H.size q1 ((256 : Int32) + (66 : Int32)) p1 hn4) (cwV 2 htg (xg_V0 xkin_Z_become xw_863 xw_865 xsel_Z_become xw_9) rfl rfl rfl (by decide +kernel) ⟨Nat.le_of_ble_eq_true rfl, Nat.le_of_ble_eq_true rfl⟩) ⟨xB_blind, xrecv_Z hK hP, fun U hU hW => xB_mk hP hK hD hE hS (xsubW hD hA hS) hU hW⟩ rfl rfl hl.1 rfl (lv_room (Nat.le_of_ble_eq_true rfl)) xd_Z_enter_18 ⟨Nat.le_of_ble_eq_true rfl, Nat.le_of_ble_eq_true rfl⟩) hD hA hS (fun u1 H locs hw hP hD hS => ?_)
  obtain ⟨q3, hq3⟩ : ∃ q, q = xf_Z_become q1 ((256 : Int32) + (66 : Int32)) p1 := ⟨_, rfl⟩
  rw [← hq3] at hw
  obtain rfl : q3 = u1 := hw.symm
  have hP : va_P D xCl (xWZ k b q3) H := hP
  have hD : va_D A (xWZ k b q3) := hD
  have hv := xlt_v hq3 hv
  refine lv_aload_n hx hb xd_Z_enter_21 rfl (lv_at hl 0 rfl) ?_
  refine lv_iload_n hx hb xd_Z_enter_22 rfl (lv_at hl 1 rfl) ?_
  refine lv_bipush (v := 67) hx hb xd_Z_enter_23 (by decide) ?_
  refine lv_iadd hx hb xd_Z_enter_25 ?_
  refine lv_iload_n hx hb xd_Z_enter_26 rfl (lv_at hl 3 rfl) ?_
  obtain ⟨hn6, hv⟩ := xan_v hv
  refine xcW_v (va_runV (As := [.int (((256 : Int32) + (67 : Int32))), .int p2]) (rest := []) ⟨hx, hb, hml, hown, htg⟩ (c_Z_become l D z k b H.size q3 ((256 : Int32) + (67 : Int32)) p2 hn6) (cwV 2 htg (xg_V0 xkin_Z_become xw_863 xw_865 xsel_Z_become xw_9) rfl rfl rfl (by decide +kernel) ⟨Nat.le_of_ble_eq_true rfl, Nat.le_of_ble_eq_true rfl⟩) ⟨xB_blind, xrecv_Z hK hP, fun U hU hW => xB_mk hP hK hD hE hS (xsubW hD hA hS) hU hW⟩ rfl rfl hl.1 rfl (lv_room (Nat.le_of_ble_eq_true rfl)) xd_Z_enter_27 ⟨Nat.le_of_ble_eq_true rfl, Nat.le_of_ble_eq_true rfl⟩) hD hA hS (fun u1 H locs hw hP hD hS => ?_)
  obtain ⟨q5, hq5⟩ : ∃ q, q = xf_Z_become q3 ((256 : Int32) + (67 : Int32)) p2 := ⟨_, rfl⟩
  rw [← hq5] at hw
  obtain rfl : q5 = u1 := hw.symm
  have hP : va_P D xCl (xWZ k b q5) H := hP
  have hD : va_D A (xWZ k b q5) := hD
  have hv := xlt_v hq5 hv
  refine lv_aload_n hx hb xd_Z_enter_30 rfl (lv_at hl 0 rfl) ?_
  refine lv_iload_n hx hb xd_Z_enter_31 rfl (lv_at hl 1 rfl) ?_
  refine lv_iconst (v := 5) hx hb xd_Z_enter_32 (by decide) ?_
  refine lv_aload_n hx hb xd_Z_enter_33 rfl (lv_at hl 0 rfl) ?_
  refine lv_iload_n hx hb xd_Z_enter_34 rfl (lv_at hl 1 rfl) ?_
  refine lv_iconst (v := 1) hx hb xd_Z_enter_35 (by decide) ?_
  obtain ⟨hn8, hv⟩ := xan_v hv
  refine xcW_i (va_runV (As := [.int 256, .int 1]) (rest := [.int 5, .int 256, .ref ((b 0))]) ⟨hx, hb, hml, hown, htg⟩ (c_Z_bit l D z k b H.size q5 (256 : Int32) (1 : Int32) hn8) (cwV 2 htg (xg_V0 xkin_Z_bit xw_867 xw_869 xsel_Z_bit xw_9) rfl rfl rfl (by decide +kernel) ⟨Nat.le_of_ble_eq_true rfl, Nat.le_of_ble_eq_true rfl⟩) ⟨xB_blind, xrecv_Z hK hP, fun U hU hW => xB_mk hP hK hD hE hS (xsubW hD hA hS) hU hW⟩ rfl rfl hl.1 rfl (lv_room (Nat.le_of_ble_eq_true rfl)) xd_Z_enter_36 ⟨Nat.le_of_ble_eq_true rfl, Nat.le_of_ble_eq_true rfl⟩) hD hA hS (fun r u1 H locs hw hP hD hS => ?_)
  obtain ⟨q7, hq7⟩ : ∃ q, q = xf_Z_bit q5 (256 : Int32) (1 : Int32) := ⟨_, rfl⟩
  obtain ⟨e1, e2⟩ := hw
  rw [← hq7] at e1
  obtain rfl : q7 = r := e1.symm
  obtain rfl : q5 = u1 := e2.symm
  have hP : va_P D xCl (xWZ k b q5) H := hP
  have hD : va_D A (xWZ k b q5) := hD
  have hv := xlt_v hq7 hv
  obtain ⟨hn10, hv⟩ := xan_v hv
  refine xcW_v (va_runV (As := [.int 256, .int 5, .int q7]) (rest := []) ⟨hx, hb, hml, hown, htg⟩ (c_Z_setBit l D z k b H.size q5 (256 : Int32) (5 : Int32) q7 hn10) (cwV 3 htg (xg_V0 xkin_Z_setBit xw_855 xw_857 xsel_Z_setBit xw_9) rfl rfl rfl (by decide +kernel) ⟨Nat.le_of_ble_eq_true rfl, Nat.le_of_ble_eq_true rfl⟩) ⟨xB_blind, xrecv_Z hK hP, fun U hU hW => xB_mk hP hK hD hE hS (xsubW hD hA hS) hU hW⟩ rfl rfl hl.1 rfl (lv_room (Nat.le_of_ble_eq_true rfl)) xd_Z_enter_39 ⟨Nat.le_of_ble_eq_true rfl, Nat.le_of_ble_eq_true rfl⟩) hD hA hS (fun u1 H locs hw hP hD hS => ?_)
  obtain ⟨q9, hq9⟩ : ∃ q, q = xf_Z_setBit q5 (256 : Int32) (5 : Int32) q7 := ⟨_, rfl⟩
  rw [← hq9] at hw
  obtain rfl : q9 = u1 := hw.symm
  have hP : va_P D xCl (xWZ k b q9) H := hP
  have hD : va_D A (xWZ k b q9) := hD
  have hv := xlt_v hq9 hv
  refine lv_aload_n hx hb xd_Z_enter_42 rfl (lv_at hl 0 rfl) ?_
  refine lv_iload_n hx hb xd_Z_enter_43 rfl (lv_at hl 1 rfl) ?_
  refine lv_iconst (v := 1) hx hb xd_Z_enter_44 (by decide) ?_
  refine lv_iconst (v := 0) hx hb xd_Z_enter_45 (by decide) ?_
  obtain ⟨hn12, hv⟩ := xan_v hv
  refine xcW_v (va_runV (As := [.int 256, .int 1, .int 0]) (rest := []) ⟨hx, hb, hml, hown, htg⟩ (c_Z_setBit l D z k b H.size q9 (256 : Int32) (1 : Int32) (0 : Int32) hn12) (cwV 3 htg (xg_V0 xkin_Z_setBit xw_855 xw_857 xsel_Z_setBit xw_9) rfl rfl rfl (by decide +kernel) ⟨Nat.le_of_ble_eq_true rfl, Nat.le_of_ble_eq_true rfl⟩) ⟨xB_blind, xrecv_Z hK hP, fun U hU hW => xB_mk hP hK hD hE hS (xsubW hD hA hS) hU hW⟩ rfl rfl hl.1 rfl (lv_room (Nat.le_of_ble_eq_true rfl)) xd_Z_enter_46 ⟨Nat.le_of_ble_eq_true rfl, Nat.le_of_ble_eq_true rfl⟩) hD hA hS (fun u1 H locs hw hP hD hS => ?_)
  obtain ⟨q11, hq11⟩ : ∃ q, q = xf_Z_setBit q9 (256 : Int32) (1 : Int32) (0 : Int32) := ⟨_, rfl⟩
  rw [← hq11] at hw
  obtain rfl : q11 = u1 := hw.symm
  have hP : va_P D xCl (xWZ k b q11) H := hP
  have hD : va_D A (xWZ k b q11) := hD
  have hv := xlt_v hq11 hv
  refine lv_aload_n hx hb xd_Z_enter_49 rfl (lv_at hl 0 rfl) ?_
  refine lv_iload_n hx hb xd_Z_enter_50 rfl (lv_at hl 1 rfl) ?_
  refine lv_bipush (v := 8) hx hb xd_Z_enter_51 (by decide) ?_
  refine lv_aload_n hx hb xd_Z_enter_53 rfl (lv_at hl 0 rfl) ?_
  refine xget_Z_mode (v := (xg_Z_mode q11)) hx hb htg hown hK hP (htg _ xw_731) rfl xd_Z_enter_54 ?_
  refine lv_iconst (v := 1) hx hb xd_Z_enter_57 (by decide) ?_
  have hj16 : ∀ (H : Heap) (locs : List Loc) (ls : Array Slot) (v15 : Int32), v15 = (if (xg_Z_mode q11) = 1 then (1) else (if (xg_Z_mode q11) = 3 then (1) else (0))) → lv_has ls 6 [(0, .ref ((b 0))), (1, .int 256), (2, .int p1), (3, .int p2), (4, .int p3)] → va_P D xCl (xWZ k b q11) H → va_D A (xWZ k b q11) → va_S A s.heap H locs → W p l e { frames := 3, cells := 0, slots := 0, locals := 66 } s m args below meth c H locs (0) (0) Q (F0 m 74 ls [.int v15, .int 8, .int 256, .ref ((b 0))]) := by
    intro H locs ls v15 hv15 hl hP hD hS
    have hv := xlt_v hv15 hv
    obtain ⟨hn18, hv⟩ := xan_v hv
    refine xcW_v (va_runV (As := [.int 256, .int 8, .int v15]) (rest := []) ⟨hx, hb, hml, hown, htg⟩ (c_Z_setBit l D z k b H.size q11 (256 : Int32) (8 : Int32) v15 hn18) (cwV 3 htg (xg_V0 xkin_Z_setBit xw_855 xw_857 xsel_Z_setBit xw_9) rfl rfl rfl (by decide +kernel) ⟨Nat.le_of_ble_eq_true rfl, Nat.le_of_ble_eq_true rfl⟩) ⟨xB_blind, xrecv_Z hK hP, fun U hU hW => xB_mk hP hK hD hE hS (xsubW hD hA hS) hU hW⟩ rfl rfl hl.1 rfl (lv_room (Nat.le_of_ble_eq_true rfl)) xd_Z_enter_74 ⟨Nat.le_of_ble_eq_true rfl, Nat.le_of_ble_eq_true rfl⟩) hD hA hS (fun u1 H locs hw hP hD hS => ?_)
    obtain ⟨q17, hq17⟩ : ∃ q, q = xf_Z_setBit q11 (256 : Int32) (8 : Int32) v15 := ⟨_, rfl⟩
    rw [← hq17] at hw
    obtain rfl : q17 = u1 := hw.symm
    have hP : va_P D xCl (xWZ k b q17) H := hP
    have hD : va_D A (xWZ k b q17) := hD
    have hv := xlt_v hq17 hv
    refine lv_aload_n hx hb xd_Z_enter_77 rfl (lv_at hl 0 rfl) ?_
    refine lv_iload hx hb xd_Z_enter_78 (lv_at hl 4 rfl) ?_
    refine xput_Z_mode (v := p3) hx hb htg hown hK hP hD hS (htg _ xw_731) xd_Z_enter_80 (fun H locs hP hD hS => ?_)
    refine lv_aload_n hx hb xd_Z_enter_83 rfl (lv_at hl 0 rfl) ?_
    refine lv_iload_n hx hb xd_Z_enter_84 rfl (lv_at hl 1 rfl) ?_
    refine lv_iconst (v := 5) hx hb xd_Z_enter_85 (by decide) ?_
    refine lv_iadd hx hb xd_Z_enter_86 ?_
    obtain ⟨hn20, hv⟩ := xan_v hv
    refine xcW_i (va_runV (As := [.int (((256 : Int32) + (5 : Int32)))]) (rest := []) ⟨hx, hb, hml, hown, htg⟩ (c_Z_value l D z k b H.size (xs_Z_mode q17 p3) ((256 : Int32) + (5 : Int32)) hn20) (cwV 1 htg (xg_V0 xkin_Z_value xw_859 xw_861 xsel_Z_value xw_9) rfl rfl rfl (by decide +kernel) ⟨Nat.le_of_ble_eq_true rfl, Nat.le_of_ble_eq_true rfl⟩) ⟨xB_blind, xrecv_Z hK hP, fun U hU hW => xB_mk hP hK hD hE hS (xsubW hD hA hS) hU hW⟩ rfl rfl hl.1 rfl (lv_room (Nat.le_of_ble_eq_true rfl)) xd_Z_enter_87 ⟨Nat.le_of_ble_eq_true rfl, Nat.le_of_ble_eq_true rfl⟩) hD hA hS (fun r u1 H locs hw hP hD hS => ?_)
    obtain ⟨q19, hq19⟩ : ∃ q, q = xf_Z_value (xs_Z_mode q17 p3) ((256 : Int32) + (5 : Int32)) := ⟨_, rfl⟩
    obtain ⟨e1, e2⟩ := hw
    rw [← hq19] at e1
    obtain rfl : q19 = r := e1.symm
    obtain rfl : (xs_Z_mode q17 p3) = u1 := e2.symm
    have hP : va_P D xCl (xWZ k b (xs_Z_mode q17 p3)) H := hP
    have hD : va_D A (xWZ k b (xs_Z_mode q17 p3)) := hD
    have hv := xlt_v hq19 hv
    refine lv_istore (lv' := [(5, .int q19), (0, .ref ((b 0))), (1, .int 256), (2, .int p1), (3, .int p2), (4, .int p3)]) hx hb xd_Z_enter_90 hl (by decide) rfl (fun ls hl => ?_)
    refine lv_aload_n hx hb xd_Z_enter_92 rfl (lv_at hl 1 rfl) ?_
    refine lv_iload hx hb xd_Z_enter_93 (lv_at hl 0 rfl) ?_
    refine lv_bipush (v := (-4)) hx hb xd_Z_enter_95 (by decide) ?_
    refine lv_iand hx hb xd_Z_enter_97 ?_
    refine lv_iload_n hx hb xd_Z_enter_98 rfl (lv_at hl 3 rfl) ?_
    have hj24 : ∀ (H : Heap) (locs : List Loc) (ls : Array Slot) (v23 : Int32), v23 = (if 0 ≤ p1 then (0) else (if (q19 &&& (1 : Int32)) = 1 then (((4 : Int32) * (p1 &&& (31 : Int32)))) else (0))) → lv_has ls 6 [(5, .int q19), (0, .ref ((b 0))), (1, .int 256), (2, .int p1), (3, .int p2), (4, .int p3)] → va_P D xCl (xWZ k b (xs_Z_mode q17 p3)) H → va_D A (xWZ k b (xs_Z_mode q17 p3)) → va_S A s.heap H locs → W p l e { frames := 3, cells := 0, slots := 0, locals := 66 } s m args below meth c H locs (0) (0) Q (F0 m 120 ls [.int v23, .int ((q19 &&& (-4 : Int32))), .ref ((b 0))]) := by
      intro H locs ls v23 hv23 hl hP hD hS
      have hv := xlt_v hv23 hv
      refine lv_iadd hx hb xd_Z_enter_120 ?_
      refine xput_Z_pc (v := ((q19 &&& (-4 : Int32)) + v23)) hx hb htg hown hK hP hD hS (htg _ xw_730) xd_Z_enter_121 (fun H locs hP hD hS => ?_)
      exact hret (xs_Z_pc (xs_Z_mode q17 p3) ((q19 &&& (-4 : Int32)) + v23)) H locs ls _ (by unfold xf_Z_enter_256; exact (xlt_e hq1 (xlt_e hq3 (xlt_e hq5 (xlt_e hq7 (xlt_e hq9 (xlt_e hq11 (xlt_e hv15 (xlt_e hq17 (xlt_e hq19 (xlt_e hv23 rfl))))))))))) hP hD hS xd_Z_enter_124
    refine lv_if_ge (tgt := 119) hx hb xd_Z_enter_99 rfl (fun h25 => ?_) (fun h25 => ?_)
    · refine lv_iconst (v := 0) hx hb xd_Z_enter_119 (by decide) ?_
      exact hj24 H locs ls (0 : Int32) (xit h25 rfl) hl hP hD hS
    · refine lv_iload hx hb xd_Z_enter_102 (lv_at hl 0 rfl) ?_
      refine lv_iconst (v := 1) hx hb xd_Z_enter_104 (by decide) ?_
      refine lv_iand hx hb xd_Z_enter_105 ?_
      refine lv_iconst (v := 1) hx hb xd_Z_enter_106 (by decide) ?_
      refine lv_icmp_ne (tgt := 119) hx hb xd_Z_enter_107 rfl (fun h26 => ?_) (fun h26 => ?_)
      · refine lv_iconst (v := 0) hx hb xd_Z_enter_119 (by decide) ?_
        exact hj24 H locs ls (0 : Int32) (xif h25 (xif h26 rfl)) hl hP hD hS
      · refine lv_iconst (v := 4) hx hb xd_Z_enter_110 (by decide) ?_
        refine lv_iload_n hx hb xd_Z_enter_111 rfl (lv_at hl 3 rfl) ?_
        refine lv_bipush (v := 31) hx hb xd_Z_enter_112 (by decide) ?_
        refine lv_iand hx hb xd_Z_enter_114 ?_
        refine lv_imul hx hb xd_Z_enter_115 ?_
        refine lv_goto (tgt := 120) hx hb xd_Z_enter_116 rfl ?_
        exact hj24 H locs ls ((4 : Int32) * (p1 &&& (31 : Int32))) (xif h25 (xit h26 rfl)) hl hP hD hS
  refine lv_icmp_eq (tgt := 69) hx hb xd_Z_enter_58 rfl (fun h27 => ?_) (fun h27 => ?_)
  · refine lv_iconst (v := 1) hx hb xd_Z_enter_69 (by decide) ?_
    refine lv_goto (tgt := 74) hx hb xd_Z_enter_70 rfl ?_
    exact hj16 H locs ls (1 : Int32) (xit h27 rfl) hl hP hD hS
  · refine lv_aload_n hx hb xd_Z_enter_61 rfl (lv_at hl 0 rfl) ?_
    refine xget_Z_mode (v := (xg_Z_mode q11)) hx hb htg hown hK hP (htg _ xw_731) rfl xd_Z_enter_62 ?_
    refine lv_iconst (v := 3) hx hb xd_Z_enter_65 (by decide) ?_
    refine lv_icmp_ne (tgt := 73) hx hb xd_Z_enter_66 rfl (fun h28 => ?_) (fun h28 => ?_)
    · refine lv_iconst (v := 0) hx hb xd_Z_enter_73 (by decide) ?_
      exact hj16 H locs ls (0 : Int32) (xif h27 (xif h28 rfl)) hl hP hD hS
    · refine lv_iconst (v := 1) hx hb xd_Z_enter_69 (by decide) ?_
      refine lv_goto (tgt := 74) hx hb xd_Z_enter_70 rfl ?_
      exact hj16 H locs ls (1 : Int32) (xif h27 (xit h28 rfl)) hl hP hD hS

noncomputable def xf_Z_enterS (u : XZ) (p0 : Int32) (p1 : Int32) (p2 : Int32) : XZ :=
  xlt (xf_Z_setBit (xs_Z_toS u ((xg_Z_toS u) + (1 : Int32))) (1536 : Int32) (6 : Int32) p2 : XZ) fun q1 =>
  xlt (xf_Z_isVirtual q1 : Int32) fun q3 =>
  xlt (xf_Z_setBit q1 (1536 : Int32) (7 : Int32) q3 : XZ) fun q4 =>
  xlt (xf_Z_isVirtual q4 : Int32) fun q6 =>
  xlt (if q6 = 0 then (xlt (xf_Z_bit q4 (1536 : Int32) (8 : Int32) : Int32) fun q8 => q8) else (if (xg_Z_mode q4) = 3 then (1) else (0)) : Int32) fun v11 =>
  xlt (xf_Z_setBit q4 (1536 : Int32) (8 : Int32) v11 : XZ) fun q13 =>
  xlt (xf_Z_enter_256 q13 p0 p1 (1 : Int32) : XZ) fun q15 =>
  xlt (xf_Z_become q15 (1603 : Int32) (0 : Int32) : XZ) fun q17 =>
  xlt (xf_Z_become q17 (1610 : Int32) (0 : Int32) : XZ) fun q19 =>
  q19
def xv_Z_enterS (u : XZ) (p0 : Int32) (p1 : Int32) (p2 : Int32) : Prop := XVc (
  (xv_Z_setBit (xs_Z_toS u ((xg_Z_toS u) + (1 : Int32))) (1536 : Int32) (6 : Int32) p2) ∧
  xlt (xf_Z_setBit (xs_Z_toS u ((xg_Z_toS u) + (1 : Int32))) (1536 : Int32) (6 : Int32) p2 : XZ) fun q1 =>
  xlt (xf_Z_isVirtual q1 : Int32) fun q3 =>
  (xv_Z_setBit q1 (1536 : Int32) (7 : Int32) q3) ∧
  xlt (xf_Z_setBit q1 (1536 : Int32) (7 : Int32) q3 : XZ) fun q4 =>
  xlt (xf_Z_isVirtual q4 : Int32) fun q6 =>
  (if q6 = 0 then ((xv_Z_bit q4 (1536 : Int32) (8 : Int32)) ∧ (xlt (xf_Z_bit q4 (1536 : Int32) (8 : Int32) : Int32) fun q8 => True)) else (if (xg_Z_mode q4) = 3 then (True) else (True))) ∧
  xlt (if q6 = 0 then (xlt (xf_Z_bit q4 (1536 : Int32) (8 : Int32) : Int32) fun q8 => q8) else (if (xg_Z_mode q4) = 3 then (1) else (0)) : Int32) fun v11 =>
  (xv_Z_setBit q4 (1536 : Int32) (8 : Int32) v11) ∧
  xlt (xf_Z_setBit q4 (1536 : Int32) (8 : Int32) v11 : XZ) fun q13 =>
  (xv_Z_enter_256 q13 p0 p1 (1 : Int32)) ∧
  xlt (xf_Z_enter_256 q13 p0 p1 (1 : Int32) : XZ) fun q15 =>
  (xv_Z_become q15 (1603 : Int32) (0 : Int32)) ∧
  xlt (xf_Z_become q15 (1603 : Int32) (0 : Int32) : XZ) fun q17 =>
  (xv_Z_become q17 (1610 : Int32) (0 : Int32)) ∧
  xlt (xf_Z_become q17 (1610 : Int32) (0 : Int32) : XZ) fun q19 =>
  True)
set_option maxHeartbeats 4000000 in
set_option maxRecDepth 100000 in
theorem c_Z_enterS (l : Launch) (D : va_G) (z : (Nat → Nat) × (Nat → Nat)) (k : ClassId × ClassId) (b : Nat → Nat) (sz : Nat) (u : XZ) (p0 : Int32) (p1 : Int32) (p2 : Int32) (hv : xv_Z_enterS u p0 p1 p2) : Met l xy_Z_enterS (xk_Z_enterS :: lw_g) { frames := 4, cells := 0, slots := 0, locals := 91 } (va_Pc [.ref ((b 0)), .int p0, .int p1, .int p2] (xB D (xTy k) z sz (xWZ k b u))) (va_Qv (fun q : XZ => q = xf_Z_enterS u p0 p1 p2) (fun q t => xQ D (xTy k) (xWZ k b q) (va_A (xWZ k b u) sz) t) (va_A (xWZ k b u) sz)) 0 0 (va_A (xWZ k b u) sz) := by
  refine xopen_v (wf := fun q : XZ => xWZ k b q) (lv := [(0, .ref ((b 0))), (1, .int p0), (2, .int p1), (3, .int p2)]) (by decide) rfl (Nat.le_of_ble_eq_true rfl) ?_
  intro p e s m args below meth c Q ls A H locs hx hb hml htg hown hin hK hP hD hE hS hA hl hret
  unfold xv_Z_enterS at hv
  refine lv_aload_n hx hb xd_Z_enterS_0 rfl (lv_at hl 0 rfl) ?_
  refine lv_dup hx hb xd_Z_enterS_1 rfl ?_
  refine xget_Z_toS (v := (xg_Z_toS u)) hx hb htg hown hK hP (htg _ xw_739) rfl xd_Z_enterS_2 ?_
  refine lv_iconst (v := 1) hx hb xd_Z_enterS_5 (by decide) ?_
  refine lv_iadd hx hb xd_Z_enterS_6 ?_
  refine xput_Z_toS (v := ((xg_Z_toS u) + (1 : Int32))) hx hb htg hown hK hP hD hS (htg _ xw_739) xd_Z_enterS_7 (fun H locs hP hD hS => ?_)
  refine lv_aload_n hx hb xd_Z_enterS_10 rfl (lv_at hl 0 rfl) ?_
  refine lv_sipush (v := 1536) hx hb xd_Z_enterS_11 (by decide) ?_
  refine lv_bipush (v := 6) hx hb xd_Z_enterS_14 (by decide) ?_
  refine lv_iload_n hx hb xd_Z_enterS_16 rfl (lv_at hl 3 rfl) ?_
  obtain ⟨hn2, hv⟩ := xan_v hv
  refine xcW_v (va_runV (As := [.int 1536, .int 6, .int p2]) (rest := []) ⟨hx, hb, hml, hown, htg⟩ (c_Z_setBit l D z k b H.size (xs_Z_toS u ((xg_Z_toS u) + (1 : Int32))) (1536 : Int32) (6 : Int32) p2 hn2) (cwV 3 htg (xg_V0 xkin_Z_setBit xw_855 xw_857 xsel_Z_setBit xw_9) rfl rfl rfl (by decide +kernel) ⟨Nat.le_of_ble_eq_true rfl, Nat.le_of_ble_eq_true rfl⟩) ⟨xB_blind, xrecv_Z hK hP, fun U hU hW => xB_mk hP hK hD hE hS (xsubW hD hA hS) hU hW⟩ rfl rfl hl.1 rfl (lv_room (Nat.le_of_ble_eq_true rfl)) xd_Z_enterS_17 ⟨Nat.le_of_ble_eq_true rfl, Nat.le_of_ble_eq_true rfl⟩) hD hA hS (fun u1 H locs hw hP hD hS => ?_)
  obtain ⟨q1, hq1⟩ : ∃ q, q = xf_Z_setBit (xs_Z_toS u ((xg_Z_toS u) + (1 : Int32))) (1536 : Int32) (6 : Int32) p2 := ⟨_, rfl⟩
  rw [← hq1] at hw
  obtain rfl : q1 = u1 := hw.symm
  have hP : va_P D xCl (xWZ k b q1) H := hP
  have hD : va_D A (xWZ k b q1) := hD
  have hv := xlt_v hq1 hv
  refine lv_aload_n hx hb xd_Z_enterS_20 rfl (lv_at hl 0 rfl) ?_
  refine lv_sipush (v := 1536) hx hb xd_Z_enterS_21 (by decide) ?_
  refine lv_bipush (v := 7) hx hb xd_Z_enterS_24 (by decide) ?_
  refine lv_aload_n hx hb xd_Z_enterS_26 rfl (lv_at hl 0 rfl) ?_
  refine xcW_i (va_runV (As := []) (rest := [.int 7, .int 1536, .ref ((b 0))]) ⟨hx, hb, hml, hown, htg⟩ (c_Z_isVirtual l D z k b H.size q1) (cwV 0 htg (xg_V0 xkin_Z_isVirtual xw_917 xw_919 xsel_Z_isVirtual xw_9) rfl rfl rfl (by decide +kernel) ⟨Nat.le_of_ble_eq_true rfl, Nat.le_of_ble_eq_true rfl⟩) ⟨xB_blind, xrecv_Z hK hP, fun U hU hW => xB_mk hP hK hD hE hS (xsubW hD hA hS) hU hW⟩ rfl rfl hl.1 rfl (lv_room (Nat.le_of_ble_eq_true rfl)) xd_Z_enterS_27 ⟨Nat.le_of_ble_eq_true rfl, Nat.le_of_ble_eq_true rfl⟩) hD hA hS (fun r u1 H locs hw hP hD hS => ?_)
  obtain ⟨q3, hq3⟩ : ∃ q, q = xf_Z_isVirtual q1 := ⟨_, rfl⟩
  obtain ⟨e1, e2⟩ := hw
  rw [← hq3] at e1
  obtain rfl : q3 = r := e1.symm
  obtain rfl : q1 = u1 := e2.symm
  have hP : va_P D xCl (xWZ k b q1) H := hP
  have hD : va_D A (xWZ k b q1) := hD
  have hv := xlt_v hq3 hv
  obtain ⟨hn5, hv⟩ := xan_v hv
  refine xcW_v (va_runV (As := [.int 1536, .int 7, .int q3]) (rest := []) ⟨hx, hb, hml, hown, htg⟩ (c_Z_setBit l D z k b H.size q1 (1536 : Int32) (7 : Int32) q3 hn5) (cwV 3 htg (xg_V0 xkin_Z_setBit xw_855 xw_857 xsel_Z_setBit xw_9) rfl rfl rfl (by decide +kernel) ⟨Nat.le_of_ble_eq_true rfl, Nat.le_of_ble_eq_true rfl⟩) ⟨xB_blind, xrecv_Z hK hP, fun U hU hW => xB_mk hP hK hD hE hS (xsubW hD hA hS) hU hW⟩ rfl rfl hl.1 rfl (lv_room (Nat.le_of_ble_eq_true rfl)) xd_Z_enterS_30 ⟨Nat.le_of_ble_eq_true rfl, Nat.le_of_ble_eq_true rfl⟩) hD hA hS (fun u1 H locs hw hP hD hS => ?_)
  obtain ⟨q4, hq4⟩ : ∃ q, q = xf_Z_setBit q1 (1536 : Int32) (7 : Int32) q3 := ⟨_, rfl⟩
  rw [← hq4] at hw
  obtain rfl : q4 = u1 := hw.symm
  have hP : va_P D xCl (xWZ k b q4) H := hP
  have hD : va_D A (xWZ k b q4) := hD
  have hv := xlt_v hq4 hv
  refine lv_aload_n hx hb xd_Z_enterS_33 rfl (lv_at hl 0 rfl) ?_
  refine lv_sipush (v := 1536) hx hb xd_Z_enterS_34 (by decide) ?_
  refine lv_bipush (v := 8) hx hb xd_Z_enterS_37 (by decide) ?_
  refine lv_aload_n hx hb xd_Z_enterS_39 rfl (lv_at hl 0 rfl) ?_
  refine xcW_i (va_runV (As := []) (rest := [.int 8, .int 1536, .ref ((b 0))]) ⟨hx, hb, hml, hown, htg⟩ (c_Z_isVirtual l D z k b H.size q4) (cwV 0 htg (xg_V0 xkin_Z_isVirtual xw_917 xw_919 xsel_Z_isVirtual xw_9) rfl rfl rfl (by decide +kernel) ⟨Nat.le_of_ble_eq_true rfl, Nat.le_of_ble_eq_true rfl⟩) ⟨xB_blind, xrecv_Z hK hP, fun U hU hW => xB_mk hP hK hD hE hS (xsubW hD hA hS) hU hW⟩ rfl rfl hl.1 rfl (lv_room (Nat.le_of_ble_eq_true rfl)) xd_Z_enterS_40 ⟨Nat.le_of_ble_eq_true rfl, Nat.le_of_ble_eq_true rfl⟩) hD hA hS (fun r u1 H locs hw hP hD hS => ?_)
  obtain ⟨q6, hq6⟩ : ∃ q, q = xf_Z_isVirtual q4 := ⟨_, rfl⟩
  obtain ⟨e1, e2⟩ := hw
  rw [← hq6] at e1
  obtain rfl : q6 = r := e1.symm
  obtain rfl : q4 = u1 := e2.symm
  have hP : va_P D xCl (xWZ k b q4) H := hP
  have hD : va_D A (xWZ k b q4) := hD
  have hv := xlt_v hq6 hv
  obtain ⟨hva, hv⟩ := xan_v2 hv
  have hj12 : ∀ (H : Heap) (locs : List Loc) (ls : Array Slot) (v11 : Int32), v11 = (if q6 = 0 then (xlt (xf_Z_bit q4 (1536 : Int32) (8 : Int32) : Int32) fun q8 => q8) else (if (xg_Z_mode q4) = 3 then (1) else (0))) → lv_has ls 4 [(0, .ref ((b 0))), (1, .int p0), (2, .int p1), (3, .int p2)] → va_P D xCl (xWZ k b q4) H → va_D A (xWZ k b q4) → va_S A s.heap H locs → W p l e { frames := 4, cells := 0, slots := 0, locals := 91 } s m args below meth c H locs (0) (0) Q (F0 m 71 ls [.int v11, .int 8, .int 1536, .ref ((b 0))]) := by
    intro H locs ls v11 hv11 hl hP hD hS
    have hv := xlt_v hv11 hv
    obtain ⟨hn14, hv⟩ := xan_v hv
    refine xcW_v (va_runV (As := [.int 1536, .int 8, .int v11]) (rest := []) ⟨hx, hb, hml, hown, htg⟩ (c_Z_setBit l D z k b H.size q4 (1536 : Int32) (8 : Int32) v11 hn14) (cwV 3 htg (xg_V0 xkin_Z_setBit xw_855 xw_857 xsel_Z_setBit xw_9) rfl rfl rfl (by decide +kernel) ⟨Nat.le_of_ble_eq_true rfl, Nat.le_of_ble_eq_true rfl⟩) ⟨xB_blind, xrecv_Z hK hP, fun U hU hW => xB_mk hP hK hD hE hS (xsubW hD hA hS) hU hW⟩ rfl rfl hl.1 rfl (lv_room (Nat.le_of_ble_eq_true rfl)) xd_Z_enterS_71 ⟨Nat.le_of_ble_eq_true rfl, Nat.le_of_ble_eq_true rfl⟩) hD hA hS (fun u1 H locs hw hP hD hS => ?_)
    obtain ⟨q13, hq13⟩ : ∃ q, q = xf_Z_setBit q4 (1536 : Int32) (8 : Int32) v11 := ⟨_, rfl⟩
    rw [← hq13] at hw
    obtain rfl : q13 = u1 := hw.symm
    have hP : va_P D xCl (xWZ k b q13) H := hP
    have hD : va_D A (xWZ k b q13) := hD
    have hv := xlt_v hq13 hv
    refine lv_aload_n hx hb xd_Z_enterS_74 rfl (lv_at hl 0 rfl) ?_
    refine lv_sipush (v := 256) hx hb xd_Z_enterS_75 (by decide) ?_
    refine lv_iload_n hx hb xd_Z_enterS_78 rfl (lv_at hl 1 rfl) ?_
    refine lv_iload_n hx hb xd_Z_enterS_79 rfl (lv_at hl 2 rfl) ?_
    refine lv_iconst (v := 1) hx hb xd_Z_enterS_80 (by decide) ?_
    obtain ⟨hn16, hv⟩ := xan_v hv
    refine xcW_v (va_runV (As := [.int 256, .int p0, .int p1, .int 1]) (rest := []) ⟨hx, hb, hml, hown, htg⟩ (c_Z_enter_256 l D z k b H.size q13 p0 p1 (1 : Int32) hn16) (cwV 4 htg (xg_V0 xkin_Z_enter xw_909 xw_911 xsel_Z_enter xw_9) rfl rfl rfl (by decide +kernel) ⟨Nat.le_of_ble_eq_true rfl, Nat.le_of_ble_eq_true rfl⟩) ⟨xB_blind, xrecv_Z hK hP, fun U hU hW => xB_mk hP hK hD hE hS (xsubW hD hA hS) hU hW⟩ rfl rfl hl.1 rfl (lv_room (Nat.le_of_ble_eq_true rfl)) xd_Z_enterS_81 ⟨Nat.le_of_ble_eq_true rfl, Nat.le_of_ble_eq_true rfl⟩) hD hA hS (fun u1 H locs hw hP hD hS => ?_)
    obtain ⟨q15, hq15⟩ : ∃ q, q = xf_Z_enter_256 q13 p0 p1 (1 : Int32) := ⟨_, rfl⟩
    rw [← hq15] at hw
    obtain rfl : q15 = u1 := hw.symm
    have hP : va_P D xCl (xWZ k b q15) H := hP
    have hD : va_D A (xWZ k b q15) := hD
    have hv := xlt_v hq15 hv
    refine lv_aload_n hx hb xd_Z_enterS_84 rfl (lv_at hl 0 rfl) ?_
    refine lv_sipush (v := 1603) hx hb xd_Z_enterS_85 (by decide) ?_
    refine lv_iconst (v := 0) hx hb xd_Z_enterS_88 (by decide) ?_
    obtain ⟨hn18, hv⟩ := xan_v hv
    refine xcW_v (va_runV (As := [.int 1603, .int 0]) (rest := []) ⟨hx, hb, hml, hown, htg⟩ (c_Z_become l D z k b H.size q15 (1603 : Int32) (0 : Int32) hn18) (cwV 2 htg (xg_V0 xkin_Z_become xw_863 xw_865 xsel_Z_become xw_9) rfl rfl rfl (by decide +kernel) ⟨Nat.le_of_ble_eq_true rfl, Nat.le_of_ble_eq_true rfl⟩) ⟨xB_blind, xrecv_Z hK hP, fun U hU hW => xB_mk hP hK hD hE hS (xsubW hD hA hS) hU hW⟩ rfl rfl hl.1 rfl (lv_room (Nat.le_of_ble_eq_true rfl)) xd_Z_enterS_89 ⟨Nat.le_of_ble_eq_true rfl, Nat.le_of_ble_eq_true rfl⟩) hD hA hS (fun u1 H locs hw hP hD hS => ?_)
    obtain ⟨q17, hq17⟩ : ∃ q, q = xf_Z_become q15 (1603 : Int32) (0 : Int32) := ⟨_, rfl⟩
    rw [← hq17] at hw
    obtain rfl : q17 = u1 := hw.symm
    have hP : va_P D xCl (xWZ k b q17) H := hP
    have hD : va_D A (xWZ k b q17) := hD
    have hv := xlt_v hq17 hv
    refine lv_aload_n hx hb xd_Z_enterS_92 rfl (lv_at hl 0 rfl) ?_
    refine lv_sipush (v := 1610) hx hb xd_Z_enterS_93 (by decide) ?_
    refine lv_iconst (v := 0) hx hb xd_Z_enterS_96 (by decide) ?_
    obtain ⟨hn20, hv⟩ := xan_v hv
    refine xcW_v (va_runV (As := [.int 1610, .int 0]) (rest := []) ⟨hx, hb, hml, hown, htg⟩ (c_Z_become l D z k b H.size q17 (1610 : Int32) (0 : Int32) hn20) (cwV 2 htg (xg_V0 xkin_Z_become xw_863 xw_865 xsel_Z_become xw_9) rfl rfl rfl (by decide +kernel) ⟨Nat.le_of_ble_eq_true rfl, Nat.le_of_ble_eq_true rfl⟩) ⟨xB_blind, xrecv_Z hK hP, fun U hU hW => xB_mk hP hK hD hE hS (xsubW hD hA hS) hU hW⟩ rfl rfl hl.1 rfl (lv_room (Nat.le_of_ble_eq_true rfl)) xd_Z_enterS_97 ⟨Nat.le_of_ble_eq_true rfl, Nat.le_of_ble_eq_true rfl⟩) hD hA hS (fun u1 H locs hw hP hD hS => ?_)
    obtain ⟨q19, hq19⟩ : ∃ q, q = xf_Z_become q17 (1610 : Int32) (0 : Int32) := ⟨_, rfl⟩
    rw [← hq19] at hw
    obtain rfl : q19 = u1 := hw.symm
    have hP : va_P D xCl (xWZ k b q19) H := hP
    have hD : va_D A (xWZ k b q19) := hD
    have hv := xlt_v hq19 hv
    exact hret q19 H locs ls _ (by unfold xf_Z_enterS; exact (xlt_e hq1 (xlt_e hq3 (xlt_e hq4 (xlt_e hq6 (xlt_e hv11 (xlt_e hq13 (xlt_e hq15 (xlt_e hq17 (xlt_e hq19 rfl)))))))))) hP hD hS xd_Z_enterS_100
  have hv := hva
  refine lv_if_eq (tgt := 62) hx hb xd_Z_enterS_43 rfl (fun h21 => ?_) (fun h21 => ?_)
  · have hv := xit_v h21 hv
    refine lv_aload_n hx hb xd_Z_enterS_62 rfl (lv_at hl 0 rfl) ?_
    refine lv_sipush (v := 1536) hx hb xd_Z_enterS_63 (by decide) ?_
    refine lv_bipush (v := 8) hx hb xd_Z_enterS_66 (by decide) ?_
    obtain ⟨hn23, hv⟩ := xan_v hv
    refine xcW_i (va_runV (As := [.int 1536, .int 8]) (rest := [.int 8, .int 1536, .ref ((b 0))]) ⟨hx, hb, hml, hown, htg⟩ (c_Z_bit l D z k b H.size q4 (1536 : Int32) (8 : Int32) hn23) (cwV 2 htg (xg_V0 xkin_Z_bit xw_867 xw_869 xsel_Z_bit xw_9) rfl rfl rfl (by decide +kernel) ⟨Nat.le_of_ble_eq_true rfl, Nat.le_of_ble_eq_true rfl⟩) ⟨xB_blind, xrecv_Z hK hP, fun U hU hW => xB_mk hP hK hD hE hS (xsubW hD hA hS) hU hW⟩ rfl rfl hl.1 rfl (lv_room (Nat.le_of_ble_eq_true rfl)) xd_Z_enterS_68 ⟨Nat.le_of_ble_eq_true rfl, Nat.le_of_ble_eq_true rfl⟩) hD hA hS (fun r u1 H locs hw hP hD hS => ?_)
    obtain ⟨q22, hq22⟩ : ∃ q, q = xf_Z_bit q4 (1536 : Int32) (8 : Int32) := ⟨_, rfl⟩
    obtain ⟨e1, e2⟩ := hw
    rw [← hq22] at e1
    obtain rfl : q22 = r := e1.symm
    obtain rfl : q4 = u1 := e2.symm
    have hP : va_P D xCl (xWZ k b q4) H := hP
    have hD : va_D A (xWZ k b q4) := hD
    have hv := xlt_v hq22 hv
    exact hj12 H locs ls q22 (xit h21 (xlt_e hq22 rfl)) hl hP hD hS
  · have hv := xif_v h21 hv
    refine lv_aload_n hx hb xd_Z_enterS_46 rfl (lv_at hl 0 rfl) ?_
    refine xget_Z_mode (v := (xg_Z_mode q4)) hx hb htg hown hK hP (htg _ xw_731) rfl xd_Z_enterS_47 ?_
    refine lv_iconst (v := 3) hx hb xd_Z_enterS_50 (by decide) ?_
    refine lv_icmp_ne (tgt := 58) hx hb xd_Z_enterS_51 rfl (fun h24 => ?_) (fun h24 => ?_)
    · have hv := xif_v h24 hv
      refine lv_iconst (v := 0) hx hb xd_Z_enterS_58 (by decide) ?_
      refine lv_goto (tgt := 71) hx hb xd_Z_enterS_59 rfl ?_
      exact hj12 H locs ls (0 : Int32) (xif h21 (xif h24 rfl)) hl hP hD hS
    · have hv := xit_v h24 hv
      refine lv_iconst (v := 1) hx hb xd_Z_enterS_54 (by decide) ?_
      refine lv_goto (tgt := 71) hx hb xd_Z_enterS_55 rfl ?_
      exact hj12 H locs ls (1 : Int32) (xif h21 (xit h24 rfl)) hl hP hD hS

noncomputable def xf_Z_entryAt_2 (u : XZ) (p1 : Int64) : Int64 × XZ :=
  xlt (xf_Z_inMemory u p1 : Int64 × XZ) fun q1 =>
  xlt (if 0 ≤ (lg_cmp q1.1 (0 : Int64)) then (xlt (xf_Z_word q1.2 q1.1 : Int32) fun q4 => ((Int32.toInt64 q4) &&& (4294967295 : Int64))) else ((-1)) : Int64) fun v6 =>
  (v6, q1.2)
def xv_Z_entryAt_2 (u : XZ) (p1 : Int64) : Prop := XVc (
  (xv_Z_inMemory u p1) ∧
  xlt (xf_Z_inMemory u p1 : Int64 × XZ) fun q1 =>
  (if 0 ≤ (lg_cmp q1.1 (0 : Int64)) then ((xv_Z_word q1.2 q1.1) ∧ (xlt (xf_Z_word q1.2 q1.1 : Int32) fun q4 => True)) else (True)) ∧
  xlt (if 0 ≤ (lg_cmp q1.1 (0 : Int64)) then (xlt (xf_Z_word q1.2 q1.1 : Int32) fun q4 => ((Int32.toInt64 q4) &&& (4294967295 : Int64))) else ((-1)) : Int64) fun v6 =>
  True)
set_option maxHeartbeats 4000000 in
set_option maxRecDepth 100000 in
theorem c_Z_entryAt_2 (l : Launch) (D : va_G) (z : (Nat → Nat) × (Nat → Nat)) (k : ClassId × ClassId) (b : Nat → Nat) (sz : Nat) (u : XZ) (p1 : Int64) (hv : xv_Z_entryAt_2 u p1) : Met l xy_Z_entryAt (xk_Z_entryAt :: lw_g) { frames := 2, cells := 0, slots := 0, locals := 46 } (va_Pc [.ref ((b 0)), .int 2, .long p1] (xB D (xTy k) z sz (xWZ k b u))) (va_Ql (fun r (q : XZ) => (r, q) = xf_Z_entryAt_2 u p1) (fun q t => xQ D (xTy k) (xWZ k b q) (va_A (xWZ k b u) sz) t) (va_A (xWZ k b u) sz)) 0 0 (va_A (xWZ k b u) sz) := by
  refine xopen_l (wf := fun q : XZ => xWZ k b q) (lv := [(0, .ref ((b 0))), (1, .int 2), (2, .long p1)]) (by decide) rfl (Nat.le_of_ble_eq_true rfl) ?_
  intro p e s m args below meth c Q ls A H locs hx hb hml htg hown hin hK hP hD hE hS hA hl hret
  unfold xv_Z_entryAt_2 at hv
  refine lv_iload_n hx hb xd_Z_entryAt_0 rfl (lv_at hl 1 rfl) ?_
  refine lv_iconst (v := 1) hx hb xd_Z_entryAt_1 (by decide) ?_
  refine lv_icmp_ne (tgt := 14) hx hb xd_Z_entryAt_2 rfl (fun _ => ?_) (fun h => absurd h (by decide))
  refine lv_aload_n hx hb xd_Z_entryAt_14 rfl (lv_at hl 0 rfl) ?_
  refine lv_lload_n hx hb xd_Z_entryAt_15 rfl (lv_at hl 2 rfl) ?_
  obtain ⟨hn2, hv⟩ := xan_v hv
  refine xcW_l (va_runV (As := [.long p1]) (rest := []) ⟨hx, hb, hml, hown, htg⟩ (c_Z_inMemory l D z k b H.size u p1 hn2) (cwV 1 htg (xg_V0 xkin_Z_inMemory xw_954 xw_956 xsel_Z_inMemory xw_9) rfl rfl rfl (by decide +kernel) ⟨Nat.le_of_ble_eq_true rfl, Nat.le_of_ble_eq_true rfl⟩) ⟨xB_blind, xrecv_Z hK hP, fun U hU hW => xB_mk hP hK hD hE hS (xsubW hD hA hS) hU hW⟩ rfl rfl hl.1 rfl (lv_room (Nat.le_of_ble_eq_true rfl)) xd_Z_entryAt_16 ⟨Nat.le_of_ble_eq_true rfl, Nat.le_of_ble_eq_true rfl⟩) hD hA hS (fun r u1 H locs hw hP hD hS => ?_)
  obtain ⟨q1, hq1⟩ : ∃ q, q = xf_Z_inMemory u p1 := ⟨_, rfl⟩
  rw [← hq1] at hw
  obtain rfl : r = q1.1 := congrArg Prod.fst hw
  obtain rfl : u1 = q1.2 := congrArg Prod.snd hw
  have hP : va_P D xCl (xWZ k b q1.2) H := hP
  have hD : va_D A (xWZ k b q1.2) := hD
  have hv := xlt_v hq1 hv
  refine lv_lstore (lv' := [(4, .long (q1.1)), (0, .ref ((b 0))), (1, .int 2), (2, .long p1)]) hx hb xd_Z_entryAt_19 hl (by decide) rfl (fun ls hl => ?_)
  refine lv_lload hx hb xd_Z_entryAt_21 (lv_at hl 0 rfl) ?_
  refine lv_lconst (v := 0) hx hb xd_Z_entryAt_23 (by decide) ?_
  refine W.lcmp hx hb xd_Z_entryAt_24 ?_
  obtain ⟨hva, hv⟩ := xan_v2 hv
  have hj7 : ∀ (H : Heap) (locs : List Loc) (ls : Array Slot) (v6 : Int64), v6 = (if 0 ≤ (lg_cmp q1.1 (0 : Int64)) then (xlt (xf_Z_word q1.2 q1.1 : Int32) fun q4 => ((Int32.toInt64 q4) &&& (4294967295 : Int64))) else ((-1))) → lv_has ls 6 [(4, .long (q1.1)), (0, .ref ((b 0))), (1, .int 2), (2, .long p1)] → va_P D xCl (xWZ k b q1.2) H → va_D A (xWZ k b q1.2) → va_S A s.heap H locs → W p l e { frames := 2, cells := 0, slots := 0, locals := 46 } s m args below meth c H locs (0) (0) Q (F0 m 45 ls [.long v6]) := by
    intro H locs ls v6 hv6 hl hP hD hS
    have hv := xlt_v hv6 hv
    exact hret _ q1.2 H locs ls _ (by unfold xf_Z_entryAt_2; exact (xlt_e hq1 (xlt_e hv6 rfl))) hP hD hS xd_Z_entryAt_45
  have hv := hva
  refine lv_if_ge (tgt := 34) hx hb xd_Z_entryAt_25 rfl (fun h8 => ?_) (fun h8 => ?_)
  · have hv := xit_v h8 hv
    refine lv_aload_n hx hb xd_Z_entryAt_34 rfl (lv_at hl 1 rfl) ?_
    refine lv_lload hx hb xd_Z_entryAt_35 (lv_at hl 0 rfl) ?_
    obtain ⟨hn10, hv⟩ := xan_v hv
    refine xcW_i (va_runV (As := [.long (q1.1)]) (rest := []) ⟨hx, hb, hml, hown, htg⟩ (c_Z_word l D z k b H.size q1.2 q1.1 hn10) (cwV 1 htg (xg_V0 xkin_Z_word xw_959 xw_961 xsel_Z_word xw_9) rfl rfl rfl (by decide +kernel) ⟨Nat.le_of_ble_eq_true rfl, Nat.le_of_ble_eq_true rfl⟩) ⟨xB_blind, xrecv_Z hK hP, fun U hU hW => xB_mk hP hK hD hE hS (xsubW hD hA hS) hU hW⟩ rfl rfl hl.1 rfl (lv_room (Nat.le_of_ble_eq_true rfl)) xd_Z_entryAt_37 ⟨Nat.le_of_ble_eq_true rfl, Nat.le_of_ble_eq_true rfl⟩) hD hA hS (fun r u1 H locs hw hP hD hS => ?_)
    obtain ⟨q9, hq9⟩ : ∃ q, q = xf_Z_word q1.2 q1.1 := ⟨_, rfl⟩
    obtain ⟨e1, e2⟩ := hw
    rw [← hq9] at e1
    obtain rfl : q9 = r := e1.symm
    obtain rfl : q1.2 = u1 := e2.symm
    have hP : va_P D xCl (xWZ k b q1.2) H := hP
    have hD : va_D A (xWZ k b q1.2) := hD
    have hv := xlt_v hq9 hv
    refine lv_i2l (v := (Int32.toInt64 q9)) hx hb xd_Z_entryAt_40 rfl ?_
    refine lv_ldc2 (v := 4294967295) hx hb hown (htg _ xw_887) xd_Z_entryAt_41 ?_
    refine lv_land hx hb xd_Z_entryAt_44 ?_
    exact hj7 H locs ls ((Int32.toInt64 q9) &&& (4294967295 : Int64)) (xit h8 (xlt_e hq9 rfl)) hl hP hD hS
  · have hv := xif_v h8 hv
    refine lv_ldc2 (v := (-1)) hx hb hown (htg _ xw_937) xd_Z_entryAt_28 ?_
    refine lv_goto (tgt := 45) hx hb xd_Z_entryAt_31 rfl ?_
    exact hj7 H locs ls (-1 : Int64) (xif h8 rfl) hl hP hD hS

noncomputable def xf_Z_walk_2 (u : XZ) (p1 : Int64) (p2 : Int64) (p3 : Int32) : Int64 × XZ :=
  xlt (xf_Z_entryAt_2 u (p1 + ((4 : Int64) * (p2 >>> (Int32.toInt64 (22 : Int32) &&& 63)))) : Int64 × XZ) fun q1 =>
  if 0 ≤ (lg_cmp q1.1 (0 : Int64)) then
    xlt (if (lg_cmp (q1.1 &&& (14 : Int64)) (0 : Int64)) = 0 then (0) else (1) : Int32) fun v5 =>
    if v5 = 0 then
      if (lg_cmp (q1.1 &&& (1 : Int64)) (0 : Int64)) = 0 then
        xlt (xf_Z_stageFault q1.2 (2 : Int32) p2 p3 : Int64 × XZ) fun q30 =>
        (q30.1, q30.2)
      else
        if (lg_cmp (q1.1 &&& (208 : Int64)) (0 : Int64)) = 0 then
          xlt (xf_Z_entryAt_2 q1.2 (((q1.1 / (1024 : Int64)) * (4096 : Int64)) + ((4 : Int64) * ((p2 >>> (Int32.toInt64 (12 : Int32) &&& 63)) &&& (1023 : Int64)))) : Int64 × XZ) fun q33 =>
          if 0 ≤ (lg_cmp q33.1 (0 : Int64)) then
            xlt (xf_Z_isAllowed q33.2 (2 : Int32) (Int64.toInt32 q33.1) p3 : Int32) fun q36 =>
            if q36 = 0 then
              xlt (xf_Z_stageFault q33.2 (2 : Int32) p2 p3 : Int64 × XZ) fun q39 =>
              (q39.1, q39.2)
            else
              if v5 = 0 then
                xlt (if v5 = 0 then ((((q33.1 / (1024 : Int64)) * (4096 : Int64)) + (p2 &&& (4095 : Int64)))) else (((((q33.1 / (1024 : Int64)) / (1024 : Int64)) <<< (Int32.toInt64 (22 : Int32) &&& 63)) + (p2 &&& (4194303 : Int64)))) : Int64) fun v43 =>
                xlt (xf_Z_inMemory q33.2 v43 : Int64 × XZ) fun q45 =>
                (q45.1, q45.2)
              else
                if (lg_cmp ((q33.1 >>> (Int32.toInt64 (10 : Int32) &&& 63)) &&& (1023 : Int64)) (0 : Int64)) = 0 then
                  xlt (if v5 = 0 then ((((q33.1 / (1024 : Int64)) * (4096 : Int64)) + (p2 &&& (4095 : Int64)))) else (((((q33.1 / (1024 : Int64)) / (1024 : Int64)) <<< (Int32.toInt64 (22 : Int32) &&& 63)) + (p2 &&& (4194303 : Int64)))) : Int64) fun v50 =>
                  xlt (xf_Z_inMemory q33.2 v50 : Int64 × XZ) fun q52 =>
                  (q52.1, q52.2)
                else
                  xlt (xf_Z_stageFault q33.2 (2 : Int32) p2 p3 : Int64 × XZ) fun q55 =>
                  (q55.1, q55.2)
          else
            ((-1), q33.2)
        else
          xlt (xf_Z_stageFault q1.2 (2 : Int32) p2 p3 : Int64 × XZ) fun q57 =>
          (q57.1, q57.2)
    else
      xlt (xf_Z_isAllowed q1.2 (2 : Int32) (Int64.toInt32 q1.1) p3 : Int32) fun q8 =>
      if q8 = 0 then
        xlt (xf_Z_stageFault q1.2 (2 : Int32) p2 p3 : Int64 × XZ) fun q11 =>
        (q11.1, q11.2)
      else
        if v5 = 0 then
          xlt (if v5 = 0 then ((((q1.1 / (1024 : Int64)) * (4096 : Int64)) + (p2 &&& (4095 : Int64)))) else (((((q1.1 / (1024 : Int64)) / (1024 : Int64)) <<< (Int32.toInt64 (22 : Int32) &&& 63)) + (p2 &&& (4194303 : Int64)))) : Int64) fun v15 =>
          xlt (xf_Z_inMemory q1.2 v15 : Int64 × XZ) fun q17 =>
          (q17.1, q17.2)
        else
          if (lg_cmp ((q1.1 >>> (Int32.toInt64 (10 : Int32) &&& 63)) &&& (1023 : Int64)) (0 : Int64)) = 0 then
            xlt (if v5 = 0 then ((((q1.1 / (1024 : Int64)) * (4096 : Int64)) + (p2 &&& (4095 : Int64)))) else (((((q1.1 / (1024 : Int64)) / (1024 : Int64)) <<< (Int32.toInt64 (22 : Int32) &&& 63)) + (p2 &&& (4194303 : Int64)))) : Int64) fun v22 =>
            xlt (xf_Z_inMemory q1.2 v22 : Int64 × XZ) fun q24 =>
            (q24.1, q24.2)
          else
            xlt (xf_Z_stageFault q1.2 (2 : Int32) p2 p3 : Int64 × XZ) fun q27 =>
            (q27.1, q27.2)
  else
    ((-1), q1.2)
def xv_Z_walk_2 (u : XZ) (p1 : Int64) (p2 : Int64) (p3 : Int32) : Prop := XVc (
  (xv_Z_entryAt_2 u (p1 + ((4 : Int64) * (p2 >>> (Int32.toInt64 (22 : Int32) &&& 63))))) ∧
  xlt (xf_Z_entryAt_2 u (p1 + ((4 : Int64) * (p2 >>> (Int32.toInt64 (22 : Int32) &&& 63)))) : Int64 × XZ) fun q1 =>
  if 0 ≤ (lg_cmp q1.1 (0 : Int64)) then
    xlt (if (lg_cmp (q1.1 &&& (14 : Int64)) (0 : Int64)) = 0 then (0) else (1) : Int32) fun v5 =>
    if v5 = 0 then
      if (lg_cmp (q1.1 &&& (1 : Int64)) (0 : Int64)) = 0 then
        (xv_Z_stageFault q1.2 (2 : Int32) p2 p3) ∧
        xlt (xf_Z_stageFault q1.2 (2 : Int32) p2 p3 : Int64 × XZ) fun q30 =>
        True
      else
        if (lg_cmp (q1.1 &&& (208 : Int64)) (0 : Int64)) = 0 then
          (xv_Z_entryAt_2 q1.2 (((q1.1 / (1024 : Int64)) * (4096 : Int64)) + ((4 : Int64) * ((p2 >>> (Int32.toInt64 (12 : Int32) &&& 63)) &&& (1023 : Int64))))) ∧
          xlt (xf_Z_entryAt_2 q1.2 (((q1.1 / (1024 : Int64)) * (4096 : Int64)) + ((4 : Int64) * ((p2 >>> (Int32.toInt64 (12 : Int32) &&& 63)) &&& (1023 : Int64)))) : Int64 × XZ) fun q33 =>
          if 0 ≤ (lg_cmp q33.1 (0 : Int64)) then
            (xv_Z_isAllowed q33.2 (2 : Int32) (Int64.toInt32 q33.1) p3) ∧
            xlt (xf_Z_isAllowed q33.2 (2 : Int32) (Int64.toInt32 q33.1) p3 : Int32) fun q36 =>
            if q36 = 0 then
              (xv_Z_stageFault q33.2 (2 : Int32) p2 p3) ∧
              xlt (xf_Z_stageFault q33.2 (2 : Int32) p2 p3 : Int64 × XZ) fun q39 =>
              True
            else
              if v5 = 0 then
                xlt (if v5 = 0 then ((((q33.1 / (1024 : Int64)) * (4096 : Int64)) + (p2 &&& (4095 : Int64)))) else (((((q33.1 / (1024 : Int64)) / (1024 : Int64)) <<< (Int32.toInt64 (22 : Int32) &&& 63)) + (p2 &&& (4194303 : Int64)))) : Int64) fun v43 =>
                (xv_Z_inMemory q33.2 v43) ∧
                xlt (xf_Z_inMemory q33.2 v43 : Int64 × XZ) fun q45 =>
                True
              else
                if (lg_cmp ((q33.1 >>> (Int32.toInt64 (10 : Int32) &&& 63)) &&& (1023 : Int64)) (0 : Int64)) = 0 then
                  xlt (if v5 = 0 then ((((q33.1 / (1024 : Int64)) * (4096 : Int64)) + (p2 &&& (4095 : Int64)))) else (((((q33.1 / (1024 : Int64)) / (1024 : Int64)) <<< (Int32.toInt64 (22 : Int32) &&& 63)) + (p2 &&& (4194303 : Int64)))) : Int64) fun v50 =>
                  (xv_Z_inMemory q33.2 v50) ∧
                  xlt (xf_Z_inMemory q33.2 v50 : Int64 × XZ) fun q52 =>
                  True
                else
                  (xv_Z_stageFault q33.2 (2 : Int32) p2 p3) ∧
                  xlt (xf_Z_stageFault q33.2 (2 : Int32) p2 p3 : Int64 × XZ) fun q55 =>
                  True
          else
            True
        else
          (xv_Z_stageFault q1.2 (2 : Int32) p2 p3) ∧
          xlt (xf_Z_stageFault q1.2 (2 : Int32) p2 p3 : Int64 × XZ) fun q57 =>
          True
    else
      (xv_Z_isAllowed q1.2 (2 : Int32) (Int64.toInt32 q1.1) p3) ∧
      xlt (xf_Z_isAllowed q1.2 (2 : Int32) (Int64.toInt32 q1.1) p3 : Int32) fun q8 =>
      if q8 = 0 then
        (xv_Z_stageFault q1.2 (2 : Int32) p2 p3) ∧
        xlt (xf_Z_stageFault q1.2 (2 : Int32) p2 p3 : Int64 × XZ) fun q11 =>
        True
      else
        if v5 = 0 then
          xlt (if v5 = 0 then ((((q1.1 / (1024 : Int64)) * (4096 : Int64)) + (p2 &&& (4095 : Int64)))) else (((((q1.1 / (1024 : Int64)) / (1024 : Int64)) <<< (Int32.toInt64 (22 : Int32) &&& 63)) + (p2 &&& (4194303 : Int64)))) : Int64) fun v15 =>
          (xv_Z_inMemory q1.2 v15) ∧
          xlt (xf_Z_inMemory q1.2 v15 : Int64 × XZ) fun q17 =>
          True
        else
          if (lg_cmp ((q1.1 >>> (Int32.toInt64 (10 : Int32) &&& 63)) &&& (1023 : Int64)) (0 : Int64)) = 0 then
            xlt (if v5 = 0 then ((((q1.1 / (1024 : Int64)) * (4096 : Int64)) + (p2 &&& (4095 : Int64)))) else (((((q1.1 / (1024 : Int64)) / (1024 : Int64)) <<< (Int32.toInt64 (22 : Int32) &&& 63)) + (p2 &&& (4194303 : Int64)))) : Int64) fun v22 =>
            (xv_Z_inMemory q1.2 v22) ∧
            xlt (xf_Z_inMemory q1.2 v22 : Int64 × XZ) fun q24 =>
            True
          else
            (xv_Z_stageFault q1.2 (2 : Int32) p2 p3) ∧
            xlt (xf_Z_stageFault q1.2 (2 : Int32) p2 p3 : Int64 × XZ) fun q27 =>
            True
  else
    True)
set_option maxHeartbeats 4000000 in
set_option maxRecDepth 100000 in
theorem c_Z_walk_2 (l : Launch) (D : va_G) (z : (Nat → Nat) × (Nat → Nat)) (k : ClassId × ClassId) (b : Nat → Nat) (sz : Nat) (u : XZ) (p1 : Int64) (p2 : Int64) (p3 : Int32) (hv : xv_Z_walk_2 u p1 p2 p3) : Met l xy_Z_walk (xk_Z_walk :: lw_g) { frames := 4, cells := 0, slots := 0, locals := 99 } (va_Pc [.ref ((b 0)), .int 2, .long p1, .long p2, .int p3] (xB D (xTy k) z sz (xWZ k b u))) (va_Ql (fun r (q : XZ) => (r, q) = xf_Z_walk_2 u p1 p2 p3) (fun q t => xQ D (xTy k) (xWZ k b q) (va_A (xWZ k b u) sz) t) (va_A (xWZ k b u) sz)) 0 0 (va_A (xWZ k b u) sz) := by
  refine xopen_l (wf := fun q : XZ => xWZ k b q) (lv := [(0, .ref ((b 0))), (1, .int 2), (2, .long p1), (4, .long p2), (6, .int p3)]) (by decide) rfl (Nat.le_of_ble_eq_true rfl) ?_
  intro p e s m args below meth c Q ls A H locs hx hb hml htg hown hin hK hP hD hE hS hA hl hret
  unfold xv_Z_walk_2 at hv
  refine lv_lload hx hb xd_Z_walk_0 (lv_at hl 3 rfl) ?_
  refine lv_bipush (v := 22) hx hb xd_Z_walk_2 (by decide) ?_
  refine lv_lshr (v := (p2 >>> (Int32.toInt64 (22 : Int32) &&& 63))) hx hb xd_Z_walk_4 rfl ?_
  refine lv_lstore (lv' := [(7, .long ((p2 >>> (Int32.toInt64 (22 : Int32) &&& 63)))), (0, .ref ((b 0))), (1, .int 2), (2, .long p1), (4, .long p2), (6, .int p3)]) hx hb xd_Z_walk_5 hl (by decide) rfl (fun ls hl => ?_)
  refine lv_aload_n hx hb xd_Z_walk_7 rfl (lv_at hl 1 rfl) ?_
  refine lv_iload_n hx hb xd_Z_walk_8 rfl (lv_at hl 2 rfl) ?_
  refine lv_lload_n hx hb xd_Z_walk_9 rfl (lv_at hl 3 rfl) ?_
  refine lv_ldc2 (v := 4) hx hb hown (htg _ xw_944) xd_Z_walk_10 ?_
  refine lv_lload hx hb xd_Z_walk_13 (lv_at hl 0 rfl) ?_
  refine lv_lmul hx hb xd_Z_walk_15 ?_
  refine lv_ladd hx hb xd_Z_walk_16 ?_
  obtain ⟨hn2, hv⟩ := xan_v hv
  refine xcW_l (va_runV (As := [.int 2, .long ((p1 + ((4 : Int64) * (p2 >>> (Int32.toInt64 (22 : Int32) &&& 63)))))]) (rest := []) ⟨hx, hb, hml, hown, htg⟩ (c_Z_entryAt_2 l D z k b H.size u (p1 + ((4 : Int64) * (p2 >>> (Int32.toInt64 (22 : Int32) &&& 63)))) hn2) (cwV 2 htg (xg_V0 xkin_Z_entryAt xw_945 xw_947 xsel_Z_entryAt xw_9) rfl rfl rfl (by decide +kernel) ⟨Nat.le_of_ble_eq_true rfl, Nat.le_of_ble_eq_true rfl⟩) ⟨xB_blind, xrecv_Z hK hP, fun U hU hW => xB_mk hP hK hD hE hS (xsubW hD hA hS) hU hW⟩ rfl rfl hl.1 rfl (lv_room (Nat.le_of_ble_eq_true rfl)) xd_Z_walk_17 ⟨Nat.le_of_ble_eq_true rfl, Nat.le_of_ble_eq_true rfl⟩) hD hA hS (fun r u1 H locs hw hP hD hS => ?_)
  obtain ⟨q1, hq1⟩ : ∃ q, q = xf_Z_entryAt_2 u (p1 + ((4 : Int64) * (p2 >>> (Int32.toInt64 (22 : Int32) &&& 63)))) := ⟨_, rfl⟩
  rw [← hq1] at hw
  obtain rfl : r = q1.1 := congrArg Prod.fst hw
  obtain rfl : u1 = q1.2 := congrArg Prod.snd hw
  have hP : va_P D xCl (xWZ k b q1.2) H := hP
  have hD : va_D A (xWZ k b q1.2) := hD
  have hv := xlt_v hq1 hv
  refine lv_lstore (lv' := [(9, .long (q1.1)), (7, .long ((p2 >>> (Int32.toInt64 (22 : Int32) &&& 63)))), (0, .ref ((b 0))), (1, .int 2), (2, .long p1), (4, .long p2), (6, .int p3)]) hx hb xd_Z_walk_20 hl (by decide) rfl (fun ls hl => ?_)
  refine lv_lload hx hb xd_Z_walk_22 (lv_at hl 0 rfl) ?_
  refine lv_lconst (v := 0) hx hb xd_Z_walk_24 (by decide) ?_
  refine W.lcmp hx hb xd_Z_walk_25 ?_
  refine lv_if_ge (tgt := 33) hx hb xd_Z_walk_26 rfl (fun h3 => ?_) (fun h3 => ?_)
  · have hv := xit_v h3 hv
    refine lv_lload hx hb xd_Z_walk_33 (lv_at hl 0 rfl) ?_
    refine lv_ldc2 (v := 14) hx hb hown (htg _ xw_963) xd_Z_walk_35 ?_
    refine lv_land hx hb xd_Z_walk_38 ?_
    refine lv_lconst (v := 0) hx hb xd_Z_walk_39 (by decide) ?_
    refine W.lcmp hx hb xd_Z_walk_40 ?_
    have hj6 : ∀ (H : Heap) (locs : List Loc) (ls : Array Slot) (v5 : Int32), v5 = (if (lg_cmp (q1.1 &&& (14 : Int64)) (0 : Int64)) = 0 then (0) else (1)) → lv_has ls 16 [(9, .long (q1.1)), (7, .long ((p2 >>> (Int32.toInt64 (22 : Int32) &&& 63)))), (0, .ref ((b 0))), (1, .int 2), (2, .long p1), (4, .long p2), (6, .int p3)] → va_P D xCl (xWZ k b q1.2) H → va_D A (xWZ k b q1.2) → va_S A s.heap H locs → W p l e { frames := 4, cells := 0, slots := 0, locals := 99 } s m args below meth c H locs (0) (0) Q (F0 m 49 ls [.int v5]) := by
      intro H locs ls v5 hv5 hl hP hD hS
      have hv := xlt_v hv5 hv
      refine lv_istore (lv' := [(11, .int v5), (9, .long (q1.1)), (7, .long ((p2 >>> (Int32.toInt64 (22 : Int32) &&& 63)))), (0, .ref ((b 0))), (1, .int 2), (2, .long p1), (4, .long p2), (6, .int p3)]) hx hb xd_Z_walk_49 hl (by decide) rfl (fun ls hl => ?_)
      refine lv_iload hx hb xd_Z_walk_51 (lv_at hl 0 rfl) ?_
      refine lv_if_ne (tgt := 128) hx hb xd_Z_walk_53 rfl (fun h7 => ?_) (fun h7 => ?_)
      · have hv := xif_v h7 hv
        refine lv_aload_n hx hb xd_Z_walk_128 rfl (lv_at hl 3 rfl) ?_
        refine lv_iload_n hx hb xd_Z_walk_129 rfl (lv_at hl 4 rfl) ?_
        refine lv_lload hx hb xd_Z_walk_130 (lv_at hl 1 rfl) ?_
        refine lv_l2i (v := (Int64.toInt32 q1.1)) hx hb xd_Z_walk_132 rfl ?_
        refine lv_iload hx hb xd_Z_walk_133 (lv_at hl 7 rfl) ?_
        obtain ⟨hn9, hv⟩ := xan_v hv
        refine xcW_i (va_runV (As := [.int 2, .int ((Int64.toInt32 q1.1)), .int p3]) (rest := []) ⟨hx, hb, hml, hown, htg⟩ (c_Z_isAllowed l D z k b H.size q1.2 (2 : Int32) (Int64.toInt32 q1.1) p3 hn9) (cwV 3 htg (xg_V0 xkin_Z_isAllowed xw_971 xw_973 xsel_Z_isAllowed xw_9) rfl rfl rfl (by decide +kernel) ⟨Nat.le_of_ble_eq_true rfl, Nat.le_of_ble_eq_true rfl⟩) ⟨xB_blind, xrecv_Z hK hP, fun U hU hW => xB_mk hP hK hD hE hS (xsubW hD hA hS) hU hW⟩ rfl rfl hl.1 rfl (lv_room (Nat.le_of_ble_eq_true rfl)) xd_Z_walk_135 ⟨Nat.le_of_ble_eq_true rfl, Nat.le_of_ble_eq_true rfl⟩) hD hA hS (fun r u1 H locs hw hP hD hS => ?_)
        obtain ⟨q8, hq8⟩ : ∃ q, q = xf_Z_isAllowed q1.2 (2 : Int32) (Int64.toInt32 q1.1) p3 := ⟨_, rfl⟩
        obtain ⟨e1, e2⟩ := hw
        rw [← hq8] at e1
        obtain rfl : q8 = r := e1.symm
        obtain rfl : q1.2 = u1 := e2.symm
        have hP : va_P D xCl (xWZ k b q1.2) H := hP
        have hD : va_D A (xWZ k b q1.2) := hD
        have hv := xlt_v hq8 hv
        refine lv_if_eq (tgt := 160) hx hb xd_Z_walk_138 rfl (fun h10 => ?_) (fun h10 => ?_)
        · have hv := xit_v h10 hv
          refine lv_aload_n hx hb xd_Z_walk_160 rfl (lv_at hl 3 rfl) ?_
          refine lv_iload_n hx hb xd_Z_walk_161 rfl (lv_at hl 4 rfl) ?_
          refine lv_lload hx hb xd_Z_walk_162 (lv_at hl 6 rfl) ?_
          refine lv_iload hx hb xd_Z_walk_164 (lv_at hl 7 rfl) ?_
          obtain ⟨hn12, hv⟩ := xan_v hv
          refine xcW_l (va_runV (As := [.int 2, .long p2, .int p3]) (rest := []) ⟨hx, hb, hml, hown, htg⟩ (c_Z_stageFault l D z k b H.size q1.2 (2 : Int32) p2 p3 hn12) (cwV 3 htg (xg_V0 xkin_Z_stageFault xw_965 xw_967 xsel_Z_stageFault xw_9) rfl rfl rfl (by decide +kernel) ⟨Nat.le_of_ble_eq_true rfl, Nat.le_of_ble_eq_true rfl⟩) ⟨xB_blind, xrecv_Z hK hP, fun U hU hW => xB_mk hP hK hD hE hS (xsubW hD hA hS) hU hW⟩ rfl rfl hl.1 rfl (lv_room (Nat.le_of_ble_eq_true rfl)) xd_Z_walk_166 ⟨Nat.le_of_ble_eq_true rfl, Nat.le_of_ble_eq_true rfl⟩) hD hA hS (fun r u1 H locs hw hP hD hS => ?_)
          obtain ⟨q11, hq11⟩ : ∃ q, q = xf_Z_stageFault q1.2 (2 : Int32) p2 p3 := ⟨_, rfl⟩
          rw [← hq11] at hw
          obtain rfl : r = q11.1 := congrArg Prod.fst hw
          obtain rfl : u1 = q11.2 := congrArg Prod.snd hw
          have hP : va_P D xCl (xWZ k b q11.2) H := hP
          have hD : va_D A (xWZ k b q11.2) := hD
          have hv := xlt_v hq11 hv
          exact hret _ q11.2 H locs ls _ (by unfold xf_Z_walk_2; exact (xlt_e hq1 (xit h3 (xlt_e hv5 (xif h7 (xlt_e hq8 (xit h10 (xlt_e hq11 rfl)))))))) hP hD hS xd_Z_walk_169
        · have hv := xif_v h10 hv
          refine lv_iload hx hb xd_Z_walk_141 (lv_at hl 0 rfl) ?_
          refine lv_if_eq (tgt := 170) hx hb xd_Z_walk_143 rfl (fun h13 => ?_) (fun h13 => ?_)
          · have hv := xit_v h13 hv
            refine lv_lload hx hb xd_Z_walk_170 (lv_at hl 1 rfl) ?_
            refine lv_ldc2 (v := 1024) hx hb hown (htg _ xw_969) xd_Z_walk_172 ?_
            refine lv_ldiv hx hb xd_Z_walk_175 (by decide) ?_
            refine lv_lstore (lv' := [(12, .long ((q1.1 / (1024 : Int64)))), (11, .int v5), (9, .long (q1.1)), (7, .long ((p2 >>> (Int32.toInt64 (22 : Int32) &&& 63)))), (0, .ref ((b 0))), (1, .int 2), (2, .long p1), (4, .long p2), (6, .int p3)]) hx hb xd_Z_walk_176 hl (by decide) rfl (fun ls hl => ?_)
            refine lv_iload hx hb xd_Z_walk_178 (lv_at hl 1 rfl) ?_
            have hj16 : ∀ (H : Heap) (locs : List Loc) (ls : Array Slot) (v15 : Int64), v15 = (if v5 = 0 then ((((q1.1 / (1024 : Int64)) * (4096 : Int64)) + (p2 &&& (4095 : Int64)))) else (((((q1.1 / (1024 : Int64)) / (1024 : Int64)) <<< (Int32.toInt64 (22 : Int32) &&& 63)) + (p2 &&& (4194303 : Int64))))) → lv_has ls 16 [(12, .long ((q1.1 / (1024 : Int64)))), (11, .int v5), (9, .long (q1.1)), (7, .long ((p2 >>> (Int32.toInt64 (22 : Int32) &&& 63)))), (0, .ref ((b 0))), (1, .int 2), (2, .long p1), (4, .long p2), (6, .int p3)] → va_P D xCl (xWZ k b q1.2) H → va_D A (xWZ k b q1.2) → va_S A s.heap H locs → W p l e { frames := 4, cells := 0, slots := 0, locals := 99 } s m args below meth c H locs (0) (0) Q (F0 m 215 ls [.long v15]) := by
              intro H locs ls v15 hv15 hl hP hD hS
              have hv := xlt_v hv15 hv
              refine lv_lstore (lv' := [(14, .long v15), (12, .long ((q1.1 / (1024 : Int64)))), (11, .int v5), (9, .long (q1.1)), (7, .long ((p2 >>> (Int32.toInt64 (22 : Int32) &&& 63)))), (0, .ref ((b 0))), (1, .int 2), (2, .long p1), (4, .long p2), (6, .int p3)]) hx hb xd_Z_walk_215 hl (by decide) rfl (fun ls hl => ?_)
              refine lv_iload_n hx hb xd_Z_walk_217 rfl (lv_at hl 6 rfl) ?_
              refine lv_iconst (v := 1) hx hb xd_Z_walk_218 (by decide) ?_
              refine lv_icmp_ne (tgt := 227) hx hb xd_Z_walk_219 rfl (fun _ => ?_) (fun h => absurd h (by decide))
              refine lv_aload_n hx hb xd_Z_walk_227 rfl (lv_at hl 5 rfl) ?_
              refine lv_lload hx hb xd_Z_walk_228 (lv_at hl 0 rfl) ?_
              obtain ⟨hn18, hv⟩ := xan_v hv
              refine xcW_l (va_runV (As := [.long v15]) (rest := []) ⟨hx, hb, hml, hown, htg⟩ (c_Z_inMemory l D z k b H.size q1.2 v15 hn18) (cwV 1 htg (xg_V0 xkin_Z_inMemory xw_954 xw_956 xsel_Z_inMemory xw_9) rfl rfl rfl (by decide +kernel) ⟨Nat.le_of_ble_eq_true rfl, Nat.le_of_ble_eq_true rfl⟩) ⟨xB_blind, xrecv_Z hK hP, fun U hU hW => xB_mk hP hK hD hE hS (xsubW hD hA hS) hU hW⟩ rfl rfl hl.1 rfl (lv_room (Nat.le_of_ble_eq_true rfl)) xd_Z_walk_230 ⟨Nat.le_of_ble_eq_true rfl, Nat.le_of_ble_eq_true rfl⟩) hD hA hS (fun r u1 H locs hw hP hD hS => ?_)
              obtain ⟨q17, hq17⟩ : ∃ q, q = xf_Z_inMemory q1.2 v15 := ⟨_, rfl⟩
              rw [← hq17] at hw
              obtain rfl : r = q17.1 := congrArg Prod.fst hw
              obtain rfl : u1 = q17.2 := congrArg Prod.snd hw
              have hP : va_P D xCl (xWZ k b q17.2) H := hP
              have hD : va_D A (xWZ k b q17.2) := hD
              have hv := xlt_v hq17 hv
              exact hret _ q17.2 H locs ls _ (by unfold xf_Z_walk_2; exact (xlt_e hq1 (xit h3 (xlt_e hv5 (xif h7 (xlt_e hq8 (xif h10 (xit h13 (xlt_e hv15 (xlt_e hq17 rfl)))))))))) hP hD hS xd_Z_walk_233
            refine lv_if_eq (tgt := 202) hx hb xd_Z_walk_180 rfl (fun h19 => ?_) (fun h19 => ?_)
            · refine lv_lload hx hb xd_Z_walk_202 (lv_at hl 0 rfl) ?_
              refine lv_ldc2 (v := 4096) hx hb hown (htg _ xw_939) xd_Z_walk_204 ?_
              refine lv_lmul hx hb xd_Z_walk_207 ?_
              refine lv_lload hx hb xd_Z_walk_208 (lv_at hl 7 rfl) ?_
              refine lv_ldc2 (v := 4095) hx hb hown (htg _ xw_975) xd_Z_walk_210 ?_
              refine lv_land hx hb xd_Z_walk_213 ?_
              refine lv_ladd hx hb xd_Z_walk_214 ?_
              exact hj16 H locs ls (((q1.1 / (1024 : Int64)) * (4096 : Int64)) + (p2 &&& (4095 : Int64))) (xit h19 rfl) hl hP hD hS
            · refine lv_lload hx hb xd_Z_walk_183 (lv_at hl 0 rfl) ?_
              refine lv_ldc2 (v := 1024) hx hb hown (htg _ xw_969) xd_Z_walk_185 ?_
              refine lv_ldiv hx hb xd_Z_walk_188 (by decide) ?_
              refine lv_bipush (v := 22) hx hb xd_Z_walk_189 (by decide) ?_
              refine lv_lshl (v := (((q1.1 / (1024 : Int64)) / (1024 : Int64)) <<< (Int32.toInt64 (22 : Int32) &&& 63))) hx hb xd_Z_walk_191 rfl ?_
              refine lv_lload hx hb xd_Z_walk_192 (lv_at hl 7 rfl) ?_
              refine lv_ldc2 (v := 4194303) hx hb hown (htg _ xw_938) xd_Z_walk_194 ?_
              refine lv_land hx hb xd_Z_walk_197 ?_
              refine lv_ladd hx hb xd_Z_walk_198 ?_
              refine lv_goto (tgt := 215) hx hb xd_Z_walk_199 rfl ?_
              exact hj16 H locs ls ((((q1.1 / (1024 : Int64)) / (1024 : Int64)) <<< (Int32.toInt64 (22 : Int32) &&& 63)) + (p2 &&& (4194303 : Int64))) (xif h19 rfl) hl hP hD hS
          · have hv := xif_v h13 hv
            refine lv_lload hx hb xd_Z_walk_146 (lv_at hl 1 rfl) ?_
            refine lv_bipush (v := 10) hx hb xd_Z_walk_148 (by decide) ?_
            refine lv_lshr (v := (q1.1 >>> (Int32.toInt64 (10 : Int32) &&& 63))) hx hb xd_Z_walk_150 rfl ?_
            refine lv_ldc2 (v := 1023) hx hb hown (htg _ xw_970) xd_Z_walk_151 ?_
            refine lv_land hx hb xd_Z_walk_154 ?_
            refine lv_lconst (v := 0) hx hb xd_Z_walk_155 (by decide) ?_
            refine W.lcmp hx hb xd_Z_walk_156 ?_
            refine lv_if_eq (tgt := 170) hx hb xd_Z_walk_157 rfl (fun h20 => ?_) (fun h20 => ?_)
            · have hv := xit_v h20 hv
              refine lv_lload hx hb xd_Z_walk_170 (lv_at hl 1 rfl) ?_
              refine lv_ldc2 (v := 1024) hx hb hown (htg _ xw_969) xd_Z_walk_172 ?_
              refine lv_ldiv hx hb xd_Z_walk_175 (by decide) ?_
              refine lv_lstore (lv' := [(12, .long ((q1.1 / (1024 : Int64)))), (11, .int v5), (9, .long (q1.1)), (7, .long ((p2 >>> (Int32.toInt64 (22 : Int32) &&& 63)))), (0, .ref ((b 0))), (1, .int 2), (2, .long p1), (4, .long p2), (6, .int p3)]) hx hb xd_Z_walk_176 hl (by decide) rfl (fun ls hl => ?_)
              refine lv_iload hx hb xd_Z_walk_178 (lv_at hl 1 rfl) ?_
              have hj23 : ∀ (H : Heap) (locs : List Loc) (ls : Array Slot) (v22 : Int64), v22 = (if v5 = 0 then ((((q1.1 / (1024 : Int64)) * (4096 : Int64)) + (p2 &&& (4095 : Int64)))) else (((((q1.1 / (1024 : Int64)) / (1024 : Int64)) <<< (Int32.toInt64 (22 : Int32) &&& 63)) + (p2 &&& (4194303 : Int64))))) → lv_has ls 16 [(12, .long ((q1.1 / (1024 : Int64)))), (11, .int v5), (9, .long (q1.1)), (7, .long ((p2 >>> (Int32.toInt64 (22 : Int32) &&& 63)))), (0, .ref ((b 0))), (1, .int 2), (2, .long p1), (4, .long p2), (6, .int p3)] → va_P D xCl (xWZ k b q1.2) H → va_D A (xWZ k b q1.2) → va_S A s.heap H locs → W p l e { frames := 4, cells := 0, slots := 0, locals := 99 } s m args below meth c H locs (0) (0) Q (F0 m 215 ls [.long v22]) := by
                intro H locs ls v22 hv22 hl hP hD hS
                have hv := xlt_v hv22 hv
                refine lv_lstore (lv' := [(14, .long v22), (12, .long ((q1.1 / (1024 : Int64)))), (11, .int v5), (9, .long (q1.1)), (7, .long ((p2 >>> (Int32.toInt64 (22 : Int32) &&& 63)))), (0, .ref ((b 0))), (1, .int 2), (2, .long p1), (4, .long p2), (6, .int p3)]) hx hb xd_Z_walk_215 hl (by decide) rfl (fun ls hl => ?_)
                refine lv_iload_n hx hb xd_Z_walk_217 rfl (lv_at hl 6 rfl) ?_
                refine lv_iconst (v := 1) hx hb xd_Z_walk_218 (by decide) ?_
                refine lv_icmp_ne (tgt := 227) hx hb xd_Z_walk_219 rfl (fun _ => ?_) (fun h => absurd h (by decide))
                refine lv_aload_n hx hb xd_Z_walk_227 rfl (lv_at hl 5 rfl) ?_
                refine lv_lload hx hb xd_Z_walk_228 (lv_at hl 0 rfl) ?_
                obtain ⟨hn25, hv⟩ := xan_v hv
                refine xcW_l (va_runV (As := [.long v22]) (rest := []) ⟨hx, hb, hml, hown, htg⟩ (c_Z_inMemory l D z k b H.size q1.2 v22 hn25) (cwV 1 htg (xg_V0 xkin_Z_inMemory xw_954 xw_956 xsel_Z_inMemory xw_9) rfl rfl rfl (by decide +kernel) ⟨Nat.le_of_ble_eq_true rfl, Nat.le_of_ble_eq_true rfl⟩) ⟨xB_blind, xrecv_Z hK hP, fun U hU hW => xB_mk hP hK hD hE hS (xsubW hD hA hS) hU hW⟩ rfl rfl hl.1 rfl (lv_room (Nat.le_of_ble_eq_true rfl)) xd_Z_walk_230 ⟨Nat.le_of_ble_eq_true rfl, Nat.le_of_ble_eq_true rfl⟩) hD hA hS (fun r u1 H locs hw hP hD hS => ?_)
                obtain ⟨q24, hq24⟩ : ∃ q, q = xf_Z_inMemory q1.2 v22 := ⟨_, rfl⟩
                rw [← hq24] at hw
                obtain rfl : r = q24.1 := congrArg Prod.fst hw
                obtain rfl : u1 = q24.2 := congrArg Prod.snd hw
                have hP : va_P D xCl (xWZ k b q24.2) H := hP
                have hD : va_D A (xWZ k b q24.2) := hD
                have hv := xlt_v hq24 hv
                exact hret _ q24.2 H locs ls _ (by unfold xf_Z_walk_2; exact (xlt_e hq1 (xit h3 (xlt_e hv5 (xif h7 (xlt_e hq8 (xif h10 (xif h13 (xit h20 (xlt_e hv22 (xlt_e hq24 rfl))))))))))) hP hD hS xd_Z_walk_233
              refine lv_if_eq (tgt := 202) hx hb xd_Z_walk_180 rfl (fun h26 => ?_) (fun h26 => ?_)
              · refine lv_lload hx hb xd_Z_walk_202 (lv_at hl 0 rfl) ?_
                refine lv_ldc2 (v := 4096) hx hb hown (htg _ xw_939) xd_Z_walk_204 ?_
                refine lv_lmul hx hb xd_Z_walk_207 ?_
                refine lv_lload hx hb xd_Z_walk_208 (lv_at hl 7 rfl) ?_
                refine lv_ldc2 (v := 4095) hx hb hown (htg _ xw_975) xd_Z_walk_210 ?_
                refine lv_land hx hb xd_Z_walk_213 ?_
                refine lv_ladd hx hb xd_Z_walk_214 ?_
                exact hj23 H locs ls (((q1.1 / (1024 : Int64)) * (4096 : Int64)) + (p2 &&& (4095 : Int64))) (xit h26 rfl) hl hP hD hS
              · refine lv_lload hx hb xd_Z_walk_183 (lv_at hl 0 rfl) ?_
                refine lv_ldc2 (v := 1024) hx hb hown (htg _ xw_969) xd_Z_walk_185 ?_
                refine lv_ldiv hx hb xd_Z_walk_188 (by decide) ?_
                refine lv_bipush (v := 22) hx hb xd_Z_walk_189 (by decide) ?_
                refine lv_lshl (v := (((q1.1 / (1024 : Int64)) / (1024 : Int64)) <<< (Int32.toInt64 (22 : Int32) &&& 63))) hx hb xd_Z_walk_191 rfl ?_
                refine lv_lload hx hb xd_Z_walk_192 (lv_at hl 7 rfl) ?_
                refine lv_ldc2 (v := 4194303) hx hb hown (htg _ xw_938) xd_Z_walk_194 ?_
                refine lv_land hx hb xd_Z_walk_197 ?_
                refine lv_ladd hx hb xd_Z_walk_198 ?_
                refine lv_goto (tgt := 215) hx hb xd_Z_walk_199 rfl ?_
                exact hj23 H locs ls ((((q1.1 / (1024 : Int64)) / (1024 : Int64)) <<< (Int32.toInt64 (22 : Int32) &&& 63)) + (p2 &&& (4194303 : Int64))) (xif h26 rfl) hl hP hD hS
            · have hv := xif_v h20 hv
              refine lv_aload_n hx hb xd_Z_walk_160 rfl (lv_at hl 3 rfl) ?_
              refine lv_iload_n hx hb xd_Z_walk_161 rfl (lv_at hl 4 rfl) ?_
              refine lv_lload hx hb xd_Z_walk_162 (lv_at hl 6 rfl) ?_
              refine lv_iload hx hb xd_Z_walk_164 (lv_at hl 7 rfl) ?_
              obtain ⟨hn28, hv⟩ := xan_v hv
              refine xcW_l (va_runV (As := [.int 2, .long p2, .int p3]) (rest := []) ⟨hx, hb, hml, hown, htg⟩ (c_Z_stageFault l D z k b H.size q1.2 (2 : Int32) p2 p3 hn28) (cwV 3 htg (xg_V0 xkin_Z_stageFault xw_965 xw_967 xsel_Z_stageFault xw_9) rfl rfl rfl (by decide +kernel) ⟨Nat.le_of_ble_eq_true rfl, Nat.le_of_ble_eq_true rfl⟩) ⟨xB_blind, xrecv_Z hK hP, fun U hU hW => xB_mk hP hK hD hE hS (xsubW hD hA hS) hU hW⟩ rfl rfl hl.1 rfl (lv_room (Nat.le_of_ble_eq_true rfl)) xd_Z_walk_166 ⟨Nat.le_of_ble_eq_true rfl, Nat.le_of_ble_eq_true rfl⟩) hD hA hS (fun r u1 H locs hw hP hD hS => ?_)
              obtain ⟨q27, hq27⟩ : ∃ q, q = xf_Z_stageFault q1.2 (2 : Int32) p2 p3 := ⟨_, rfl⟩
              rw [← hq27] at hw
              obtain rfl : r = q27.1 := congrArg Prod.fst hw
              obtain rfl : u1 = q27.2 := congrArg Prod.snd hw
              have hP : va_P D xCl (xWZ k b q27.2) H := hP
              have hD : va_D A (xWZ k b q27.2) := hD
              have hv := xlt_v hq27 hv
              exact hret _ q27.2 H locs ls _ (by unfold xf_Z_walk_2; exact (xlt_e hq1 (xit h3 (xlt_e hv5 (xif h7 (xlt_e hq8 (xif h10 (xif h13 (xif h20 (xlt_e hq27 rfl)))))))))) hP hD hS xd_Z_walk_169
      · have hv := xit_v h7 hv
        refine lv_lload hx hb xd_Z_walk_56 (lv_at hl 1 rfl) ?_
        refine lv_lconst (v := 1) hx hb xd_Z_walk_58 (by decide) ?_
        refine lv_land hx hb xd_Z_walk_59 ?_
        refine lv_lconst (v := 0) hx hb xd_Z_walk_60 (by decide) ?_
        refine W.lcmp hx hb xd_Z_walk_61 ?_
        refine lv_if_eq (tgt := 76) hx hb xd_Z_walk_62 rfl (fun h29 => ?_) (fun h29 => ?_)
        · have hv := xit_v h29 hv
          refine lv_aload_n hx hb xd_Z_walk_76 rfl (lv_at hl 3 rfl) ?_
          refine lv_iload_n hx hb xd_Z_walk_77 rfl (lv_at hl 4 rfl) ?_
          refine lv_lload hx hb xd_Z_walk_78 (lv_at hl 6 rfl) ?_
          refine lv_iload hx hb xd_Z_walk_80 (lv_at hl 7 rfl) ?_
          obtain ⟨hn31, hv⟩ := xan_v hv
          refine xcW_l (va_runV (As := [.int 2, .long p2, .int p3]) (rest := []) ⟨hx, hb, hml, hown, htg⟩ (c_Z_stageFault l D z k b H.size q1.2 (2 : Int32) p2 p3 hn31) (cwV 3 htg (xg_V0 xkin_Z_stageFault xw_965 xw_967 xsel_Z_stageFault xw_9) rfl rfl rfl (by decide +kernel) ⟨Nat.le_of_ble_eq_true rfl, Nat.le_of_ble_eq_true rfl⟩) ⟨xB_blind, xrecv_Z hK hP, fun U hU hW => xB_mk hP hK hD hE hS (xsubW hD hA hS) hU hW⟩ rfl rfl hl.1 rfl (lv_room (Nat.le_of_ble_eq_true rfl)) xd_Z_walk_82 ⟨Nat.le_of_ble_eq_true rfl, Nat.le_of_ble_eq_true rfl⟩) hD hA hS (fun r u1 H locs hw hP hD hS => ?_)
          obtain ⟨q30, hq30⟩ : ∃ q, q = xf_Z_stageFault q1.2 (2 : Int32) p2 p3 := ⟨_, rfl⟩
          rw [← hq30] at hw
          obtain rfl : r = q30.1 := congrArg Prod.fst hw
          obtain rfl : u1 = q30.2 := congrArg Prod.snd hw
          have hP : va_P D xCl (xWZ k b q30.2) H := hP
          have hD : va_D A (xWZ k b q30.2) := hD
          have hv := xlt_v hq30 hv
          exact hret _ q30.2 H locs ls _ (by unfold xf_Z_walk_2; exact (xlt_e hq1 (xit h3 (xlt_e hv5 (xit h7 (xit h29 (xlt_e hq30 rfl))))))) hP hD hS xd_Z_walk_85
        · have hv := xif_v h29 hv
          refine lv_lload hx hb xd_Z_walk_65 (lv_at hl 1 rfl) ?_
          refine lv_ldc2 (v := 208) hx hb hown (htg _ xw_964) xd_Z_walk_67 ?_
          refine lv_land hx hb xd_Z_walk_70 ?_
          refine lv_lconst (v := 0) hx hb xd_Z_walk_71 (by decide) ?_
          refine W.lcmp hx hb xd_Z_walk_72 ?_
          refine lv_if_eq (tgt := 86) hx hb xd_Z_walk_73 rfl (fun h32 => ?_) (fun h32 => ?_)
          · have hv := xit_v h32 hv
            refine lv_aload_n hx hb xd_Z_walk_86 rfl (lv_at hl 3 rfl) ?_
            refine lv_iload_n hx hb xd_Z_walk_87 rfl (lv_at hl 4 rfl) ?_
            refine lv_lload hx hb xd_Z_walk_88 (lv_at hl 1 rfl) ?_
            refine lv_ldc2 (v := 1024) hx hb hown (htg _ xw_969) xd_Z_walk_90 ?_
            refine lv_ldiv hx hb xd_Z_walk_93 (by decide) ?_
            refine lv_ldc2 (v := 4096) hx hb hown (htg _ xw_939) xd_Z_walk_94 ?_
            refine lv_lmul hx hb xd_Z_walk_97 ?_
            refine lv_ldc2 (v := 4) hx hb hown (htg _ xw_944) xd_Z_walk_98 ?_
            refine lv_lload hx hb xd_Z_walk_101 (lv_at hl 6 rfl) ?_
            refine lv_bipush (v := 12) hx hb xd_Z_walk_103 (by decide) ?_
            refine lv_lshr (v := (p2 >>> (Int32.toInt64 (12 : Int32) &&& 63))) hx hb xd_Z_walk_105 rfl ?_
            refine lv_ldc2 (v := 1023) hx hb hown (htg _ xw_970) xd_Z_walk_106 ?_
            refine lv_land hx hb xd_Z_walk_109 ?_
            refine lv_lmul hx hb xd_Z_walk_110 ?_
            refine lv_ladd hx hb xd_Z_walk_111 ?_
            obtain ⟨hn34, hv⟩ := xan_v hv
            refine xcW_l (va_runV (As := [.int 2, .long ((((q1.1 / (1024 : Int64)) * (4096 : Int64)) + ((4 : Int64) * ((p2 >>> (Int32.toInt64 (12 : Int32) &&& 63)) &&& (1023 : Int64)))))]) (rest := []) ⟨hx, hb, hml, hown, htg⟩ (c_Z_entryAt_2 l D z k b H.size q1.2 (((q1.1 / (1024 : Int64)) * (4096 : Int64)) + ((4 : Int64) * ((p2 >>> (Int32.toInt64 (12 : Int32) &&& 63)) &&& (1023 : Int64)))) hn34) (cwV 2 htg (xg_V0 xkin_Z_entryAt xw_945 xw_947 xsel_Z_entryAt xw_9) rfl rfl rfl (by decide +kernel) ⟨Nat.le_of_ble_eq_true rfl, Nat.le_of_ble_eq_true rfl⟩) ⟨xB_blind, xrecv_Z hK hP, fun U hU hW => xB_mk hP hK hD hE hS (xsubW hD hA hS) hU hW⟩ rfl rfl hl.1 rfl (lv_room (Nat.le_of_ble_eq_true rfl)) xd_Z_walk_112 ⟨Nat.le_of_ble_eq_true rfl, Nat.le_of_ble_eq_true rfl⟩) hD hA hS (fun r u1 H locs hw hP hD hS => ?_)
            obtain ⟨q33, hq33⟩ : ∃ q, q = xf_Z_entryAt_2 q1.2 (((q1.1 / (1024 : Int64)) * (4096 : Int64)) + ((4 : Int64) * ((p2 >>> (Int32.toInt64 (12 : Int32) &&& 63)) &&& (1023 : Int64)))) := ⟨_, rfl⟩
            rw [← hq33] at hw
            obtain rfl : r = q33.1 := congrArg Prod.fst hw
            obtain rfl : u1 = q33.2 := congrArg Prod.snd hw
            have hP : va_P D xCl (xWZ k b q33.2) H := hP
            have hD : va_D A (xWZ k b q33.2) := hD
            have hv := xlt_v hq33 hv
            refine lv_lstore (lv' := [(9, .long (q33.1)), (11, .int v5), (7, .long ((p2 >>> (Int32.toInt64 (22 : Int32) &&& 63)))), (0, .ref ((b 0))), (1, .int 2), (2, .long p1), (4, .long p2), (6, .int p3)]) hx hb xd_Z_walk_115 hl (by decide) rfl (fun ls hl => ?_)
            refine lv_lload hx hb xd_Z_walk_117 (lv_at hl 0 rfl) ?_
            refine lv_lconst (v := 0) hx hb xd_Z_walk_119 (by decide) ?_
            refine W.lcmp hx hb xd_Z_walk_120 ?_
            refine lv_if_ge (tgt := 128) hx hb xd_Z_walk_121 rfl (fun h35 => ?_) (fun h35 => ?_)
            · have hv := xit_v h35 hv
              refine lv_aload_n hx hb xd_Z_walk_128 rfl (lv_at hl 3 rfl) ?_
              refine lv_iload_n hx hb xd_Z_walk_129 rfl (lv_at hl 4 rfl) ?_
              refine lv_lload hx hb xd_Z_walk_130 (lv_at hl 0 rfl) ?_
              refine lv_l2i (v := (Int64.toInt32 q33.1)) hx hb xd_Z_walk_132 rfl ?_
              refine lv_iload hx hb xd_Z_walk_133 (lv_at hl 7 rfl) ?_
              obtain ⟨hn37, hv⟩ := xan_v hv
              refine xcW_i (va_runV (As := [.int 2, .int ((Int64.toInt32 q33.1)), .int p3]) (rest := []) ⟨hx, hb, hml, hown, htg⟩ (c_Z_isAllowed l D z k b H.size q33.2 (2 : Int32) (Int64.toInt32 q33.1) p3 hn37) (cwV 3 htg (xg_V0 xkin_Z_isAllowed xw_971 xw_973 xsel_Z_isAllowed xw_9) rfl rfl rfl (by decide +kernel) ⟨Nat.le_of_ble_eq_true rfl, Nat.le_of_ble_eq_true rfl⟩) ⟨xB_blind, xrecv_Z hK hP, fun U hU hW => xB_mk hP hK hD hE hS (xsubW hD hA hS) hU hW⟩ rfl rfl hl.1 rfl (lv_room (Nat.le_of_ble_eq_true rfl)) xd_Z_walk_135 ⟨Nat.le_of_ble_eq_true rfl, Nat.le_of_ble_eq_true rfl⟩) hD hA hS (fun r u1 H locs hw hP hD hS => ?_)
              obtain ⟨q36, hq36⟩ : ∃ q, q = xf_Z_isAllowed q33.2 (2 : Int32) (Int64.toInt32 q33.1) p3 := ⟨_, rfl⟩
              obtain ⟨e1, e2⟩ := hw
              rw [← hq36] at e1
              obtain rfl : q36 = r := e1.symm
              obtain rfl : q33.2 = u1 := e2.symm
              have hP : va_P D xCl (xWZ k b q33.2) H := hP
              have hD : va_D A (xWZ k b q33.2) := hD
              have hv := xlt_v hq36 hv
              refine lv_if_eq (tgt := 160) hx hb xd_Z_walk_138 rfl (fun h38 => ?_) (fun h38 => ?_)
              · have hv := xit_v h38 hv
                refine lv_aload_n hx hb xd_Z_walk_160 rfl (lv_at hl 3 rfl) ?_
                refine lv_iload_n hx hb xd_Z_walk_161 rfl (lv_at hl 4 rfl) ?_
                refine lv_lload hx hb xd_Z_walk_162 (lv_at hl 6 rfl) ?_
                refine lv_iload hx hb xd_Z_walk_164 (lv_at hl 7 rfl) ?_
                obtain ⟨hn40, hv⟩ := xan_v hv
                refine xcW_l (va_runV (As := [.int 2, .long p2, .int p3]) (rest := []) ⟨hx, hb, hml, hown, htg⟩ (c_Z_stageFault l D z k b H.size q33.2 (2 : Int32) p2 p3 hn40) (cwV 3 htg (xg_V0 xkin_Z_stageFault xw_965 xw_967 xsel_Z_stageFault xw_9) rfl rfl rfl (by decide +kernel) ⟨Nat.le_of_ble_eq_true rfl, Nat.le_of_ble_eq_true rfl⟩) ⟨xB_blind, xrecv_Z hK hP, fun U hU hW => xB_mk hP hK hD hE hS (xsubW hD hA hS) hU hW⟩ rfl rfl hl.1 rfl (lv_room (Nat.le_of_ble_eq_true rfl)) xd_Z_walk_166 ⟨Nat.le_of_ble_eq_true rfl, Nat.le_of_ble_eq_true rfl⟩) hD hA hS (fun r u1 H locs hw hP hD hS => ?_)
                obtain ⟨q39, hq39⟩ : ∃ q, q = xf_Z_stageFault q33.2 (2 : Int32) p2 p3 := ⟨_, rfl⟩
                rw [← hq39] at hw
                obtain rfl : r = q39.1 := congrArg Prod.fst hw
                obtain rfl : u1 = q39.2 := congrArg Prod.snd hw
                have hP : va_P D xCl (xWZ k b q39.2) H := hP
                have hD : va_D A (xWZ k b q39.2) := hD
                have hv := xlt_v hq39 hv
                exact hret _ q39.2 H locs ls _ (by unfold xf_Z_walk_2; exact (xlt_e hq1 (xit h3 (xlt_e hv5 (xit h7 (xif h29 (xit h32 (xlt_e hq33 (xit h35 (xlt_e hq36 (xit h38 (xlt_e hq39 rfl)))))))))))) hP hD hS xd_Z_walk_169
              · have hv := xif_v h38 hv
                refine lv_iload hx hb xd_Z_walk_141 (lv_at hl 1 rfl) ?_
                refine lv_if_eq (tgt := 170) hx hb xd_Z_walk_143 rfl (fun h41 => ?_) (fun h41 => ?_)
                · have hv := xit_v h41 hv
                  refine lv_lload hx hb xd_Z_walk_170 (lv_at hl 0 rfl) ?_
                  refine lv_ldc2 (v := 1024) hx hb hown (htg _ xw_969) xd_Z_walk_172 ?_
                  refine lv_ldiv hx hb xd_Z_walk_175 (by decide) ?_
                  refine lv_lstore (lv' := [(12, .long ((q33.1 / (1024 : Int64)))), (9, .long (q33.1)), (11, .int v5), (7, .long ((p2 >>> (Int32.toInt64 (22 : Int32) &&& 63)))), (0, .ref ((b 0))), (1, .int 2), (2, .long p1), (4, .long p2), (6, .int p3)]) hx hb xd_Z_walk_176 hl (by decide) rfl (fun ls hl => ?_)
                  refine lv_iload hx hb xd_Z_walk_178 (lv_at hl 2 rfl) ?_
                  have hj44 : ∀ (H : Heap) (locs : List Loc) (ls : Array Slot) (v43 : Int64), v43 = (if v5 = 0 then ((((q33.1 / (1024 : Int64)) * (4096 : Int64)) + (p2 &&& (4095 : Int64)))) else (((((q33.1 / (1024 : Int64)) / (1024 : Int64)) <<< (Int32.toInt64 (22 : Int32) &&& 63)) + (p2 &&& (4194303 : Int64))))) → lv_has ls 16 [(12, .long ((q33.1 / (1024 : Int64)))), (9, .long (q33.1)), (11, .int v5), (7, .long ((p2 >>> (Int32.toInt64 (22 : Int32) &&& 63)))), (0, .ref ((b 0))), (1, .int 2), (2, .long p1), (4, .long p2), (6, .int p3)] → va_P D xCl (xWZ k b q33.2) H → va_D A (xWZ k b q33.2) → va_S A s.heap H locs → W p l e { frames := 4, cells := 0, slots := 0, locals := 99 } s m args below meth c H locs (0) (0) Q (F0 m 215 ls [.long v43]) := by
                    intro H locs ls v43 hv43 hl hP hD hS
                    have hv := xlt_v hv43 hv
                    refine lv_lstore (lv' := [(14, .long v43), (12, .long ((q33.1 / (1024 : Int64)))), (9, .long (q33.1)), (11, .int v5), (7, .long ((p2 >>> (Int32.toInt64 (22 : Int32) &&& 63)))), (0, .ref ((b 0))), (1, .int 2), (2, .long p1), (4, .long p2), (6, .int p3)]) hx hb xd_Z_walk_215 hl (by decide) rfl (fun ls hl => ?_)
                    refine lv_iload_n hx hb xd_Z_walk_217 rfl (lv_at hl 6 rfl) ?_
                    refine lv_iconst (v := 1) hx hb xd_Z_walk_218 (by decide) ?_
                    refine lv_icmp_ne (tgt := 227) hx hb xd_Z_walk_219 rfl (fun _ => ?_) (fun h => absurd h (by decide))
                    refine lv_aload_n hx hb xd_Z_walk_227 rfl (lv_at hl 5 rfl) ?_
                    refine lv_lload hx hb xd_Z_walk_228 (lv_at hl 0 rfl) ?_
                    obtain ⟨hn46, hv⟩ := xan_v hv
                    refine xcW_l (va_runV (As := [.long v43]) (rest := []) ⟨hx, hb, hml, hown, htg⟩ (c_Z_inMemory l D z k b H.size q33.2 v43 hn46) (cwV 1 htg (xg_V0 xkin_Z_inMemory xw_954 xw_956 xsel_Z_inMemory xw_9) rfl rfl rfl (by decide +kernel) ⟨Nat.le_of_ble_eq_true rfl, Nat.le_of_ble_eq_true rfl⟩) ⟨xB_blind, xrecv_Z hK hP, fun U hU hW => xB_mk hP hK hD hE hS (xsubW hD hA hS) hU hW⟩ rfl rfl hl.1 rfl (lv_room (Nat.le_of_ble_eq_true rfl)) xd_Z_walk_230 ⟨Nat.le_of_ble_eq_true rfl, Nat.le_of_ble_eq_true rfl⟩) hD hA hS (fun r u1 H locs hw hP hD hS => ?_)
                    obtain ⟨q45, hq45⟩ : ∃ q, q = xf_Z_inMemory q33.2 v43 := ⟨_, rfl⟩
                    rw [← hq45] at hw
                    obtain rfl : r = q45.1 := congrArg Prod.fst hw
                    obtain rfl : u1 = q45.2 := congrArg Prod.snd hw
                    have hP : va_P D xCl (xWZ k b q45.2) H := hP
                    have hD : va_D A (xWZ k b q45.2) := hD
                    have hv := xlt_v hq45 hv
                    exact hret _ q45.2 H locs ls _ (by unfold xf_Z_walk_2; exact (xlt_e hq1 (xit h3 (xlt_e hv5 (xit h7 (xif h29 (xit h32 (xlt_e hq33 (xit h35 (xlt_e hq36 (xif h38 (xit h41 (xlt_e hv43 (xlt_e hq45 rfl)))))))))))))) hP hD hS xd_Z_walk_233
                  refine lv_if_eq (tgt := 202) hx hb xd_Z_walk_180 rfl (fun h47 => ?_) (fun h47 => ?_)
                  · refine lv_lload hx hb xd_Z_walk_202 (lv_at hl 0 rfl) ?_
                    refine lv_ldc2 (v := 4096) hx hb hown (htg _ xw_939) xd_Z_walk_204 ?_
                    refine lv_lmul hx hb xd_Z_walk_207 ?_
                    refine lv_lload hx hb xd_Z_walk_208 (lv_at hl 7 rfl) ?_
                    refine lv_ldc2 (v := 4095) hx hb hown (htg _ xw_975) xd_Z_walk_210 ?_
                    refine lv_land hx hb xd_Z_walk_213 ?_
                    refine lv_ladd hx hb xd_Z_walk_214 ?_
                    exact hj44 H locs ls (((q33.1 / (1024 : Int64)) * (4096 : Int64)) + (p2 &&& (4095 : Int64))) (xit h47 rfl) hl hP hD hS
                  · refine lv_lload hx hb xd_Z_walk_183 (lv_at hl 0 rfl) ?_
                    refine lv_ldc2 (v := 1024) hx hb hown (htg _ xw_969) xd_Z_walk_185 ?_
                    refine lv_ldiv hx hb xd_Z_walk_188 (by decide) ?_
                    refine lv_bipush (v := 22) hx hb xd_Z_walk_189 (by decide) ?_
                    refine lv_lshl (v := (((q33.1 / (1024 : Int64)) / (1024 : Int64)) <<< (Int32.toInt64 (22 : Int32) &&& 63))) hx hb xd_Z_walk_191 rfl ?_
                    refine lv_lload hx hb xd_Z_walk_192 (lv_at hl 7 rfl) ?_
                    refine lv_ldc2 (v := 4194303) hx hb hown (htg _ xw_938) xd_Z_walk_194 ?_
                    refine lv_land hx hb xd_Z_walk_197 ?_
                    refine lv_ladd hx hb xd_Z_walk_198 ?_
                    refine lv_goto (tgt := 215) hx hb xd_Z_walk_199 rfl ?_
                    exact hj44 H locs ls ((((q33.1 / (1024 : Int64)) / (1024 : Int64)) <<< (Int32.toInt64 (22 : Int32) &&& 63)) + (p2 &&& (4194303 : Int64))) (xif h47 rfl) hl hP hD hS
                · have hv := xif_v h41 hv
                  refine lv_lload hx hb xd_Z_walk_146 (lv_at hl 0 rfl) ?_
                  refine lv_bipush (v := 10) hx hb xd_Z_walk_148 (by decide) ?_
                  refine lv_lshr (v := (q33.1 >>> (Int32.toInt64 (10 : Int32) &&& 63))) hx hb xd_Z_walk_150 rfl ?_
                  refine lv_ldc2 (v := 1023) hx hb hown (htg _ xw_970) xd_Z_walk_151 ?_
                  refine lv_land hx hb xd_Z_walk_154 ?_
                  refine lv_lconst (v := 0) hx hb xd_Z_walk_155 (by decide) ?_
                  refine W.lcmp hx hb xd_Z_walk_156 ?_
                  refine lv_if_eq (tgt := 170) hx hb xd_Z_walk_157 rfl (fun h48 => ?_) (fun h48 => ?_)
                  · have hv := xit_v h48 hv
                    refine lv_lload hx hb xd_Z_walk_170 (lv_at hl 0 rfl) ?_
                    refine lv_ldc2 (v := 1024) hx hb hown (htg _ xw_969) xd_Z_walk_172 ?_
                    refine lv_ldiv hx hb xd_Z_walk_175 (by decide) ?_
                    refine lv_lstore (lv' := [(12, .long ((q33.1 / (1024 : Int64)))), (9, .long (q33.1)), (11, .int v5), (7, .long ((p2 >>> (Int32.toInt64 (22 : Int32) &&& 63)))), (0, .ref ((b 0))), (1, .int 2), (2, .long p1), (4, .long p2), (6, .int p3)]) hx hb xd_Z_walk_176 hl (by decide) rfl (fun ls hl => ?_)
                    refine lv_iload hx hb xd_Z_walk_178 (lv_at hl 2 rfl) ?_
                    have hj51 : ∀ (H : Heap) (locs : List Loc) (ls : Array Slot) (v50 : Int64), v50 = (if v5 = 0 then ((((q33.1 / (1024 : Int64)) * (4096 : Int64)) + (p2 &&& (4095 : Int64)))) else (((((q33.1 / (1024 : Int64)) / (1024 : Int64)) <<< (Int32.toInt64 (22 : Int32) &&& 63)) + (p2 &&& (4194303 : Int64))))) → lv_has ls 16 [(12, .long ((q33.1 / (1024 : Int64)))), (9, .long (q33.1)), (11, .int v5), (7, .long ((p2 >>> (Int32.toInt64 (22 : Int32) &&& 63)))), (0, .ref ((b 0))), (1, .int 2), (2, .long p1), (4, .long p2), (6, .int p3)] → va_P D xCl (xWZ k b q33.2) H → va_D A (xWZ k b q33.2) → va_S A s.heap H locs → W p l e { frames := 4, cells := 0, slots := 0, locals := 99 } s m args below meth c H locs (0) (0) Q (F0 m 215 ls [.long v50]) := by
                      intro H locs ls v50 hv50 hl hP hD hS
                      have hv := xlt_v hv50 hv
                      refine lv_lstore (lv' := [(14, .long v50), (12, .long ((q33.1 / (1024 : Int64)))), (9, .long (q33.1)), (11, .int v5), (7, .long ((p2 >>> (Int32.toInt64 (22 : Int32) &&& 63)))), (0, .ref ((b 0))), (1, .int 2), (2, .long p1), (4, .long p2), (6, .int p3)]) hx hb xd_Z_walk_215 hl (by decide) rfl (fun ls hl => ?_)
                      refine lv_iload_n hx hb xd_Z_walk_217 rfl (lv_at hl 6 rfl) ?_
                      refine lv_iconst (v := 1) hx hb xd_Z_walk_218 (by decide) ?_
                      refine lv_icmp_ne (tgt := 227) hx hb xd_Z_walk_219 rfl (fun _ => ?_) (fun h => absurd h (by decide))
                      refine lv_aload_n hx hb xd_Z_walk_227 rfl (lv_at hl 5 rfl) ?_
                      refine lv_lload hx hb xd_Z_walk_228 (lv_at hl 0 rfl) ?_
                      obtain ⟨hn53, hv⟩ := xan_v hv
                      refine xcW_l (va_runV (As := [.long v50]) (rest := []) ⟨hx, hb, hml, hown, htg⟩ (c_Z_inMemory l D z k b H.size q33.2 v50 hn53) (cwV 1 htg (xg_V0 xkin_Z_inMemory xw_954 xw_956 xsel_Z_inMemory xw_9) rfl rfl rfl (by decide +kernel) ⟨Nat.le_of_ble_eq_true rfl, Nat.le_of_ble_eq_true rfl⟩) ⟨xB_blind, xrecv_Z hK hP, fun U hU hW => xB_mk hP hK hD hE hS (xsubW hD hA hS) hU hW⟩ rfl rfl hl.1 rfl (lv_room (Nat.le_of_ble_eq_true rfl)) xd_Z_walk_230 ⟨Nat.le_of_ble_eq_true rfl, Nat.le_of_ble_eq_true rfl⟩) hD hA hS (fun r u1 H locs hw hP hD hS => ?_)
                      obtain ⟨q52, hq52⟩ : ∃ q, q = xf_Z_inMemory q33.2 v50 := ⟨_, rfl⟩
                      rw [← hq52] at hw
                      obtain rfl : r = q52.1 := congrArg Prod.fst hw
                      obtain rfl : u1 = q52.2 := congrArg Prod.snd hw
                      have hP : va_P D xCl (xWZ k b q52.2) H := hP
                      have hD : va_D A (xWZ k b q52.2) := hD
                      have hv := xlt_v hq52 hv
                      exact hret _ q52.2 H locs ls _ (by unfold xf_Z_walk_2; exact (xlt_e hq1 (xit h3 (xlt_e hv5 (xit h7 (xif h29 (xit h32 (xlt_e hq33 (xit h35 (xlt_e hq36 (xif h38 (xif h41 (xit h48 (xlt_e hv50 (xlt_e hq52 rfl))))))))))))))) hP hD hS xd_Z_walk_233
                    refine lv_if_eq (tgt := 202) hx hb xd_Z_walk_180 rfl (fun h54 => ?_) (fun h54 => ?_)
                    · refine lv_lload hx hb xd_Z_walk_202 (lv_at hl 0 rfl) ?_
                      refine lv_ldc2 (v := 4096) hx hb hown (htg _ xw_939) xd_Z_walk_204 ?_
                      refine lv_lmul hx hb xd_Z_walk_207 ?_
                      refine lv_lload hx hb xd_Z_walk_208 (lv_at hl 7 rfl) ?_
                      refine lv_ldc2 (v := 4095) hx hb hown (htg _ xw_975) xd_Z_walk_210 ?_
                      refine lv_land hx hb xd_Z_walk_213 ?_
                      refine lv_ladd hx hb xd_Z_walk_214 ?_
                      exact hj51 H locs ls (((q33.1 / (1024 : Int64)) * (4096 : Int64)) + (p2 &&& (4095 : Int64))) (xit h54 rfl) hl hP hD hS
                    · refine lv_lload hx hb xd_Z_walk_183 (lv_at hl 0 rfl) ?_
                      refine lv_ldc2 (v := 1024) hx hb hown (htg _ xw_969) xd_Z_walk_185 ?_
                      refine lv_ldiv hx hb xd_Z_walk_188 (by decide) ?_
                      refine lv_bipush (v := 22) hx hb xd_Z_walk_189 (by decide) ?_
                      refine lv_lshl (v := (((q33.1 / (1024 : Int64)) / (1024 : Int64)) <<< (Int32.toInt64 (22 : Int32) &&& 63))) hx hb xd_Z_walk_191 rfl ?_
                      refine lv_lload hx hb xd_Z_walk_192 (lv_at hl 7 rfl) ?_
                      refine lv_ldc2 (v := 4194303) hx hb hown (htg _ xw_938) xd_Z_walk_194 ?_
                      refine lv_land hx hb xd_Z_walk_197 ?_
                      refine lv_ladd hx hb xd_Z_walk_198 ?_
                      refine lv_goto (tgt := 215) hx hb xd_Z_walk_199 rfl ?_
                      exact hj51 H locs ls ((((q33.1 / (1024 : Int64)) / (1024 : Int64)) <<< (Int32.toInt64 (22 : Int32) &&& 63)) + (p2 &&& (4194303 : Int64))) (xif h54 rfl) hl hP hD hS
                  · have hv := xif_v h48 hv
                    refine lv_aload_n hx hb xd_Z_walk_160 rfl (lv_at hl 3 rfl) ?_
                    refine lv_iload_n hx hb xd_Z_walk_161 rfl (lv_at hl 4 rfl) ?_
                    refine lv_lload hx hb xd_Z_walk_162 (lv_at hl 6 rfl) ?_
                    refine lv_iload hx hb xd_Z_walk_164 (lv_at hl 7 rfl) ?_
                    obtain ⟨hn56, hv⟩ := xan_v hv
                    refine xcW_l (va_runV (As := [.int 2, .long p2, .int p3]) (rest := []) ⟨hx, hb, hml, hown, htg⟩ (c_Z_stageFault l D z k b H.size q33.2 (2 : Int32) p2 p3 hn56) (cwV 3 htg (xg_V0 xkin_Z_stageFault xw_965 xw_967 xsel_Z_stageFault xw_9) rfl rfl rfl (by decide +kernel) ⟨Nat.le_of_ble_eq_true rfl, Nat.le_of_ble_eq_true rfl⟩) ⟨xB_blind, xrecv_Z hK hP, fun U hU hW => xB_mk hP hK hD hE hS (xsubW hD hA hS) hU hW⟩ rfl rfl hl.1 rfl (lv_room (Nat.le_of_ble_eq_true rfl)) xd_Z_walk_166 ⟨Nat.le_of_ble_eq_true rfl, Nat.le_of_ble_eq_true rfl⟩) hD hA hS (fun r u1 H locs hw hP hD hS => ?_)
                    obtain ⟨q55, hq55⟩ : ∃ q, q = xf_Z_stageFault q33.2 (2 : Int32) p2 p3 := ⟨_, rfl⟩
                    rw [← hq55] at hw
                    obtain rfl : r = q55.1 := congrArg Prod.fst hw
                    obtain rfl : u1 = q55.2 := congrArg Prod.snd hw
                    have hP : va_P D xCl (xWZ k b q55.2) H := hP
                    have hD : va_D A (xWZ k b q55.2) := hD
                    have hv := xlt_v hq55 hv
                    exact hret _ q55.2 H locs ls _ (by unfold xf_Z_walk_2; exact (xlt_e hq1 (xit h3 (xlt_e hv5 (xit h7 (xif h29 (xit h32 (xlt_e hq33 (xit h35 (xlt_e hq36 (xif h38 (xif h41 (xif h48 (xlt_e hq55 rfl)))))))))))))) hP hD hS xd_Z_walk_169
            · have hv := xif_v h35 hv
              refine lv_ldc2 (v := (-1)) hx hb hown (htg _ xw_937) xd_Z_walk_124 ?_
              exact hret _ q33.2 H locs ls _ (by unfold xf_Z_walk_2; exact (xlt_e hq1 (xit h3 (xlt_e hv5 (xit h7 (xif h29 (xit h32 (xlt_e hq33 (xif h35 rfl))))))))) hP hD hS xd_Z_walk_127
          · have hv := xif_v h32 hv
            refine lv_aload_n hx hb xd_Z_walk_76 rfl (lv_at hl 3 rfl) ?_
            refine lv_iload_n hx hb xd_Z_walk_77 rfl (lv_at hl 4 rfl) ?_
            refine lv_lload hx hb xd_Z_walk_78 (lv_at hl 6 rfl) ?_
            refine lv_iload hx hb xd_Z_walk_80 (lv_at hl 7 rfl) ?_
            obtain ⟨hn58, hv⟩ := xan_v hv
            refine xcW_l (va_runV (As := [.int 2, .long p2, .int p3]) (rest := []) ⟨hx, hb, hml, hown, htg⟩ (c_Z_stageFault l D z k b H.size q1.2 (2 : Int32) p2 p3 hn58) (cwV 3 htg (xg_V0 xkin_Z_stageFault xw_965 xw_967 xsel_Z_stageFault xw_9) rfl rfl rfl (by decide +kernel) ⟨Nat.le_of_ble_eq_true rfl, Nat.le_of_ble_eq_true rfl⟩) ⟨xB_blind, xrecv_Z hK hP, fun U hU hW => xB_mk hP hK hD hE hS (xsubW hD hA hS) hU hW⟩ rfl rfl hl.1 rfl (lv_room (Nat.le_of_ble_eq_true rfl)) xd_Z_walk_82 ⟨Nat.le_of_ble_eq_true rfl, Nat.le_of_ble_eq_true rfl⟩) hD hA hS (fun r u1 H locs hw hP hD hS => ?_)
            obtain ⟨q57, hq57⟩ : ∃ q, q = xf_Z_stageFault q1.2 (2 : Int32) p2 p3 := ⟨_, rfl⟩
            rw [← hq57] at hw
            obtain rfl : r = q57.1 := congrArg Prod.fst hw
            obtain rfl : u1 = q57.2 := congrArg Prod.snd hw
            have hP : va_P D xCl (xWZ k b q57.2) H := hP
            have hD : va_D A (xWZ k b q57.2) := hD
            have hv := xlt_v hq57 hv
            exact hret _ q57.2 H locs ls _ (by unfold xf_Z_walk_2; exact (xlt_e hq1 (xit h3 (xlt_e hv5 (xit h7 (xif h29 (xif h32 (xlt_e hq57 rfl)))))))) hP hD hS xd_Z_walk_85
    refine lv_if_eq (tgt := 48) hx hb xd_Z_walk_41 rfl (fun h59 => ?_) (fun h59 => ?_)
    · refine lv_iconst (v := 0) hx hb xd_Z_walk_48 (by decide) ?_
      exact hj6 H locs ls (0 : Int32) (xit h59 rfl) hl hP hD hS
    · refine lv_iconst (v := 1) hx hb xd_Z_walk_44 (by decide) ?_
      refine lv_goto (tgt := 49) hx hb xd_Z_walk_45 rfl ?_
      exact hj6 H locs ls (1 : Int32) (xif h59 rfl) hl hP hD hS
  · have hv := xif_v h3 hv
    refine lv_ldc2 (v := (-1)) hx hb hown (htg _ xw_937) xd_Z_walk_29 ?_
    exact hret _ q1.2 H locs ls _ (by unfold xf_Z_walk_2; exact (xlt_e hq1 (xif h3 rfl))) hP hD hS xd_Z_walk_32
