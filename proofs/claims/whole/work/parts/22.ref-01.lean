noncomputable def xf_Z_value (u : XZ) (p0 : Int32) : Int32 :=
  xlt (xf_Z_indexOf p0 : Int32) fun r1 =>
  (xg_Z_controls u r1.toNatClampNeg)
def xv_Z_value (u : XZ) (p0 : Int32) : Prop := XVc (
  xlt (xf_Z_indexOf p0 : Int32) fun r1 =>
  (vp_in r1 29) ∧
  True)
set_option maxHeartbeats 4000000 in
set_option maxRecDepth 100000 in
theorem c_Z_value (l : Launch) (D : va_G) (z : (Nat → Nat) × (Nat → Nat)) (k : ClassId × ClassId) (b : Nat → Nat) (sz : Nat) (u : XZ) (p0 : Int32) (hv : xv_Z_value u p0) : Met l xy_Z_value (xk_Z_value :: lw_g) { frames := 1, cells := 0, slots := 0, locals := 21 } (va_Pc [.ref ((b 0)), .int p0] (xB D (xTy k) z sz (xWZ k b u))) (va_Qi (fun r (q : XZ) => r = xf_Z_value u p0 ∧ q = u) (fun q t => xQ D (xTy k) (xWZ k b q) (va_A (xWZ k b u) sz) t) (va_A (xWZ k b u) sz)) 0 0 (va_A (xWZ k b u) sz) := by
  refine xopen_i (wf := fun q : XZ => xWZ k b q) (lv := [(0, .ref ((b 0))), (1, .int p0)]) (by decide) rfl (Nat.le_of_ble_eq_true rfl) ?_
  intro p e s m args below meth c Q ls A H locs hx hb hml htg hown hin hK hP hD hE hS hA hl hret
  unfold xv_Z_value at hv
  refine lv_aload_n hx hb xd_Z_value_0 rfl (lv_at hl 0 rfl) ?_
  refine xget_Z_controls hx hb htg hown hK hP (htg _ xw_736) xd_Z_value_1 ?_
  refine lv_iload_n hx hb xd_Z_value_4 rfl (lv_at hl 1 rfl) ?_
  refine xc0_i (va_runS (As := [.int p0]) (rest := [.ref ((b 3))]) ⟨hx, hb, hml, hown, htg⟩ (c_Z_indexOf l D (xTy k) z H.size p0) (va_cwS 1 htg (xg_S0 xkin_Z_indexOf xw_846 xw_847 xw_9) rfl rfl rfl (by decide +kernel) ⟨Nat.le_of_ble_eq_true rfl, Nat.le_of_ble_eq_true rfl⟩) ⟨xB_blind, fun U hU hW => xB_mk va_P0 hK va_D0 hE hS (xsub0 hA hS) hU hW⟩ rfl rfl hl.1 rfl (lv_room (Nat.le_of_ble_eq_true rfl)) xd_Z_value_5 ⟨Nat.le_of_ble_eq_true rfl, Nat.le_of_ble_eq_true rfl⟩) hP hA hS (fun r1 H locs hr1 hP hS => ?_)
  have hv := xlt_v hr1 hv
  obtain ⟨hn2, hv⟩ := xan_v hv
  refine xald_Z_controls hx hb hK hP hn2 xd_Z_value_8 ?_
  exact hret _ u H locs ls _ ⟨(by unfold xf_Z_value; exact (xlt_e hr1 rfl)), rfl⟩ hP hD hS xd_Z_value_9

noncomputable def xf_Z_become (u : XZ) (p0 : Int32) (p1 : Int32) : XZ :=
  xlt (xf_Z_indexOf p0 : Int32) fun r1 =>
  (xs_Z_controls u (upd (xg_Z_controls u) r1.toNatClampNeg p1))
def xv_Z_become (u : XZ) (p0 : Int32) (p1 : Int32) : Prop := XVc (
  xlt (xf_Z_indexOf p0 : Int32) fun r1 =>
  (vp_in r1 29) ∧
  True)
set_option maxHeartbeats 4000000 in
set_option maxRecDepth 100000 in
theorem c_Z_become (l : Launch) (D : va_G) (z : (Nat → Nat) × (Nat → Nat)) (k : ClassId × ClassId) (b : Nat → Nat) (sz : Nat) (u : XZ) (p0 : Int32) (p1 : Int32) (hv : xv_Z_become u p0 p1) : Met l xy_Z_become (xk_Z_become :: lw_g) { frames := 1, cells := 0, slots := 0, locals := 21 } (va_Pc [.ref ((b 0)), .int p0, .int p1] (xB D (xTy k) z sz (xWZ k b u))) (va_Qv (fun q : XZ => q = xf_Z_become u p0 p1) (fun q t => xQ D (xTy k) (xWZ k b q) (va_A (xWZ k b u) sz) t) (va_A (xWZ k b u) sz)) 0 0 (va_A (xWZ k b u) sz) := by
  refine xopen_v (wf := fun q : XZ => xWZ k b q) (lv := [(0, .ref ((b 0))), (1, .int p0), (2, .int p1)]) (by decide) rfl (Nat.le_of_ble_eq_true rfl) ?_
  intro p e s m args below meth c Q ls A H locs hx hb hml htg hown hin hK hP hD hE hS hA hl hret
  unfold xv_Z_become at hv
  refine lv_aload_n hx hb xd_Z_become_0 rfl (lv_at hl 0 rfl) ?_
  refine xget_Z_controls hx hb htg hown hK hP (htg _ xw_736) xd_Z_become_1 ?_
  refine lv_iload_n hx hb xd_Z_become_4 rfl (lv_at hl 1 rfl) ?_
  refine xc0_i (va_runS (As := [.int p0]) (rest := [.ref ((b 3))]) ⟨hx, hb, hml, hown, htg⟩ (c_Z_indexOf l D (xTy k) z H.size p0) (va_cwS 1 htg (xg_S0 xkin_Z_indexOf xw_846 xw_847 xw_9) rfl rfl rfl (by decide +kernel) ⟨Nat.le_of_ble_eq_true rfl, Nat.le_of_ble_eq_true rfl⟩) ⟨xB_blind, fun U hU hW => xB_mk va_P0 hK va_D0 hE hS (xsub0 hA hS) hU hW⟩ rfl rfl hl.1 rfl (lv_room (Nat.le_of_ble_eq_true rfl)) xd_Z_become_5 ⟨Nat.le_of_ble_eq_true rfl, Nat.le_of_ble_eq_true rfl⟩) hP hA hS (fun r1 H locs hr1 hP hS => ?_)
  have hv := xlt_v hr1 hv
  refine lv_iload_n hx hb xd_Z_become_8 rfl (lv_at hl 2 rfl) ?_
  obtain ⟨hn2, hv⟩ := xan_v hv
  refine xast_Z_controls hx hb hK hP hD hS hn2 xd_Z_become_9 (fun H locs hP hD hS => ?_)
  exact hret (xs_Z_controls u (upd (xg_Z_controls u) r1.toNatClampNeg p1)) H locs ls _ (by unfold xf_Z_become; exact (xlt_e hr1 rfl)) hP hD hS xd_Z_become_10

noncomputable def xf_Z_bit (u : XZ) (p0 : Int32) (p1 : Int32) : Int32 :=
  xlt (xf_Z_value u p0 : Int32) fun q1 =>
  xlt (if ((q1 >>> (p1 &&& 31)) &&& (1 : Int32)) = 1 then (1) else (0) : Int32) fun v4 =>
  v4
def xv_Z_bit (u : XZ) (p0 : Int32) (p1 : Int32) : Prop := XVc (
  (xv_Z_value u p0) ∧
  xlt (xf_Z_value u p0 : Int32) fun q1 =>
  xlt (if ((q1 >>> (p1 &&& 31)) &&& (1 : Int32)) = 1 then (1) else (0) : Int32) fun v4 =>
  True)
set_option maxHeartbeats 4000000 in
set_option maxRecDepth 100000 in
theorem c_Z_bit (l : Launch) (D : va_G) (z : (Nat → Nat) × (Nat → Nat)) (k : ClassId × ClassId) (b : Nat → Nat) (sz : Nat) (u : XZ) (p0 : Int32) (p1 : Int32) (hv : xv_Z_bit u p0 p1) : Met l xy_Z_bit (xk_Z_bit :: lw_g) { frames := 2, cells := 0, slots := 0, locals := 42 } (va_Pc [.ref ((b 0)), .int p0, .int p1] (xB D (xTy k) z sz (xWZ k b u))) (va_Qi (fun r (q : XZ) => r = xf_Z_bit u p0 p1 ∧ q = u) (fun q t => xQ D (xTy k) (xWZ k b q) (va_A (xWZ k b u) sz) t) (va_A (xWZ k b u) sz)) 0 0 (va_A (xWZ k b u) sz) := by
  refine xopen_z (wf := fun q : XZ => xWZ k b q) (lv := [(0, .ref ((b 0))), (1, .int p0), (2, .int p1)]) (by decide) rfl (Nat.le_of_ble_eq_true rfl) ?_
  intro p e s m args below meth c Q ls A H locs hx hb hml htg hown hin hK hP hD hE hS hA hl hret
  unfold xv_Z_bit at hv
  refine lv_aload_n hx hb xd_Z_bit_0 rfl (lv_at hl 0 rfl) ?_
  refine lv_iload_n hx hb xd_Z_bit_1 rfl (lv_at hl 1 rfl) ?_
  obtain ⟨hn2, hv⟩ := xan_v hv
  refine xcW_i (va_runV (As := [.int p0]) (rest := []) ⟨hx, hb, hml, hown, htg⟩ (c_Z_value l D z k b H.size u p0 hn2) (cwV 1 htg (xg_V0 xkin_Z_value xw_859 xw_861 xsel_Z_value xw_9) rfl rfl rfl (by decide +kernel) ⟨Nat.le_of_ble_eq_true rfl, Nat.le_of_ble_eq_true rfl⟩) ⟨xB_blind, xrecv_Z hK hP, fun U hU hW => xB_mk hP hK hD hE hS (xsubW hD hA hS) hU hW⟩ rfl rfl hl.1 rfl (lv_room (Nat.le_of_ble_eq_true rfl)) xd_Z_bit_2 ⟨Nat.le_of_ble_eq_true rfl, Nat.le_of_ble_eq_true rfl⟩) hD hA hS (fun r u1 H locs hw hP hD hS => ?_)
  obtain ⟨q1, hq1⟩ : ∃ q, q = xf_Z_value u p0 := ⟨_, rfl⟩
  obtain ⟨e1, e2⟩ := hw
  rw [← hq1] at e1
  obtain rfl : q1 = r := e1.symm
  obtain rfl : u = u1 := e2.symm
  have hP : va_P D xCl (xWZ k b u) H := hP
  have hD : va_D A (xWZ k b u) := hD
  have hv := xlt_v hq1 hv
  refine lv_iload_n hx hb xd_Z_bit_5 rfl (lv_at hl 2 rfl) ?_
  refine lv_ishr hx hb xd_Z_bit_6 ?_
  refine lv_iconst (v := 1) hx hb xd_Z_bit_7 (by decide) ?_
  refine lv_iand hx hb xd_Z_bit_8 ?_
  refine lv_iconst (v := 1) hx hb xd_Z_bit_9 (by decide) ?_
  have hj5 : ∀ (H : Heap) (locs : List Loc) (ls : Array Slot) (v4 : Int32), v4 = (if ((q1 >>> (p1 &&& 31)) &&& (1 : Int32)) = 1 then (1) else (0)) → lv_has ls 3 [(0, .ref ((b 0))), (1, .int p0), (2, .int p1)] → va_P D xCl (xWZ k b u) H → va_D A (xWZ k b u) → va_S A s.heap H locs → W p l e { frames := 2, cells := 0, slots := 0, locals := 42 } s m args below meth c H locs (0) (0) Q (F0 m 18 ls [.int v4]) := by
    intro H locs ls v4 hv4 hl hP hD hS
    have hv := xlt_v hv4 hv
    exact hret _ u H locs ls _ (xnar (X01_of hv4 (xit_01 (Or.inr rfl) (Or.inl rfl)))) ⟨(by unfold xf_Z_bit; exact (xlt_e hq1 (xlt_e hv4 rfl))), rfl⟩ hP hD hS xd_Z_bit_18
  refine lv_icmp_ne (tgt := 17) hx hb xd_Z_bit_10 rfl (fun h6 => ?_) (fun h6 => ?_)
  · refine lv_iconst (v := 0) hx hb xd_Z_bit_17 (by decide) ?_
    exact hj5 H locs ls (0 : Int32) (xif h6 rfl) hl hP hD hS
  · refine lv_iconst (v := 1) hx hb xd_Z_bit_13 (by decide) ?_
    refine lv_goto (tgt := 18) hx hb xd_Z_bit_14 rfl ?_
    exact hj5 H locs ls (1 : Int32) (xit h6 rfl) hl hP hD hS
theorem xt01_Z_bit (u : XZ) (p0 : Int32) (p1 : Int32) : X01 (xf_Z_bit u p0 p1) := by unfold xf_Z_bit; exact (xlt_01 (fun q1 hq1 => (xlt_01 (fun v4 hv4 => (X01_of hv4 (xit_01 (Or.inr rfl) (Or.inl rfl)))))))

noncomputable def xf_Z_setBit (u : XZ) (p0 : Int32) (p1 : Int32) (p2 : Int32) : XZ :=
  xlt (if p2 = 0 then (xlt (xf_Z_value u p0 : Int32) fun q2 => (q2 &&& (((1 : Int32) <<< (p1 &&& 31)) ^^^ (-1 : Int32)))) else (xlt (xf_Z_value u p0 : Int32) fun q4 => (q4 ||| ((1 : Int32) <<< (p1 &&& 31)))) : Int32) fun v6 =>
  xlt (xf_Z_become u p0 v6 : XZ) fun q8 =>
  q8
def xv_Z_setBit (u : XZ) (p0 : Int32) (p1 : Int32) (p2 : Int32) : Prop := XVc (
  (if p2 = 0 then ((xv_Z_value u p0) ∧ (xlt (xf_Z_value u p0 : Int32) fun q2 => True)) else ((xv_Z_value u p0) ∧ (xlt (xf_Z_value u p0 : Int32) fun q4 => True))) ∧
  xlt (if p2 = 0 then (xlt (xf_Z_value u p0 : Int32) fun q2 => (q2 &&& (((1 : Int32) <<< (p1 &&& 31)) ^^^ (-1 : Int32)))) else (xlt (xf_Z_value u p0 : Int32) fun q4 => (q4 ||| ((1 : Int32) <<< (p1 &&& 31)))) : Int32) fun v6 =>
  (xv_Z_become u p0 v6) ∧
  xlt (xf_Z_become u p0 v6 : XZ) fun q8 =>
  True)
set_option maxHeartbeats 4000000 in
set_option maxRecDepth 100000 in
theorem c_Z_setBit (l : Launch) (D : va_G) (z : (Nat → Nat) × (Nat → Nat)) (k : ClassId × ClassId) (b : Nat → Nat) (sz : Nat) (u : XZ) (p0 : Int32) (p1 : Int32) (p2 : Int32) (hv : xv_Z_setBit u p0 p1 p2) : Met l xy_Z_setBit (xk_Z_setBit :: lw_g) { frames := 2, cells := 0, slots := 0, locals := 43 } (va_Pc [.ref ((b 0)), .int p0, .int p1, .int p2] (xB D (xTy k) z sz (xWZ k b u))) (va_Qv (fun q : XZ => q = xf_Z_setBit u p0 p1 p2) (fun q t => xQ D (xTy k) (xWZ k b q) (va_A (xWZ k b u) sz) t) (va_A (xWZ k b u) sz)) 0 0 (va_A (xWZ k b u) sz) := by
  refine xopen_v (wf := fun q : XZ => xWZ k b q) (lv := [(0, .ref ((b 0))), (1, .int p0), (2, .int p1), (3, .int p2)]) (by decide) rfl (Nat.le_of_ble_eq_true rfl) ?_
  intro p e s m args below meth c Q ls A H locs hx hb hml htg hown hin hK hP hD hE hS hA hl hret
  unfold xv_Z_setBit at hv
  refine lv_aload_n hx hb xd_Z_setBit_0 rfl (lv_at hl 0 rfl) ?_
  refine lv_iload_n hx hb xd_Z_setBit_1 rfl (lv_at hl 1 rfl) ?_
  refine lv_iload_n hx hb xd_Z_setBit_2 rfl (lv_at hl 3 rfl) ?_
  obtain ⟨hva, hv⟩ := xan_v2 hv
  have hj7 : ∀ (H : Heap) (locs : List Loc) (ls : Array Slot) (v6 : Int32), v6 = (if p2 = 0 then (xlt (xf_Z_value u p0 : Int32) fun q2 => (q2 &&& (((1 : Int32) <<< (p1 &&& 31)) ^^^ (-1 : Int32)))) else (xlt (xf_Z_value u p0 : Int32) fun q4 => (q4 ||| ((1 : Int32) <<< (p1 &&& 31))))) → lv_has ls 4 [(0, .ref ((b 0))), (1, .int p0), (2, .int p1), (3, .int p2)] → va_P D xCl (xWZ k b u) H → va_D A (xWZ k b u) → va_S A s.heap H locs → W p l e { frames := 2, cells := 0, slots := 0, locals := 43 } s m args below meth c H locs (0) (0) Q (F0 m 29 ls [.int v6, .int p0, .ref ((b 0))]) := by
    intro H locs ls v6 hv6 hl hP hD hS
    have hv := xlt_v hv6 hv
    obtain ⟨hn9, hv⟩ := xan_v hv
    refine xcW_v (va_runV (As := [.int p0, .int v6]) (rest := []) ⟨hx, hb, hml, hown, htg⟩ (c_Z_become l D z k b H.size u p0 v6 hn9) (cwV 2 htg (xg_V0 xkin_Z_become xw_863 xw_865 xsel_Z_become xw_9) rfl rfl rfl (by decide +kernel) ⟨Nat.le_of_ble_eq_true rfl, Nat.le_of_ble_eq_true rfl⟩) ⟨xB_blind, xrecv_Z hK hP, fun U hU hW => xB_mk hP hK hD hE hS (xsubW hD hA hS) hU hW⟩ rfl rfl hl.1 rfl (lv_room (Nat.le_of_ble_eq_true rfl)) xd_Z_setBit_29 ⟨Nat.le_of_ble_eq_true rfl, Nat.le_of_ble_eq_true rfl⟩) hD hA hS (fun u1 H locs hw hP hD hS => ?_)
    obtain ⟨q8, hq8⟩ : ∃ q, q = xf_Z_become u p0 v6 := ⟨_, rfl⟩
    rw [← hq8] at hw
    obtain rfl : q8 = u1 := hw.symm
    have hP : va_P D xCl (xWZ k b q8) H := hP
    have hD : va_D A (xWZ k b q8) := hD
    have hv := xlt_v hq8 hv
    exact hret q8 H locs ls _ (by unfold xf_Z_setBit; exact (xlt_e hv6 (xlt_e hq8 rfl))) hP hD hS xd_Z_setBit_32
  have hv := hva
  refine lv_if_eq (tgt := 18) hx hb xd_Z_setBit_3 rfl (fun h10 => ?_) (fun h10 => ?_)
  · have hv := xit_v h10 hv
    refine lv_aload_n hx hb xd_Z_setBit_18 rfl (lv_at hl 0 rfl) ?_
    refine lv_iload_n hx hb xd_Z_setBit_19 rfl (lv_at hl 1 rfl) ?_
    obtain ⟨hn12, hv⟩ := xan_v hv
    refine xcW_i (va_runV (As := [.int p0]) (rest := [.int p0, .ref ((b 0))]) ⟨hx, hb, hml, hown, htg⟩ (c_Z_value l D z k b H.size u p0 hn12) (cwV 1 htg (xg_V0 xkin_Z_value xw_859 xw_861 xsel_Z_value xw_9) rfl rfl rfl (by decide +kernel) ⟨Nat.le_of_ble_eq_true rfl, Nat.le_of_ble_eq_true rfl⟩) ⟨xB_blind, xrecv_Z hK hP, fun U hU hW => xB_mk hP hK hD hE hS (xsubW hD hA hS) hU hW⟩ rfl rfl hl.1 rfl (lv_room (Nat.le_of_ble_eq_true rfl)) xd_Z_setBit_20 ⟨Nat.le_of_ble_eq_true rfl, Nat.le_of_ble_eq_true rfl⟩) hD hA hS (fun r u1 H locs hw hP hD hS => ?_)
    obtain ⟨q11, hq11⟩ : ∃ q, q = xf_Z_value u p0 := ⟨_, rfl⟩
    obtain ⟨e1, e2⟩ := hw
    rw [← hq11] at e1
    obtain rfl : q11 = r := e1.symm
    obtain rfl : u = u1 := e2.symm
    have hP : va_P D xCl (xWZ k b u) H := hP
    have hD : va_D A (xWZ k b u) := hD
    have hv := xlt_v hq11 hv
    refine lv_iconst (v := 1) hx hb xd_Z_setBit_23 (by decide) ?_
    refine lv_iload_n hx hb xd_Z_setBit_24 rfl (lv_at hl 2 rfl) ?_
    refine lv_ishl hx hb xd_Z_setBit_25 ?_
    refine lv_iconst (v := (-1)) hx hb xd_Z_setBit_26 (by decide) ?_
    refine lv_ixor hx hb xd_Z_setBit_27 ?_
    refine lv_iand hx hb xd_Z_setBit_28 ?_
    exact hj7 H locs ls (q11 &&& (((1 : Int32) <<< (p1 &&& 31)) ^^^ (-1 : Int32))) (xit h10 (xlt_e hq11 rfl)) hl hP hD hS
  · have hv := xif_v h10 hv
    refine lv_aload_n hx hb xd_Z_setBit_6 rfl (lv_at hl 0 rfl) ?_
    refine lv_iload_n hx hb xd_Z_setBit_7 rfl (lv_at hl 1 rfl) ?_
    obtain ⟨hn14, hv⟩ := xan_v hv
    refine xcW_i (va_runV (As := [.int p0]) (rest := [.int p0, .ref ((b 0))]) ⟨hx, hb, hml, hown, htg⟩ (c_Z_value l D z k b H.size u p0 hn14) (cwV 1 htg (xg_V0 xkin_Z_value xw_859 xw_861 xsel_Z_value xw_9) rfl rfl rfl (by decide +kernel) ⟨Nat.le_of_ble_eq_true rfl, Nat.le_of_ble_eq_true rfl⟩) ⟨xB_blind, xrecv_Z hK hP, fun U hU hW => xB_mk hP hK hD hE hS (xsubW hD hA hS) hU hW⟩ rfl rfl hl.1 rfl (lv_room (Nat.le_of_ble_eq_true rfl)) xd_Z_setBit_8 ⟨Nat.le_of_ble_eq_true rfl, Nat.le_of_ble_eq_true rfl⟩) hD hA hS (fun r u1 H locs hw hP hD hS => ?_)
    obtain ⟨q13, hq13⟩ : ∃ q, q = xf_Z_value u p0 := ⟨_, rfl⟩
    obtain ⟨e1, e2⟩ := hw
    rw [← hq13] at e1
    obtain rfl : q13 = r := e1.symm
    obtain rfl : u = u1 := e2.symm
    have hP : va_P D xCl (xWZ k b u) H := hP
    have hD : va_D A (xWZ k b u) := hD
    have hv := xlt_v hq13 hv
    refine lv_iconst (v := 1) hx hb xd_Z_setBit_11 (by decide) ?_
    refine lv_iload_n hx hb xd_Z_setBit_12 rfl (lv_at hl 2 rfl) ?_
    refine lv_ishl hx hb xd_Z_setBit_13 ?_
    refine lv_ior hx hb xd_Z_setBit_14 ?_
    refine lv_goto (tgt := 29) hx hb xd_Z_setBit_15 rfl ?_
    exact hj7 H locs ls (q13 ||| ((1 : Int32) <<< (p1 &&& 31))) (xif h10 (xlt_e hq13 rfl)) hl hP hD hS

noncomputable def xf_Z_tells (u : XZ) (p0 : Int32) : Int32 :=
  if p0 = 324 then
    xlt (xf_Z_value u p0 : Int32) fun q2 =>
    xlt (if (lg_cmp (xg_Z_time u) (xg_Z_alarm u)) < 0 then (0) else (32) : Int32) fun v5 =>
    xlt (if (xz (xg_Z_line u)) = 0 then (0) else (512) : Int32) fun v8 =>
    ((q2 ||| v5) ||| v8)
  else
    if p0 = 516 then
      xlt (xf_Z_value u (1540 : Int32) : Int32) fun q13 =>
      xlt (xf_Z_value u (1539 : Int32) : Int32) fun q15 =>
      ((q13 &&& q15) >>> ((1 : Int32) &&& 31))
    else
      if p0 = 580 then
        xlt (xf_Z_value u (1605 : Int32) : Int32) fun q18 =>
        xlt (xf_Z_value u (1539 : Int32) : Int32) fun q20 =>
        ((q18 &&& q20) >>> ((1 : Int32) &&& 31))
      else
        if p0 = 1604 then
          xlt (xf_Z_value u (1605 : Int32) : Int32) fun q23 =>
          q23
        else
          if p0 = 3073 then
            (Int64.toInt32 ((xg_Z_time u) &&& (4294967295 : Int64)))
          else
            if p0 = 3201 then
              (Int64.toInt32 ((xg_Z_time u) >>> (Int32.toInt64 (32 : Int32) &&& 63)))
            else
              xlt (xf_Z_value u p0 : Int32) fun q27 =>
              q27
def xv_Z_tells (u : XZ) (p0 : Int32) : Prop := XVc (
  if p0 = 324 then
    (xv_Z_value u p0) ∧
    xlt (xf_Z_value u p0 : Int32) fun q2 =>
    xlt (if (lg_cmp (xg_Z_time u) (xg_Z_alarm u)) < 0 then (0) else (32) : Int32) fun v5 =>
    xlt (if (xz (xg_Z_line u)) = 0 then (0) else (512) : Int32) fun v8 =>
    True
  else
    if p0 = 516 then
      (xv_Z_value u (1540 : Int32)) ∧
      xlt (xf_Z_value u (1540 : Int32) : Int32) fun q13 =>
      (xv_Z_value u (1539 : Int32)) ∧
      xlt (xf_Z_value u (1539 : Int32) : Int32) fun q15 =>
      True
    else
      if p0 = 580 then
        (xv_Z_value u (1605 : Int32)) ∧
        xlt (xf_Z_value u (1605 : Int32) : Int32) fun q18 =>
        (xv_Z_value u (1539 : Int32)) ∧
        xlt (xf_Z_value u (1539 : Int32) : Int32) fun q20 =>
        True
      else
        if p0 = 1604 then
          (xv_Z_value u (1605 : Int32)) ∧
          xlt (xf_Z_value u (1605 : Int32) : Int32) fun q23 =>
          True
        else
          if p0 = 3073 then
            True
          else
            if p0 = 3201 then
              True
            else
              (xv_Z_value u p0) ∧
              xlt (xf_Z_value u p0 : Int32) fun q27 =>
              True)
set_option maxHeartbeats 4000000 in
set_option maxRecDepth 100000 in
theorem c_Z_tells (l : Launch) (D : va_G) (z : (Nat → Nat) × (Nat → Nat)) (k : ClassId × ClassId) (b : Nat → Nat) (sz : Nat) (u : XZ) (p0 : Int32) (hv : xv_Z_tells u p0) : Met l xy_Z_tells (xk_Z_tells :: lw_g) { frames := 2, cells := 0, slots := 0, locals := 42 } (va_Pc [.ref ((b 0)), .int p0] (xB D (xTy k) z sz (xWZ k b u))) (va_Qi (fun r (q : XZ) => r = xf_Z_tells u p0 ∧ q = u) (fun q t => xQ D (xTy k) (xWZ k b q) (va_A (xWZ k b u) sz) t) (va_A (xWZ k b u) sz)) 0 0 (va_A (xWZ k b u) sz) := by
  refine xopen_i (wf := fun q : XZ => xWZ k b q) (lv := [(0, .ref ((b 0))), (1, .int p0)]) (by decide) rfl (Nat.le_of_ble_eq_true rfl) ?_
  intro p e s m args below meth c Q ls A H locs hx hb hml htg hown hin hK hP hD hE hS hA hl hret
  unfold xv_Z_tells at hv
  refine lv_iload_n hx hb xd_Z_tells_0 rfl (lv_at hl 1 rfl) ?_
  refine (Decidable.em (p0 = 324)).elim (fun h1 => ?_) (fun h1 => ?_)
  · have hv := xit_v h1 hv
    refine lv_lookup (tgt := 60) (off := 59) hx hb xd_Z_tells_1 (by decide +kernel) (by rw [h1]; decide +kernel) rfl ?_
    refine lv_aload_n hx hb xd_Z_tells_60 rfl (lv_at hl 0 rfl) ?_
    refine lv_iload_n hx hb xd_Z_tells_61 rfl (lv_at hl 1 rfl) ?_
    obtain ⟨hn3, hv⟩ := xan_v hv
    refine xcW_i (va_runV (As := [.int p0]) (rest := []) ⟨hx, hb, hml, hown, htg⟩ (c_Z_value l D z k b H.size u p0 hn3) (cwV 1 htg (xg_V0 xkin_Z_value xw_859 xw_861 xsel_Z_value xw_9) rfl rfl rfl (by decide +kernel) ⟨Nat.le_of_ble_eq_true rfl, Nat.le_of_ble_eq_true rfl⟩) ⟨xB_blind, xrecv_Z hK hP, fun U hU hW => xB_mk hP hK hD hE hS (xsubW hD hA hS) hU hW⟩ rfl rfl hl.1 rfl (lv_room (Nat.le_of_ble_eq_true rfl)) xd_Z_tells_62 ⟨Nat.le_of_ble_eq_true rfl, Nat.le_of_ble_eq_true rfl⟩) hD hA hS (fun r u1 H locs hw hP hD hS => ?_)
    obtain ⟨q2, hq2⟩ : ∃ q, q = xf_Z_value u p0 := ⟨_, rfl⟩
    obtain ⟨e1, e2⟩ := hw
    rw [← hq2] at e1
    obtain rfl : q2 = r := e1.symm
    obtain rfl : u = u1 := e2.symm
    have hP : va_P D xCl (xWZ k b u) H := hP
    have hD : va_D A (xWZ k b u) := hD
    have hv := xlt_v hq2 hv
    refine lv_aload_n hx hb xd_Z_tells_65 rfl (lv_at hl 0 rfl) ?_
    refine xget_Z_time (v := (xg_Z_time u)) hx hb htg hown hK hP (htg _ xw_732) rfl xd_Z_tells_66 ?_
    refine lv_aload_n hx hb xd_Z_tells_69 rfl (lv_at hl 0 rfl) ?_
    refine xget_Z_alarm (v := (xg_Z_alarm u)) hx hb htg hown hK hP (htg _ xw_733) rfl xd_Z_tells_70 ?_
    refine W.lcmp hx hb xd_Z_tells_73 ?_
    have hj6 : ∀ (H : Heap) (locs : List Loc) (ls : Array Slot) (v5 : Int32), v5 = (if (lg_cmp (xg_Z_time u) (xg_Z_alarm u)) < 0 then (0) else (32)) → lv_has ls 2 [(0, .ref ((b 0))), (1, .int p0)] → va_P D xCl (xWZ k b u) H → va_D A (xWZ k b u) → va_S A s.heap H locs → W p l e { frames := 2, cells := 0, slots := 0, locals := 42 } s m args below meth c H locs (0) (0) Q (F0 m 83 ls [.int v5, .int q2]) := by
      intro H locs ls v5 hv5 hl hP hD hS
      have hv := xlt_v hv5 hv
      refine lv_ior hx hb xd_Z_tells_83 ?_
      refine lv_aload_n hx hb xd_Z_tells_84 rfl (lv_at hl 0 rfl) ?_
      refine xget_Z_line (v := (xg_Z_line u)) hx hb htg hown hK hP (htg _ xw_734) rfl xd_Z_tells_85 ?_
      have hj9 : ∀ (H : Heap) (locs : List Loc) (ls : Array Slot) (v8 : Int32), v8 = (if (xz (xg_Z_line u)) = 0 then (0) else (512)) → lv_has ls 2 [(0, .ref ((b 0))), (1, .int p0)] → va_P D xCl (xWZ k b u) H → va_D A (xWZ k b u) → va_S A s.heap H locs → W p l e { frames := 2, cells := 0, slots := 0, locals := 42 } s m args below meth c H locs (0) (0) Q (F0 m 98 ls [.int v8, .int ((q2 ||| v5))]) := by
        intro H locs ls v8 hv8 hl hP hD hS
        have hv := xlt_v hv8 hv
        refine lv_ior hx hb xd_Z_tells_98 ?_
        exact hret _ u H locs ls _ ⟨(by unfold xf_Z_tells; exact (xit h1 (xlt_e hq2 (xlt_e hv5 (xlt_e hv8 rfl))))), rfl⟩ hP hD hS xd_Z_tells_99
      refine lv_if_eq (tgt := 97) hx hb xd_Z_tells_88 rfl (fun h10 => ?_) (fun h10 => ?_)
      · refine lv_iconst (v := 0) hx hb xd_Z_tells_97 (by decide) ?_
        exact hj9 H locs ls (0 : Int32) (xit h10 rfl) hl hP hD hS
      · refine lv_sipush (v := 512) hx hb xd_Z_tells_91 (by decide) ?_
        refine lv_goto (tgt := 98) hx hb xd_Z_tells_94 rfl ?_
        exact hj9 H locs ls (512 : Int32) (xif h10 rfl) hl hP hD hS
    refine lv_if_lt (tgt := 82) hx hb xd_Z_tells_74 rfl (fun h11 => ?_) (fun h11 => ?_)
    · refine lv_iconst (v := 0) hx hb xd_Z_tells_82 (by decide) ?_
      exact hj6 H locs ls (0 : Int32) (xit h11 rfl) hl hP hD hS
    · refine lv_bipush (v := 32) hx hb xd_Z_tells_77 (by decide) ?_
      refine lv_goto (tgt := 83) hx hb xd_Z_tells_79 rfl ?_
      exact hj6 H locs ls (32 : Int32) (xif h11 rfl) hl hP hD hS
  · have hv := xif_v h1 hv
    refine (Decidable.em (p0 = 516)).elim (fun h12 => ?_) (fun h12 => ?_)
    · have hv := xit_v h12 hv
      refine lv_lookup (tgt := 126) (off := 125) hx hb xd_Z_tells_1 (by decide +kernel) (by rw [h12]; decide +kernel) rfl ?_
      refine lv_aload_n hx hb xd_Z_tells_126 rfl (lv_at hl 0 rfl) ?_
      refine lv_sipush (v := 1540) hx hb xd_Z_tells_127 (by decide) ?_
      obtain ⟨hn14, hv⟩ := xan_v hv
      refine xcW_i (va_runV (As := [.int 1540]) (rest := []) ⟨hx, hb, hml, hown, htg⟩ (c_Z_value l D z k b H.size u (1540 : Int32) hn14) (cwV 1 htg (xg_V0 xkin_Z_value xw_859 xw_861 xsel_Z_value xw_9) rfl rfl rfl (by decide +kernel) ⟨Nat.le_of_ble_eq_true rfl, Nat.le_of_ble_eq_true rfl⟩) ⟨xB_blind, xrecv_Z hK hP, fun U hU hW => xB_mk hP hK hD hE hS (xsubW hD hA hS) hU hW⟩ rfl rfl hl.1 rfl (lv_room (Nat.le_of_ble_eq_true rfl)) xd_Z_tells_130 ⟨Nat.le_of_ble_eq_true rfl, Nat.le_of_ble_eq_true rfl⟩) hD hA hS (fun r u1 H locs hw hP hD hS => ?_)
      obtain ⟨q13, hq13⟩ : ∃ q, q = xf_Z_value u (1540 : Int32) := ⟨_, rfl⟩
      obtain ⟨e1, e2⟩ := hw
      rw [← hq13] at e1
      obtain rfl : q13 = r := e1.symm
      obtain rfl : u = u1 := e2.symm
      have hP : va_P D xCl (xWZ k b u) H := hP
      have hD : va_D A (xWZ k b u) := hD
      have hv := xlt_v hq13 hv
      refine lv_aload_n hx hb xd_Z_tells_133 rfl (lv_at hl 0 rfl) ?_
      refine lv_sipush (v := 1539) hx hb xd_Z_tells_134 (by decide) ?_
      obtain ⟨hn16, hv⟩ := xan_v hv
      refine xcW_i (va_runV (As := [.int 1539]) (rest := [.int q13]) ⟨hx, hb, hml, hown, htg⟩ (c_Z_value l D z k b H.size u (1539 : Int32) hn16) (cwV 1 htg (xg_V0 xkin_Z_value xw_859 xw_861 xsel_Z_value xw_9) rfl rfl rfl (by decide +kernel) ⟨Nat.le_of_ble_eq_true rfl, Nat.le_of_ble_eq_true rfl⟩) ⟨xB_blind, xrecv_Z hK hP, fun U hU hW => xB_mk hP hK hD hE hS (xsubW hD hA hS) hU hW⟩ rfl rfl hl.1 rfl (lv_room (Nat.le_of_ble_eq_true rfl)) xd_Z_tells_137 ⟨Nat.le_of_ble_eq_true rfl, Nat.le_of_ble_eq_true rfl⟩) hD hA hS (fun r u1 H locs hw hP hD hS => ?_)
      obtain ⟨q15, hq15⟩ : ∃ q, q = xf_Z_value u (1539 : Int32) := ⟨_, rfl⟩
      obtain ⟨e1, e2⟩ := hw
      rw [← hq15] at e1
      obtain rfl : q15 = r := e1.symm
      obtain rfl : u = u1 := e2.symm
      have hP : va_P D xCl (xWZ k b u) H := hP
      have hD : va_D A (xWZ k b u) := hD
      have hv := xlt_v hq15 hv
      refine lv_iand hx hb xd_Z_tells_140 ?_
      refine lv_iconst (v := 1) hx hb xd_Z_tells_141 (by decide) ?_
      refine lv_ishr hx hb xd_Z_tells_142 ?_
      exact hret _ u H locs ls _ ⟨(by unfold xf_Z_tells; exact (xif h1 (xit h12 (xlt_e hq13 (xlt_e hq15 rfl))))), rfl⟩ hP hD hS xd_Z_tells_143
    · have hv := xif_v h12 hv
      refine (Decidable.em (p0 = 580)).elim (fun h17 => ?_) (fun h17 => ?_)
      · have hv := xit_v h17 hv
        refine lv_lookup (tgt := 108) (off := 107) hx hb xd_Z_tells_1 (by decide +kernel) (by rw [h17]; decide +kernel) rfl ?_
        refine lv_aload_n hx hb xd_Z_tells_108 rfl (lv_at hl 0 rfl) ?_
        refine lv_sipush (v := 1605) hx hb xd_Z_tells_109 (by decide) ?_
        obtain ⟨hn19, hv⟩ := xan_v hv
        refine xcW_i (va_runV (As := [.int 1605]) (rest := []) ⟨hx, hb, hml, hown, htg⟩ (c_Z_value l D z k b H.size u (1605 : Int32) hn19) (cwV 1 htg (xg_V0 xkin_Z_value xw_859 xw_861 xsel_Z_value xw_9) rfl rfl rfl (by decide +kernel) ⟨Nat.le_of_ble_eq_true rfl, Nat.le_of_ble_eq_true rfl⟩) ⟨xB_blind, xrecv_Z hK hP, fun U hU hW => xB_mk hP hK hD hE hS (xsubW hD hA hS) hU hW⟩ rfl rfl hl.1 rfl (lv_room (Nat.le_of_ble_eq_true rfl)) xd_Z_tells_112 ⟨Nat.le_of_ble_eq_true rfl, Nat.le_of_ble_eq_true rfl⟩) hD hA hS (fun r u1 H locs hw hP hD hS => ?_)
        obtain ⟨q18, hq18⟩ : ∃ q, q = xf_Z_value u (1605 : Int32) := ⟨_, rfl⟩
        obtain ⟨e1, e2⟩ := hw
        rw [← hq18] at e1
        obtain rfl : q18 = r := e1.symm
        obtain rfl : u = u1 := e2.symm
        have hP : va_P D xCl (xWZ k b u) H := hP
        have hD : va_D A (xWZ k b u) := hD
        have hv := xlt_v hq18 hv
        refine lv_aload_n hx hb xd_Z_tells_115 rfl (lv_at hl 0 rfl) ?_
        refine lv_sipush (v := 1539) hx hb xd_Z_tells_116 (by decide) ?_
        obtain ⟨hn21, hv⟩ := xan_v hv
        refine xcW_i (va_runV (As := [.int 1539]) (rest := [.int q18]) ⟨hx, hb, hml, hown, htg⟩ (c_Z_value l D z k b H.size u (1539 : Int32) hn21) (cwV 1 htg (xg_V0 xkin_Z_value xw_859 xw_861 xsel_Z_value xw_9) rfl rfl rfl (by decide +kernel) ⟨Nat.le_of_ble_eq_true rfl, Nat.le_of_ble_eq_true rfl⟩) ⟨xB_blind, xrecv_Z hK hP, fun U hU hW => xB_mk hP hK hD hE hS (xsubW hD hA hS) hU hW⟩ rfl rfl hl.1 rfl (lv_room (Nat.le_of_ble_eq_true rfl)) xd_Z_tells_119 ⟨Nat.le_of_ble_eq_true rfl, Nat.le_of_ble_eq_true rfl⟩) hD hA hS (fun r u1 H locs hw hP hD hS => ?_)
        obtain ⟨q20, hq20⟩ : ∃ q, q = xf_Z_value u (1539 : Int32) := ⟨_, rfl⟩
        obtain ⟨e1, e2⟩ := hw
        rw [← hq20] at e1
        obtain rfl : q20 = r := e1.symm
        obtain rfl : u = u1 := e2.symm
        have hP : va_P D xCl (xWZ k b u) H := hP
        have hD : va_D A (xWZ k b u) := hD
        have hv := xlt_v hq20 hv
        refine lv_iand hx hb xd_Z_tells_122 ?_
        refine lv_iconst (v := 1) hx hb xd_Z_tells_123 (by decide) ?_
        refine lv_ishr hx hb xd_Z_tells_124 ?_
        exact hret _ u H locs ls _ ⟨(by unfold xf_Z_tells; exact (xif h1 (xif h12 (xit h17 (xlt_e hq18 (xlt_e hq20 rfl)))))), rfl⟩ hP hD hS xd_Z_tells_125
      · have hv := xif_v h17 hv
        refine (Decidable.em (p0 = 1604)).elim (fun h22 => ?_) (fun h22 => ?_)
        · have hv := xit_v h22 hv
          refine lv_lookup (tgt := 100) (off := 99) hx hb xd_Z_tells_1 (by decide +kernel) (by rw [h22]; decide +kernel) rfl ?_
          refine lv_aload_n hx hb xd_Z_tells_100 rfl (lv_at hl 0 rfl) ?_
          refine lv_sipush (v := 1605) hx hb xd_Z_tells_101 (by decide) ?_
          obtain ⟨hn24, hv⟩ := xan_v hv
          refine xcW_i (va_runV (As := [.int 1605]) (rest := []) ⟨hx, hb, hml, hown, htg⟩ (c_Z_value l D z k b H.size u (1605 : Int32) hn24) (cwV 1 htg (xg_V0 xkin_Z_value xw_859 xw_861 xsel_Z_value xw_9) rfl rfl rfl (by decide +kernel) ⟨Nat.le_of_ble_eq_true rfl, Nat.le_of_ble_eq_true rfl⟩) ⟨xB_blind, xrecv_Z hK hP, fun U hU hW => xB_mk hP hK hD hE hS (xsubW hD hA hS) hU hW⟩ rfl rfl hl.1 rfl (lv_room (Nat.le_of_ble_eq_true rfl)) xd_Z_tells_104 ⟨Nat.le_of_ble_eq_true rfl, Nat.le_of_ble_eq_true rfl⟩) hD hA hS (fun r u1 H locs hw hP hD hS => ?_)
          obtain ⟨q23, hq23⟩ : ∃ q, q = xf_Z_value u (1605 : Int32) := ⟨_, rfl⟩
          obtain ⟨e1, e2⟩ := hw
          rw [← hq23] at e1
          obtain rfl : q23 = r := e1.symm
          obtain rfl : u = u1 := e2.symm
          have hP : va_P D xCl (xWZ k b u) H := hP
          have hD : va_D A (xWZ k b u) := hD
          have hv := xlt_v hq23 hv
          exact hret _ u H locs ls _ ⟨(by unfold xf_Z_tells; exact (xif h1 (xif h12 (xif h17 (xit h22 (xlt_e hq23 rfl)))))), rfl⟩ hP hD hS xd_Z_tells_107
        · have hv := xif_v h22 hv
          refine (Decidable.em (p0 = 3073)).elim (fun h25 => ?_) (fun h25 => ?_)
          · have hv := xit_v h25 hv
            refine lv_lookup (tgt := 144) (off := 143) hx hb xd_Z_tells_1 (by decide +kernel) (by rw [h25]; decide +kernel) rfl ?_
            refine lv_aload_n hx hb xd_Z_tells_144 rfl (lv_at hl 0 rfl) ?_
            refine xget_Z_time (v := (xg_Z_time u)) hx hb htg hown hK hP (htg _ xw_732) rfl xd_Z_tells_145 ?_
            refine lv_ldc2 (v := 4294967295) hx hb hown (htg _ xw_887) xd_Z_tells_148 ?_
            refine lv_land hx hb xd_Z_tells_151 ?_
            refine lv_l2i (v := (Int64.toInt32 ((xg_Z_time u) &&& (4294967295 : Int64)))) hx hb xd_Z_tells_152 rfl ?_
            exact hret _ u H locs ls _ ⟨(by unfold xf_Z_tells; exact (xif h1 (xif h12 (xif h17 (xif h22 (xit h25 rfl)))))), rfl⟩ hP hD hS xd_Z_tells_153
          · have hv := xif_v h25 hv
            refine (Decidable.em (p0 = 3201)).elim (fun h26 => ?_) (fun h26 => ?_)
            · have hv := xit_v h26 hv
              refine lv_lookup (tgt := 154) (off := 153) hx hb xd_Z_tells_1 (by decide +kernel) (by rw [h26]; decide +kernel) rfl ?_
              refine lv_aload_n hx hb xd_Z_tells_154 rfl (lv_at hl 0 rfl) ?_
              refine xget_Z_time (v := (xg_Z_time u)) hx hb htg hown hK hP (htg _ xw_732) rfl xd_Z_tells_155 ?_
              refine lv_bipush (v := 32) hx hb xd_Z_tells_158 (by decide) ?_
              refine lv_lshr (v := ((xg_Z_time u) >>> (Int32.toInt64 (32 : Int32) &&& 63))) hx hb xd_Z_tells_160 rfl ?_
              refine lv_l2i (v := (Int64.toInt32 ((xg_Z_time u) >>> (Int32.toInt64 (32 : Int32) &&& 63)))) hx hb xd_Z_tells_161 rfl ?_
              exact hret _ u H locs ls _ ⟨(by unfold xf_Z_tells; exact (xif h1 (xif h12 (xif h17 (xif h22 (xif h25 (xit h26 rfl))))))), rfl⟩ hP hD hS xd_Z_tells_162
            · have hv := xif_v h26 hv
              refine lv_lookup (tgt := 163) (off := 162) hx hb xd_Z_tells_1 (by decide +kernel) (by first | (rw [lv_osw h1 (by decide), lv_osw h12 (by decide), lv_osw h17 (by decide), lv_osw h22 (by decide), lv_osw h25 (by decide), lv_osw h26 (by decide)]; rfl) | (simp only [lv_osw h1 (by decide), lv_osw h12 (by decide), lv_osw h17 (by decide), lv_osw h22 (by decide), lv_osw h25 (by decide), lv_osw h26 (by decide)]; rfl)) rfl ?_
              refine lv_aload_n hx hb xd_Z_tells_163 rfl (lv_at hl 0 rfl) ?_
              refine lv_iload_n hx hb xd_Z_tells_164 rfl (lv_at hl 1 rfl) ?_
              obtain ⟨hn28, hv⟩ := xan_v hv
              refine xcW_i (va_runV (As := [.int p0]) (rest := []) ⟨hx, hb, hml, hown, htg⟩ (c_Z_value l D z k b H.size u p0 hn28) (cwV 1 htg (xg_V0 xkin_Z_value xw_859 xw_861 xsel_Z_value xw_9) rfl rfl rfl (by decide +kernel) ⟨Nat.le_of_ble_eq_true rfl, Nat.le_of_ble_eq_true rfl⟩) ⟨xB_blind, xrecv_Z hK hP, fun U hU hW => xB_mk hP hK hD hE hS (xsubW hD hA hS) hU hW⟩ rfl rfl hl.1 rfl (lv_room (Nat.le_of_ble_eq_true rfl)) xd_Z_tells_165 ⟨Nat.le_of_ble_eq_true rfl, Nat.le_of_ble_eq_true rfl⟩) hD hA hS (fun r u1 H locs hw hP hD hS => ?_)
              obtain ⟨q27, hq27⟩ : ∃ q, q = xf_Z_value u p0 := ⟨_, rfl⟩
              obtain ⟨e1, e2⟩ := hw
              rw [← hq27] at e1
              obtain rfl : q27 = r := e1.symm
              obtain rfl : u = u1 := e2.symm
              have hP : va_P D xCl (xWZ k b u) H := hP
              have hD : va_D A (xWZ k b u) := hD
              have hv := xlt_v hq27 hv
              exact hret _ u H locs ls _ ⟨(by unfold xf_Z_tells; exact (xif h1 (xif h12 (xif h17 (xif h22 (xif h25 (xif h26 (xlt_e hq27 rfl)))))))), rfl⟩ hP hD hS xd_Z_tells_168

noncomputable def xf_Z_write (u : XZ) (p0 : Int32) (p1 : Int32) : XZ :=
  xlt (if p0 = 1604 then (xlt (if ((p1 >>> ((2 : Int32) &&& 31)) &&& (1 : Int32)) = 1 then (1) else (0) : Int32) fun v64 => xlt (xf_Z_setBit u (1605 : Int32) (2 : Int32) v64 : XZ) fun q66 => q66) else (if p0 = 580 then (xlt (xf_Z_bit u (1539 : Int32) (2 : Int32) : Int32) fun q49 => xlt (if q49 = 0 then (xlt (xf_Z_bit u (1605 : Int32) (2 : Int32) : Int32) fun q52 => q52) else (if ((p1 >>> ((1 : Int32) &&& 31)) &&& (1 : Int32)) = 1 then (1) else (0)) : Int32) fun v55 => xlt (xf_Z_setBit u (1605 : Int32) (2 : Int32) v55 : XZ) fun q57 => q57) else (if p0 = 516 then (xlt (xf_Z_bit u (1539 : Int32) (2 : Int32) : Int32) fun q7 => xlt (if q7 = 0 then (xlt (xf_Z_bit u (1540 : Int32) (2 : Int32) : Int32) fun q10 => q10) else (if ((p1 >>> (((2 : Int32) - (1 : Int32)) &&& 31)) &&& (1 : Int32)) = 1 then (1) else (0)) : Int32) fun v13 => xlt (xf_Z_setBit u (1540 : Int32) (2 : Int32) v13 : XZ) fun q15 => xlt (xf_Z_bit q15 (1539 : Int32) (6 : Int32) : Int32) fun q17 => xlt (if q17 = 0 then (xlt (xf_Z_bit q15 (1540 : Int32) (6 : Int32) : Int32) fun q20 => q20) else (if ((p1 >>> (((6 : Int32) - (1 : Int32)) &&& 31)) &&& (1 : Int32)) = 1 then (1) else (0)) : Int32) fun v23 => xlt (xf_Z_setBit q15 (1540 : Int32) (6 : Int32) v23 : XZ) fun q25 => xlt (xf_Z_bit q25 (1539 : Int32) (10 : Int32) : Int32) fun q27 => xlt (if q27 = 0 then (xlt (xf_Z_bit q25 (1540 : Int32) (10 : Int32) : Int32) fun q30 => q30) else (if ((p1 >>> (((10 : Int32) - (1 : Int32)) &&& 31)) &&& (1 : Int32)) = 1 then (1) else (0)) : Int32) fun v33 => xlt (xf_Z_setBit q25 (1540 : Int32) (10 : Int32) v33 : XZ) fun q35 => q35) else (xlt (xf_Z_kept p0 : Int32) fun r4 => xlt (xf_Z_become u p0 (p1 &&& r4) : XZ) fun q5 => q5))) : XZ) fun v69 =>
  v69
def xv_Z_write (u : XZ) (p0 : Int32) (p1 : Int32) : Prop := XVc (
  (if p0 = 1604 then (xlt (if ((p1 >>> ((2 : Int32) &&& 31)) &&& (1 : Int32)) = 1 then (1) else (0) : Int32) fun v64 => (xv_Z_setBit u (1605 : Int32) (2 : Int32) v64) ∧ (xlt (xf_Z_setBit u (1605 : Int32) (2 : Int32) v64 : XZ) fun q66 => True)) else (if p0 = 580 then ((xv_Z_bit u (1539 : Int32) (2 : Int32)) ∧ (xlt (xf_Z_bit u (1539 : Int32) (2 : Int32) : Int32) fun q49 => (if q49 = 0 then ((xv_Z_bit u (1605 : Int32) (2 : Int32)) ∧ (xlt (xf_Z_bit u (1605 : Int32) (2 : Int32) : Int32) fun q52 => True)) else (if ((p1 >>> ((1 : Int32) &&& 31)) &&& (1 : Int32)) = 1 then (True) else (True))) ∧ xlt (if q49 = 0 then (xlt (xf_Z_bit u (1605 : Int32) (2 : Int32) : Int32) fun q52 => q52) else (if ((p1 >>> ((1 : Int32) &&& 31)) &&& (1 : Int32)) = 1 then (1) else (0)) : Int32) fun v55 => (xv_Z_setBit u (1605 : Int32) (2 : Int32) v55) ∧ (xlt (xf_Z_setBit u (1605 : Int32) (2 : Int32) v55 : XZ) fun q57 => True))) else (if p0 = 516 then ((xv_Z_bit u (1539 : Int32) (2 : Int32)) ∧ (xlt (xf_Z_bit u (1539 : Int32) (2 : Int32) : Int32) fun q7 => (if q7 = 0 then ((xv_Z_bit u (1540 : Int32) (2 : Int32)) ∧ (xlt (xf_Z_bit u (1540 : Int32) (2 : Int32) : Int32) fun q10 => True)) else (if ((p1 >>> (((2 : Int32) - (1 : Int32)) &&& 31)) &&& (1 : Int32)) = 1 then (True) else (True))) ∧ xlt (if q7 = 0 then (xlt (xf_Z_bit u (1540 : Int32) (2 : Int32) : Int32) fun q10 => q10) else (if ((p1 >>> (((2 : Int32) - (1 : Int32)) &&& 31)) &&& (1 : Int32)) = 1 then (1) else (0)) : Int32) fun v13 => (xv_Z_setBit u (1540 : Int32) (2 : Int32) v13) ∧ (xlt (xf_Z_setBit u (1540 : Int32) (2 : Int32) v13 : XZ) fun q15 => (xv_Z_bit q15 (1539 : Int32) (6 : Int32)) ∧ (xlt (xf_Z_bit q15 (1539 : Int32) (6 : Int32) : Int32) fun q17 => (if q17 = 0 then ((xv_Z_bit q15 (1540 : Int32) (6 : Int32)) ∧ (xlt (xf_Z_bit q15 (1540 : Int32) (6 : Int32) : Int32) fun q20 => True)) else (if ((p1 >>> (((6 : Int32) - (1 : Int32)) &&& 31)) &&& (1 : Int32)) = 1 then (True) else (True))) ∧ xlt (if q17 = 0 then (xlt (xf_Z_bit q15 (1540 : Int32) (6 : Int32) : Int32) fun q20 => q20) else (if ((p1 >>> (((6 : Int32) - (1 : Int32)) &&& 31)) &&& (1 : Int32)) = 1 then (1) else (0)) : Int32) fun v23 => (xv_Z_setBit q15 (1540 : Int32) (6 : Int32) v23) ∧ (xlt (xf_Z_setBit q15 (1540 : Int32) (6 : Int32) v23 : XZ) fun q25 => (xv_Z_bit q25 (1539 : Int32) (10 : Int32)) ∧ (xlt (xf_Z_bit q25 (1539 : Int32) (10 : Int32) : Int32) fun q27 => (if q27 = 0 then ((xv_Z_bit q25 (1540 : Int32) (10 : Int32)) ∧ (xlt (xf_Z_bit q25 (1540 : Int32) (10 : Int32) : Int32) fun q30 => True)) else (if ((p1 >>> (((10 : Int32) - (1 : Int32)) &&& 31)) &&& (1 : Int32)) = 1 then (True) else (True))) ∧ xlt (if q27 = 0 then (xlt (xf_Z_bit q25 (1540 : Int32) (10 : Int32) : Int32) fun q30 => q30) else (if ((p1 >>> (((10 : Int32) - (1 : Int32)) &&& 31)) &&& (1 : Int32)) = 1 then (1) else (0)) : Int32) fun v33 => (xv_Z_setBit q25 (1540 : Int32) (10 : Int32) v33) ∧ (xlt (xf_Z_setBit q25 (1540 : Int32) (10 : Int32) v33 : XZ) fun q35 => True))))))) else (xlt (xf_Z_kept p0 : Int32) fun r4 => (xv_Z_become u p0 (p1 &&& r4)) ∧ (xlt (xf_Z_become u p0 (p1 &&& r4) : XZ) fun q5 => True))))) ∧
  xlt (if p0 = 1604 then (xlt (if ((p1 >>> ((2 : Int32) &&& 31)) &&& (1 : Int32)) = 1 then (1) else (0) : Int32) fun v64 => xlt (xf_Z_setBit u (1605 : Int32) (2 : Int32) v64 : XZ) fun q66 => q66) else (if p0 = 580 then (xlt (xf_Z_bit u (1539 : Int32) (2 : Int32) : Int32) fun q49 => xlt (if q49 = 0 then (xlt (xf_Z_bit u (1605 : Int32) (2 : Int32) : Int32) fun q52 => q52) else (if ((p1 >>> ((1 : Int32) &&& 31)) &&& (1 : Int32)) = 1 then (1) else (0)) : Int32) fun v55 => xlt (xf_Z_setBit u (1605 : Int32) (2 : Int32) v55 : XZ) fun q57 => q57) else (if p0 = 516 then (xlt (xf_Z_bit u (1539 : Int32) (2 : Int32) : Int32) fun q7 => xlt (if q7 = 0 then (xlt (xf_Z_bit u (1540 : Int32) (2 : Int32) : Int32) fun q10 => q10) else (if ((p1 >>> (((2 : Int32) - (1 : Int32)) &&& 31)) &&& (1 : Int32)) = 1 then (1) else (0)) : Int32) fun v13 => xlt (xf_Z_setBit u (1540 : Int32) (2 : Int32) v13 : XZ) fun q15 => xlt (xf_Z_bit q15 (1539 : Int32) (6 : Int32) : Int32) fun q17 => xlt (if q17 = 0 then (xlt (xf_Z_bit q15 (1540 : Int32) (6 : Int32) : Int32) fun q20 => q20) else (if ((p1 >>> (((6 : Int32) - (1 : Int32)) &&& 31)) &&& (1 : Int32)) = 1 then (1) else (0)) : Int32) fun v23 => xlt (xf_Z_setBit q15 (1540 : Int32) (6 : Int32) v23 : XZ) fun q25 => xlt (xf_Z_bit q25 (1539 : Int32) (10 : Int32) : Int32) fun q27 => xlt (if q27 = 0 then (xlt (xf_Z_bit q25 (1540 : Int32) (10 : Int32) : Int32) fun q30 => q30) else (if ((p1 >>> (((10 : Int32) - (1 : Int32)) &&& 31)) &&& (1 : Int32)) = 1 then (1) else (0)) : Int32) fun v33 => xlt (xf_Z_setBit q25 (1540 : Int32) (10 : Int32) v33 : XZ) fun q35 => q35) else (xlt (xf_Z_kept p0 : Int32) fun r4 => xlt (xf_Z_become u p0 (p1 &&& r4) : XZ) fun q5 => q5))) : XZ) fun v69 =>
  True)
set_option maxHeartbeats 4000000 in
set_option maxRecDepth 100000 in
theorem c_Z_write (l : Launch) (D : va_G) (z : (Nat → Nat) × (Nat → Nat)) (k : ClassId × ClassId) (b : Nat → Nat) (sz : Nat) (u : XZ) (p0 : Int32) (p1 : Int32) (hv : xv_Z_write u p0 p1) : Met l xy_Z_write (xk_Z_write :: lw_g) { frames := 3, cells := 0, slots := 0, locals := 66 } (va_Pc [.ref ((b 0)), .int p0, .int p1] (xB D (xTy k) z sz (xWZ k b u))) (va_Qv (fun q : XZ => q = xf_Z_write u p0 p1) (fun q t => xQ D (xTy k) (xWZ k b q) (va_A (xWZ k b u) sz) t) (va_A (xWZ k b u) sz)) 0 0 (va_A (xWZ k b u) sz) := by
  refine xopen_v (wf := fun q : XZ => xWZ k b q) (lv := [(0, .ref ((b 0))), (1, .int p0), (2, .int p1)]) (by decide) rfl (Nat.le_of_ble_eq_true rfl) ?_
  intro p e s m args below meth c Q ls A H locs hx hb hml htg hown hin hK hP hD hE hS hA hl hret
  unfold xv_Z_write at hv
  refine lv_iload_n hx hb xd_Z_write_0 rfl (lv_at hl 1 rfl) ?_
  refine lv_sipush (v := 1604) hx hb xd_Z_write_1 (by decide) ?_
  obtain ⟨hva, hv⟩ := xan_v2 hv
  have hj70 : ∀ (H : Heap) (locs : List Loc) (ls : Array Slot) (v69 : XZ), v69 = (if p0 = 1604 then (xlt (if ((p1 >>> ((2 : Int32) &&& 31)) &&& (1 : Int32)) = 1 then (1) else (0) : Int32) fun v64 => xlt (xf_Z_setBit u (1605 : Int32) (2 : Int32) v64 : XZ) fun q66 => q66) else (if p0 = 580 then (xlt (xf_Z_bit u (1539 : Int32) (2 : Int32) : Int32) fun q49 => xlt (if q49 = 0 then (xlt (xf_Z_bit u (1605 : Int32) (2 : Int32) : Int32) fun q52 => q52) else (if ((p1 >>> ((1 : Int32) &&& 31)) &&& (1 : Int32)) = 1 then (1) else (0)) : Int32) fun v55 => xlt (xf_Z_setBit u (1605 : Int32) (2 : Int32) v55 : XZ) fun q57 => q57) else (if p0 = 516 then (xlt (xf_Z_bit u (1539 : Int32) (2 : Int32) : Int32) fun q7 => xlt (if q7 = 0 then (xlt (xf_Z_bit u (1540 : Int32) (2 : Int32) : Int32) fun q10 => q10) else (if ((p1 >>> (((2 : Int32) - (1 : Int32)) &&& 31)) &&& (1 : Int32)) = 1 then (1) else (0)) : Int32) fun v13 => xlt (xf_Z_setBit u (1540 : Int32) (2 : Int32) v13 : XZ) fun q15 => xlt (xf_Z_bit q15 (1539 : Int32) (6 : Int32) : Int32) fun q17 => xlt (if q17 = 0 then (xlt (xf_Z_bit q15 (1540 : Int32) (6 : Int32) : Int32) fun q20 => q20) else (if ((p1 >>> (((6 : Int32) - (1 : Int32)) &&& 31)) &&& (1 : Int32)) = 1 then (1) else (0)) : Int32) fun v23 => xlt (xf_Z_setBit q15 (1540 : Int32) (6 : Int32) v23 : XZ) fun q25 => xlt (xf_Z_bit q25 (1539 : Int32) (10 : Int32) : Int32) fun q27 => xlt (if q27 = 0 then (xlt (xf_Z_bit q25 (1540 : Int32) (10 : Int32) : Int32) fun q30 => q30) else (if ((p1 >>> (((10 : Int32) - (1 : Int32)) &&& 31)) &&& (1 : Int32)) = 1 then (1) else (0)) : Int32) fun v33 => xlt (xf_Z_setBit q25 (1540 : Int32) (10 : Int32) v33 : XZ) fun q35 => q35) else (xlt (xf_Z_kept p0 : Int32) fun r4 => xlt (xf_Z_become u p0 (p1 &&& r4) : XZ) fun q5 => q5)))) → lv_has ls 4 [(0, .ref ((b 0))), (1, .int p0), (2, .int p1)] → va_P D xCl (xWZ k b v69) H → va_D A (xWZ k b v69) → va_S A s.heap H locs → W p l e { frames := 3, cells := 0, slots := 0, locals := 66 } s m args below meth c H locs (0) (0) Q (F0 m 167 ls []) := by
    intro H locs ls v69 hv69 hl hP hD hS
    have hv := xlt_v hv69 hv
    exact hret v69 H locs ls _ (by unfold xf_Z_write; exact (xlt_e hv69 rfl)) hP hD hS xd_Z_write_167
  have hv := hva
  refine lv_icmp_ne (tgt := 32) hx hb xd_Z_write_4 rfl (fun h71 => ?_) (fun h71 => ?_)
  · have hv := xif_v h71 hv
    refine lv_iload_n hx hb xd_Z_write_32 rfl (lv_at hl 1 rfl) ?_
    refine lv_sipush (v := 580) hx hb xd_Z_write_33 (by decide) ?_
    refine lv_icmp_ne (tgt := 86) hx hb xd_Z_write_36 rfl (fun h72 => ?_) (fun h72 => ?_)
    · have hv := xif_v h72 hv
      refine lv_iload_n hx hb xd_Z_write_86 rfl (lv_at hl 1 rfl) ?_
      refine lv_sipush (v := 516) hx hb xd_Z_write_87 (by decide) ?_
      refine lv_icmp_ne (tgt := 156) hx hb xd_Z_write_90 rfl (fun h73 => ?_) (fun h73 => ?_)
      · have hv := xif_v h73 hv
        refine lv_aload_n hx hb xd_Z_write_156 rfl (lv_at hl 0 rfl) ?_
        refine lv_iload_n hx hb xd_Z_write_157 rfl (lv_at hl 1 rfl) ?_
        refine lv_iload_n hx hb xd_Z_write_158 rfl (lv_at hl 2 rfl) ?_
        refine lv_iload_n hx hb xd_Z_write_159 rfl (lv_at hl 1 rfl) ?_
        refine xc0_i (va_runS (As := [.int p0]) (rest := [.int p1, .int p0, .ref ((b 0))]) ⟨hx, hb, hml, hown, htg⟩ (c_Z_kept l D (xTy k) z H.size p0) (va_cwS 1 htg (xg_S0 xkin_Z_kept xw_871 xw_872 xw_9) rfl rfl rfl (by decide +kernel) ⟨Nat.le_of_ble_eq_true rfl, Nat.le_of_ble_eq_true rfl⟩) ⟨xB_blind, fun U hU hW => xB_mk va_P0 hK va_D0 hE hS (xsub0 hA hS) hU hW⟩ rfl rfl hl.1 rfl (lv_room (Nat.le_of_ble_eq_true rfl)) xd_Z_write_160 ⟨Nat.le_of_ble_eq_true rfl, Nat.le_of_ble_eq_true rfl⟩) hP hA hS (fun r74 H locs hr74 hP hS => ?_)
        have hv := xlt_v hr74 hv
        refine lv_iand hx hb xd_Z_write_163 ?_
        obtain ⟨hn76, hv⟩ := xan_v hv
        refine xcW_v (va_runV (As := [.int p0, .int ((p1 &&& r74))]) (rest := []) ⟨hx, hb, hml, hown, htg⟩ (c_Z_become l D z k b H.size u p0 (p1 &&& r74) hn76) (cwV 2 htg (xg_V0 xkin_Z_become xw_863 xw_865 xsel_Z_become xw_9) rfl rfl rfl (by decide +kernel) ⟨Nat.le_of_ble_eq_true rfl, Nat.le_of_ble_eq_true rfl⟩) ⟨xB_blind, xrecv_Z hK hP, fun U hU hW => xB_mk hP hK hD hE hS (xsubW hD hA hS) hU hW⟩ rfl rfl hl.1 rfl (lv_room (Nat.le_of_ble_eq_true rfl)) xd_Z_write_164 ⟨Nat.le_of_ble_eq_true rfl, Nat.le_of_ble_eq_true rfl⟩) hD hA hS (fun u1 H locs hw hP hD hS => ?_)
        obtain ⟨q75, hq75⟩ : ∃ q, q = xf_Z_become u p0 (p1 &&& r74) := ⟨_, rfl⟩
        rw [← hq75] at hw
        obtain rfl : q75 = u1 := hw.symm
        have hP : va_P D xCl (xWZ k b q75) H := hP
        have hD : va_D A (xWZ k b q75) := hD
        have hv := xlt_v hq75 hv
        exact hj70 H locs ls q75 (xif h71 (xif h72 (xif h73 (xlt_e hr74 (xlt_e hq75 rfl))))) hl hP hD hS
      · have hv := xit_v h73 hv
        refine lv_iconst (v := 2) hx hb xd_Z_write_93 (by decide) ?_
        refine lv_istore_n (lv' := [(3, .int 2), (0, .ref ((b 0))), (1, .int p0), (2, .int p1)]) hx hb xd_Z_write_94 rfl hl (by decide) rfl (fun ls hl => ?_)
        refine lv_iload_n hx hb xd_Z_write_95 rfl (lv_at hl 0 rfl) ?_
        refine lv_bipush (v := 11) hx hb xd_Z_write_96 (by decide) ?_
        refine lv_icmp_ge (tgt := 153) hx hb xd_Z_write_98 rfl (fun h => absurd h (by decide)) (fun _ => ?_)
        refine lv_aload_n hx hb xd_Z_write_101 rfl (lv_at hl 1 rfl) ?_
        refine lv_sipush (v := 1540) hx hb xd_Z_write_102 (by decide) ?_
        refine lv_iload_n hx hb xd_Z_write_105 rfl (lv_at hl 0 rfl) ?_
        refine lv_aload_n hx hb xd_Z_write_106 rfl (lv_at hl 1 rfl) ?_
        refine lv_sipush (v := 1539) hx hb xd_Z_write_107 (by decide) ?_
        refine lv_iload_n hx hb xd_Z_write_110 rfl (lv_at hl 0 rfl) ?_
        obtain ⟨hn78, hv⟩ := xan_v hv
        refine xcW_i (va_runV (As := [.int 1539, .int 2]) (rest := [.int 2, .int 1540, .ref ((b 0))]) ⟨hx, hb, hml, hown, htg⟩ (c_Z_bit l D z k b H.size u (1539 : Int32) (2 : Int32) hn78) (cwV 2 htg (xg_V0 xkin_Z_bit xw_867 xw_869 xsel_Z_bit xw_9) rfl rfl rfl (by decide +kernel) ⟨Nat.le_of_ble_eq_true rfl, Nat.le_of_ble_eq_true rfl⟩) ⟨xB_blind, xrecv_Z hK hP, fun U hU hW => xB_mk hP hK hD hE hS (xsubW hD hA hS) hU hW⟩ rfl rfl hl.1 rfl (lv_room (Nat.le_of_ble_eq_true rfl)) xd_Z_write_111 ⟨Nat.le_of_ble_eq_true rfl, Nat.le_of_ble_eq_true rfl⟩) hD hA hS (fun r u1 H locs hw hP hD hS => ?_)
        obtain ⟨q77, hq77⟩ : ∃ q, q = xf_Z_bit u (1539 : Int32) (2 : Int32) := ⟨_, rfl⟩
        obtain ⟨e1, e2⟩ := hw
        rw [← hq77] at e1
        obtain rfl : q77 = r := e1.symm
        obtain rfl : u = u1 := e2.symm
        have hP : va_P D xCl (xWZ k b u) H := hP
        have hD : va_D A (xWZ k b u) := hD
        have hv := xlt_v hq77 hv
        obtain ⟨hva, hv⟩ := xan_v2 hv
        have hj84 : ∀ (H : Heap) (locs : List Loc) (ls : Array Slot) (v83 : Int32), v83 = (if q77 = 0 then (xlt (xf_Z_bit u (1540 : Int32) (2 : Int32) : Int32) fun q80 => q80) else (if ((p1 >>> (((2 : Int32) - (1 : Int32)) &&& 31)) &&& (1 : Int32)) = 1 then (1) else (0))) → lv_has ls 4 [(3, .int 2), (0, .ref ((b 0))), (1, .int p0), (2, .int p1)] → va_P D xCl (xWZ k b u) H → va_D A (xWZ k b u) → va_S A s.heap H locs → W p l e { frames := 3, cells := 0, slots := 0, locals := 66 } s m args below meth c H locs (0) (0) Q (F0 m 144 ls [.int v83, .int 2, .int 1540, .ref ((b 0))]) := by
          intro H locs ls v83 hv83 hl hP hD hS
          have hv := xlt_v hv83 hv
          obtain ⟨hn86, hv⟩ := xan_v hv
          refine xcW_v (va_runV (As := [.int 1540, .int 2, .int v83]) (rest := []) ⟨hx, hb, hml, hown, htg⟩ (c_Z_setBit l D z k b H.size u (1540 : Int32) (2 : Int32) v83 hn86) (cwV 3 htg (xg_V0 xkin_Z_setBit xw_855 xw_857 xsel_Z_setBit xw_9) rfl rfl rfl (by decide +kernel) ⟨Nat.le_of_ble_eq_true rfl, Nat.le_of_ble_eq_true rfl⟩) ⟨xB_blind, xrecv_Z hK hP, fun U hU hW => xB_mk hP hK hD hE hS (xsubW hD hA hS) hU hW⟩ rfl rfl hl.1 rfl (lv_room (Nat.le_of_ble_eq_true rfl)) xd_Z_write_144 ⟨Nat.le_of_ble_eq_true rfl, Nat.le_of_ble_eq_true rfl⟩) hD hA hS (fun u1 H locs hw hP hD hS => ?_)
          obtain ⟨q85, hq85⟩ : ∃ q, q = xf_Z_setBit u (1540 : Int32) (2 : Int32) v83 := ⟨_, rfl⟩
          rw [← hq85] at hw
          obtain rfl : q85 = u1 := hw.symm
          have hP : va_P D xCl (xWZ k b q85) H := hP
          have hD : va_D A (xWZ k b q85) := hD
          have hv := xlt_v hq85 hv
          refine lv_iinc (k := 0) (v := 6) (lv' := [(3, .int 6), (0, .ref ((b 0))), (1, .int p0), (2, .int p1)]) hx hb xd_Z_write_147 hl rfl (by first | rfl | decide) (by decide) rfl (fun ls hl => ?_)
          refine lv_goto (tgt := 95) hx hb xd_Z_write_150 rfl ?_
          refine lv_iload_n hx hb xd_Z_write_95 rfl (lv_at hl 0 rfl) ?_
          refine lv_bipush (v := 11) hx hb xd_Z_write_96 (by decide) ?_
          refine lv_icmp_ge (tgt := 153) hx hb xd_Z_write_98 rfl (fun h => absurd h (by decide)) (fun _ => ?_)
          refine lv_aload_n hx hb xd_Z_write_101 rfl (lv_at hl 1 rfl) ?_
          refine lv_sipush (v := 1540) hx hb xd_Z_write_102 (by decide) ?_
          refine lv_iload_n hx hb xd_Z_write_105 rfl (lv_at hl 0 rfl) ?_
          refine lv_aload_n hx hb xd_Z_write_106 rfl (lv_at hl 1 rfl) ?_
          refine lv_sipush (v := 1539) hx hb xd_Z_write_107 (by decide) ?_
          refine lv_iload_n hx hb xd_Z_write_110 rfl (lv_at hl 0 rfl) ?_
          obtain ⟨hn88, hv⟩ := xan_v hv
          refine xcW_i (va_runV (As := [.int 1539, .int 6]) (rest := [.int 6, .int 1540, .ref ((b 0))]) ⟨hx, hb, hml, hown, htg⟩ (c_Z_bit l D z k b H.size q85 (1539 : Int32) (6 : Int32) hn88) (cwV 2 htg (xg_V0 xkin_Z_bit xw_867 xw_869 xsel_Z_bit xw_9) rfl rfl rfl (by decide +kernel) ⟨Nat.le_of_ble_eq_true rfl, Nat.le_of_ble_eq_true rfl⟩) ⟨xB_blind, xrecv_Z hK hP, fun U hU hW => xB_mk hP hK hD hE hS (xsubW hD hA hS) hU hW⟩ rfl rfl hl.1 rfl (lv_room (Nat.le_of_ble_eq_true rfl)) xd_Z_write_111 ⟨Nat.le_of_ble_eq_true rfl, Nat.le_of_ble_eq_true rfl⟩) hD hA hS (fun r u1 H locs hw hP hD hS => ?_)
          obtain ⟨q87, hq87⟩ : ∃ q, q = xf_Z_bit q85 (1539 : Int32) (6 : Int32) := ⟨_, rfl⟩
          obtain ⟨e1, e2⟩ := hw
          rw [← hq87] at e1
          obtain rfl : q87 = r := e1.symm
          obtain rfl : q85 = u1 := e2.symm
          have hP : va_P D xCl (xWZ k b q85) H := hP
          have hD : va_D A (xWZ k b q85) := hD
          have hv := xlt_v hq87 hv
          obtain ⟨hva, hv⟩ := xan_v2 hv
          have hj94 : ∀ (H : Heap) (locs : List Loc) (ls : Array Slot) (v93 : Int32), v93 = (if q87 = 0 then (xlt (xf_Z_bit q85 (1540 : Int32) (6 : Int32) : Int32) fun q90 => q90) else (if ((p1 >>> (((6 : Int32) - (1 : Int32)) &&& 31)) &&& (1 : Int32)) = 1 then (1) else (0))) → lv_has ls 4 [(3, .int 6), (0, .ref ((b 0))), (1, .int p0), (2, .int p1)] → va_P D xCl (xWZ k b q85) H → va_D A (xWZ k b q85) → va_S A s.heap H locs → W p l e { frames := 3, cells := 0, slots := 0, locals := 66 } s m args below meth c H locs (0) (0) Q (F0 m 144 ls [.int v93, .int 6, .int 1540, .ref ((b 0))]) := by
            intro H locs ls v93 hv93 hl hP hD hS
            have hv := xlt_v hv93 hv
            obtain ⟨hn96, hv⟩ := xan_v hv
            refine xcW_v (va_runV (As := [.int 1540, .int 6, .int v93]) (rest := []) ⟨hx, hb, hml, hown, htg⟩ (c_Z_setBit l D z k b H.size q85 (1540 : Int32) (6 : Int32) v93 hn96) (cwV 3 htg (xg_V0 xkin_Z_setBit xw_855 xw_857 xsel_Z_setBit xw_9) rfl rfl rfl (by decide +kernel) ⟨Nat.le_of_ble_eq_true rfl, Nat.le_of_ble_eq_true rfl⟩) ⟨xB_blind, xrecv_Z hK hP, fun U hU hW => xB_mk hP hK hD hE hS (xsubW hD hA hS) hU hW⟩ rfl rfl hl.1 rfl (lv_room (Nat.le_of_ble_eq_true rfl)) xd_Z_write_144 ⟨Nat.le_of_ble_eq_true rfl, Nat.le_of_ble_eq_true rfl⟩) hD hA hS (fun u1 H locs hw hP hD hS => ?_)
            obtain ⟨q95, hq95⟩ : ∃ q, q = xf_Z_setBit q85 (1540 : Int32) (6 : Int32) v93 := ⟨_, rfl⟩
            rw [← hq95] at hw
            obtain rfl : q95 = u1 := hw.symm
            have hP : va_P D xCl (xWZ k b q95) H := hP
            have hD : va_D A (xWZ k b q95) := hD
            have hv := xlt_v hq95 hv
            refine lv_iinc (k := 0) (v := 10) (lv' := [(3, .int 10), (0, .ref ((b 0))), (1, .int p0), (2, .int p1)]) hx hb xd_Z_write_147 hl rfl (by first | rfl | decide) (by decide) rfl (fun ls hl => ?_)
            refine lv_goto (tgt := 95) hx hb xd_Z_write_150 rfl ?_
            refine lv_iload_n hx hb xd_Z_write_95 rfl (lv_at hl 0 rfl) ?_
            refine lv_bipush (v := 11) hx hb xd_Z_write_96 (by decide) ?_
            refine lv_icmp_ge (tgt := 153) hx hb xd_Z_write_98 rfl (fun h => absurd h (by decide)) (fun _ => ?_)
            refine lv_aload_n hx hb xd_Z_write_101 rfl (lv_at hl 1 rfl) ?_
            refine lv_sipush (v := 1540) hx hb xd_Z_write_102 (by decide) ?_
            refine lv_iload_n hx hb xd_Z_write_105 rfl (lv_at hl 0 rfl) ?_
            refine lv_aload_n hx hb xd_Z_write_106 rfl (lv_at hl 1 rfl) ?_
            refine lv_sipush (v := 1539) hx hb xd_Z_write_107 (by decide) ?_
            refine lv_iload_n hx hb xd_Z_write_110 rfl (lv_at hl 0 rfl) ?_
            obtain ⟨hn98, hv⟩ := xan_v hv
            refine xcW_i (va_runV (As := [.int 1539, .int 10]) (rest := [.int 10, .int 1540, .ref ((b 0))]) ⟨hx, hb, hml, hown, htg⟩ (c_Z_bit l D z k b H.size q95 (1539 : Int32) (10 : Int32) hn98) (cwV 2 htg (xg_V0 xkin_Z_bit xw_867 xw_869 xsel_Z_bit xw_9) rfl rfl rfl (by decide +kernel) ⟨Nat.le_of_ble_eq_true rfl, Nat.le_of_ble_eq_true rfl⟩) ⟨xB_blind, xrecv_Z hK hP, fun U hU hW => xB_mk hP hK hD hE hS (xsubW hD hA hS) hU hW⟩ rfl rfl hl.1 rfl (lv_room (Nat.le_of_ble_eq_true rfl)) xd_Z_write_111 ⟨Nat.le_of_ble_eq_true rfl, Nat.le_of_ble_eq_true rfl⟩) hD hA hS (fun r u1 H locs hw hP hD hS => ?_)
            obtain ⟨q97, hq97⟩ : ∃ q, q = xf_Z_bit q95 (1539 : Int32) (10 : Int32) := ⟨_, rfl⟩
            obtain ⟨e1, e2⟩ := hw
            rw [← hq97] at e1
            obtain rfl : q97 = r := e1.symm
            obtain rfl : q95 = u1 := e2.symm
            have hP : va_P D xCl (xWZ k b q95) H := hP
            have hD : va_D A (xWZ k b q95) := hD
            have hv := xlt_v hq97 hv
            obtain ⟨hva, hv⟩ := xan_v2 hv
            have hj104 : ∀ (H : Heap) (locs : List Loc) (ls : Array Slot) (v103 : Int32), v103 = (if q97 = 0 then (xlt (xf_Z_bit q95 (1540 : Int32) (10 : Int32) : Int32) fun q100 => q100) else (if ((p1 >>> (((10 : Int32) - (1 : Int32)) &&& 31)) &&& (1 : Int32)) = 1 then (1) else (0))) → lv_has ls 4 [(3, .int 10), (0, .ref ((b 0))), (1, .int p0), (2, .int p1)] → va_P D xCl (xWZ k b q95) H → va_D A (xWZ k b q95) → va_S A s.heap H locs → W p l e { frames := 3, cells := 0, slots := 0, locals := 66 } s m args below meth c H locs (0) (0) Q (F0 m 144 ls [.int v103, .int 10, .int 1540, .ref ((b 0))]) := by
              intro H locs ls v103 hv103 hl hP hD hS
              have hv := xlt_v hv103 hv
              obtain ⟨hn106, hv⟩ := xan_v hv
              refine xcW_v (va_runV (As := [.int 1540, .int 10, .int v103]) (rest := []) ⟨hx, hb, hml, hown, htg⟩ (c_Z_setBit l D z k b H.size q95 (1540 : Int32) (10 : Int32) v103 hn106) (cwV 3 htg (xg_V0 xkin_Z_setBit xw_855 xw_857 xsel_Z_setBit xw_9) rfl rfl rfl (by decide +kernel) ⟨Nat.le_of_ble_eq_true rfl, Nat.le_of_ble_eq_true rfl⟩) ⟨xB_blind, xrecv_Z hK hP, fun U hU hW => xB_mk hP hK hD hE hS (xsubW hD hA hS) hU hW⟩ rfl rfl hl.1 rfl (lv_room (Nat.le_of_ble_eq_true rfl)) xd_Z_write_144 ⟨Nat.le_of_ble_eq_true rfl, Nat.le_of_ble_eq_true rfl⟩) hD hA hS (fun u1 H locs hw hP hD hS => ?_)
              obtain ⟨q105, hq105⟩ : ∃ q, q = xf_Z_setBit q95 (1540 : Int32) (10 : Int32) v103 := ⟨_, rfl⟩
              rw [← hq105] at hw
              obtain rfl : q105 = u1 := hw.symm
              have hP : va_P D xCl (xWZ k b q105) H := hP
              have hD : va_D A (xWZ k b q105) := hD
              have hv := xlt_v hq105 hv
              refine lv_iinc (k := 0) (v := 14) (lv' := [(3, .int 14), (0, .ref ((b 0))), (1, .int p0), (2, .int p1)]) hx hb xd_Z_write_147 hl rfl (by first | rfl | decide) (by decide) rfl (fun ls hl => ?_)
              refine lv_goto (tgt := 95) hx hb xd_Z_write_150 rfl ?_
              refine lv_iload_n hx hb xd_Z_write_95 rfl (lv_at hl 0 rfl) ?_
              refine lv_bipush (v := 11) hx hb xd_Z_write_96 (by decide) ?_
              refine lv_icmp_ge (tgt := 153) hx hb xd_Z_write_98 rfl (fun _ => ?_) (fun h => absurd h (by decide))
              refine lv_goto (tgt := 167) hx hb xd_Z_write_153 rfl ?_
              exact hj70 H locs ls q105 (xif h71 (xif h72 (xit h73 (xlt_e hq77 (xlt_e hv83 (xlt_e hq85 (xlt_e hq87 (xlt_e hv93 (xlt_e hq95 (xlt_e hq97 (xlt_e hv103 (xlt_e hq105 rfl)))))))))))) (lv_sub hl [1, 2, 3] rfl) hP hD hS
            have hv := hva
            refine lv_if_eq (tgt := 136) hx hb xd_Z_write_114 rfl (fun h107 => ?_) (fun h107 => ?_)
            · have hv := xit_v h107 hv
              refine lv_aload_n hx hb xd_Z_write_136 rfl (lv_at hl 1 rfl) ?_
              refine lv_sipush (v := 1540) hx hb xd_Z_write_137 (by decide) ?_
              refine lv_iload_n hx hb xd_Z_write_140 rfl (lv_at hl 0 rfl) ?_
              obtain ⟨hn109, hv⟩ := xan_v hv
              refine xcW_i (va_runV (As := [.int 1540, .int 10]) (rest := [.int 10, .int 1540, .ref ((b 0))]) ⟨hx, hb, hml, hown, htg⟩ (c_Z_bit l D z k b H.size q95 (1540 : Int32) (10 : Int32) hn109) (cwV 2 htg (xg_V0 xkin_Z_bit xw_867 xw_869 xsel_Z_bit xw_9) rfl rfl rfl (by decide +kernel) ⟨Nat.le_of_ble_eq_true rfl, Nat.le_of_ble_eq_true rfl⟩) ⟨xB_blind, xrecv_Z hK hP, fun U hU hW => xB_mk hP hK hD hE hS (xsubW hD hA hS) hU hW⟩ rfl rfl hl.1 rfl (lv_room (Nat.le_of_ble_eq_true rfl)) xd_Z_write_141 ⟨Nat.le_of_ble_eq_true rfl, Nat.le_of_ble_eq_true rfl⟩) hD hA hS (fun r u1 H locs hw hP hD hS => ?_)
              obtain ⟨q108, hq108⟩ : ∃ q, q = xf_Z_bit q95 (1540 : Int32) (10 : Int32) := ⟨_, rfl⟩
              obtain ⟨e1, e2⟩ := hw
              rw [← hq108] at e1
              obtain rfl : q108 = r := e1.symm
              obtain rfl : q95 = u1 := e2.symm
              have hP : va_P D xCl (xWZ k b q95) H := hP
              have hD : va_D A (xWZ k b q95) := hD
              have hv := xlt_v hq108 hv
              exact hj104 H locs ls q108 (xit h107 (xlt_e hq108 rfl)) hl hP hD hS
            · have hv := xif_v h107 hv
              refine lv_iload_n hx hb xd_Z_write_117 rfl (lv_at hl 3 rfl) ?_
              refine lv_iload_n hx hb xd_Z_write_118 rfl (lv_at hl 0 rfl) ?_
              refine lv_iconst (v := 1) hx hb xd_Z_write_119 (by decide) ?_
              refine lv_isub hx hb xd_Z_write_120 ?_
              refine lv_ishr hx hb xd_Z_write_121 ?_
              refine lv_iconst (v := 1) hx hb xd_Z_write_122 (by decide) ?_
              refine lv_iand hx hb xd_Z_write_123 ?_
              refine lv_iconst (v := 1) hx hb xd_Z_write_124 (by decide) ?_
              refine lv_icmp_ne (tgt := 132) hx hb xd_Z_write_125 rfl (fun h110 => ?_) (fun h110 => ?_)
              · have hv := xif_v h110 hv
                refine lv_iconst (v := 0) hx hb xd_Z_write_132 (by decide) ?_
                refine lv_goto (tgt := 144) hx hb xd_Z_write_133 rfl ?_
                exact hj104 H locs ls (0 : Int32) (xif h107 (xif h110 rfl)) hl hP hD hS
              · have hv := xit_v h110 hv
                refine lv_iconst (v := 1) hx hb xd_Z_write_128 (by decide) ?_
                refine lv_goto (tgt := 144) hx hb xd_Z_write_129 rfl ?_
                exact hj104 H locs ls (1 : Int32) (xif h107 (xit h110 rfl)) hl hP hD hS
          have hv := hva
          refine lv_if_eq (tgt := 136) hx hb xd_Z_write_114 rfl (fun h111 => ?_) (fun h111 => ?_)
          · have hv := xit_v h111 hv
            refine lv_aload_n hx hb xd_Z_write_136 rfl (lv_at hl 1 rfl) ?_
            refine lv_sipush (v := 1540) hx hb xd_Z_write_137 (by decide) ?_
            refine lv_iload_n hx hb xd_Z_write_140 rfl (lv_at hl 0 rfl) ?_
            obtain ⟨hn113, hv⟩ := xan_v hv
            refine xcW_i (va_runV (As := [.int 1540, .int 6]) (rest := [.int 6, .int 1540, .ref ((b 0))]) ⟨hx, hb, hml, hown, htg⟩ (c_Z_bit l D z k b H.size q85 (1540 : Int32) (6 : Int32) hn113) (cwV 2 htg (xg_V0 xkin_Z_bit xw_867 xw_869 xsel_Z_bit xw_9) rfl rfl rfl (by decide +kernel) ⟨Nat.le_of_ble_eq_true rfl, Nat.le_of_ble_eq_true rfl⟩) ⟨xB_blind, xrecv_Z hK hP, fun U hU hW => xB_mk hP hK hD hE hS (xsubW hD hA hS) hU hW⟩ rfl rfl hl.1 rfl (lv_room (Nat.le_of_ble_eq_true rfl)) xd_Z_write_141 ⟨Nat.le_of_ble_eq_true rfl, Nat.le_of_ble_eq_true rfl⟩) hD hA hS (fun r u1 H locs hw hP hD hS => ?_)
            obtain ⟨q112, hq112⟩ : ∃ q, q = xf_Z_bit q85 (1540 : Int32) (6 : Int32) := ⟨_, rfl⟩
            obtain ⟨e1, e2⟩ := hw
            rw [← hq112] at e1
            obtain rfl : q112 = r := e1.symm
            obtain rfl : q85 = u1 := e2.symm
            have hP : va_P D xCl (xWZ k b q85) H := hP
            have hD : va_D A (xWZ k b q85) := hD
            have hv := xlt_v hq112 hv
            exact hj94 H locs ls q112 (xit h111 (xlt_e hq112 rfl)) hl hP hD hS
          · have hv := xif_v h111 hv
            refine lv_iload_n hx hb xd_Z_write_117 rfl (lv_at hl 3 rfl) ?_
            refine lv_iload_n hx hb xd_Z_write_118 rfl (lv_at hl 0 rfl) ?_
            refine lv_iconst (v := 1) hx hb xd_Z_write_119 (by decide) ?_
            refine lv_isub hx hb xd_Z_write_120 ?_
            refine lv_ishr hx hb xd_Z_write_121 ?_
            refine lv_iconst (v := 1) hx hb xd_Z_write_122 (by decide) ?_
            refine lv_iand hx hb xd_Z_write_123 ?_
            refine lv_iconst (v := 1) hx hb xd_Z_write_124 (by decide) ?_
            refine lv_icmp_ne (tgt := 132) hx hb xd_Z_write_125 rfl (fun h114 => ?_) (fun h114 => ?_)
            · have hv := xif_v h114 hv
              refine lv_iconst (v := 0) hx hb xd_Z_write_132 (by decide) ?_
              refine lv_goto (tgt := 144) hx hb xd_Z_write_133 rfl ?_
              exact hj94 H locs ls (0 : Int32) (xif h111 (xif h114 rfl)) hl hP hD hS
            · have hv := xit_v h114 hv
              refine lv_iconst (v := 1) hx hb xd_Z_write_128 (by decide) ?_
              refine lv_goto (tgt := 144) hx hb xd_Z_write_129 rfl ?_
              exact hj94 H locs ls (1 : Int32) (xif h111 (xit h114 rfl)) hl hP hD hS
        have hv := hva
        refine lv_if_eq (tgt := 136) hx hb xd_Z_write_114 rfl (fun h115 => ?_) (fun h115 => ?_)
        · have hv := xit_v h115 hv
          refine lv_aload_n hx hb xd_Z_write_136 rfl (lv_at hl 1 rfl) ?_
          refine lv_sipush (v := 1540) hx hb xd_Z_write_137 (by decide) ?_
          refine lv_iload_n hx hb xd_Z_write_140 rfl (lv_at hl 0 rfl) ?_
          obtain ⟨hn117, hv⟩ := xan_v hv
          refine xcW_i (va_runV (As := [.int 1540, .int 2]) (rest := [.int 2, .int 1540, .ref ((b 0))]) ⟨hx, hb, hml, hown, htg⟩ (c_Z_bit l D z k b H.size u (1540 : Int32) (2 : Int32) hn117) (cwV 2 htg (xg_V0 xkin_Z_bit xw_867 xw_869 xsel_Z_bit xw_9) rfl rfl rfl (by decide +kernel) ⟨Nat.le_of_ble_eq_true rfl, Nat.le_of_ble_eq_true rfl⟩) ⟨xB_blind, xrecv_Z hK hP, fun U hU hW => xB_mk hP hK hD hE hS (xsubW hD hA hS) hU hW⟩ rfl rfl hl.1 rfl (lv_room (Nat.le_of_ble_eq_true rfl)) xd_Z_write_141 ⟨Nat.le_of_ble_eq_true rfl, Nat.le_of_ble_eq_true rfl⟩) hD hA hS (fun r u1 H locs hw hP hD hS => ?_)
          obtain ⟨q116, hq116⟩ : ∃ q, q = xf_Z_bit u (1540 : Int32) (2 : Int32) := ⟨_, rfl⟩
          obtain ⟨e1, e2⟩ := hw
          rw [← hq116] at e1
          obtain rfl : q116 = r := e1.symm
          obtain rfl : u = u1 := e2.symm
          have hP : va_P D xCl (xWZ k b u) H := hP
          have hD : va_D A (xWZ k b u) := hD
          have hv := xlt_v hq116 hv
          exact hj84 H locs ls q116 (xit h115 (xlt_e hq116 rfl)) hl hP hD hS
        · have hv := xif_v h115 hv
          refine lv_iload_n hx hb xd_Z_write_117 rfl (lv_at hl 3 rfl) ?_
          refine lv_iload_n hx hb xd_Z_write_118 rfl (lv_at hl 0 rfl) ?_
          refine lv_iconst (v := 1) hx hb xd_Z_write_119 (by decide) ?_
          refine lv_isub hx hb xd_Z_write_120 ?_
          refine lv_ishr hx hb xd_Z_write_121 ?_
          refine lv_iconst (v := 1) hx hb xd_Z_write_122 (by decide) ?_
          refine lv_iand hx hb xd_Z_write_123 ?_
          refine lv_iconst (v := 1) hx hb xd_Z_write_124 (by decide) ?_
          refine lv_icmp_ne (tgt := 132) hx hb xd_Z_write_125 rfl (fun h118 => ?_) (fun h118 => ?_)
          · have hv := xif_v h118 hv
            refine lv_iconst (v := 0) hx hb xd_Z_write_132 (by decide) ?_
            refine lv_goto (tgt := 144) hx hb xd_Z_write_133 rfl ?_
            exact hj84 H locs ls (0 : Int32) (xif h115 (xif h118 rfl)) hl hP hD hS
          · have hv := xit_v h118 hv
            refine lv_iconst (v := 1) hx hb xd_Z_write_128 (by decide) ?_
            refine lv_goto (tgt := 144) hx hb xd_Z_write_129 rfl ?_
            exact hj84 H locs ls (1 : Int32) (xif h115 (xit h118 rfl)) hl hP hD hS
    · have hv := xit_v h72 hv
      refine lv_aload_n hx hb xd_Z_write_39 rfl (lv_at hl 0 rfl) ?_
      refine lv_sipush (v := 1605) hx hb xd_Z_write_40 (by decide) ?_
      refine lv_iconst (v := 2) hx hb xd_Z_write_43 (by decide) ?_
      refine lv_aload_n hx hb xd_Z_write_44 rfl (lv_at hl 0 rfl) ?_
      refine lv_sipush (v := 1539) hx hb xd_Z_write_45 (by decide) ?_
      refine lv_iconst (v := 2) hx hb xd_Z_write_48 (by decide) ?_
      obtain ⟨hn120, hv⟩ := xan_v hv
      refine xcW_i (va_runV (As := [.int 1539, .int 2]) (rest := [.int 2, .int 1605, .ref ((b 0))]) ⟨hx, hb, hml, hown, htg⟩ (c_Z_bit l D z k b H.size u (1539 : Int32) (2 : Int32) hn120) (cwV 2 htg (xg_V0 xkin_Z_bit xw_867 xw_869 xsel_Z_bit xw_9) rfl rfl rfl (by decide +kernel) ⟨Nat.le_of_ble_eq_true rfl, Nat.le_of_ble_eq_true rfl⟩) ⟨xB_blind, xrecv_Z hK hP, fun U hU hW => xB_mk hP hK hD hE hS (xsubW hD hA hS) hU hW⟩ rfl rfl hl.1 rfl (lv_room (Nat.le_of_ble_eq_true rfl)) xd_Z_write_49 ⟨Nat.le_of_ble_eq_true rfl, Nat.le_of_ble_eq_true rfl⟩) hD hA hS (fun r u1 H locs hw hP hD hS => ?_)
      obtain ⟨q119, hq119⟩ : ∃ q, q = xf_Z_bit u (1539 : Int32) (2 : Int32) := ⟨_, rfl⟩
      obtain ⟨e1, e2⟩ := hw
      rw [← hq119] at e1
      obtain rfl : q119 = r := e1.symm
      obtain rfl : u = u1 := e2.symm
      have hP : va_P D xCl (xWZ k b u) H := hP
      have hD : va_D A (xWZ k b u) := hD
      have hv := xlt_v hq119 hv
      obtain ⟨hva, hv⟩ := xan_v2 hv
      have hj126 : ∀ (H : Heap) (locs : List Loc) (ls : Array Slot) (v125 : Int32), v125 = (if q119 = 0 then (xlt (xf_Z_bit u (1605 : Int32) (2 : Int32) : Int32) fun q122 => q122) else (if ((p1 >>> ((1 : Int32) &&& 31)) &&& (1 : Int32)) = 1 then (1) else (0))) → lv_has ls 4 [(0, .ref ((b 0))), (1, .int p0), (2, .int p1)] → va_P D xCl (xWZ k b u) H → va_D A (xWZ k b u) → va_S A s.heap H locs → W p l e { frames := 3, cells := 0, slots := 0, locals := 66 } s m args below meth c H locs (0) (0) Q (F0 m 80 ls [.int v125, .int 2, .int 1605, .ref ((b 0))]) := by
        intro H locs ls v125 hv125 hl hP hD hS
        have hv := xlt_v hv125 hv
        obtain ⟨hn128, hv⟩ := xan_v hv
        refine xcW_v (va_runV (As := [.int 1605, .int 2, .int v125]) (rest := []) ⟨hx, hb, hml, hown, htg⟩ (c_Z_setBit l D z k b H.size u (1605 : Int32) (2 : Int32) v125 hn128) (cwV 3 htg (xg_V0 xkin_Z_setBit xw_855 xw_857 xsel_Z_setBit xw_9) rfl rfl rfl (by decide +kernel) ⟨Nat.le_of_ble_eq_true rfl, Nat.le_of_ble_eq_true rfl⟩) ⟨xB_blind, xrecv_Z hK hP, fun U hU hW => xB_mk hP hK hD hE hS (xsubW hD hA hS) hU hW⟩ rfl rfl hl.1 rfl (lv_room (Nat.le_of_ble_eq_true rfl)) xd_Z_write_80 ⟨Nat.le_of_ble_eq_true rfl, Nat.le_of_ble_eq_true rfl⟩) hD hA hS (fun u1 H locs hw hP hD hS => ?_)
        obtain ⟨q127, hq127⟩ : ∃ q, q = xf_Z_setBit u (1605 : Int32) (2 : Int32) v125 := ⟨_, rfl⟩
        rw [← hq127] at hw
        obtain rfl : q127 = u1 := hw.symm
        have hP : va_P D xCl (xWZ k b q127) H := hP
        have hD : va_D A (xWZ k b q127) := hD
        have hv := xlt_v hq127 hv
        refine lv_goto (tgt := 167) hx hb xd_Z_write_83 rfl ?_
        exact hj70 H locs ls q127 (xif h71 (xit h72 (xlt_e hq119 (xlt_e hv125 (xlt_e hq127 rfl))))) hl hP hD hS
      have hv := hva
      refine lv_if_eq (tgt := 72) hx hb xd_Z_write_52 rfl (fun h129 => ?_) (fun h129 => ?_)
      · have hv := xit_v h129 hv
        refine lv_aload_n hx hb xd_Z_write_72 rfl (lv_at hl 0 rfl) ?_
        refine lv_sipush (v := 1605) hx hb xd_Z_write_73 (by decide) ?_
        refine lv_iconst (v := 2) hx hb xd_Z_write_76 (by decide) ?_
        obtain ⟨hn131, hv⟩ := xan_v hv
        refine xcW_i (va_runV (As := [.int 1605, .int 2]) (rest := [.int 2, .int 1605, .ref ((b 0))]) ⟨hx, hb, hml, hown, htg⟩ (c_Z_bit l D z k b H.size u (1605 : Int32) (2 : Int32) hn131) (cwV 2 htg (xg_V0 xkin_Z_bit xw_867 xw_869 xsel_Z_bit xw_9) rfl rfl rfl (by decide +kernel) ⟨Nat.le_of_ble_eq_true rfl, Nat.le_of_ble_eq_true rfl⟩) ⟨xB_blind, xrecv_Z hK hP, fun U hU hW => xB_mk hP hK hD hE hS (xsubW hD hA hS) hU hW⟩ rfl rfl hl.1 rfl (lv_room (Nat.le_of_ble_eq_true rfl)) xd_Z_write_77 ⟨Nat.le_of_ble_eq_true rfl, Nat.le_of_ble_eq_true rfl⟩) hD hA hS (fun r u1 H locs hw hP hD hS => ?_)
        obtain ⟨q130, hq130⟩ : ∃ q, q = xf_Z_bit u (1605 : Int32) (2 : Int32) := ⟨_, rfl⟩
        obtain ⟨e1, e2⟩ := hw
        rw [← hq130] at e1
        obtain rfl : q130 = r := e1.symm
        obtain rfl : u = u1 := e2.symm
        have hP : va_P D xCl (xWZ k b u) H := hP
        have hD : va_D A (xWZ k b u) := hD
        have hv := xlt_v hq130 hv
        exact hj126 H locs ls q130 (xit h129 (xlt_e hq130 rfl)) hl hP hD hS
      · have hv := xif_v h129 hv
        refine lv_iload_n hx hb xd_Z_write_55 rfl (lv_at hl 2 rfl) ?_
        refine lv_iconst (v := 1) hx hb xd_Z_write_56 (by decide) ?_
        refine lv_ishr hx hb xd_Z_write_57 ?_
        refine lv_iconst (v := 1) hx hb xd_Z_write_58 (by decide) ?_
        refine lv_iand hx hb xd_Z_write_59 ?_
        refine lv_iconst (v := 1) hx hb xd_Z_write_60 (by decide) ?_
        refine lv_icmp_ne (tgt := 68) hx hb xd_Z_write_61 rfl (fun h132 => ?_) (fun h132 => ?_)
        · have hv := xif_v h132 hv
          refine lv_iconst (v := 0) hx hb xd_Z_write_68 (by decide) ?_
          refine lv_goto (tgt := 80) hx hb xd_Z_write_69 rfl ?_
          exact hj126 H locs ls (0 : Int32) (xif h129 (xif h132 rfl)) hl hP hD hS
        · have hv := xit_v h132 hv
          refine lv_iconst (v := 1) hx hb xd_Z_write_64 (by decide) ?_
          refine lv_goto (tgt := 80) hx hb xd_Z_write_65 rfl ?_
          exact hj126 H locs ls (1 : Int32) (xif h129 (xit h132 rfl)) hl hP hD hS
  · have hv := xit_v h71 hv
    refine lv_aload_n hx hb xd_Z_write_7 rfl (lv_at hl 0 rfl) ?_
    refine lv_sipush (v := 1605) hx hb xd_Z_write_8 (by decide) ?_
    refine lv_iconst (v := 2) hx hb xd_Z_write_11 (by decide) ?_
    refine lv_iload_n hx hb xd_Z_write_12 rfl (lv_at hl 2 rfl) ?_
    refine lv_iconst (v := 2) hx hb xd_Z_write_13 (by decide) ?_
    refine lv_ishr hx hb xd_Z_write_14 ?_
    refine lv_iconst (v := 1) hx hb xd_Z_write_15 (by decide) ?_
    refine lv_iand hx hb xd_Z_write_16 ?_
    refine lv_iconst (v := 1) hx hb xd_Z_write_17 (by decide) ?_
    have hj135 : ∀ (H : Heap) (locs : List Loc) (ls : Array Slot) (v134 : Int32), v134 = (if ((p1 >>> ((2 : Int32) &&& 31)) &&& (1 : Int32)) = 1 then (1) else (0)) → lv_has ls 4 [(0, .ref ((b 0))), (1, .int p0), (2, .int p1)] → va_P D xCl (xWZ k b u) H → va_D A (xWZ k b u) → va_S A s.heap H locs → W p l e { frames := 3, cells := 0, slots := 0, locals := 66 } s m args below meth c H locs (0) (0) Q (F0 m 26 ls [.int v134, .int 2, .int 1605, .ref ((b 0))]) := by
      intro H locs ls v134 hv134 hl hP hD hS
      have hv := xlt_v hv134 hv
      obtain ⟨hn137, hv⟩ := xan_v hv
      refine xcW_v (va_runV (As := [.int 1605, .int 2, .int v134]) (rest := []) ⟨hx, hb, hml, hown, htg⟩ (c_Z_setBit l D z k b H.size u (1605 : Int32) (2 : Int32) v134 hn137) (cwV 3 htg (xg_V0 xkin_Z_setBit xw_855 xw_857 xsel_Z_setBit xw_9) rfl rfl rfl (by decide +kernel) ⟨Nat.le_of_ble_eq_true rfl, Nat.le_of_ble_eq_true rfl⟩) ⟨xB_blind, xrecv_Z hK hP, fun U hU hW => xB_mk hP hK hD hE hS (xsubW hD hA hS) hU hW⟩ rfl rfl hl.1 rfl (lv_room (Nat.le_of_ble_eq_true rfl)) xd_Z_write_26 ⟨Nat.le_of_ble_eq_true rfl, Nat.le_of_ble_eq_true rfl⟩) hD hA hS (fun u1 H locs hw hP hD hS => ?_)
      obtain ⟨q136, hq136⟩ : ∃ q, q = xf_Z_setBit u (1605 : Int32) (2 : Int32) v134 := ⟨_, rfl⟩
      rw [← hq136] at hw
      obtain rfl : q136 = u1 := hw.symm
      have hP : va_P D xCl (xWZ k b q136) H := hP
      have hD : va_D A (xWZ k b q136) := hD
      have hv := xlt_v hq136 hv
      refine lv_goto (tgt := 167) hx hb xd_Z_write_29 rfl ?_
      exact hj70 H locs ls q136 (xit h71 (xlt_e hv134 (xlt_e hq136 rfl))) hl hP hD hS
    refine lv_icmp_ne (tgt := 25) hx hb xd_Z_write_18 rfl (fun h138 => ?_) (fun h138 => ?_)
    · refine lv_iconst (v := 0) hx hb xd_Z_write_25 (by decide) ?_
      exact hj135 H locs ls (0 : Int32) (xif h138 rfl) hl hP hD hS
    · refine lv_iconst (v := 1) hx hb xd_Z_write_21 (by decide) ?_
      refine lv_goto (tgt := 26) hx hb xd_Z_write_22 rfl ?_
      exact hj135 H locs ls (1 : Int32) (xit h138 rfl) hl hP hD hS

noncomputable def xf_Z_refusal (u : XZ) (p0 : Int32) (p1 : Int32) : Int32 :=
  xlt (if p0 = 3073 then (1) else (if p0 = 3201 then (1) else (0)) : Int32) fun v3 =>
  xlt (xf_Z_indexOf p0 : Int32) fun r5 =>
  if r5 < 0 then
    2
  else
    if p1 = 0 then
      if v3 = 0 then
        if (xg_Z_mode u) = 1 then
          0
        else
          if (xg_Z_mode u) = 0 then
            2
          else
            xlt (if (xg_Z_mode u) = 2 then (22) else (if 512 ≤ p0 then (22) else (if p0 = 384 then (xlt (xf_Z_bit u (1536 : Int32) (20 : Int32) : Int32) fun q14 => if q14 = 0 then (0) else (22)) else (0))) : Int32) fun v17 =>
            v17
      else
        0
    else
      if v3 = 0 then
        if v3 = 0 then
          if (xg_Z_mode u) = 1 then
            0
          else
            if (xg_Z_mode u) = 0 then
              2
            else
              xlt (if (xg_Z_mode u) = 2 then (22) else (if 512 ≤ p0 then (22) else (if p0 = 384 then (xlt (xf_Z_bit u (1536 : Int32) (20 : Int32) : Int32) fun q32 => if q32 = 0 then (0) else (22)) else (0))) : Int32) fun v35 =>
              v35
        else
          0
      else
        2
def xv_Z_refusal (u : XZ) (p0 : Int32) (p1 : Int32) : Prop := XVc (
  xlt (if p0 = 3073 then (1) else (if p0 = 3201 then (1) else (0)) : Int32) fun v3 =>
  xlt (xf_Z_indexOf p0 : Int32) fun r5 =>
  if r5 < 0 then
    True
  else
    if p1 = 0 then
      if v3 = 0 then
        if (xg_Z_mode u) = 1 then
          True
        else
          if (xg_Z_mode u) = 0 then
            True
          else
            (if (xg_Z_mode u) = 2 then (True) else (if 512 ≤ p0 then (True) else (if p0 = 384 then ((xv_Z_bit u (1536 : Int32) (20 : Int32)) ∧ (xlt (xf_Z_bit u (1536 : Int32) (20 : Int32) : Int32) fun q14 => if q14 = 0 then (True) else (True))) else (True)))) ∧
            xlt (if (xg_Z_mode u) = 2 then (22) else (if 512 ≤ p0 then (22) else (if p0 = 384 then (xlt (xf_Z_bit u (1536 : Int32) (20 : Int32) : Int32) fun q14 => if q14 = 0 then (0) else (22)) else (0))) : Int32) fun v17 =>
            True
      else
        True
    else
      if v3 = 0 then
        if v3 = 0 then
          if (xg_Z_mode u) = 1 then
            True
          else
            if (xg_Z_mode u) = 0 then
              True
            else
              (if (xg_Z_mode u) = 2 then (True) else (if 512 ≤ p0 then (True) else (if p0 = 384 then ((xv_Z_bit u (1536 : Int32) (20 : Int32)) ∧ (xlt (xf_Z_bit u (1536 : Int32) (20 : Int32) : Int32) fun q32 => if q32 = 0 then (True) else (True))) else (True)))) ∧
              xlt (if (xg_Z_mode u) = 2 then (22) else (if 512 ≤ p0 then (22) else (if p0 = 384 then (xlt (xf_Z_bit u (1536 : Int32) (20 : Int32) : Int32) fun q32 => if q32 = 0 then (0) else (22)) else (0))) : Int32) fun v35 =>
              True
        else
          True
      else
        True)
set_option maxHeartbeats 4000000 in
set_option maxRecDepth 100000 in
theorem c_Z_refusal (l : Launch) (D : va_G) (z : (Nat → Nat) × (Nat → Nat)) (k : ClassId × ClassId) (b : Nat → Nat) (sz : Nat) (u : XZ) (p0 : Int32) (p1 : Int32) (hv : xv_Z_refusal u p0 p1) : Met l xy_Z_refusal (xk_Z_refusal :: lw_g) { frames := 3, cells := 0, slots := 0, locals := 64 } (va_Pc [.ref ((b 0)), .int p0, .int p1] (xB D (xTy k) z sz (xWZ k b u))) (va_Qi (fun r (q : XZ) => r = xf_Z_refusal u p0 p1 ∧ q = u) (fun q t => xQ D (xTy k) (xWZ k b q) (va_A (xWZ k b u) sz) t) (va_A (xWZ k b u) sz)) 0 0 (va_A (xWZ k b u) sz) := by
  refine xopen_i (wf := fun q : XZ => xWZ k b q) (lv := [(0, .ref ((b 0))), (1, .int p0), (2, .int p1)]) (by decide) rfl (Nat.le_of_ble_eq_true rfl) ?_
  intro p e s m args below meth c Q ls A H locs hx hb hml htg hown hin hK hP hD hE hS hA hl hret
  unfold xv_Z_refusal at hv
  refine lv_iload_n hx hb xd_Z_refusal_0 rfl (lv_at hl 1 rfl) ?_
  refine lv_sipush (v := 3073) hx hb xd_Z_refusal_1 (by decide) ?_
  have hj4 : ∀ (H : Heap) (locs : List Loc) (ls : Array Slot) (v3 : Int32), v3 = (if p0 = 3073 then (1) else (if p0 = 3201 then (1) else (0))) → lv_has ls 4 [(0, .ref ((b 0))), (1, .int p0), (2, .int p1)] → va_P D xCl (xWZ k b u) H → va_D A (xWZ k b u) → va_S A s.heap H locs → W p l e { frames := 3, cells := 0, slots := 0, locals := 64 } s m args below meth c H locs (0) (0) Q (F0 m 19 ls [.int v3]) := by
    intro H locs ls v3 hv3 hl hP hD hS
    have hv := xlt_v hv3 hv
    refine lv_istore_n (lv' := [(3, .int v3), (0, .ref ((b 0))), (1, .int p0), (2, .int p1)]) hx hb xd_Z_refusal_19 rfl hl (by decide) rfl (fun ls hl => ?_)
    refine lv_iload_n hx hb xd_Z_refusal_20 rfl (lv_at hl 2 rfl) ?_
    refine xc0_i (va_runS (As := [.int p0]) (rest := []) ⟨hx, hb, hml, hown, htg⟩ (c_Z_indexOf l D (xTy k) z H.size p0) (va_cwS 1 htg (xg_S0 xkin_Z_indexOf xw_846 xw_847 xw_9) rfl rfl rfl (by decide +kernel) ⟨Nat.le_of_ble_eq_true rfl, Nat.le_of_ble_eq_true rfl⟩) ⟨xB_blind, fun U hU hW => xB_mk va_P0 hK va_D0 hE hS (xsub0 hA hS) hU hW⟩ rfl rfl hl.1 rfl (lv_room (Nat.le_of_ble_eq_true rfl)) xd_Z_refusal_21 ⟨Nat.le_of_ble_eq_true rfl, Nat.le_of_ble_eq_true rfl⟩) hP hA hS (fun r5 H locs hr5 hP hS => ?_)
    have hv := xlt_v hr5 hv
    refine lv_if_lt (tgt := 35) hx hb xd_Z_refusal_24 rfl (fun h6 => ?_) (fun h6 => ?_)
    · have hv := xit_v h6 hv
      refine lv_iconst (v := 2) hx hb xd_Z_refusal_35 (by decide) ?_
      exact hret _ u H locs ls _ ⟨(by unfold xf_Z_refusal; exact (xlt_e hv3 (xlt_e hr5 (xit h6 rfl)))), rfl⟩ hP hD hS xd_Z_refusal_36
    · have hv := xif_v h6 hv
      refine lv_iload_n hx hb xd_Z_refusal_27 rfl (lv_at hl 3 rfl) ?_
      refine lv_if_eq (tgt := 37) hx hb xd_Z_refusal_28 rfl (fun h7 => ?_) (fun h7 => ?_)
      · have hv := xit_v h7 hv
        refine lv_iload_n hx hb xd_Z_refusal_37 rfl (lv_at hl 0 rfl) ?_
        refine lv_if_ne (tgt := 49) hx hb xd_Z_refusal_38 rfl (fun h8 => ?_) (fun h8 => ?_)
        · have hv := xif_v h8 hv
          refine lv_iconst (v := 0) hx hb xd_Z_refusal_49 (by decide) ?_
          exact hret _ u H locs ls _ ⟨(by unfold xf_Z_refusal; exact (xlt_e hv3 (xlt_e hr5 (xif h6 (xit h7 (xif h8 rfl)))))), rfl⟩ hP hD hS xd_Z_refusal_50
        · have hv := xit_v h8 hv
          refine lv_aload_n hx hb xd_Z_refusal_41 rfl (lv_at hl 1 rfl) ?_
          refine xget_Z_mode (v := (xg_Z_mode u)) hx hb htg hown hK hP (htg _ xw_731) rfl xd_Z_refusal_42 ?_
          refine lv_iconst (v := 1) hx hb xd_Z_refusal_45 (by decide) ?_
          refine lv_icmp_ne (tgt := 51) hx hb xd_Z_refusal_46 rfl (fun h9 => ?_) (fun h9 => ?_)
          · have hv := xif_v h9 hv
            refine lv_aload_n hx hb xd_Z_refusal_51 rfl (lv_at hl 1 rfl) ?_
            refine xget_Z_mode (v := (xg_Z_mode u)) hx hb htg hown hK hP (htg _ xw_731) rfl xd_Z_refusal_52 ?_
            refine lv_if_ne (tgt := 60) hx hb xd_Z_refusal_55 rfl (fun h10 => ?_) (fun h10 => ?_)
            · have hv := xif_v h10 hv
              refine lv_aload_n hx hb xd_Z_refusal_60 rfl (lv_at hl 1 rfl) ?_
              refine xget_Z_mode (v := (xg_Z_mode u)) hx hb htg hown hK hP (htg _ xw_731) rfl xd_Z_refusal_61 ?_
              refine lv_iconst (v := 2) hx hb xd_Z_refusal_64 (by decide) ?_
              obtain ⟨hva, hv⟩ := xan_v2 hv
              have hj18 : ∀ (H : Heap) (locs : List Loc) (ls : Array Slot) (v17 : Int32), v17 = (if (xg_Z_mode u) = 2 then (22) else (if 512 ≤ p0 then (22) else (if p0 = 384 then (xlt (xf_Z_bit u (1536 : Int32) (20 : Int32) : Int32) fun q14 => if q14 = 0 then (0) else (22)) else (0)))) → lv_has ls 4 [(3, .int v3), (0, .ref ((b 0))), (1, .int p0), (2, .int p1)] → va_P D xCl (xWZ k b u) H → va_D A (xWZ k b u) → va_S A s.heap H locs → W p l e { frames := 3, cells := 0, slots := 0, locals := 64 } s m args below meth c H locs (0) (0) Q (F0 m 100 ls [.int v17]) := by
                intro H locs ls v17 hv17 hl hP hD hS
                have hv := xlt_v hv17 hv
                exact hret _ u H locs ls _ ⟨(by unfold xf_Z_refusal; exact (xlt_e hv3 (xlt_e hr5 (xif h6 (xit h7 (xit h8 (xif h9 (xif h10 (xlt_e hv17 rfl))))))))), rfl⟩ hP hD hS xd_Z_refusal_100
              have hv := hva
              refine lv_icmp_eq (tgt := 94) hx hb xd_Z_refusal_65 rfl (fun h19 => ?_) (fun h19 => ?_)
              · have hv := xit_v h19 hv
                refine lv_bipush (v := 22) hx hb xd_Z_refusal_94 (by decide) ?_
                refine lv_goto (tgt := 100) hx hb xd_Z_refusal_96 rfl ?_
                exact hj18 H locs ls (22 : Int32) (xit h19 rfl) hl hP hD hS
              · have hv := xif_v h19 hv
                refine lv_iload_n hx hb xd_Z_refusal_68 rfl (lv_at hl 2 rfl) ?_
                refine lv_sipush (v := 512) hx hb xd_Z_refusal_69 (by decide) ?_
                refine lv_icmp_ge (tgt := 94) hx hb xd_Z_refusal_72 rfl (fun h20 => ?_) (fun h20 => ?_)
                · have hv := xit_v h20 hv
                  refine lv_bipush (v := 22) hx hb xd_Z_refusal_94 (by decide) ?_
                  refine lv_goto (tgt := 100) hx hb xd_Z_refusal_96 rfl ?_
                  exact hj18 H locs ls (22 : Int32) (xif h19 (xit h20 rfl)) hl hP hD hS
                · have hv := xif_v h20 hv
                  refine lv_iload_n hx hb xd_Z_refusal_75 rfl (lv_at hl 2 rfl) ?_
                  refine lv_sipush (v := 384) hx hb xd_Z_refusal_76 (by decide) ?_
                  refine lv_icmp_ne (tgt := 99) hx hb xd_Z_refusal_79 rfl (fun h21 => ?_) (fun h21 => ?_)
                  · have hv := xif_v h21 hv
                    refine lv_iconst (v := 0) hx hb xd_Z_refusal_99 (by decide) ?_
                    exact hj18 H locs ls (0 : Int32) (xif h19 (xif h20 (xif h21 rfl))) hl hP hD hS
                  · have hv := xit_v h21 hv
                    refine lv_aload_n hx hb xd_Z_refusal_82 rfl (lv_at hl 1 rfl) ?_
                    refine lv_sipush (v := 1536) hx hb xd_Z_refusal_83 (by decide) ?_
                    refine lv_bipush (v := 20) hx hb xd_Z_refusal_86 (by decide) ?_
                    obtain ⟨hn23, hv⟩ := xan_v hv
                    refine xcW_i (va_runV (As := [.int 1536, .int 20]) (rest := []) ⟨hx, hb, hml, hown, htg⟩ (c_Z_bit l D z k b H.size u (1536 : Int32) (20 : Int32) hn23) (cwV 2 htg (xg_V0 xkin_Z_bit xw_867 xw_869 xsel_Z_bit xw_9) rfl rfl rfl (by decide +kernel) ⟨Nat.le_of_ble_eq_true rfl, Nat.le_of_ble_eq_true rfl⟩) ⟨xB_blind, xrecv_Z hK hP, fun U hU hW => xB_mk hP hK hD hE hS (xsubW hD hA hS) hU hW⟩ rfl rfl hl.1 rfl (lv_room (Nat.le_of_ble_eq_true rfl)) xd_Z_refusal_88 ⟨Nat.le_of_ble_eq_true rfl, Nat.le_of_ble_eq_true rfl⟩) hD hA hS (fun r u1 H locs hw hP hD hS => ?_)
                    obtain ⟨q22, hq22⟩ : ∃ q, q = xf_Z_bit u (1536 : Int32) (20 : Int32) := ⟨_, rfl⟩
                    obtain ⟨e1, e2⟩ := hw
                    rw [← hq22] at e1
                    obtain rfl : q22 = r := e1.symm
                    obtain rfl : u = u1 := e2.symm
                    have hP : va_P D xCl (xWZ k b u) H := hP
                    have hD : va_D A (xWZ k b u) := hD
                    have hv := xlt_v hq22 hv
                    refine lv_if_eq (tgt := 99) hx hb xd_Z_refusal_91 rfl (fun h24 => ?_) (fun h24 => ?_)
                    · have hv := xit_v h24 hv
                      refine lv_iconst (v := 0) hx hb xd_Z_refusal_99 (by decide) ?_
                      exact hj18 H locs ls (0 : Int32) (xif h19 (xif h20 (xit h21 (xlt_e hq22 (xit h24 rfl))))) hl hP hD hS
                    · have hv := xif_v h24 hv
                      refine lv_bipush (v := 22) hx hb xd_Z_refusal_94 (by decide) ?_
                      refine lv_goto (tgt := 100) hx hb xd_Z_refusal_96 rfl ?_
                      exact hj18 H locs ls (22 : Int32) (xif h19 (xif h20 (xit h21 (xlt_e hq22 (xif h24 rfl))))) hl hP hD hS
            · have hv := xit_v h10 hv
              refine lv_iconst (v := 2) hx hb xd_Z_refusal_58 (by decide) ?_
              exact hret _ u H locs ls _ ⟨(by unfold xf_Z_refusal; exact (xlt_e hv3 (xlt_e hr5 (xif h6 (xit h7 (xit h8 (xif h9 (xit h10 rfl)))))))), rfl⟩ hP hD hS xd_Z_refusal_59
          · have hv := xit_v h9 hv
            refine lv_iconst (v := 0) hx hb xd_Z_refusal_49 (by decide) ?_
            exact hret _ u H locs ls _ ⟨(by unfold xf_Z_refusal; exact (xlt_e hv3 (xlt_e hr5 (xif h6 (xit h7 (xit h8 (xit h9 rfl))))))), rfl⟩ hP hD hS xd_Z_refusal_50
      · have hv := xif_v h7 hv
        refine lv_iload_n hx hb xd_Z_refusal_31 rfl (lv_at hl 0 rfl) ?_
        refine lv_if_eq (tgt := 37) hx hb xd_Z_refusal_32 rfl (fun h25 => ?_) (fun h25 => ?_)
        · have hv := xit_v h25 hv
          refine lv_iload_n hx hb xd_Z_refusal_37 rfl (lv_at hl 0 rfl) ?_
          refine lv_if_ne (tgt := 49) hx hb xd_Z_refusal_38 rfl (fun h26 => ?_) (fun h26 => ?_)
          · have hv := xif_v h26 hv
            refine lv_iconst (v := 0) hx hb xd_Z_refusal_49 (by decide) ?_
            exact hret _ u H locs ls _ ⟨(by unfold xf_Z_refusal; exact (xlt_e hv3 (xlt_e hr5 (xif h6 (xif h7 (xit h25 (xif h26 rfl))))))), rfl⟩ hP hD hS xd_Z_refusal_50
          · have hv := xit_v h26 hv
            refine lv_aload_n hx hb xd_Z_refusal_41 rfl (lv_at hl 1 rfl) ?_
            refine xget_Z_mode (v := (xg_Z_mode u)) hx hb htg hown hK hP (htg _ xw_731) rfl xd_Z_refusal_42 ?_
            refine lv_iconst (v := 1) hx hb xd_Z_refusal_45 (by decide) ?_
            refine lv_icmp_ne (tgt := 51) hx hb xd_Z_refusal_46 rfl (fun h27 => ?_) (fun h27 => ?_)
            · have hv := xif_v h27 hv
              refine lv_aload_n hx hb xd_Z_refusal_51 rfl (lv_at hl 1 rfl) ?_
              refine xget_Z_mode (v := (xg_Z_mode u)) hx hb htg hown hK hP (htg _ xw_731) rfl xd_Z_refusal_52 ?_
              refine lv_if_ne (tgt := 60) hx hb xd_Z_refusal_55 rfl (fun h28 => ?_) (fun h28 => ?_)
              · have hv := xif_v h28 hv
                refine lv_aload_n hx hb xd_Z_refusal_60 rfl (lv_at hl 1 rfl) ?_
                refine xget_Z_mode (v := (xg_Z_mode u)) hx hb htg hown hK hP (htg _ xw_731) rfl xd_Z_refusal_61 ?_
                refine lv_iconst (v := 2) hx hb xd_Z_refusal_64 (by decide) ?_
                obtain ⟨hva, hv⟩ := xan_v2 hv
                have hj36 : ∀ (H : Heap) (locs : List Loc) (ls : Array Slot) (v35 : Int32), v35 = (if (xg_Z_mode u) = 2 then (22) else (if 512 ≤ p0 then (22) else (if p0 = 384 then (xlt (xf_Z_bit u (1536 : Int32) (20 : Int32) : Int32) fun q32 => if q32 = 0 then (0) else (22)) else (0)))) → lv_has ls 4 [(3, .int v3), (0, .ref ((b 0))), (1, .int p0), (2, .int p1)] → va_P D xCl (xWZ k b u) H → va_D A (xWZ k b u) → va_S A s.heap H locs → W p l e { frames := 3, cells := 0, slots := 0, locals := 64 } s m args below meth c H locs (0) (0) Q (F0 m 100 ls [.int v35]) := by
                  intro H locs ls v35 hv35 hl hP hD hS
                  have hv := xlt_v hv35 hv
                  exact hret _ u H locs ls _ ⟨(by unfold xf_Z_refusal; exact (xlt_e hv3 (xlt_e hr5 (xif h6 (xif h7 (xit h25 (xit h26 (xif h27 (xif h28 (xlt_e hv35 rfl)))))))))), rfl⟩ hP hD hS xd_Z_refusal_100
                have hv := hva
                refine lv_icmp_eq (tgt := 94) hx hb xd_Z_refusal_65 rfl (fun h37 => ?_) (fun h37 => ?_)
                · have hv := xit_v h37 hv
                  refine lv_bipush (v := 22) hx hb xd_Z_refusal_94 (by decide) ?_
                  refine lv_goto (tgt := 100) hx hb xd_Z_refusal_96 rfl ?_
                  exact hj36 H locs ls (22 : Int32) (xit h37 rfl) hl hP hD hS
                · have hv := xif_v h37 hv
                  refine lv_iload_n hx hb xd_Z_refusal_68 rfl (lv_at hl 2 rfl) ?_
                  refine lv_sipush (v := 512) hx hb xd_Z_refusal_69 (by decide) ?_
                  refine lv_icmp_ge (tgt := 94) hx hb xd_Z_refusal_72 rfl (fun h38 => ?_) (fun h38 => ?_)
                  · have hv := xit_v h38 hv
                    refine lv_bipush (v := 22) hx hb xd_Z_refusal_94 (by decide) ?_
                    refine lv_goto (tgt := 100) hx hb xd_Z_refusal_96 rfl ?_
                    exact hj36 H locs ls (22 : Int32) (xif h37 (xit h38 rfl)) hl hP hD hS
                  · have hv := xif_v h38 hv
                    refine lv_iload_n hx hb xd_Z_refusal_75 rfl (lv_at hl 2 rfl) ?_
                    refine lv_sipush (v := 384) hx hb xd_Z_refusal_76 (by decide) ?_
                    refine lv_icmp_ne (tgt := 99) hx hb xd_Z_refusal_79 rfl (fun h39 => ?_) (fun h39 => ?_)
                    · have hv := xif_v h39 hv
                      refine lv_iconst (v := 0) hx hb xd_Z_refusal_99 (by decide) ?_
                      exact hj36 H locs ls (0 : Int32) (xif h37 (xif h38 (xif h39 rfl))) hl hP hD hS
                    · have hv := xit_v h39 hv
                      refine lv_aload_n hx hb xd_Z_refusal_82 rfl (lv_at hl 1 rfl) ?_
                      refine lv_sipush (v := 1536) hx hb xd_Z_refusal_83 (by decide) ?_
                      refine lv_bipush (v := 20) hx hb xd_Z_refusal_86 (by decide) ?_
                      obtain ⟨hn41, hv⟩ := xan_v hv
                      refine xcW_i (va_runV (As := [.int 1536, .int 20]) (rest := []) ⟨hx, hb, hml, hown, htg⟩ (c_Z_bit l D z k b H.size u (1536 : Int32) (20 : Int32) hn41) (cwV 2 htg (xg_V0 xkin_Z_bit xw_867 xw_869 xsel_Z_bit xw_9) rfl rfl rfl (by decide +kernel) ⟨Nat.le_of_ble_eq_true rfl, Nat.le_of_ble_eq_true rfl⟩) ⟨xB_blind, xrecv_Z hK hP, fun U hU hW => xB_mk hP hK hD hE hS (xsubW hD hA hS) hU hW⟩ rfl rfl hl.1 rfl (lv_room (Nat.le_of_ble_eq_true rfl)) xd_Z_refusal_88 ⟨Nat.le_of_ble_eq_true rfl, Nat.le_of_ble_eq_true rfl⟩) hD hA hS (fun r u1 H locs hw hP hD hS => ?_)
                      obtain ⟨q40, hq40⟩ : ∃ q, q = xf_Z_bit u (1536 : Int32) (20 : Int32) := ⟨_, rfl⟩
                      obtain ⟨e1, e2⟩ := hw
                      rw [← hq40] at e1
                      obtain rfl : q40 = r := e1.symm
                      obtain rfl : u = u1 := e2.symm
                      have hP : va_P D xCl (xWZ k b u) H := hP
                      have hD : va_D A (xWZ k b u) := hD
                      have hv := xlt_v hq40 hv
                      refine lv_if_eq (tgt := 99) hx hb xd_Z_refusal_91 rfl (fun h42 => ?_) (fun h42 => ?_)
                      · have hv := xit_v h42 hv
                        refine lv_iconst (v := 0) hx hb xd_Z_refusal_99 (by decide) ?_
                        exact hj36 H locs ls (0 : Int32) (xif h37 (xif h38 (xit h39 (xlt_e hq40 (xit h42 rfl))))) hl hP hD hS
                      · have hv := xif_v h42 hv
                        refine lv_bipush (v := 22) hx hb xd_Z_refusal_94 (by decide) ?_
                        refine lv_goto (tgt := 100) hx hb xd_Z_refusal_96 rfl ?_
                        exact hj36 H locs ls (22 : Int32) (xif h37 (xif h38 (xit h39 (xlt_e hq40 (xif h42 rfl))))) hl hP hD hS
              · have hv := xit_v h28 hv
                refine lv_iconst (v := 2) hx hb xd_Z_refusal_58 (by decide) ?_
                exact hret _ u H locs ls _ ⟨(by unfold xf_Z_refusal; exact (xlt_e hv3 (xlt_e hr5 (xif h6 (xif h7 (xit h25 (xit h26 (xif h27 (xit h28 rfl))))))))), rfl⟩ hP hD hS xd_Z_refusal_59
            · have hv := xit_v h27 hv
              refine lv_iconst (v := 0) hx hb xd_Z_refusal_49 (by decide) ?_
              exact hret _ u H locs ls _ ⟨(by unfold xf_Z_refusal; exact (xlt_e hv3 (xlt_e hr5 (xif h6 (xif h7 (xit h25 (xit h26 (xit h27 rfl)))))))), rfl⟩ hP hD hS xd_Z_refusal_50
        · have hv := xif_v h25 hv
          refine lv_iconst (v := 2) hx hb xd_Z_refusal_35 (by decide) ?_
          exact hret _ u H locs ls _ ⟨(by unfold xf_Z_refusal; exact (xlt_e hv3 (xlt_e hr5 (xif h6 (xif h7 (xif h25 rfl)))))), rfl⟩ hP hD hS xd_Z_refusal_36
  refine lv_icmp_eq (tgt := 14) hx hb xd_Z_refusal_4 rfl (fun h43 => ?_) (fun h43 => ?_)
  · refine lv_iconst (v := 1) hx hb xd_Z_refusal_14 (by decide) ?_
    refine lv_goto (tgt := 19) hx hb xd_Z_refusal_15 rfl ?_
    exact hj4 H locs ls (1 : Int32) (xit h43 rfl) hl hP hD hS
  · refine lv_iload_n hx hb xd_Z_refusal_7 rfl (lv_at hl 1 rfl) ?_
    refine lv_sipush (v := 3201) hx hb xd_Z_refusal_8 (by decide) ?_
    refine lv_icmp_ne (tgt := 18) hx hb xd_Z_refusal_11 rfl (fun h44 => ?_) (fun h44 => ?_)
    · refine lv_iconst (v := 0) hx hb xd_Z_refusal_18 (by decide) ?_
      exact hj4 H locs ls (0 : Int32) (xif h43 (xif h44 rfl)) hl hP hD hS
    · refine lv_iconst (v := 1) hx hb xd_Z_refusal_14 (by decide) ?_
      refine lv_goto (tgt := 19) hx hb xd_Z_refusal_15 rfl ?_
      exact hj4 H locs ls (1 : Int32) (xif h43 (xit h44 rfl)) hl hP hD hS

noncomputable def xf_Z_fails (u : XZ) (p0 : Int32) (p1 : Int32) (p2 : Int32) : Int32 × XZ :=
  (0, (xs_Z_ofEntry (xs_Z_far (xs_Z_ofGuest (xs_Z_wrong (xs_Z_cause u p0) p1) (xb p2)) (0 : Int64)) (xb (0 : Int32))))
def xv_Z_fails (u : XZ) (p0 : Int32) (p1 : Int32) (p2 : Int32) : Prop := XVc (
  (X01 p2) ∧
  True)
set_option maxHeartbeats 4000000 in
set_option maxRecDepth 100000 in
theorem c_Z_fails (l : Launch) (D : va_G) (z : (Nat → Nat) × (Nat → Nat)) (k : ClassId × ClassId) (b : Nat → Nat) (sz : Nat) (u : XZ) (p0 : Int32) (p1 : Int32) (p2 : Int32) (hv : xv_Z_fails u p0 p1 p2) : Met l xy_Z_fails (xk_Z_fails :: lw_g) { frames := 0, cells := 0, slots := 0, locals := 0 } (va_Pc [.ref ((b 0)), .int p0, .int p1, .int p2] (xB D (xTy k) z sz (xWZ k b u))) (va_Qi (fun r (q : XZ) => (r, q) = xf_Z_fails u p0 p1 p2) (fun q t => xQ D (xTy k) (xWZ k b q) (va_A (xWZ k b u) sz) t) (va_A (xWZ k b u) sz)) 0 0 (va_A (xWZ k b u) sz) := by
  refine xopen_z (wf := fun q : XZ => xWZ k b q) (lv := [(0, .ref ((b 0))), (1, .int p0), (2, .int p1), (3, .int p2)]) (by decide) rfl (Nat.le_of_ble_eq_true rfl) ?_
  intro p e s m args below meth c Q ls A H locs hx hb hml htg hown hin hK hP hD hE hS hA hl hret
  unfold xv_Z_fails at hv
  refine lv_aload_n hx hb xd_Z_fails_0 rfl (lv_at hl 0 rfl) ?_
  refine lv_iload_n hx hb xd_Z_fails_1 rfl (lv_at hl 1 rfl) ?_
  refine xput_Z_cause (v := p0) hx hb htg hown hK hP hD hS (htg _ xw_742) xd_Z_fails_2 (fun H locs hP hD hS => ?_)
  refine lv_aload_n hx hb xd_Z_fails_5 rfl (lv_at hl 0 rfl) ?_
  refine lv_iload_n hx hb xd_Z_fails_6 rfl (lv_at hl 2 rfl) ?_
  refine xput_Z_wrong (v := p1) hx hb htg hown hK hP hD hS (htg _ xw_743) xd_Z_fails_7 (fun H locs hP hD hS => ?_)
  refine lv_aload_n hx hb xd_Z_fails_10 rfl (lv_at hl 0 rfl) ?_
  refine lv_iload_n hx hb xd_Z_fails_11 rfl (lv_at hl 3 rfl) ?_
  obtain ⟨hn1, hv⟩ := xan_v hv
  refine xput_Z_ofGuest (v := p2) hx hb htg hown hK hP hD hS (htg _ xw_744) hn1 xd_Z_fails_12 (fun H locs hP hD hS => ?_)
  refine lv_aload_n hx hb xd_Z_fails_15 rfl (lv_at hl 0 rfl) ?_
  refine lv_lconst (v := 0) hx hb xd_Z_fails_16 (by decide) ?_
  refine xput_Z_far (v := (0 : Int64)) hx hb htg hown hK hP hD hS (htg _ xw_745) xd_Z_fails_17 (fun H locs hP hD hS => ?_)
  refine lv_aload_n hx hb xd_Z_fails_20 rfl (lv_at hl 0 rfl) ?_
  refine lv_iconst (v := 0) hx hb xd_Z_fails_21 (by decide) ?_
  refine xput_Z_ofEntry (v := (0 : Int32)) hx hb htg hown hK hP hD hS (htg _ xw_746) (Or.inl rfl) xd_Z_fails_22 (fun H locs hP hD hS => ?_)
  refine lv_iconst (v := 0) hx hb xd_Z_fails_25 (by decide) ?_
  exact hret _ (xs_Z_ofEntry (xs_Z_far (xs_Z_ofGuest (xs_Z_wrong (xs_Z_cause u p0) p1) (xb p2)) (0 : Int64)) (xb (0 : Int32))) H locs ls _ rfl (by unfold xf_Z_fails; exact rfl) hP hD hS xd_Z_fails_26
theorem xt01_Z_fails (u : XZ) (p0 : Int32) (p1 : Int32) (p2 : Int32) : X01p (xf_Z_fails u p0 p1 p2) := by unfold xf_Z_fails; exact (Or.inl rfl)

noncomputable def xf_Z_isVirtual (u : XZ) : Int32 :=
  xlt (if (xg_Z_mode u) ≤ 1 then (0) else (1) : Int32) fun v2 =>
  v2
set_option maxHeartbeats 4000000 in
set_option maxRecDepth 100000 in
theorem c_Z_isVirtual (l : Launch) (D : va_G) (z : (Nat → Nat) × (Nat → Nat)) (k : ClassId × ClassId) (b : Nat → Nat) (sz : Nat) (u : XZ) : Met l xy_Z_isVirtual (xk_Z_isVirtual :: lw_g) { frames := 0, cells := 0, slots := 0, locals := 0 } (va_Pc [.ref ((b 0))] (xB D (xTy k) z sz (xWZ k b u))) (va_Qi (fun r (q : XZ) => r = xf_Z_isVirtual u ∧ q = u) (fun q t => xQ D (xTy k) (xWZ k b q) (va_A (xWZ k b u) sz) t) (va_A (xWZ k b u) sz)) 0 0 (va_A (xWZ k b u) sz) := by
  refine xopen_z (wf := fun q : XZ => xWZ k b q) (lv := [(0, .ref ((b 0)))]) (by decide) rfl (Nat.le_of_ble_eq_true rfl) ?_
  intro p e s m args below meth c Q ls A H locs hx hb hml htg hown hin hK hP hD hE hS hA hl hret
  refine lv_aload_n hx hb xd_Z_isVirtual_0 rfl (lv_at hl 0 rfl) ?_
  refine xget_Z_mode (v := (xg_Z_mode u)) hx hb htg hown hK hP (htg _ xw_731) rfl xd_Z_isVirtual_1 ?_
  refine lv_iconst (v := 1) hx hb xd_Z_isVirtual_4 (by decide) ?_
  have hj3 : ∀ (H : Heap) (locs : List Loc) (ls : Array Slot) (v2 : Int32), v2 = (if (xg_Z_mode u) ≤ 1 then (0) else (1)) → lv_has ls 1 [(0, .ref ((b 0)))] → va_P D xCl (xWZ k b u) H → va_D A (xWZ k b u) → va_S A s.heap H locs → W p l e { frames := 0, cells := 0, slots := 0, locals := 0 } s m args below meth c H locs (0) (0) Q (F0 m 13 ls [.int v2]) := by
    intro H locs ls v2 hv2 hl hP hD hS
    exact hret _ u H locs ls _ (xnar (X01_of hv2 (xit_01 (Or.inl rfl) (Or.inr rfl)))) ⟨(by unfold xf_Z_isVirtual; exact (xlt_e hv2 rfl)), rfl⟩ hP hD hS xd_Z_isVirtual_13
  refine lv_icmp_le (tgt := 12) hx hb xd_Z_isVirtual_5 rfl (fun h4 => ?_) (fun h4 => ?_)
  · refine lv_iconst (v := 0) hx hb xd_Z_isVirtual_12 (by decide) ?_
    exact hj3 H locs ls (0 : Int32) (xit h4 rfl) hl hP hD hS
  · refine lv_iconst (v := 1) hx hb xd_Z_isVirtual_8 (by decide) ?_
    refine lv_goto (tgt := 13) hx hb xd_Z_isVirtual_9 rfl ?_
    exact hj3 H locs ls (1 : Int32) (xif h4 rfl) hl hP hD hS
theorem xt01_Z_isVirtual (u : XZ) : X01 (xf_Z_isVirtual u) := by unfold xf_Z_isVirtual; exact (xlt_01 (fun v2 hv2 => (X01_of hv2 (xit_01 (Or.inl rfl) (Or.inr rfl)))))

noncomputable def xf_Z_due (u : XZ) : Int32 :=
  xlt (xf_Z_tells u (324 : Int32) : Int32) fun q1 =>
  xlt (xf_Z_value u (260 : Int32) : Int32) fun q3 =>
  xlt (xf_Z_value u (1605 : Int32) : Int32) fun q5 =>
  xlt (xf_Z_value u (1540 : Int32) : Int32) fun q7 =>
  if (xg_Z_mode u) = 1 then
    xlt (xf_Z_bit u (256 : Int32) (1 : Int32) : Int32) fun q55 =>
    if q55 = 0 then
      xlt (if (xg_Z_mode u) = 2 then (xlt (xf_Z_value u (1539 : Int32) : Int32) fun q59 => ((q5 &&& q7) &&& q59)) else (if (xg_Z_mode u) = 3 then (xlt (xf_Z_bit u (512 : Int32) (1 : Int32) : Int32) fun q62 => if q62 = 0 then (0) else (xlt (xf_Z_value u (1539 : Int32) : Int32) fun q65 => ((q5 &&& q7) &&& q65))) else (0)) : Int32) fun v67 =>
      xlt (if (v67 &&& (1024 : Int32)) ≤ 0 then (if (v67 &&& (4 : Int32)) ≤ 0 then (if (v67 &&& (64 : Int32)) ≤ 0 then ((-1)) else (105)) else (101)) else (109) : Int32) fun v72 =>
      v72
    else
      xlt (xf_Z_value u (1539 : Int32) : Int32) fun q86 =>
      xlt (if ((q1 &&& q3) &&& (512 : Int32)) ≤ 0 then (if ((q1 &&& q3) &&& (2 : Int32)) ≤ 0 then (if ((q1 &&& q3) &&& (32 : Int32)) ≤ 0 then (if (((q5 &&& q7) &&& (q86 ^^^ (-1 : Int32))) &&& (1024 : Int32)) ≤ 0 then (if (((q5 &&& q7) &&& (q86 ^^^ (-1 : Int32))) &&& (4 : Int32)) ≤ 0 then (if (((q5 &&& q7) &&& (q86 ^^^ (-1 : Int32))) &&& (64 : Int32)) ≤ 0 then ((-1)) else (6)) else (2)) else (10)) else (5)) else (1)) else (9) : Int32) fun v94 =>
      if v94 ≤ 0 then
        xlt (if (xg_Z_mode u) = 2 then (xlt (xf_Z_value u (1539 : Int32) : Int32) fun q98 => ((q5 &&& q7) &&& q98)) else (if (xg_Z_mode u) = 3 then (xlt (xf_Z_bit u (512 : Int32) (1 : Int32) : Int32) fun q101 => if q101 = 0 then (0) else (xlt (xf_Z_value u (1539 : Int32) : Int32) fun q104 => ((q5 &&& q7) &&& q104))) else (0)) : Int32) fun v106 =>
        xlt (if (v106 &&& (1024 : Int32)) ≤ 0 then (if (v106 &&& (4 : Int32)) ≤ 0 then (if (v106 &&& (64 : Int32)) ≤ 0 then ((-1)) else (105)) else (101)) else (109) : Int32) fun v111 =>
        v111
      else
        v94
  else
    xlt (xf_Z_value u (1539 : Int32) : Int32) fun q10 =>
    xlt (if ((q1 &&& q3) &&& (512 : Int32)) ≤ 0 then (if ((q1 &&& q3) &&& (2 : Int32)) ≤ 0 then (if ((q1 &&& q3) &&& (32 : Int32)) ≤ 0 then (if (((q5 &&& q7) &&& (q10 ^^^ (-1 : Int32))) &&& (1024 : Int32)) ≤ 0 then (if (((q5 &&& q7) &&& (q10 ^^^ (-1 : Int32))) &&& (4 : Int32)) ≤ 0 then (if (((q5 &&& q7) &&& (q10 ^^^ (-1 : Int32))) &&& (64 : Int32)) ≤ 0 then ((-1)) else (6)) else (2)) else (10)) else (5)) else (1)) else (9) : Int32) fun v18 =>
    if v18 ≤ 0 then
      xlt (if (xg_Z_mode u) = 2 then (xlt (xf_Z_value u (1539 : Int32) : Int32) fun q22 => ((q5 &&& q7) &&& q22)) else (if (xg_Z_mode u) = 3 then (xlt (xf_Z_bit u (512 : Int32) (1 : Int32) : Int32) fun q25 => if q25 = 0 then (0) else (xlt (xf_Z_value u (1539 : Int32) : Int32) fun q28 => ((q5 &&& q7) &&& q28))) else (0)) : Int32) fun v30 =>
      xlt (if (v30 &&& (1024 : Int32)) ≤ 0 then (if (v30 &&& (4 : Int32)) ≤ 0 then (if (v30 &&& (64 : Int32)) ≤ 0 then ((-1)) else (105)) else (101)) else (109) : Int32) fun v35 =>
      v35
    else
      v18
def xv_Z_due (u : XZ) : Prop := XVc (
  (xv_Z_tells u (324 : Int32)) ∧
  xlt (xf_Z_tells u (324 : Int32) : Int32) fun q1 =>
  (xv_Z_value u (260 : Int32)) ∧
  xlt (xf_Z_value u (260 : Int32) : Int32) fun q3 =>
  (xv_Z_value u (1605 : Int32)) ∧
  xlt (xf_Z_value u (1605 : Int32) : Int32) fun q5 =>
  (xv_Z_value u (1540 : Int32)) ∧
  xlt (xf_Z_value u (1540 : Int32) : Int32) fun q7 =>
  if (xg_Z_mode u) = 1 then
    (xv_Z_bit u (256 : Int32) (1 : Int32)) ∧
    xlt (xf_Z_bit u (256 : Int32) (1 : Int32) : Int32) fun q55 =>
    if q55 = 0 then
      (if (xg_Z_mode u) = 2 then ((xv_Z_value u (1539 : Int32)) ∧ (xlt (xf_Z_value u (1539 : Int32) : Int32) fun q59 => True)) else (if (xg_Z_mode u) = 3 then ((xv_Z_bit u (512 : Int32) (1 : Int32)) ∧ (xlt (xf_Z_bit u (512 : Int32) (1 : Int32) : Int32) fun q62 => if q62 = 0 then (True) else ((xv_Z_value u (1539 : Int32)) ∧ (xlt (xf_Z_value u (1539 : Int32) : Int32) fun q65 => True)))) else (True))) ∧
      xlt (if (xg_Z_mode u) = 2 then (xlt (xf_Z_value u (1539 : Int32) : Int32) fun q59 => ((q5 &&& q7) &&& q59)) else (if (xg_Z_mode u) = 3 then (xlt (xf_Z_bit u (512 : Int32) (1 : Int32) : Int32) fun q62 => if q62 = 0 then (0) else (xlt (xf_Z_value u (1539 : Int32) : Int32) fun q65 => ((q5 &&& q7) &&& q65))) else (0)) : Int32) fun v67 =>
      xlt (if (v67 &&& (1024 : Int32)) ≤ 0 then (if (v67 &&& (4 : Int32)) ≤ 0 then (if (v67 &&& (64 : Int32)) ≤ 0 then ((-1)) else (105)) else (101)) else (109) : Int32) fun v72 =>
      True
    else
      (xv_Z_value u (1539 : Int32)) ∧
      xlt (xf_Z_value u (1539 : Int32) : Int32) fun q86 =>
      xlt (if ((q1 &&& q3) &&& (512 : Int32)) ≤ 0 then (if ((q1 &&& q3) &&& (2 : Int32)) ≤ 0 then (if ((q1 &&& q3) &&& (32 : Int32)) ≤ 0 then (if (((q5 &&& q7) &&& (q86 ^^^ (-1 : Int32))) &&& (1024 : Int32)) ≤ 0 then (if (((q5 &&& q7) &&& (q86 ^^^ (-1 : Int32))) &&& (4 : Int32)) ≤ 0 then (if (((q5 &&& q7) &&& (q86 ^^^ (-1 : Int32))) &&& (64 : Int32)) ≤ 0 then ((-1)) else (6)) else (2)) else (10)) else (5)) else (1)) else (9) : Int32) fun v94 =>
      if v94 ≤ 0 then
        (if (xg_Z_mode u) = 2 then ((xv_Z_value u (1539 : Int32)) ∧ (xlt (xf_Z_value u (1539 : Int32) : Int32) fun q98 => True)) else (if (xg_Z_mode u) = 3 then ((xv_Z_bit u (512 : Int32) (1 : Int32)) ∧ (xlt (xf_Z_bit u (512 : Int32) (1 : Int32) : Int32) fun q101 => if q101 = 0 then (True) else ((xv_Z_value u (1539 : Int32)) ∧ (xlt (xf_Z_value u (1539 : Int32) : Int32) fun q104 => True)))) else (True))) ∧
        xlt (if (xg_Z_mode u) = 2 then (xlt (xf_Z_value u (1539 : Int32) : Int32) fun q98 => ((q5 &&& q7) &&& q98)) else (if (xg_Z_mode u) = 3 then (xlt (xf_Z_bit u (512 : Int32) (1 : Int32) : Int32) fun q101 => if q101 = 0 then (0) else (xlt (xf_Z_value u (1539 : Int32) : Int32) fun q104 => ((q5 &&& q7) &&& q104))) else (0)) : Int32) fun v106 =>
        xlt (if (v106 &&& (1024 : Int32)) ≤ 0 then (if (v106 &&& (4 : Int32)) ≤ 0 then (if (v106 &&& (64 : Int32)) ≤ 0 then ((-1)) else (105)) else (101)) else (109) : Int32) fun v111 =>
        True
      else
        True
  else
    (xv_Z_value u (1539 : Int32)) ∧
    xlt (xf_Z_value u (1539 : Int32) : Int32) fun q10 =>
    xlt (if ((q1 &&& q3) &&& (512 : Int32)) ≤ 0 then (if ((q1 &&& q3) &&& (2 : Int32)) ≤ 0 then (if ((q1 &&& q3) &&& (32 : Int32)) ≤ 0 then (if (((q5 &&& q7) &&& (q10 ^^^ (-1 : Int32))) &&& (1024 : Int32)) ≤ 0 then (if (((q5 &&& q7) &&& (q10 ^^^ (-1 : Int32))) &&& (4 : Int32)) ≤ 0 then (if (((q5 &&& q7) &&& (q10 ^^^ (-1 : Int32))) &&& (64 : Int32)) ≤ 0 then ((-1)) else (6)) else (2)) else (10)) else (5)) else (1)) else (9) : Int32) fun v18 =>
    if v18 ≤ 0 then
      (if (xg_Z_mode u) = 2 then ((xv_Z_value u (1539 : Int32)) ∧ (xlt (xf_Z_value u (1539 : Int32) : Int32) fun q22 => True)) else (if (xg_Z_mode u) = 3 then ((xv_Z_bit u (512 : Int32) (1 : Int32)) ∧ (xlt (xf_Z_bit u (512 : Int32) (1 : Int32) : Int32) fun q25 => if q25 = 0 then (True) else ((xv_Z_value u (1539 : Int32)) ∧ (xlt (xf_Z_value u (1539 : Int32) : Int32) fun q28 => True)))) else (True))) ∧
      xlt (if (xg_Z_mode u) = 2 then (xlt (xf_Z_value u (1539 : Int32) : Int32) fun q22 => ((q5 &&& q7) &&& q22)) else (if (xg_Z_mode u) = 3 then (xlt (xf_Z_bit u (512 : Int32) (1 : Int32) : Int32) fun q25 => if q25 = 0 then (0) else (xlt (xf_Z_value u (1539 : Int32) : Int32) fun q28 => ((q5 &&& q7) &&& q28))) else (0)) : Int32) fun v30 =>
      xlt (if (v30 &&& (1024 : Int32)) ≤ 0 then (if (v30 &&& (4 : Int32)) ≤ 0 then (if (v30 &&& (64 : Int32)) ≤ 0 then ((-1)) else (105)) else (101)) else (109) : Int32) fun v35 =>
      True
    else
      True)
set_option maxHeartbeats 4000000 in
set_option maxRecDepth 100000 in
theorem c_Z_due (l : Launch) (D : va_G) (z : (Nat → Nat) × (Nat → Nat)) (k : ClassId × ClassId) (b : Nat → Nat) (sz : Nat) (u : XZ) (hv : xv_Z_due u) : Met l xy_Z_due (xk_Z_due :: lw_g) { frames := 3, cells := 0, slots := 0, locals := 64 } (va_Pc [.ref ((b 0))] (xB D (xTy k) z sz (xWZ k b u))) (va_Qi (fun r (q : XZ) => r = xf_Z_due u ∧ q = u) (fun q t => xQ D (xTy k) (xWZ k b q) (va_A (xWZ k b u) sz) t) (va_A (xWZ k b u) sz)) 0 0 (va_A (xWZ k b u) sz) := by
  refine xopen_i (wf := fun q : XZ => xWZ k b q) (lv := [(0, .ref ((b 0)))]) (by decide) rfl (Nat.le_of_ble_eq_true rfl) ?_
  intro p e s m args below meth c Q ls A H locs hx hb hml htg hown hin hK hP hD hE hS hA hl hret
  unfold xv_Z_due at hv
  refine lv_aload_n hx hb xd_Z_due_0 rfl (lv_at hl 0 rfl) ?_
  refine lv_sipush (v := 324) hx hb xd_Z_due_1 (by decide) ?_
  obtain ⟨hn2, hv⟩ := xan_v hv
  refine xcW_i (va_runV (As := [.int 324]) (rest := []) ⟨hx, hb, hml, hown, htg⟩ (c_Z_tells l D z k b H.size u (324 : Int32) hn2) (cwV 1 htg (xg_V0 xkin_Z_tells xw_883 xw_885 xsel_Z_tells xw_9) rfl rfl rfl (by decide +kernel) ⟨Nat.le_of_ble_eq_true rfl, Nat.le_of_ble_eq_true rfl⟩) ⟨xB_blind, xrecv_Z hK hP, fun U hU hW => xB_mk hP hK hD hE hS (xsubW hD hA hS) hU hW⟩ rfl rfl hl.1 rfl (lv_room (Nat.le_of_ble_eq_true rfl)) xd_Z_due_4 ⟨Nat.le_of_ble_eq_true rfl, Nat.le_of_ble_eq_true rfl⟩) hD hA hS (fun r u1 H locs hw hP hD hS => ?_)
  obtain ⟨q1, hq1⟩ : ∃ q, q = xf_Z_tells u (324 : Int32) := ⟨_, rfl⟩
  obtain ⟨e1, e2⟩ := hw
  rw [← hq1] at e1
  obtain rfl : q1 = r := e1.symm
  obtain rfl : u = u1 := e2.symm
  have hP : va_P D xCl (xWZ k b u) H := hP
  have hD : va_D A (xWZ k b u) := hD
  have hv := xlt_v hq1 hv
  refine lv_aload_n hx hb xd_Z_due_7 rfl (lv_at hl 0 rfl) ?_
  refine lv_sipush (v := 260) hx hb xd_Z_due_8 (by decide) ?_
  obtain ⟨hn4, hv⟩ := xan_v hv
  refine xcW_i (va_runV (As := [.int 260]) (rest := [.int q1]) ⟨hx, hb, hml, hown, htg⟩ (c_Z_value l D z k b H.size u (260 : Int32) hn4) (cwV 1 htg (xg_V0 xkin_Z_value xw_859 xw_861 xsel_Z_value xw_9) rfl rfl rfl (by decide +kernel) ⟨Nat.le_of_ble_eq_true rfl, Nat.le_of_ble_eq_true rfl⟩) ⟨xB_blind, xrecv_Z hK hP, fun U hU hW => xB_mk hP hK hD hE hS (xsubW hD hA hS) hU hW⟩ rfl rfl hl.1 rfl (lv_room (Nat.le_of_ble_eq_true rfl)) xd_Z_due_11 ⟨Nat.le_of_ble_eq_true rfl, Nat.le_of_ble_eq_true rfl⟩) hD hA hS (fun r u1 H locs hw hP hD hS => ?_)
  obtain ⟨q3, hq3⟩ : ∃ q, q = xf_Z_value u (260 : Int32) := ⟨_, rfl⟩
  obtain ⟨e1, e2⟩ := hw
  rw [← hq3] at e1
  obtain rfl : q3 = r := e1.symm
  obtain rfl : u = u1 := e2.symm
  have hP : va_P D xCl (xWZ k b u) H := hP
  have hD : va_D A (xWZ k b u) := hD
  have hv := xlt_v hq3 hv
  refine lv_iand hx hb xd_Z_due_14 ?_
  refine lv_istore_n (lv' := [(1, .int ((q1 &&& q3))), (0, .ref ((b 0)))]) hx hb xd_Z_due_15 rfl hl (by decide) rfl (fun ls hl => ?_)
  refine lv_aload_n hx hb xd_Z_due_16 rfl (lv_at hl 1 rfl) ?_
  refine lv_sipush (v := 1605) hx hb xd_Z_due_17 (by decide) ?_
  obtain ⟨hn6, hv⟩ := xan_v hv
  refine xcW_i (va_runV (As := [.int 1605]) (rest := []) ⟨hx, hb, hml, hown, htg⟩ (c_Z_value l D z k b H.size u (1605 : Int32) hn6) (cwV 1 htg (xg_V0 xkin_Z_value xw_859 xw_861 xsel_Z_value xw_9) rfl rfl rfl (by decide +kernel) ⟨Nat.le_of_ble_eq_true rfl, Nat.le_of_ble_eq_true rfl⟩) ⟨xB_blind, xrecv_Z hK hP, fun U hU hW => xB_mk hP hK hD hE hS (xsubW hD hA hS) hU hW⟩ rfl rfl hl.1 rfl (lv_room (Nat.le_of_ble_eq_true rfl)) xd_Z_due_20 ⟨Nat.le_of_ble_eq_true rfl, Nat.le_of_ble_eq_true rfl⟩) hD hA hS (fun r u1 H locs hw hP hD hS => ?_)
  obtain ⟨q5, hq5⟩ : ∃ q, q = xf_Z_value u (1605 : Int32) := ⟨_, rfl⟩
  obtain ⟨e1, e2⟩ := hw
  rw [← hq5] at e1
  obtain rfl : q5 = r := e1.symm
  obtain rfl : u = u1 := e2.symm
  have hP : va_P D xCl (xWZ k b u) H := hP
  have hD : va_D A (xWZ k b u) := hD
  have hv := xlt_v hq5 hv
  refine lv_aload_n hx hb xd_Z_due_23 rfl (lv_at hl 1 rfl) ?_
  refine lv_sipush (v := 1540) hx hb xd_Z_due_24 (by decide) ?_
  obtain ⟨hn8, hv⟩ := xan_v hv
  refine xcW_i (va_runV (As := [.int 1540]) (rest := [.int q5]) ⟨hx, hb, hml, hown, htg⟩ (c_Z_value l D z k b H.size u (1540 : Int32) hn8) (cwV 1 htg (xg_V0 xkin_Z_value xw_859 xw_861 xsel_Z_value xw_9) rfl rfl rfl (by decide +kernel) ⟨Nat.le_of_ble_eq_true rfl, Nat.le_of_ble_eq_true rfl⟩) ⟨xB_blind, xrecv_Z hK hP, fun U hU hW => xB_mk hP hK hD hE hS (xsubW hD hA hS) hU hW⟩ rfl rfl hl.1 rfl (lv_room (Nat.le_of_ble_eq_true rfl)) xd_Z_due_27 ⟨Nat.le_of_ble_eq_true rfl, Nat.le_of_ble_eq_true rfl⟩) hD hA hS (fun r u1 H locs hw hP hD hS => ?_)
  obtain ⟨q7, hq7⟩ : ∃ q, q = xf_Z_value u (1540 : Int32) := ⟨_, rfl⟩
  obtain ⟨e1, e2⟩ := hw
  rw [← hq7] at e1
  obtain rfl : q7 = r := e1.symm
  obtain rfl : u = u1 := e2.symm
  have hP : va_P D xCl (xWZ k b u) H := hP
  have hD : va_D A (xWZ k b u) := hD
  have hv := xlt_v hq7 hv
  refine lv_iand hx hb xd_Z_due_30 ?_
  refine lv_istore_n (lv' := [(2, .int ((q5 &&& q7))), (1, .int ((q1 &&& q3))), (0, .ref ((b 0)))]) hx hb xd_Z_due_31 rfl hl (by decide) rfl (fun ls hl => ?_)
  refine lv_aload_n hx hb xd_Z_due_32 rfl (lv_at hl 2 rfl) ?_
  refine xget_Z_mode (v := (xg_Z_mode u)) hx hb htg hown hK hP (htg _ xw_731) rfl xd_Z_due_33 ?_
  refine lv_iconst (v := 1) hx hb xd_Z_due_36 (by decide) ?_
  refine lv_icmp_ne (tgt := 51) hx hb xd_Z_due_37 rfl (fun h9 => ?_) (fun h9 => ?_)
  · have hv := xif_v h9 hv
    refine lv_iload_n hx hb xd_Z_due_51 rfl (lv_at hl 0 rfl) ?_
    refine lv_aload_n hx hb xd_Z_due_52 rfl (lv_at hl 2 rfl) ?_
    refine lv_sipush (v := 1539) hx hb xd_Z_due_53 (by decide) ?_
    obtain ⟨hn11, hv⟩ := xan_v hv
    refine xcW_i (va_runV (As := [.int 1539]) (rest := [.int ((q5 &&& q7))]) ⟨hx, hb, hml, hown, htg⟩ (c_Z_value l D z k b H.size u (1539 : Int32) hn11) (cwV 1 htg (xg_V0 xkin_Z_value xw_859 xw_861 xsel_Z_value xw_9) rfl rfl rfl (by decide +kernel) ⟨Nat.le_of_ble_eq_true rfl, Nat.le_of_ble_eq_true rfl⟩) ⟨xB_blind, xrecv_Z hK hP, fun U hU hW => xB_mk hP hK hD hE hS (xsubW hD hA hS) hU hW⟩ rfl rfl hl.1 rfl (lv_room (Nat.le_of_ble_eq_true rfl)) xd_Z_due_56 ⟨Nat.le_of_ble_eq_true rfl, Nat.le_of_ble_eq_true rfl⟩) hD hA hS (fun r u1 H locs hw hP hD hS => ?_)
    obtain ⟨q10, hq10⟩ : ∃ q, q = xf_Z_value u (1539 : Int32) := ⟨_, rfl⟩
    obtain ⟨e1, e2⟩ := hw
    rw [← hq10] at e1
    obtain rfl : q10 = r := e1.symm
    obtain rfl : u = u1 := e2.symm
    have hP : va_P D xCl (xWZ k b u) H := hP
    have hD : va_D A (xWZ k b u) := hD
    have hv := xlt_v hq10 hv
    refine lv_iconst (v := (-1)) hx hb xd_Z_due_59 (by decide) ?_
    refine lv_ixor hx hb xd_Z_due_60 ?_
    refine lv_iand hx hb xd_Z_due_61 ?_
    refine lv_istore_n (lv' := [(3, .int (((q5 &&& q7) &&& (q10 ^^^ (-1 : Int32))))), (2, .int ((q5 &&& q7))), (1, .int ((q1 &&& q3))), (0, .ref ((b 0)))]) hx hb xd_Z_due_62 rfl hl (by decide) rfl (fun ls hl => ?_)
    refine lv_iload_n hx hb xd_Z_due_63 rfl (lv_at hl 2 rfl) ?_
    refine lv_sipush (v := 512) hx hb xd_Z_due_64 (by decide) ?_
    refine lv_iand hx hb xd_Z_due_67 ?_
    have hj19 : ∀ (H : Heap) (locs : List Loc) (ls : Array Slot) (v18 : Int32), v18 = (if ((q1 &&& q3) &&& (512 : Int32)) ≤ 0 then (if ((q1 &&& q3) &&& (2 : Int32)) ≤ 0 then (if ((q1 &&& q3) &&& (32 : Int32)) ≤ 0 then (if (((q5 &&& q7) &&& (q10 ^^^ (-1 : Int32))) &&& (1024 : Int32)) ≤ 0 then (if (((q5 &&& q7) &&& (q10 ^^^ (-1 : Int32))) &&& (4 : Int32)) ≤ 0 then (if (((q5 &&& q7) &&& (q10 ^^^ (-1 : Int32))) &&& (64 : Int32)) ≤ 0 then ((-1)) else (6)) else (2)) else (10)) else (5)) else (1)) else (9)) → lv_has ls 5 [(3, .int (((q5 &&& q7) &&& (q10 ^^^ (-1 : Int32))))), (2, .int ((q5 &&& q7))), (1, .int ((q1 &&& q3))), (0, .ref ((b 0)))] → va_P D xCl (xWZ k b u) H → va_D A (xWZ k b u) → va_S A s.heap H locs → W p l e { frames := 3, cells := 0, slots := 0, locals := 64 } s m args below meth c H locs (0) (0) Q (F0 m 133 ls [.int v18]) := by
      intro H locs ls v18 hv18 hl hP hD hS
      have hv := xlt_v hv18 hv
      refine lv_istore (lv' := [(4, .int v18), (3, .int (((q5 &&& q7) &&& (q10 ^^^ (-1 : Int32))))), (2, .int ((q5 &&& q7))), (1, .int ((q1 &&& q3))), (0, .ref ((b 0)))]) hx hb xd_Z_due_133 hl (by decide) rfl (fun ls hl => ?_)
      refine lv_iload hx hb xd_Z_due_135 (lv_at hl 0 rfl) ?_
      refine lv_if_le (tgt := 143) hx hb xd_Z_due_137 rfl (fun h20 => ?_) (fun h20 => ?_)
      · have hv := xit_v h20 hv
        refine lv_aload_n hx hb xd_Z_due_143 rfl (lv_at hl 4 rfl) ?_
        refine xget_Z_mode (v := (xg_Z_mode u)) hx hb htg hown hK hP (htg _ xw_731) rfl xd_Z_due_144 ?_
        refine lv_iconst (v := 2) hx hb xd_Z_due_147 (by decide) ?_
        obtain ⟨hva, hv⟩ := xan_v2 hv
        have hj31 : ∀ (H : Heap) (locs : List Loc) (ls : Array Slot) (v30 : Int32), v30 = (if (xg_Z_mode u) = 2 then (xlt (xf_Z_value u (1539 : Int32) : Int32) fun q22 => ((q5 &&& q7) &&& q22)) else (if (xg_Z_mode u) = 3 then (xlt (xf_Z_bit u (512 : Int32) (1 : Int32) : Int32) fun q25 => if q25 = 0 then (0) else (xlt (xf_Z_value u (1539 : Int32) : Int32) fun q28 => ((q5 &&& q7) &&& q28))) else (0))) → lv_has ls 5 [(4, .int v18), (3, .int (((q5 &&& q7) &&& (q10 ^^^ (-1 : Int32))))), (2, .int ((q5 &&& q7))), (1, .int ((q1 &&& q3))), (0, .ref ((b 0)))] → va_P D xCl (xWZ k b u) H → va_D A (xWZ k b u) → va_S A s.heap H locs → W p l e { frames := 3, cells := 0, slots := 0, locals := 64 } s m args below meth c H locs (0) (0) Q (F0 m 183 ls [.int v30]) := by
          intro H locs ls v30 hv30 hl hP hD hS
          have hv := xlt_v hv30 hv
          refine lv_istore_n (lv' := [(3, .int v30), (4, .int v18), (2, .int ((q5 &&& q7))), (1, .int ((q1 &&& q3))), (0, .ref ((b 0)))]) hx hb xd_Z_due_183 rfl hl (by decide) rfl (fun ls hl => ?_)
          refine lv_iload_n hx hb xd_Z_due_184 rfl (lv_at hl 0 rfl) ?_
          refine lv_sipush (v := 1024) hx hb xd_Z_due_185 (by decide) ?_
          refine lv_iand hx hb xd_Z_due_188 ?_
          have hj36 : ∀ (H : Heap) (locs : List Loc) (ls : Array Slot) (v35 : Int32), v35 = (if (v30 &&& (1024 : Int32)) ≤ 0 then (if (v30 &&& (4 : Int32)) ≤ 0 then (if (v30 &&& (64 : Int32)) ≤ 0 then ((-1)) else (105)) else (101)) else (109)) → lv_has ls 5 [(3, .int v30), (4, .int v18), (2, .int ((q5 &&& q7))), (1, .int ((q1 &&& q3))), (0, .ref ((b 0)))] → va_P D xCl (xWZ k b u) H → va_D A (xWZ k b u) → va_S A s.heap H locs → W p l e { frames := 3, cells := 0, slots := 0, locals := 64 } s m args below meth c H locs (0) (0) Q (F0 m 221 ls [.int v35]) := by
            intro H locs ls v35 hv35 hl hP hD hS
            have hv := xlt_v hv35 hv
            exact hret _ u H locs ls _ ⟨(by unfold xf_Z_due; exact (xlt_e hq1 (xlt_e hq3 (xlt_e hq5 (xlt_e hq7 (xif h9 (xlt_e hq10 (xlt_e hv18 (xit h20 (xlt_e hv30 (xlt_e hv35 rfl))))))))))), rfl⟩ hP hD hS xd_Z_due_221
          refine lv_if_le (tgt := 197) hx hb xd_Z_due_189 rfl (fun h37 => ?_) (fun h37 => ?_)
          · refine lv_iload_n hx hb xd_Z_due_197 rfl (lv_at hl 0 rfl) ?_
            refine lv_iconst (v := 4) hx hb xd_Z_due_198 (by decide) ?_
            refine lv_iand hx hb xd_Z_due_199 ?_
            refine lv_if_le (tgt := 208) hx hb xd_Z_due_200 rfl (fun h38 => ?_) (fun h38 => ?_)
            · refine lv_iload_n hx hb xd_Z_due_208 rfl (lv_at hl 0 rfl) ?_
              refine lv_bipush (v := 64) hx hb xd_Z_due_209 (by decide) ?_
              refine lv_iand hx hb xd_Z_due_211 ?_
              refine lv_if_le (tgt := 220) hx hb xd_Z_due_212 rfl (fun h39 => ?_) (fun h39 => ?_)
              · refine lv_iconst (v := (-1)) hx hb xd_Z_due_220 (by decide) ?_
                exact hj36 H locs ls (-1 : Int32) (xit h37 (xit h38 (xit h39 rfl))) hl hP hD hS
              · refine lv_bipush (v := 105) hx hb xd_Z_due_215 (by decide) ?_
                refine lv_goto (tgt := 221) hx hb xd_Z_due_217 rfl ?_
                exact hj36 H locs ls (105 : Int32) (xit h37 (xit h38 (xif h39 rfl))) hl hP hD hS
            · refine lv_bipush (v := 101) hx hb xd_Z_due_203 (by decide) ?_
              refine lv_goto (tgt := 221) hx hb xd_Z_due_205 rfl ?_
              exact hj36 H locs ls (101 : Int32) (xit h37 (xif h38 rfl)) hl hP hD hS
          · refine lv_bipush (v := 109) hx hb xd_Z_due_192 (by decide) ?_
            refine lv_goto (tgt := 221) hx hb xd_Z_due_194 rfl ?_
            exact hj36 H locs ls (109 : Int32) (xif h37 rfl) hl hP hD hS
        have hv := hva
        refine lv_icmp_eq (tgt := 170) hx hb xd_Z_due_148 rfl (fun h40 => ?_) (fun h40 => ?_)
        · have hv := xit_v h40 hv
          refine lv_iload_n hx hb xd_Z_due_170 rfl (lv_at hl 2 rfl) ?_
          refine lv_aload_n hx hb xd_Z_due_171 rfl (lv_at hl 4 rfl) ?_
          refine lv_sipush (v := 1539) hx hb xd_Z_due_172 (by decide) ?_
          obtain ⟨hn42, hv⟩ := xan_v hv
          refine xcW_i (va_runV (As := [.int 1539]) (rest := [.int ((q5 &&& q7))]) ⟨hx, hb, hml, hown, htg⟩ (c_Z_value l D z k b H.size u (1539 : Int32) hn42) (cwV 1 htg (xg_V0 xkin_Z_value xw_859 xw_861 xsel_Z_value xw_9) rfl rfl rfl (by decide +kernel) ⟨Nat.le_of_ble_eq_true rfl, Nat.le_of_ble_eq_true rfl⟩) ⟨xB_blind, xrecv_Z hK hP, fun U hU hW => xB_mk hP hK hD hE hS (xsubW hD hA hS) hU hW⟩ rfl rfl hl.1 rfl (lv_room (Nat.le_of_ble_eq_true rfl)) xd_Z_due_175 ⟨Nat.le_of_ble_eq_true rfl, Nat.le_of_ble_eq_true rfl⟩) hD hA hS (fun r u1 H locs hw hP hD hS => ?_)
          obtain ⟨q41, hq41⟩ : ∃ q, q = xf_Z_value u (1539 : Int32) := ⟨_, rfl⟩
          obtain ⟨e1, e2⟩ := hw
          rw [← hq41] at e1
          obtain rfl : q41 = r := e1.symm
          obtain rfl : u = u1 := e2.symm
          have hP : va_P D xCl (xWZ k b u) H := hP
          have hD : va_D A (xWZ k b u) := hD
          have hv := xlt_v hq41 hv
          refine lv_iand hx hb xd_Z_due_178 ?_
          refine lv_goto (tgt := 183) hx hb xd_Z_due_179 rfl ?_
          exact hj31 H locs ls ((q5 &&& q7) &&& q41) (xit h40 (xlt_e hq41 rfl)) hl hP hD hS
        · have hv := xif_v h40 hv
          refine lv_aload_n hx hb xd_Z_due_151 rfl (lv_at hl 4 rfl) ?_
          refine xget_Z_mode (v := (xg_Z_mode u)) hx hb htg hown hK hP (htg _ xw_731) rfl xd_Z_due_152 ?_
          refine lv_iconst (v := 3) hx hb xd_Z_due_155 (by decide) ?_
          refine lv_icmp_ne (tgt := 182) hx hb xd_Z_due_156 rfl (fun h43 => ?_) (fun h43 => ?_)
          · have hv := xif_v h43 hv
            refine lv_iconst (v := 0) hx hb xd_Z_due_182 (by decide) ?_
            exact hj31 H locs ls (0 : Int32) (xif h40 (xif h43 rfl)) hl hP hD hS
          · have hv := xit_v h43 hv
            refine lv_aload_n hx hb xd_Z_due_159 rfl (lv_at hl 4 rfl) ?_
            refine lv_sipush (v := 512) hx hb xd_Z_due_160 (by decide) ?_
            refine lv_iconst (v := 1) hx hb xd_Z_due_163 (by decide) ?_
            obtain ⟨hn45, hv⟩ := xan_v hv
            refine xcW_i (va_runV (As := [.int 512, .int 1]) (rest := []) ⟨hx, hb, hml, hown, htg⟩ (c_Z_bit l D z k b H.size u (512 : Int32) (1 : Int32) hn45) (cwV 2 htg (xg_V0 xkin_Z_bit xw_867 xw_869 xsel_Z_bit xw_9) rfl rfl rfl (by decide +kernel) ⟨Nat.le_of_ble_eq_true rfl, Nat.le_of_ble_eq_true rfl⟩) ⟨xB_blind, xrecv_Z hK hP, fun U hU hW => xB_mk hP hK hD hE hS (xsubW hD hA hS) hU hW⟩ rfl rfl hl.1 rfl (lv_room (Nat.le_of_ble_eq_true rfl)) xd_Z_due_164 ⟨Nat.le_of_ble_eq_true rfl, Nat.le_of_ble_eq_true rfl⟩) hD hA hS (fun r u1 H locs hw hP hD hS => ?_)
            obtain ⟨q44, hq44⟩ : ∃ q, q = xf_Z_bit u (512 : Int32) (1 : Int32) := ⟨_, rfl⟩
            obtain ⟨e1, e2⟩ := hw
            rw [← hq44] at e1
            obtain rfl : q44 = r := e1.symm
            obtain rfl : u = u1 := e2.symm
            have hP : va_P D xCl (xWZ k b u) H := hP
            have hD : va_D A (xWZ k b u) := hD
            have hv := xlt_v hq44 hv
            refine lv_if_eq (tgt := 182) hx hb xd_Z_due_167 rfl (fun h46 => ?_) (fun h46 => ?_)
            · have hv := xit_v h46 hv
              refine lv_iconst (v := 0) hx hb xd_Z_due_182 (by decide) ?_
              exact hj31 H locs ls (0 : Int32) (xif h40 (xit h43 (xlt_e hq44 (xit h46 rfl)))) hl hP hD hS
            · have hv := xif_v h46 hv
              refine lv_iload_n hx hb xd_Z_due_170 rfl (lv_at hl 2 rfl) ?_
              refine lv_aload_n hx hb xd_Z_due_171 rfl (lv_at hl 4 rfl) ?_
              refine lv_sipush (v := 1539) hx hb xd_Z_due_172 (by decide) ?_
              obtain ⟨hn48, hv⟩ := xan_v hv
              refine xcW_i (va_runV (As := [.int 1539]) (rest := [.int ((q5 &&& q7))]) ⟨hx, hb, hml, hown, htg⟩ (c_Z_value l D z k b H.size u (1539 : Int32) hn48) (cwV 1 htg (xg_V0 xkin_Z_value xw_859 xw_861 xsel_Z_value xw_9) rfl rfl rfl (by decide +kernel) ⟨Nat.le_of_ble_eq_true rfl, Nat.le_of_ble_eq_true rfl⟩) ⟨xB_blind, xrecv_Z hK hP, fun U hU hW => xB_mk hP hK hD hE hS (xsubW hD hA hS) hU hW⟩ rfl rfl hl.1 rfl (lv_room (Nat.le_of_ble_eq_true rfl)) xd_Z_due_175 ⟨Nat.le_of_ble_eq_true rfl, Nat.le_of_ble_eq_true rfl⟩) hD hA hS (fun r u1 H locs hw hP hD hS => ?_)
              obtain ⟨q47, hq47⟩ : ∃ q, q = xf_Z_value u (1539 : Int32) := ⟨_, rfl⟩
              obtain ⟨e1, e2⟩ := hw
              rw [← hq47] at e1
              obtain rfl : q47 = r := e1.symm
              obtain rfl : u = u1 := e2.symm
              have hP : va_P D xCl (xWZ k b u) H := hP
              have hD : va_D A (xWZ k b u) := hD
              have hv := xlt_v hq47 hv
              refine lv_iand hx hb xd_Z_due_178 ?_
              refine lv_goto (tgt := 183) hx hb xd_Z_due_179 rfl ?_
              exact hj31 H locs ls ((q5 &&& q7) &&& q47) (xif h40 (xit h43 (xlt_e hq44 (xif h46 (xlt_e hq47 rfl))))) hl hP hD hS
      · have hv := xif_v h20 hv
        refine lv_iload hx hb xd_Z_due_140 (lv_at hl 0 rfl) ?_
        exact hret _ u H locs ls _ ⟨(by unfold xf_Z_due; exact (xlt_e hq1 (xlt_e hq3 (xlt_e hq5 (xlt_e hq7 (xif h9 (xlt_e hq10 (xlt_e hv18 (xif h20 rfl))))))))), rfl⟩ hP hD hS xd_Z_due_142
    refine lv_if_le (tgt := 76) hx hb xd_Z_due_68 rfl (fun h49 => ?_) (fun h49 => ?_)
    · refine lv_iload_n hx hb xd_Z_due_76 rfl (lv_at hl 2 rfl) ?_
      refine lv_iconst (v := 2) hx hb xd_Z_due_77 (by decide) ?_
      refine lv_iand hx hb xd_Z_due_78 ?_
      refine lv_if_le (tgt := 86) hx hb xd_Z_due_79 rfl (fun h50 => ?_) (fun h50 => ?_)
      · refine lv_iload_n hx hb xd_Z_due_86 rfl (lv_at hl 2 rfl) ?_
        refine lv_bipush (v := 32) hx hb xd_Z_due_87 (by decide) ?_
        refine lv_iand hx hb xd_Z_due_89 ?_
        refine lv_if_le (tgt := 97) hx hb xd_Z_due_90 rfl (fun h51 => ?_) (fun h51 => ?_)
        · refine lv_iload_n hx hb xd_Z_due_97 rfl (lv_at hl 0 rfl) ?_
          refine lv_sipush (v := 1024) hx hb xd_Z_due_98 (by decide) ?_
          refine lv_iand hx hb xd_Z_due_101 ?_
          refine lv_if_le (tgt := 110) hx hb xd_Z_due_102 rfl (fun h52 => ?_) (fun h52 => ?_)
          · refine lv_iload_n hx hb xd_Z_due_110 rfl (lv_at hl 0 rfl) ?_
            refine lv_iconst (v := 4) hx hb xd_Z_due_111 (by decide) ?_
            refine lv_iand hx hb xd_Z_due_112 ?_
            refine lv_if_le (tgt := 120) hx hb xd_Z_due_113 rfl (fun h53 => ?_) (fun h53 => ?_)
            · refine lv_iload_n hx hb xd_Z_due_120 rfl (lv_at hl 0 rfl) ?_
              refine lv_bipush (v := 64) hx hb xd_Z_due_121 (by decide) ?_
              refine lv_iand hx hb xd_Z_due_123 ?_
              refine lv_if_le (tgt := 132) hx hb xd_Z_due_124 rfl (fun h54 => ?_) (fun h54 => ?_)
              · refine lv_iconst (v := (-1)) hx hb xd_Z_due_132 (by decide) ?_
                exact hj19 H locs ls (-1 : Int32) (xit h49 (xit h50 (xit h51 (xit h52 (xit h53 (xit h54 rfl)))))) hl hP hD hS
              · refine lv_bipush (v := 6) hx hb xd_Z_due_127 (by decide) ?_
                refine lv_goto (tgt := 133) hx hb xd_Z_due_129 rfl ?_
                exact hj19 H locs ls (6 : Int32) (xit h49 (xit h50 (xit h51 (xit h52 (xit h53 (xif h54 rfl)))))) hl hP hD hS
            · refine lv_iconst (v := 2) hx hb xd_Z_due_116 (by decide) ?_
              refine lv_goto (tgt := 133) hx hb xd_Z_due_117 rfl ?_
              exact hj19 H locs ls (2 : Int32) (xit h49 (xit h50 (xit h51 (xit h52 (xif h53 rfl))))) hl hP hD hS
          · refine lv_bipush (v := 10) hx hb xd_Z_due_105 (by decide) ?_
            refine lv_goto (tgt := 133) hx hb xd_Z_due_107 rfl ?_
            exact hj19 H locs ls (10 : Int32) (xit h49 (xit h50 (xit h51 (xif h52 rfl)))) hl hP hD hS
        · refine lv_iconst (v := 5) hx hb xd_Z_due_93 (by decide) ?_
          refine lv_goto (tgt := 133) hx hb xd_Z_due_94 rfl ?_
          exact hj19 H locs ls (5 : Int32) (xit h49 (xit h50 (xif h51 rfl))) hl hP hD hS
      · refine lv_iconst (v := 1) hx hb xd_Z_due_82 (by decide) ?_
        refine lv_goto (tgt := 133) hx hb xd_Z_due_83 rfl ?_
        exact hj19 H locs ls (1 : Int32) (xit h49 (xif h50 rfl)) hl hP hD hS
    · refine lv_bipush (v := 9) hx hb xd_Z_due_71 (by decide) ?_
      refine lv_goto (tgt := 133) hx hb xd_Z_due_73 rfl ?_
      exact hj19 H locs ls (9 : Int32) (xif h49 rfl) hl hP hD hS
  · have hv := xit_v h9 hv
    refine lv_aload_n hx hb xd_Z_due_40 rfl (lv_at hl 2 rfl) ?_
    refine lv_sipush (v := 256) hx hb xd_Z_due_41 (by decide) ?_
    refine lv_iconst (v := 1) hx hb xd_Z_due_44 (by decide) ?_
    obtain ⟨hn56, hv⟩ := xan_v hv
    refine xcW_i (va_runV (As := [.int 256, .int 1]) (rest := []) ⟨hx, hb, hml, hown, htg⟩ (c_Z_bit l D z k b H.size u (256 : Int32) (1 : Int32) hn56) (cwV 2 htg (xg_V0 xkin_Z_bit xw_867 xw_869 xsel_Z_bit xw_9) rfl rfl rfl (by decide +kernel) ⟨Nat.le_of_ble_eq_true rfl, Nat.le_of_ble_eq_true rfl⟩) ⟨xB_blind, xrecv_Z hK hP, fun U hU hW => xB_mk hP hK hD hE hS (xsubW hD hA hS) hU hW⟩ rfl rfl hl.1 rfl (lv_room (Nat.le_of_ble_eq_true rfl)) xd_Z_due_45 ⟨Nat.le_of_ble_eq_true rfl, Nat.le_of_ble_eq_true rfl⟩) hD hA hS (fun r u1 H locs hw hP hD hS => ?_)
    obtain ⟨q55, hq55⟩ : ∃ q, q = xf_Z_bit u (256 : Int32) (1 : Int32) := ⟨_, rfl⟩
    obtain ⟨e1, e2⟩ := hw
    rw [← hq55] at e1
    obtain rfl : q55 = r := e1.symm
    obtain rfl : u = u1 := e2.symm
    have hP : va_P D xCl (xWZ k b u) H := hP
    have hD : va_D A (xWZ k b u) := hD
    have hv := xlt_v hq55 hv
    refine lv_if_eq (tgt := 143) hx hb xd_Z_due_48 rfl (fun h57 => ?_) (fun h57 => ?_)
    · have hv := xit_v h57 hv
      refine lv_aload_n hx hb xd_Z_due_143 rfl (lv_at hl 2 rfl) ?_
      refine xget_Z_mode (v := (xg_Z_mode u)) hx hb htg hown hK hP (htg _ xw_731) rfl xd_Z_due_144 ?_
      refine lv_iconst (v := 2) hx hb xd_Z_due_147 (by decide) ?_
      obtain ⟨hva, hv⟩ := xan_v2 hv
      have hj68 : ∀ (H : Heap) (locs : List Loc) (ls : Array Slot) (v67 : Int32), v67 = (if (xg_Z_mode u) = 2 then (xlt (xf_Z_value u (1539 : Int32) : Int32) fun q59 => ((q5 &&& q7) &&& q59)) else (if (xg_Z_mode u) = 3 then (xlt (xf_Z_bit u (512 : Int32) (1 : Int32) : Int32) fun q62 => if q62 = 0 then (0) else (xlt (xf_Z_value u (1539 : Int32) : Int32) fun q65 => ((q5 &&& q7) &&& q65))) else (0))) → lv_has ls 5 [(2, .int ((q5 &&& q7))), (1, .int ((q1 &&& q3))), (0, .ref ((b 0)))] → va_P D xCl (xWZ k b u) H → va_D A (xWZ k b u) → va_S A s.heap H locs → W p l e { frames := 3, cells := 0, slots := 0, locals := 64 } s m args below meth c H locs (0) (0) Q (F0 m 183 ls [.int v67]) := by
        intro H locs ls v67 hv67 hl hP hD hS
        have hv := xlt_v hv67 hv
        refine lv_istore_n (lv' := [(3, .int v67), (2, .int ((q5 &&& q7))), (1, .int ((q1 &&& q3))), (0, .ref ((b 0)))]) hx hb xd_Z_due_183 rfl hl (by decide) rfl (fun ls hl => ?_)
        refine lv_iload_n hx hb xd_Z_due_184 rfl (lv_at hl 0 rfl) ?_
        refine lv_sipush (v := 1024) hx hb xd_Z_due_185 (by decide) ?_
        refine lv_iand hx hb xd_Z_due_188 ?_
        have hj73 : ∀ (H : Heap) (locs : List Loc) (ls : Array Slot) (v72 : Int32), v72 = (if (v67 &&& (1024 : Int32)) ≤ 0 then (if (v67 &&& (4 : Int32)) ≤ 0 then (if (v67 &&& (64 : Int32)) ≤ 0 then ((-1)) else (105)) else (101)) else (109)) → lv_has ls 5 [(3, .int v67), (2, .int ((q5 &&& q7))), (1, .int ((q1 &&& q3))), (0, .ref ((b 0)))] → va_P D xCl (xWZ k b u) H → va_D A (xWZ k b u) → va_S A s.heap H locs → W p l e { frames := 3, cells := 0, slots := 0, locals := 64 } s m args below meth c H locs (0) (0) Q (F0 m 221 ls [.int v72]) := by
          intro H locs ls v72 hv72 hl hP hD hS
          have hv := xlt_v hv72 hv
          exact hret _ u H locs ls _ ⟨(by unfold xf_Z_due; exact (xlt_e hq1 (xlt_e hq3 (xlt_e hq5 (xlt_e hq7 (xit h9 (xlt_e hq55 (xit h57 (xlt_e hv67 (xlt_e hv72 rfl)))))))))), rfl⟩ hP hD hS xd_Z_due_221
        refine lv_if_le (tgt := 197) hx hb xd_Z_due_189 rfl (fun h74 => ?_) (fun h74 => ?_)
        · refine lv_iload_n hx hb xd_Z_due_197 rfl (lv_at hl 0 rfl) ?_
          refine lv_iconst (v := 4) hx hb xd_Z_due_198 (by decide) ?_
          refine lv_iand hx hb xd_Z_due_199 ?_
          refine lv_if_le (tgt := 208) hx hb xd_Z_due_200 rfl (fun h75 => ?_) (fun h75 => ?_)
          · refine lv_iload_n hx hb xd_Z_due_208 rfl (lv_at hl 0 rfl) ?_
            refine lv_bipush (v := 64) hx hb xd_Z_due_209 (by decide) ?_
            refine lv_iand hx hb xd_Z_due_211 ?_
            refine lv_if_le (tgt := 220) hx hb xd_Z_due_212 rfl (fun h76 => ?_) (fun h76 => ?_)
            · refine lv_iconst (v := (-1)) hx hb xd_Z_due_220 (by decide) ?_
              exact hj73 H locs ls (-1 : Int32) (xit h74 (xit h75 (xit h76 rfl))) hl hP hD hS
            · refine lv_bipush (v := 105) hx hb xd_Z_due_215 (by decide) ?_
              refine lv_goto (tgt := 221) hx hb xd_Z_due_217 rfl ?_
              exact hj73 H locs ls (105 : Int32) (xit h74 (xit h75 (xif h76 rfl))) hl hP hD hS
          · refine lv_bipush (v := 101) hx hb xd_Z_due_203 (by decide) ?_
            refine lv_goto (tgt := 221) hx hb xd_Z_due_205 rfl ?_
            exact hj73 H locs ls (101 : Int32) (xit h74 (xif h75 rfl)) hl hP hD hS
        · refine lv_bipush (v := 109) hx hb xd_Z_due_192 (by decide) ?_
          refine lv_goto (tgt := 221) hx hb xd_Z_due_194 rfl ?_
          exact hj73 H locs ls (109 : Int32) (xif h74 rfl) hl hP hD hS
      have hv := hva
      refine lv_icmp_eq (tgt := 170) hx hb xd_Z_due_148 rfl (fun h77 => ?_) (fun h77 => ?_)
      · have hv := xit_v h77 hv
        refine lv_iload_n hx hb xd_Z_due_170 rfl (lv_at hl 0 rfl) ?_
        refine lv_aload_n hx hb xd_Z_due_171 rfl (lv_at hl 2 rfl) ?_
        refine lv_sipush (v := 1539) hx hb xd_Z_due_172 (by decide) ?_
        obtain ⟨hn79, hv⟩ := xan_v hv
        refine xcW_i (va_runV (As := [.int 1539]) (rest := [.int ((q5 &&& q7))]) ⟨hx, hb, hml, hown, htg⟩ (c_Z_value l D z k b H.size u (1539 : Int32) hn79) (cwV 1 htg (xg_V0 xkin_Z_value xw_859 xw_861 xsel_Z_value xw_9) rfl rfl rfl (by decide +kernel) ⟨Nat.le_of_ble_eq_true rfl, Nat.le_of_ble_eq_true rfl⟩) ⟨xB_blind, xrecv_Z hK hP, fun U hU hW => xB_mk hP hK hD hE hS (xsubW hD hA hS) hU hW⟩ rfl rfl hl.1 rfl (lv_room (Nat.le_of_ble_eq_true rfl)) xd_Z_due_175 ⟨Nat.le_of_ble_eq_true rfl, Nat.le_of_ble_eq_true rfl⟩) hD hA hS (fun r u1 H locs hw hP hD hS => ?_)
        obtain ⟨q78, hq78⟩ : ∃ q, q = xf_Z_value u (1539 : Int32) := ⟨_, rfl⟩
        obtain ⟨e1, e2⟩ := hw
        rw [← hq78] at e1
        obtain rfl : q78 = r := e1.symm
        obtain rfl : u = u1 := e2.symm
        have hP : va_P D xCl (xWZ k b u) H := hP
        have hD : va_D A (xWZ k b u) := hD
        have hv := xlt_v hq78 hv
        refine lv_iand hx hb xd_Z_due_178 ?_
        refine lv_goto (tgt := 183) hx hb xd_Z_due_179 rfl ?_
        exact hj68 H locs ls ((q5 &&& q7) &&& q78) (xit h77 (xlt_e hq78 rfl)) hl hP hD hS
      · have hv := xif_v h77 hv
        refine lv_aload_n hx hb xd_Z_due_151 rfl (lv_at hl 2 rfl) ?_
        refine xget_Z_mode (v := (xg_Z_mode u)) hx hb htg hown hK hP (htg _ xw_731) rfl xd_Z_due_152 ?_
        refine lv_iconst (v := 3) hx hb xd_Z_due_155 (by decide) ?_
        refine lv_icmp_ne (tgt := 182) hx hb xd_Z_due_156 rfl (fun h80 => ?_) (fun h80 => ?_)
        · have hv := xif_v h80 hv
          refine lv_iconst (v := 0) hx hb xd_Z_due_182 (by decide) ?_
          exact hj68 H locs ls (0 : Int32) (xif h77 (xif h80 rfl)) hl hP hD hS
        · have hv := xit_v h80 hv
          refine lv_aload_n hx hb xd_Z_due_159 rfl (lv_at hl 2 rfl) ?_
          refine lv_sipush (v := 512) hx hb xd_Z_due_160 (by decide) ?_
          refine lv_iconst (v := 1) hx hb xd_Z_due_163 (by decide) ?_
          obtain ⟨hn82, hv⟩ := xan_v hv
          refine xcW_i (va_runV (As := [.int 512, .int 1]) (rest := []) ⟨hx, hb, hml, hown, htg⟩ (c_Z_bit l D z k b H.size u (512 : Int32) (1 : Int32) hn82) (cwV 2 htg (xg_V0 xkin_Z_bit xw_867 xw_869 xsel_Z_bit xw_9) rfl rfl rfl (by decide +kernel) ⟨Nat.le_of_ble_eq_true rfl, Nat.le_of_ble_eq_true rfl⟩) ⟨xB_blind, xrecv_Z hK hP, fun U hU hW => xB_mk hP hK hD hE hS (xsubW hD hA hS) hU hW⟩ rfl rfl hl.1 rfl (lv_room (Nat.le_of_ble_eq_true rfl)) xd_Z_due_164 ⟨Nat.le_of_ble_eq_true rfl, Nat.le_of_ble_eq_true rfl⟩) hD hA hS (fun r u1 H locs hw hP hD hS => ?_)
          obtain ⟨q81, hq81⟩ : ∃ q, q = xf_Z_bit u (512 : Int32) (1 : Int32) := ⟨_, rfl⟩
          obtain ⟨e1, e2⟩ := hw
          rw [← hq81] at e1
          obtain rfl : q81 = r := e1.symm
          obtain rfl : u = u1 := e2.symm
          have hP : va_P D xCl (xWZ k b u) H := hP
          have hD : va_D A (xWZ k b u) := hD
          have hv := xlt_v hq81 hv
          refine lv_if_eq (tgt := 182) hx hb xd_Z_due_167 rfl (fun h83 => ?_) (fun h83 => ?_)
          · have hv := xit_v h83 hv
            refine lv_iconst (v := 0) hx hb xd_Z_due_182 (by decide) ?_
            exact hj68 H locs ls (0 : Int32) (xif h77 (xit h80 (xlt_e hq81 (xit h83 rfl)))) hl hP hD hS
          · have hv := xif_v h83 hv
            refine lv_iload_n hx hb xd_Z_due_170 rfl (lv_at hl 0 rfl) ?_
            refine lv_aload_n hx hb xd_Z_due_171 rfl (lv_at hl 2 rfl) ?_
            refine lv_sipush (v := 1539) hx hb xd_Z_due_172 (by decide) ?_
            obtain ⟨hn85, hv⟩ := xan_v hv
            refine xcW_i (va_runV (As := [.int 1539]) (rest := [.int ((q5 &&& q7))]) ⟨hx, hb, hml, hown, htg⟩ (c_Z_value l D z k b H.size u (1539 : Int32) hn85) (cwV 1 htg (xg_V0 xkin_Z_value xw_859 xw_861 xsel_Z_value xw_9) rfl rfl rfl (by decide +kernel) ⟨Nat.le_of_ble_eq_true rfl, Nat.le_of_ble_eq_true rfl⟩) ⟨xB_blind, xrecv_Z hK hP, fun U hU hW => xB_mk hP hK hD hE hS (xsubW hD hA hS) hU hW⟩ rfl rfl hl.1 rfl (lv_room (Nat.le_of_ble_eq_true rfl)) xd_Z_due_175 ⟨Nat.le_of_ble_eq_true rfl, Nat.le_of_ble_eq_true rfl⟩) hD hA hS (fun r u1 H locs hw hP hD hS => ?_)
            obtain ⟨q84, hq84⟩ : ∃ q, q = xf_Z_value u (1539 : Int32) := ⟨_, rfl⟩
            obtain ⟨e1, e2⟩ := hw
            rw [← hq84] at e1
            obtain rfl : q84 = r := e1.symm
            obtain rfl : u = u1 := e2.symm
            have hP : va_P D xCl (xWZ k b u) H := hP
            have hD : va_D A (xWZ k b u) := hD
            have hv := xlt_v hq84 hv
            refine lv_iand hx hb xd_Z_due_178 ?_
            refine lv_goto (tgt := 183) hx hb xd_Z_due_179 rfl ?_
            exact hj68 H locs ls ((q5 &&& q7) &&& q84) (xif h77 (xit h80 (xlt_e hq81 (xif h83 (xlt_e hq84 rfl))))) hl hP hD hS
    · have hv := xif_v h57 hv
      refine lv_iload_n hx hb xd_Z_due_51 rfl (lv_at hl 0 rfl) ?_
      refine lv_aload_n hx hb xd_Z_due_52 rfl (lv_at hl 2 rfl) ?_
      refine lv_sipush (v := 1539) hx hb xd_Z_due_53 (by decide) ?_
      obtain ⟨hn87, hv⟩ := xan_v hv
      refine xcW_i (va_runV (As := [.int 1539]) (rest := [.int ((q5 &&& q7))]) ⟨hx, hb, hml, hown, htg⟩ (c_Z_value l D z k b H.size u (1539 : Int32) hn87) (cwV 1 htg (xg_V0 xkin_Z_value xw_859 xw_861 xsel_Z_value xw_9) rfl rfl rfl (by decide +kernel) ⟨Nat.le_of_ble_eq_true rfl, Nat.le_of_ble_eq_true rfl⟩) ⟨xB_blind, xrecv_Z hK hP, fun U hU hW => xB_mk hP hK hD hE hS (xsubW hD hA hS) hU hW⟩ rfl rfl hl.1 rfl (lv_room (Nat.le_of_ble_eq_true rfl)) xd_Z_due_56 ⟨Nat.le_of_ble_eq_true rfl, Nat.le_of_ble_eq_true rfl⟩) hD hA hS (fun r u1 H locs hw hP hD hS => ?_)
      obtain ⟨q86, hq86⟩ : ∃ q, q = xf_Z_value u (1539 : Int32) := ⟨_, rfl⟩
      obtain ⟨e1, e2⟩ := hw
      rw [← hq86] at e1
      obtain rfl : q86 = r := e1.symm
      obtain rfl : u = u1 := e2.symm
      have hP : va_P D xCl (xWZ k b u) H := hP
      have hD : va_D A (xWZ k b u) := hD
      have hv := xlt_v hq86 hv
      refine lv_iconst (v := (-1)) hx hb xd_Z_due_59 (by decide) ?_
      refine lv_ixor hx hb xd_Z_due_60 ?_
      refine lv_iand hx hb xd_Z_due_61 ?_
      refine lv_istore_n (lv' := [(3, .int (((q5 &&& q7) &&& (q86 ^^^ (-1 : Int32))))), (2, .int ((q5 &&& q7))), (1, .int ((q1 &&& q3))), (0, .ref ((b 0)))]) hx hb xd_Z_due_62 rfl hl (by decide) rfl (fun ls hl => ?_)
      refine lv_iload_n hx hb xd_Z_due_63 rfl (lv_at hl 2 rfl) ?_
      refine lv_sipush (v := 512) hx hb xd_Z_due_64 (by decide) ?_
      refine lv_iand hx hb xd_Z_due_67 ?_
      have hj95 : ∀ (H : Heap) (locs : List Loc) (ls : Array Slot) (v94 : Int32), v94 = (if ((q1 &&& q3) &&& (512 : Int32)) ≤ 0 then (if ((q1 &&& q3) &&& (2 : Int32)) ≤ 0 then (if ((q1 &&& q3) &&& (32 : Int32)) ≤ 0 then (if (((q5 &&& q7) &&& (q86 ^^^ (-1 : Int32))) &&& (1024 : Int32)) ≤ 0 then (if (((q5 &&& q7) &&& (q86 ^^^ (-1 : Int32))) &&& (4 : Int32)) ≤ 0 then (if (((q5 &&& q7) &&& (q86 ^^^ (-1 : Int32))) &&& (64 : Int32)) ≤ 0 then ((-1)) else (6)) else (2)) else (10)) else (5)) else (1)) else (9)) → lv_has ls 5 [(3, .int (((q5 &&& q7) &&& (q86 ^^^ (-1 : Int32))))), (2, .int ((q5 &&& q7))), (1, .int ((q1 &&& q3))), (0, .ref ((b 0)))] → va_P D xCl (xWZ k b u) H → va_D A (xWZ k b u) → va_S A s.heap H locs → W p l e { frames := 3, cells := 0, slots := 0, locals := 64 } s m args below meth c H locs (0) (0) Q (F0 m 133 ls [.int v94]) := by
        intro H locs ls v94 hv94 hl hP hD hS
        have hv := xlt_v hv94 hv
        refine lv_istore (lv' := [(4, .int v94), (3, .int (((q5 &&& q7) &&& (q86 ^^^ (-1 : Int32))))), (2, .int ((q5 &&& q7))), (1, .int ((q1 &&& q3))), (0, .ref ((b 0)))]) hx hb xd_Z_due_133 hl (by decide) rfl (fun ls hl => ?_)
        refine lv_iload hx hb xd_Z_due_135 (lv_at hl 0 rfl) ?_
        refine lv_if_le (tgt := 143) hx hb xd_Z_due_137 rfl (fun h96 => ?_) (fun h96 => ?_)
        · have hv := xit_v h96 hv
          refine lv_aload_n hx hb xd_Z_due_143 rfl (lv_at hl 4 rfl) ?_
          refine xget_Z_mode (v := (xg_Z_mode u)) hx hb htg hown hK hP (htg _ xw_731) rfl xd_Z_due_144 ?_
          refine lv_iconst (v := 2) hx hb xd_Z_due_147 (by decide) ?_
          obtain ⟨hva, hv⟩ := xan_v2 hv
          have hj107 : ∀ (H : Heap) (locs : List Loc) (ls : Array Slot) (v106 : Int32), v106 = (if (xg_Z_mode u) = 2 then (xlt (xf_Z_value u (1539 : Int32) : Int32) fun q98 => ((q5 &&& q7) &&& q98)) else (if (xg_Z_mode u) = 3 then (xlt (xf_Z_bit u (512 : Int32) (1 : Int32) : Int32) fun q101 => if q101 = 0 then (0) else (xlt (xf_Z_value u (1539 : Int32) : Int32) fun q104 => ((q5 &&& q7) &&& q104))) else (0))) → lv_has ls 5 [(4, .int v94), (3, .int (((q5 &&& q7) &&& (q86 ^^^ (-1 : Int32))))), (2, .int ((q5 &&& q7))), (1, .int ((q1 &&& q3))), (0, .ref ((b 0)))] → va_P D xCl (xWZ k b u) H → va_D A (xWZ k b u) → va_S A s.heap H locs → W p l e { frames := 3, cells := 0, slots := 0, locals := 64 } s m args below meth c H locs (0) (0) Q (F0 m 183 ls [.int v106]) := by
            intro H locs ls v106 hv106 hl hP hD hS
            have hv := xlt_v hv106 hv
            refine lv_istore_n (lv' := [(3, .int v106), (4, .int v94), (2, .int ((q5 &&& q7))), (1, .int ((q1 &&& q3))), (0, .ref ((b 0)))]) hx hb xd_Z_due_183 rfl hl (by decide) rfl (fun ls hl => ?_)
            refine lv_iload_n hx hb xd_Z_due_184 rfl (lv_at hl 0 rfl) ?_
            refine lv_sipush (v := 1024) hx hb xd_Z_due_185 (by decide) ?_
            refine lv_iand hx hb xd_Z_due_188 ?_
            have hj112 : ∀ (H : Heap) (locs : List Loc) (ls : Array Slot) (v111 : Int32), v111 = (if (v106 &&& (1024 : Int32)) ≤ 0 then (if (v106 &&& (4 : Int32)) ≤ 0 then (if (v106 &&& (64 : Int32)) ≤ 0 then ((-1)) else (105)) else (101)) else (109)) → lv_has ls 5 [(3, .int v106), (4, .int v94), (2, .int ((q5 &&& q7))), (1, .int ((q1 &&& q3))), (0, .ref ((b 0)))] → va_P D xCl (xWZ k b u) H → va_D A (xWZ k b u) → va_S A s.heap H locs → W p l e { frames := 3, cells := 0, slots := 0, locals := 64 } s m args below meth c H locs (0) (0) Q (F0 m 221 ls [.int v111]) := by
              intro H locs ls v111 hv111 hl hP hD hS
              have hv := xlt_v hv111 hv
              exact hret _ u H locs ls _ ⟨(by unfold xf_Z_due; exact (xlt_e hq1 (xlt_e hq3 (xlt_e hq5 (xlt_e hq7 (xit h9 (xlt_e hq55 (xif h57 (xlt_e hq86 (xlt_e hv94 (xit h96 (xlt_e hv106 (xlt_e hv111 rfl))))))))))))), rfl⟩ hP hD hS xd_Z_due_221
            refine lv_if_le (tgt := 197) hx hb xd_Z_due_189 rfl (fun h113 => ?_) (fun h113 => ?_)
            · refine lv_iload_n hx hb xd_Z_due_197 rfl (lv_at hl 0 rfl) ?_
              refine lv_iconst (v := 4) hx hb xd_Z_due_198 (by decide) ?_
              refine lv_iand hx hb xd_Z_due_199 ?_
              refine lv_if_le (tgt := 208) hx hb xd_Z_due_200 rfl (fun h114 => ?_) (fun h114 => ?_)
              · refine lv_iload_n hx hb xd_Z_due_208 rfl (lv_at hl 0 rfl) ?_
                refine lv_bipush (v := 64) hx hb xd_Z_due_209 (by decide) ?_
                refine lv_iand hx hb xd_Z_due_211 ?_
                refine lv_if_le (tgt := 220) hx hb xd_Z_due_212 rfl (fun h115 => ?_) (fun h115 => ?_)
                · refine lv_iconst (v := (-1)) hx hb xd_Z_due_220 (by decide) ?_
                  exact hj112 H locs ls (-1 : Int32) (xit h113 (xit h114 (xit h115 rfl))) hl hP hD hS
                · refine lv_bipush (v := 105) hx hb xd_Z_due_215 (by decide) ?_
                  refine lv_goto (tgt := 221) hx hb xd_Z_due_217 rfl ?_
                  exact hj112 H locs ls (105 : Int32) (xit h113 (xit h114 (xif h115 rfl))) hl hP hD hS
              · refine lv_bipush (v := 101) hx hb xd_Z_due_203 (by decide) ?_
                refine lv_goto (tgt := 221) hx hb xd_Z_due_205 rfl ?_
                exact hj112 H locs ls (101 : Int32) (xit h113 (xif h114 rfl)) hl hP hD hS
            · refine lv_bipush (v := 109) hx hb xd_Z_due_192 (by decide) ?_
              refine lv_goto (tgt := 221) hx hb xd_Z_due_194 rfl ?_
              exact hj112 H locs ls (109 : Int32) (xif h113 rfl) hl hP hD hS
          have hv := hva
          refine lv_icmp_eq (tgt := 170) hx hb xd_Z_due_148 rfl (fun h116 => ?_) (fun h116 => ?_)
          · have hv := xit_v h116 hv
            refine lv_iload_n hx hb xd_Z_due_170 rfl (lv_at hl 2 rfl) ?_
            refine lv_aload_n hx hb xd_Z_due_171 rfl (lv_at hl 4 rfl) ?_
            refine lv_sipush (v := 1539) hx hb xd_Z_due_172 (by decide) ?_
            obtain ⟨hn118, hv⟩ := xan_v hv
            refine xcW_i (va_runV (As := [.int 1539]) (rest := [.int ((q5 &&& q7))]) ⟨hx, hb, hml, hown, htg⟩ (c_Z_value l D z k b H.size u (1539 : Int32) hn118) (cwV 1 htg (xg_V0 xkin_Z_value xw_859 xw_861 xsel_Z_value xw_9) rfl rfl rfl (by decide +kernel) ⟨Nat.le_of_ble_eq_true rfl, Nat.le_of_ble_eq_true rfl⟩) ⟨xB_blind, xrecv_Z hK hP, fun U hU hW => xB_mk hP hK hD hE hS (xsubW hD hA hS) hU hW⟩ rfl rfl hl.1 rfl (lv_room (Nat.le_of_ble_eq_true rfl)) xd_Z_due_175 ⟨Nat.le_of_ble_eq_true rfl, Nat.le_of_ble_eq_true rfl⟩) hD hA hS (fun r u1 H locs hw hP hD hS => ?_)
            obtain ⟨q117, hq117⟩ : ∃ q, q = xf_Z_value u (1539 : Int32) := ⟨_, rfl⟩
            obtain ⟨e1, e2⟩ := hw
            rw [← hq117] at e1
            obtain rfl : q117 = r := e1.symm
            obtain rfl : u = u1 := e2.symm
            have hP : va_P D xCl (xWZ k b u) H := hP
            have hD : va_D A (xWZ k b u) := hD
            have hv := xlt_v hq117 hv
            refine lv_iand hx hb xd_Z_due_178 ?_
            refine lv_goto (tgt := 183) hx hb xd_Z_due_179 rfl ?_
            exact hj107 H locs ls ((q5 &&& q7) &&& q117) (xit h116 (xlt_e hq117 rfl)) hl hP hD hS
          · have hv := xif_v h116 hv
            refine lv_aload_n hx hb xd_Z_due_151 rfl (lv_at hl 4 rfl) ?_
            refine xget_Z_mode (v := (xg_Z_mode u)) hx hb htg hown hK hP (htg _ xw_731) rfl xd_Z_due_152 ?_
            refine lv_iconst (v := 3) hx hb xd_Z_due_155 (by decide) ?_
            refine lv_icmp_ne (tgt := 182) hx hb xd_Z_due_156 rfl (fun h119 => ?_) (fun h119 => ?_)
            · have hv := xif_v h119 hv
              refine lv_iconst (v := 0) hx hb xd_Z_due_182 (by decide) ?_
              exact hj107 H locs ls (0 : Int32) (xif h116 (xif h119 rfl)) hl hP hD hS
            · have hv := xit_v h119 hv
              refine lv_aload_n hx hb xd_Z_due_159 rfl (lv_at hl 4 rfl) ?_
              refine lv_sipush (v := 512) hx hb xd_Z_due_160 (by decide) ?_
              refine lv_iconst (v := 1) hx hb xd_Z_due_163 (by decide) ?_
              obtain ⟨hn121, hv⟩ := xan_v hv
              refine xcW_i (va_runV (As := [.int 512, .int 1]) (rest := []) ⟨hx, hb, hml, hown, htg⟩ (c_Z_bit l D z k b H.size u (512 : Int32) (1 : Int32) hn121) (cwV 2 htg (xg_V0 xkin_Z_bit xw_867 xw_869 xsel_Z_bit xw_9) rfl rfl rfl (by decide +kernel) ⟨Nat.le_of_ble_eq_true rfl, Nat.le_of_ble_eq_true rfl⟩) ⟨xB_blind, xrecv_Z hK hP, fun U hU hW => xB_mk hP hK hD hE hS (xsubW hD hA hS) hU hW⟩ rfl rfl hl.1 rfl (lv_room (Nat.le_of_ble_eq_true rfl)) xd_Z_due_164 ⟨Nat.le_of_ble_eq_true rfl, Nat.le_of_ble_eq_true rfl⟩) hD hA hS (fun r u1 H locs hw hP hD hS => ?_)
              obtain ⟨q120, hq120⟩ : ∃ q, q = xf_Z_bit u (512 : Int32) (1 : Int32) := ⟨_, rfl⟩
              obtain ⟨e1, e2⟩ := hw
              rw [← hq120] at e1
              obtain rfl : q120 = r := e1.symm
              obtain rfl : u = u1 := e2.symm
              have hP : va_P D xCl (xWZ k b u) H := hP
              have hD : va_D A (xWZ k b u) := hD
              have hv := xlt_v hq120 hv
              refine lv_if_eq (tgt := 182) hx hb xd_Z_due_167 rfl (fun h122 => ?_) (fun h122 => ?_)
              · have hv := xit_v h122 hv
                refine lv_iconst (v := 0) hx hb xd_Z_due_182 (by decide) ?_
                exact hj107 H locs ls (0 : Int32) (xif h116 (xit h119 (xlt_e hq120 (xit h122 rfl)))) hl hP hD hS
              · have hv := xif_v h122 hv
                refine lv_iload_n hx hb xd_Z_due_170 rfl (lv_at hl 2 rfl) ?_
                refine lv_aload_n hx hb xd_Z_due_171 rfl (lv_at hl 4 rfl) ?_
                refine lv_sipush (v := 1539) hx hb xd_Z_due_172 (by decide) ?_
                obtain ⟨hn124, hv⟩ := xan_v hv
                refine xcW_i (va_runV (As := [.int 1539]) (rest := [.int ((q5 &&& q7))]) ⟨hx, hb, hml, hown, htg⟩ (c_Z_value l D z k b H.size u (1539 : Int32) hn124) (cwV 1 htg (xg_V0 xkin_Z_value xw_859 xw_861 xsel_Z_value xw_9) rfl rfl rfl (by decide +kernel) ⟨Nat.le_of_ble_eq_true rfl, Nat.le_of_ble_eq_true rfl⟩) ⟨xB_blind, xrecv_Z hK hP, fun U hU hW => xB_mk hP hK hD hE hS (xsubW hD hA hS) hU hW⟩ rfl rfl hl.1 rfl (lv_room (Nat.le_of_ble_eq_true rfl)) xd_Z_due_175 ⟨Nat.le_of_ble_eq_true rfl, Nat.le_of_ble_eq_true rfl⟩) hD hA hS (fun r u1 H locs hw hP hD hS => ?_)
                obtain ⟨q123, hq123⟩ : ∃ q, q = xf_Z_value u (1539 : Int32) := ⟨_, rfl⟩
                obtain ⟨e1, e2⟩ := hw
                rw [← hq123] at e1
                obtain rfl : q123 = r := e1.symm
                obtain rfl : u = u1 := e2.symm
                have hP : va_P D xCl (xWZ k b u) H := hP
                have hD : va_D A (xWZ k b u) := hD
                have hv := xlt_v hq123 hv
                refine lv_iand hx hb xd_Z_due_178 ?_
                refine lv_goto (tgt := 183) hx hb xd_Z_due_179 rfl ?_
                exact hj107 H locs ls ((q5 &&& q7) &&& q123) (xif h116 (xit h119 (xlt_e hq120 (xif h122 (xlt_e hq123 rfl))))) hl hP hD hS
        · have hv := xif_v h96 hv
          refine lv_iload hx hb xd_Z_due_140 (lv_at hl 0 rfl) ?_
          exact hret _ u H locs ls _ ⟨(by unfold xf_Z_due; exact (xlt_e hq1 (xlt_e hq3 (xlt_e hq5 (xlt_e hq7 (xit h9 (xlt_e hq55 (xif h57 (xlt_e hq86 (xlt_e hv94 (xif h96 rfl))))))))))), rfl⟩ hP hD hS xd_Z_due_142
      refine lv_if_le (tgt := 76) hx hb xd_Z_due_68 rfl (fun h125 => ?_) (fun h125 => ?_)
      · refine lv_iload_n hx hb xd_Z_due_76 rfl (lv_at hl 2 rfl) ?_
        refine lv_iconst (v := 2) hx hb xd_Z_due_77 (by decide) ?_
        refine lv_iand hx hb xd_Z_due_78 ?_
        refine lv_if_le (tgt := 86) hx hb xd_Z_due_79 rfl (fun h126 => ?_) (fun h126 => ?_)
        · refine lv_iload_n hx hb xd_Z_due_86 rfl (lv_at hl 2 rfl) ?_
          refine lv_bipush (v := 32) hx hb xd_Z_due_87 (by decide) ?_
          refine lv_iand hx hb xd_Z_due_89 ?_
          refine lv_if_le (tgt := 97) hx hb xd_Z_due_90 rfl (fun h127 => ?_) (fun h127 => ?_)
          · refine lv_iload_n hx hb xd_Z_due_97 rfl (lv_at hl 0 rfl) ?_
            refine lv_sipush (v := 1024) hx hb xd_Z_due_98 (by decide) ?_
            refine lv_iand hx hb xd_Z_due_101 ?_
            refine lv_if_le (tgt := 110) hx hb xd_Z_due_102 rfl (fun h128 => ?_) (fun h128 => ?_)
            · refine lv_iload_n hx hb xd_Z_due_110 rfl (lv_at hl 0 rfl) ?_
              refine lv_iconst (v := 4) hx hb xd_Z_due_111 (by decide) ?_
              refine lv_iand hx hb xd_Z_due_112 ?_
              refine lv_if_le (tgt := 120) hx hb xd_Z_due_113 rfl (fun h129 => ?_) (fun h129 => ?_)
              · refine lv_iload_n hx hb xd_Z_due_120 rfl (lv_at hl 0 rfl) ?_
                refine lv_bipush (v := 64) hx hb xd_Z_due_121 (by decide) ?_
                refine lv_iand hx hb xd_Z_due_123 ?_
                refine lv_if_le (tgt := 132) hx hb xd_Z_due_124 rfl (fun h130 => ?_) (fun h130 => ?_)
                · refine lv_iconst (v := (-1)) hx hb xd_Z_due_132 (by decide) ?_
                  exact hj95 H locs ls (-1 : Int32) (xit h125 (xit h126 (xit h127 (xit h128 (xit h129 (xit h130 rfl)))))) hl hP hD hS
                · refine lv_bipush (v := 6) hx hb xd_Z_due_127 (by decide) ?_
                  refine lv_goto (tgt := 133) hx hb xd_Z_due_129 rfl ?_
                  exact hj95 H locs ls (6 : Int32) (xit h125 (xit h126 (xit h127 (xit h128 (xit h129 (xif h130 rfl)))))) hl hP hD hS
              · refine lv_iconst (v := 2) hx hb xd_Z_due_116 (by decide) ?_
                refine lv_goto (tgt := 133) hx hb xd_Z_due_117 rfl ?_
                exact hj95 H locs ls (2 : Int32) (xit h125 (xit h126 (xit h127 (xit h128 (xif h129 rfl))))) hl hP hD hS
            · refine lv_bipush (v := 10) hx hb xd_Z_due_105 (by decide) ?_
              refine lv_goto (tgt := 133) hx hb xd_Z_due_107 rfl ?_
              exact hj95 H locs ls (10 : Int32) (xit h125 (xit h126 (xit h127 (xif h128 rfl)))) hl hP hD hS
          · refine lv_iconst (v := 5) hx hb xd_Z_due_93 (by decide) ?_
            refine lv_goto (tgt := 133) hx hb xd_Z_due_94 rfl ?_
            exact hj95 H locs ls (5 : Int32) (xit h125 (xit h126 (xif h127 rfl))) hl hP hD hS
        · refine lv_iconst (v := 1) hx hb xd_Z_due_82 (by decide) ?_
          refine lv_goto (tgt := 133) hx hb xd_Z_due_83 rfl ?_
          exact hj95 H locs ls (1 : Int32) (xit h125 (xif h126 rfl)) hl hP hD hS
      · refine lv_bipush (v := 9) hx hb xd_Z_due_71 (by decide) ?_
        refine lv_goto (tgt := 133) hx hb xd_Z_due_73 rfl ?_
        exact hj95 H locs ls (9 : Int32) (xif h125 rfl) hl hP hD hS

noncomputable def xf_Z_word (u : XZ) (p0 : Int64) : Int32 :=
  (xg_Z_memory u (Int64.toInt32 (p0 / (4 : Int64))).toNatClampNeg)
def xv_Z_word (u : XZ) (p0 : Int64) : Prop := XVc (
  (vp_in (Int64.toInt32 (p0 / (4 : Int64))) 65536) ∧
  True)
set_option maxHeartbeats 4000000 in
set_option maxRecDepth 100000 in
theorem c_Z_word (l : Launch) (D : va_G) (z : (Nat → Nat) × (Nat → Nat)) (k : ClassId × ClassId) (b : Nat → Nat) (sz : Nat) (u : XZ) (p0 : Int64) (hv : xv_Z_word u p0) : Met l xy_Z_word (xk_Z_word :: lw_g) { frames := 0, cells := 0, slots := 0, locals := 0 } (va_Pc [.ref ((b 0)), .long p0] (xB D (xTy k) z sz (xWZ k b u))) (va_Qi (fun r (q : XZ) => r = xf_Z_word u p0 ∧ q = u) (fun q t => xQ D (xTy k) (xWZ k b q) (va_A (xWZ k b u) sz) t) (va_A (xWZ k b u) sz)) 0 0 (va_A (xWZ k b u) sz) := by
  refine xopen_i (wf := fun q : XZ => xWZ k b q) (lv := [(0, .ref ((b 0))), (1, .long p0)]) (by decide) rfl (Nat.le_of_ble_eq_true rfl) ?_
  intro p e s m args below meth c Q ls A H locs hx hb hml htg hown hin hK hP hD hE hS hA hl hret
  unfold xv_Z_word at hv
  refine lv_aload_n hx hb xd_Z_word_0 rfl (lv_at hl 0 rfl) ?_
  refine xget_Z_memory hx hb htg hown hK hP (htg _ xw_728) xd_Z_word_1 ?_
  refine lv_lload_n hx hb xd_Z_word_4 rfl (lv_at hl 1 rfl) ?_
  refine lv_ldc2 (v := 4) hx hb hown (htg _ xw_944) xd_Z_word_5 ?_
  refine lv_ldiv hx hb xd_Z_word_8 (by decide) ?_
  refine lv_l2i (v := (Int64.toInt32 (p0 / (4 : Int64)))) hx hb xd_Z_word_9 rfl ?_
  obtain ⟨hn1, hv⟩ := xan_v hv
  refine xald_Z_memory hx hb hK hP hn1 xd_Z_word_10 ?_
  exact hret _ u H locs ls _ ⟨(by unfold xf_Z_word; exact rfl), rfl⟩ hP hD hS xd_Z_word_11

noncomputable def xf_Z_stageFault (u : XZ) (p0 : Int32) (p1 : Int64) (p2 : Int32) : Int64 × XZ :=
  xlt (if 2 ≤ p0 then (if (xg_Z_kind u) = 0 then (20) else (if (xg_Z_kind u) = 1 then (21) else (23))) else (if (xg_Z_kind u) = 0 then (12) else (if (xg_Z_kind u) = 1 then (13) else (15))) : Int32) fun v6 =>
  xlt (xf_Z_fails u v6 (xg_Z_address u) (xz (xg_Z_asGuest u)) : Int32 × XZ) fun q8 =>
  xlt (if p0 = 2 then (p1) else (0) : Int64) fun v11 =>
  xlt (if p0 = 2 then (if p2 = 0 then (0) else (1)) else (0) : Int32) fun v15 =>
  ((-1), (xs_Z_ofEntry (xs_Z_far q8.2 v11) (xb v15)))
def xv_Z_stageFault (u : XZ) (p0 : Int32) (p1 : Int64) (p2 : Int32) : Prop := XVc (
  xlt (if 2 ≤ p0 then (if (xg_Z_kind u) = 0 then (20) else (if (xg_Z_kind u) = 1 then (21) else (23))) else (if (xg_Z_kind u) = 0 then (12) else (if (xg_Z_kind u) = 1 then (13) else (15))) : Int32) fun v6 =>
  (xv_Z_fails u v6 (xg_Z_address u) (xz (xg_Z_asGuest u))) ∧
  xlt (xf_Z_fails u v6 (xg_Z_address u) (xz (xg_Z_asGuest u)) : Int32 × XZ) fun q8 =>
  xlt (if p0 = 2 then (p1) else (0) : Int64) fun v11 =>
  xlt (if p0 = 2 then (if p2 = 0 then (0) else (1)) else (0) : Int32) fun v15 =>
  True)
set_option maxHeartbeats 4000000 in
set_option maxRecDepth 100000 in
theorem c_Z_stageFault (l : Launch) (D : va_G) (z : (Nat → Nat) × (Nat → Nat)) (k : ClassId × ClassId) (b : Nat → Nat) (sz : Nat) (u : XZ) (p0 : Int32) (p1 : Int64) (p2 : Int32) (hv : xv_Z_stageFault u p0 p1 p2) : Met l xy_Z_stageFault (xk_Z_stageFault :: lw_g) { frames := 1, cells := 0, slots := 0, locals := 23 } (va_Pc [.ref ((b 0)), .int p0, .long p1, .int p2] (xB D (xTy k) z sz (xWZ k b u))) (va_Ql (fun r (q : XZ) => (r, q) = xf_Z_stageFault u p0 p1 p2) (fun q t => xQ D (xTy k) (xWZ k b q) (va_A (xWZ k b u) sz) t) (va_A (xWZ k b u) sz)) 0 0 (va_A (xWZ k b u) sz) := by
  refine xopen_l (wf := fun q : XZ => xWZ k b q) (lv := [(0, .ref ((b 0))), (1, .int p0), (2, .long p1), (4, .int p2)]) (by decide) rfl (Nat.le_of_ble_eq_true rfl) ?_
  intro p e s m args below meth c Q ls A H locs hx hb hml htg hown hin hK hP hD hE hS hA hl hret
  unfold xv_Z_stageFault at hv
  refine lv_aload_n hx hb xd_Z_stageFault_0 rfl (lv_at hl 0 rfl) ?_
  refine lv_iload_n hx hb xd_Z_stageFault_1 rfl (lv_at hl 1 rfl) ?_
  refine lv_iconst (v := 2) hx hb xd_Z_stageFault_2 (by decide) ?_
  have hj7 : ∀ (H : Heap) (locs : List Loc) (ls : Array Slot) (v6 : Int32), v6 = (if 2 ≤ p0 then (if (xg_Z_kind u) = 0 then (20) else (if (xg_Z_kind u) = 1 then (21) else (23))) else (if (xg_Z_kind u) = 0 then (12) else (if (xg_Z_kind u) = 1 then (13) else (15)))) → lv_has ls 6 [(0, .ref ((b 0))), (1, .int p0), (2, .long p1), (4, .int p2)] → va_P D xCl (xWZ k b u) H → va_D A (xWZ k b u) → va_S A s.heap H locs → W p l e { frames := 1, cells := 0, slots := 0, locals := 23 } s m args below meth c H locs (0) (0) Q (F0 m 63 ls [.int v6, .ref ((b 0))]) := by
    intro H locs ls v6 hv6 hl hP hD hS
    have hv := xlt_v hv6 hv
    refine lv_aload_n hx hb xd_Z_stageFault_63 rfl (lv_at hl 0 rfl) ?_
    refine xget_Z_address (v := (xg_Z_address u)) hx hb htg hown hK hP (htg _ xw_751) rfl xd_Z_stageFault_64 ?_
    refine lv_aload_n hx hb xd_Z_stageFault_67 rfl (lv_at hl 0 rfl) ?_
    refine xget_Z_asGuest (v := (xg_Z_asGuest u)) hx hb htg hown hK hP (htg _ xw_752) rfl xd_Z_stageFault_68 ?_
    obtain ⟨hn9, hv⟩ := xan_v hv
    refine xcW_i (va_runV (As := [.int v6, .int ((xg_Z_address u)), .int ((xz (xg_Z_asGuest u)))]) (rest := []) ⟨hx, hb, hml, hown, htg⟩ (c_Z_fails l D z k b H.size u v6 (xg_Z_address u) (xz (xg_Z_asGuest u)) hn9) (cwV 3 htg (xg_V0 xkin_Z_fails xw_933 xw_935 xsel_Z_fails xw_9) rfl rfl rfl (by decide +kernel) ⟨Nat.le_of_ble_eq_true rfl, Nat.le_of_ble_eq_true rfl⟩) ⟨xB_blind, xrecv_Z hK hP, fun U hU hW => xB_mk hP hK hD hE hS (xsubW hD hA hS) hU hW⟩ rfl rfl hl.1 rfl (lv_room (Nat.le_of_ble_eq_true rfl)) xd_Z_stageFault_71 ⟨Nat.le_of_ble_eq_true rfl, Nat.le_of_ble_eq_true rfl⟩) hD hA hS (fun r u1 H locs hw hP hD hS => ?_)
    obtain ⟨q8, hq8⟩ : ∃ q, q = xf_Z_fails u v6 (xg_Z_address u) (xz (xg_Z_asGuest u)) := ⟨_, rfl⟩
    rw [← hq8] at hw
    obtain rfl : r = q8.1 := congrArg Prod.fst hw
    obtain rfl : u1 = q8.2 := congrArg Prod.snd hw
    have hP : va_P D xCl (xWZ k b q8.2) H := hP
    have hD : va_D A (xWZ k b q8.2) := hD
    have hv := xlt_v hq8 hv
    refine lv_istore (lv' := [(5, .int (q8.1)), (0, .ref ((b 0))), (1, .int p0), (2, .long p1), (4, .int p2)]) hx hb xd_Z_stageFault_74 hl (by decide) rfl (fun ls hl => ?_)
    refine lv_aload_n hx hb xd_Z_stageFault_76 rfl (lv_at hl 1 rfl) ?_
    refine lv_iload_n hx hb xd_Z_stageFault_77 rfl (lv_at hl 2 rfl) ?_
    refine lv_iconst (v := 2) hx hb xd_Z_stageFault_78 (by decide) ?_
    have hj12 : ∀ (H : Heap) (locs : List Loc) (ls : Array Slot) (v11 : Int64), v11 = (if p0 = 2 then (p1) else (0)) → lv_has ls 6 [(5, .int (q8.1)), (0, .ref ((b 0))), (1, .int p0), (2, .long p1), (4, .int p2)] → va_P D xCl (xWZ k b q8.2) H → va_D A (xWZ k b q8.2) → va_S A s.heap H locs → W p l e { frames := 1, cells := 0, slots := 0, locals := 23 } s m args below meth c H locs (0) (0) Q (F0 m 87 ls [.long v11, .ref ((b 0))]) := by
      intro H locs ls v11 hv11 hl hP hD hS
      have hv := xlt_v hv11 hv
      refine xput_Z_far (v := v11) hx hb htg hown hK hP hD hS (htg _ xw_745) xd_Z_stageFault_87 (fun H locs hP hD hS => ?_)
      refine lv_aload_n hx hb xd_Z_stageFault_90 rfl (lv_at hl 1 rfl) ?_
      refine lv_iload_n hx hb xd_Z_stageFault_91 rfl (lv_at hl 2 rfl) ?_
      refine lv_iconst (v := 2) hx hb xd_Z_stageFault_92 (by decide) ?_
      have hj16 : ∀ (H : Heap) (locs : List Loc) (ls : Array Slot) (v15 : Int32), v15 = (if p0 = 2 then (if p2 = 0 then (0) else (1)) else (0)) → lv_has ls 6 [(5, .int (q8.1)), (0, .ref ((b 0))), (1, .int p0), (2, .long p1), (4, .int p2)] → va_P D xCl (xWZ k b (xs_Z_far q8.2 v11)) H → va_D A (xWZ k b (xs_Z_far q8.2 v11)) → va_S A s.heap H locs → W p l e { frames := 1, cells := 0, slots := 0, locals := 23 } s m args below meth c H locs (0) (0) Q (F0 m 106 ls [.int v15, .ref ((b 0))]) := by
        intro H locs ls v15 hv15 hl hP hD hS
        have hv := xlt_v hv15 hv
        refine xput_Z_ofEntry (v := v15) hx hb htg hown hK hP hD hS (htg _ xw_746) (X01_of hv15 (xit_01 (xit_01 (Or.inl rfl) (Or.inr rfl)) (Or.inl rfl))) xd_Z_stageFault_106 (fun H locs hP hD hS => ?_)
        refine lv_ldc2 (v := (-1)) hx hb hown (htg _ xw_937) xd_Z_stageFault_109 ?_
        exact hret _ (xs_Z_ofEntry (xs_Z_far q8.2 v11) (xb v15)) H locs ls _ (by unfold xf_Z_stageFault; exact (xlt_e hv6 (xlt_e hq8 (xlt_e hv11 (xlt_e hv15 rfl))))) hP hD hS xd_Z_stageFault_112
      refine lv_icmp_ne (tgt := 105) hx hb xd_Z_stageFault_93 rfl (fun h17 => ?_) (fun h17 => ?_)
      · refine lv_iconst (v := 0) hx hb xd_Z_stageFault_105 (by decide) ?_
        exact hj16 H locs ls (0 : Int32) (xif h17 rfl) hl hP hD hS
      · refine lv_iload hx hb xd_Z_stageFault_96 (lv_at hl 4 rfl) ?_
        refine lv_if_eq (tgt := 105) hx hb xd_Z_stageFault_98 rfl (fun h18 => ?_) (fun h18 => ?_)
        · refine lv_iconst (v := 0) hx hb xd_Z_stageFault_105 (by decide) ?_
          exact hj16 H locs ls (0 : Int32) (xit h17 (xit h18 rfl)) hl hP hD hS
        · refine lv_iconst (v := 1) hx hb xd_Z_stageFault_101 (by decide) ?_
          refine lv_goto (tgt := 106) hx hb xd_Z_stageFault_102 rfl ?_
          exact hj16 H locs ls (1 : Int32) (xit h17 (xif h18 rfl)) hl hP hD hS
    refine lv_icmp_ne (tgt := 86) hx hb xd_Z_stageFault_79 rfl (fun h19 => ?_) (fun h19 => ?_)
    · refine lv_lconst (v := 0) hx hb xd_Z_stageFault_86 (by decide) ?_
      exact hj12 H locs ls (0 : Int64) (xif h19 rfl) hl hP hD hS
    · refine lv_lload_n hx hb xd_Z_stageFault_82 rfl (lv_at hl 3 rfl) ?_
      refine lv_goto (tgt := 87) hx hb xd_Z_stageFault_83 rfl ?_
      exact hj12 H locs ls p1 (xit h19 rfl) hl hP hD hS
  refine lv_icmp_ge (tgt := 36) hx hb xd_Z_stageFault_3 rfl (fun h20 => ?_) (fun h20 => ?_)
  · refine lv_aload_n hx hb xd_Z_stageFault_36 rfl (lv_at hl 0 rfl) ?_
    refine xget_Z_kind (v := (xg_Z_kind u)) hx hb htg hown hK hP (htg _ xw_747) rfl xd_Z_stageFault_37 ?_
    refine lv_if_ne (tgt := 48) hx hb xd_Z_stageFault_40 rfl (fun h21 => ?_) (fun h21 => ?_)
    · refine lv_aload_n hx hb xd_Z_stageFault_48 rfl (lv_at hl 0 rfl) ?_
      refine xget_Z_kind (v := (xg_Z_kind u)) hx hb htg hown hK hP (htg _ xw_747) rfl xd_Z_stageFault_49 ?_
      refine lv_iconst (v := 1) hx hb xd_Z_stageFault_52 (by decide) ?_
      refine lv_icmp_ne (tgt := 61) hx hb xd_Z_stageFault_53 rfl (fun h22 => ?_) (fun h22 => ?_)
      · refine lv_bipush (v := 23) hx hb xd_Z_stageFault_61 (by decide) ?_
        exact hj7 H locs ls (23 : Int32) (xit h20 (xif h21 (xif h22 rfl))) hl hP hD hS
      · refine lv_bipush (v := 21) hx hb xd_Z_stageFault_56 (by decide) ?_
        refine lv_goto (tgt := 63) hx hb xd_Z_stageFault_58 rfl ?_
        exact hj7 H locs ls (21 : Int32) (xit h20 (xif h21 (xit h22 rfl))) hl hP hD hS
    · refine lv_bipush (v := 20) hx hb xd_Z_stageFault_43 (by decide) ?_
      refine lv_goto (tgt := 63) hx hb xd_Z_stageFault_45 rfl ?_
      exact hj7 H locs ls (20 : Int32) (xit h20 (xit h21 rfl)) hl hP hD hS
  · refine lv_aload_n hx hb xd_Z_stageFault_6 rfl (lv_at hl 0 rfl) ?_
    refine xget_Z_kind (v := (xg_Z_kind u)) hx hb htg hown hK hP (htg _ xw_747) rfl xd_Z_stageFault_7 ?_
    refine lv_if_ne (tgt := 18) hx hb xd_Z_stageFault_10 rfl (fun h23 => ?_) (fun h23 => ?_)
    · refine lv_aload_n hx hb xd_Z_stageFault_18 rfl (lv_at hl 0 rfl) ?_
      refine xget_Z_kind (v := (xg_Z_kind u)) hx hb htg hown hK hP (htg _ xw_747) rfl xd_Z_stageFault_19 ?_
      refine lv_iconst (v := 1) hx hb xd_Z_stageFault_22 (by decide) ?_
      refine lv_icmp_ne (tgt := 31) hx hb xd_Z_stageFault_23 rfl (fun h24 => ?_) (fun h24 => ?_)
      · refine lv_bipush (v := 15) hx hb xd_Z_stageFault_31 (by decide) ?_
        refine lv_goto (tgt := 63) hx hb xd_Z_stageFault_33 rfl ?_
        exact hj7 H locs ls (15 : Int32) (xif h20 (xif h23 (xif h24 rfl))) hl hP hD hS
      · refine lv_bipush (v := 13) hx hb xd_Z_stageFault_26 (by decide) ?_
        refine lv_goto (tgt := 63) hx hb xd_Z_stageFault_28 rfl ?_
        exact hj7 H locs ls (13 : Int32) (xif h20 (xif h23 (xit h24 rfl))) hl hP hD hS
    · refine lv_bipush (v := 12) hx hb xd_Z_stageFault_13 (by decide) ?_
      refine lv_goto (tgt := 63) hx hb xd_Z_stageFault_15 rfl ?_
      exact hj7 H locs ls (12 : Int32) (xif h20 (xit h23 rfl)) hl hP hD hS

noncomputable def xf_Z_inMemory (u : XZ) (p0 : Int64) : Int64 × XZ :=
  if 0 ≤ (lg_cmp p0 (262144 : Int64)) then
    xlt (if (xg_Z_kind u) = 0 then (1) else (if (xg_Z_kind u) = 1 then (5) else (7)) : Int32) fun v4 =>
    xlt (xf_Z_fails u v4 (xg_Z_address u) (xz (xg_Z_asGuest u)) : Int32 × XZ) fun q6 =>
    ((-1), q6.2)
  else
    (p0, u)
def xv_Z_inMemory (u : XZ) (p0 : Int64) : Prop := XVc (
  if 0 ≤ (lg_cmp p0 (262144 : Int64)) then
    xlt (if (xg_Z_kind u) = 0 then (1) else (if (xg_Z_kind u) = 1 then (5) else (7)) : Int32) fun v4 =>
    (xv_Z_fails u v4 (xg_Z_address u) (xz (xg_Z_asGuest u))) ∧
    xlt (xf_Z_fails u v4 (xg_Z_address u) (xz (xg_Z_asGuest u)) : Int32 × XZ) fun q6 =>
    True
  else
    True)
set_option maxHeartbeats 4000000 in
set_option maxRecDepth 100000 in
theorem c_Z_inMemory (l : Launch) (D : va_G) (z : (Nat → Nat) × (Nat → Nat)) (k : ClassId × ClassId) (b : Nat → Nat) (sz : Nat) (u : XZ) (p0 : Int64) (hv : xv_Z_inMemory u p0) : Met l xy_Z_inMemory (xk_Z_inMemory :: lw_g) { frames := 1, cells := 0, slots := 0, locals := 23 } (va_Pc [.ref ((b 0)), .long p0] (xB D (xTy k) z sz (xWZ k b u))) (va_Ql (fun r (q : XZ) => (r, q) = xf_Z_inMemory u p0) (fun q t => xQ D (xTy k) (xWZ k b q) (va_A (xWZ k b u) sz) t) (va_A (xWZ k b u) sz)) 0 0 (va_A (xWZ k b u) sz) := by
  refine xopen_l (wf := fun q : XZ => xWZ k b q) (lv := [(0, .ref ((b 0))), (1, .long p0)]) (by decide) rfl (Nat.le_of_ble_eq_true rfl) ?_
  intro p e s m args below meth c Q ls A H locs hx hb hml htg hown hin hK hP hD hE hS hA hl hret
  unfold xv_Z_inMemory at hv
  refine lv_lload_n hx hb xd_Z_inMemory_0 rfl (lv_at hl 1 rfl) ?_
  refine lv_ldc2 (v := 262144) hx hb hown (htg _ xw_958) xd_Z_inMemory_1 ?_
  refine W.lcmp hx hb xd_Z_inMemory_4 ?_
  refine lv_if_ge (tgt := 10) hx hb xd_Z_inMemory_5 rfl (fun h1 => ?_) (fun h1 => ?_)
  · have hv := xit_v h1 hv
    refine lv_aload_n hx hb xd_Z_inMemory_10 rfl (lv_at hl 0 rfl) ?_
    refine lv_aload_n hx hb xd_Z_inMemory_11 rfl (lv_at hl 0 rfl) ?_
    refine xget_Z_kind (v := (xg_Z_kind u)) hx hb htg hown hK hP (htg _ xw_747) rfl xd_Z_inMemory_12 ?_
    have hj5 : ∀ (H : Heap) (locs : List Loc) (ls : Array Slot) (v4 : Int32), v4 = (if (xg_Z_kind u) = 0 then (1) else (if (xg_Z_kind u) = 1 then (5) else (7))) → lv_has ls 4 [(0, .ref ((b 0))), (1, .long p0)] → va_P D xCl (xWZ k b u) H → va_D A (xWZ k b u) → va_S A s.heap H locs → W p l e { frames := 1, cells := 0, slots := 0, locals := 23 } s m args below meth c H locs (0) (0) Q (F0 m 36 ls [.int v4, .ref ((b 0))]) := by
      intro H locs ls v4 hv4 hl hP hD hS
      have hv := xlt_v hv4 hv
      refine lv_aload_n hx hb xd_Z_inMemory_36 rfl (lv_at hl 0 rfl) ?_
      refine xget_Z_address (v := (xg_Z_address u)) hx hb htg hown hK hP (htg _ xw_751) rfl xd_Z_inMemory_37 ?_
      refine lv_aload_n hx hb xd_Z_inMemory_40 rfl (lv_at hl 0 rfl) ?_
      refine xget_Z_asGuest (v := (xg_Z_asGuest u)) hx hb htg hown hK hP (htg _ xw_752) rfl xd_Z_inMemory_41 ?_
      obtain ⟨hn7, hv⟩ := xan_v hv
      refine xcW_i (va_runV (As := [.int v4, .int ((xg_Z_address u)), .int ((xz (xg_Z_asGuest u)))]) (rest := []) ⟨hx, hb, hml, hown, htg⟩ (c_Z_fails l D z k b H.size u v4 (xg_Z_address u) (xz (xg_Z_asGuest u)) hn7) (cwV 3 htg (xg_V0 xkin_Z_fails xw_933 xw_935 xsel_Z_fails xw_9) rfl rfl rfl (by decide +kernel) ⟨Nat.le_of_ble_eq_true rfl, Nat.le_of_ble_eq_true rfl⟩) ⟨xB_blind, xrecv_Z hK hP, fun U hU hW => xB_mk hP hK hD hE hS (xsubW hD hA hS) hU hW⟩ rfl rfl hl.1 rfl (lv_room (Nat.le_of_ble_eq_true rfl)) xd_Z_inMemory_44 ⟨Nat.le_of_ble_eq_true rfl, Nat.le_of_ble_eq_true rfl⟩) hD hA hS (fun r u1 H locs hw hP hD hS => ?_)
      obtain ⟨q6, hq6⟩ : ∃ q, q = xf_Z_fails u v4 (xg_Z_address u) (xz (xg_Z_asGuest u)) := ⟨_, rfl⟩
      rw [← hq6] at hw
      obtain rfl : r = q6.1 := congrArg Prod.fst hw
      obtain rfl : u1 = q6.2 := congrArg Prod.snd hw
      have hP : va_P D xCl (xWZ k b q6.2) H := hP
      have hD : va_D A (xWZ k b q6.2) := hD
      have hv := xlt_v hq6 hv
      refine lv_istore_n (lv' := [(3, .int (q6.1)), (0, .ref ((b 0))), (1, .long p0)]) hx hb xd_Z_inMemory_47 rfl hl (by decide) rfl (fun ls hl => ?_)
      refine lv_ldc2 (v := (-1)) hx hb hown (htg _ xw_937) xd_Z_inMemory_48 ?_
      exact hret _ q6.2 H locs ls _ (by unfold xf_Z_inMemory; exact (xit h1 (xlt_e hv4 (xlt_e hq6 rfl)))) hP hD hS xd_Z_inMemory_51
    refine lv_if_ne (tgt := 22) hx hb xd_Z_inMemory_15 rfl (fun h8 => ?_) (fun h8 => ?_)
    · refine lv_aload_n hx hb xd_Z_inMemory_22 rfl (lv_at hl 0 rfl) ?_
      refine xget_Z_kind (v := (xg_Z_kind u)) hx hb htg hown hK hP (htg _ xw_747) rfl xd_Z_inMemory_23 ?_
      refine lv_iconst (v := 1) hx hb xd_Z_inMemory_26 (by decide) ?_
      refine lv_icmp_ne (tgt := 34) hx hb xd_Z_inMemory_27 rfl (fun h9 => ?_) (fun h9 => ?_)
      · refine lv_bipush (v := 7) hx hb xd_Z_inMemory_34 (by decide) ?_
        exact hj5 H locs ls (7 : Int32) (xif h8 (xif h9 rfl)) hl hP hD hS
      · refine lv_iconst (v := 5) hx hb xd_Z_inMemory_30 (by decide) ?_
        refine lv_goto (tgt := 36) hx hb xd_Z_inMemory_31 rfl ?_
        exact hj5 H locs ls (5 : Int32) (xif h8 (xit h9 rfl)) hl hP hD hS
    · refine lv_iconst (v := 1) hx hb xd_Z_inMemory_18 (by decide) ?_
      refine lv_goto (tgt := 36) hx hb xd_Z_inMemory_19 rfl ?_
      exact hj5 H locs ls (1 : Int32) (xit h8 rfl) hl hP hD hS
  · have hv := xif_v h1 hv
    refine lv_lload_n hx hb xd_Z_inMemory_8 rfl (lv_at hl 1 rfl) ?_
    exact hret _ u H locs ls _ (by unfold xf_Z_inMemory; exact (xif h1 rfl)) hP hD hS xd_Z_inMemory_9

noncomputable def xf_Z_isAllowed (u : XZ) (p0 : Int32) (p1 : Int32) (p2 : Int32) : Int32 :=
  xlt (if (p1 &&& (1 : Int32)) = 0 then (0) else (1) : Int32) fun v2 =>
  xlt (if (p1 &&& (2 : Int32)) = 0 then (0) else (1) : Int32) fun v5 =>
  xlt (if (p1 &&& (4 : Int32)) = 0 then (0) else (1) : Int32) fun v8 =>
  xlt (if (p1 &&& (8 : Int32)) = 0 then (0) else (1) : Int32) fun v11 =>
  xlt (if (p1 &&& (16 : Int32)) = 0 then (0) else (1) : Int32) fun v14 =>
  xlt (if v5 = 0 then (if v8 = 0 then (if v11 = 0 then (0) else (1)) else (1)) else (1) : Int32) fun v19 =>
  xlt (if (xg_Z_kind u) = 2 then (if p2 = 0 then (1) else (0)) else (0) : Int32) fun v23 =>
  xlt (if (xg_Z_kind u) = 0 then (if p2 = 0 then (1) else (0)) else (0) : Int32) fun v27 =>
  xlt (if p2 = 0 then (xlt (xf_Z_bit u (256 : Int32) (19 : Int32) : Int32) fun q30 => if q30 = 0 then (if p0 = 1 then (xlt (xf_Z_bit u (512 : Int32) (19 : Int32) : Int32) fun q34 => if q34 = 0 then (0) else (1)) else (0)) else (1)) else (0) : Int32) fun v37 =>
  xlt (if v23 = 0 then (if v27 = 0 then (if (xz (xg_Z_executes u)) = 0 then (if v5 = 0 then (if v37 = 0 then (0) else (if v11 = 0 then (0) else (1))) else (1)) else (if p2 = 0 then (v11) else (if v5 = 0 then (if v37 = 0 then (0) else (if v11 = 0 then (0) else (1))) else (1)))) else (v11)) else (v8) : Int32) fun v49 =>
  xlt (if (xg_Z_kind u) = 0 then (0) else (xlt (if p0 = 1 then (512) else (256) : Int32) fun v53 => xlt (xf_Z_bit u v53 (18 : Int32) : Int32) fun q55 => if q55 = 0 then (0) else (1)) : Int32) fun v59 =>
  xlt (if p0 = 2 then (v14) else (if (xz (xg_Z_user u)) = 0 then (if v14 = 0 then (1) else (if v59 = 0 then (0) else (1))) else (v14)) : Int32) fun v65 =>
  xlt (if v2 = 0 then (0) else (if v19 = 0 then (0) else (if v8 = 0 then (if v49 = 0 then (0) else (if v65 = 0 then (0) else (if (p1 &&& (64 : Int32)) = 0 then (0) else (if v23 = 0 then (1) else (if (p1 &&& (128 : Int32)) = 0 then (0) else (1)))))) else (if v5 = 0 then (0) else (if v49 = 0 then (0) else (if v65 = 0 then (0) else (if (p1 &&& (64 : Int32)) = 0 then (0) else (if v23 = 0 then (1) else (if (p1 &&& (128 : Int32)) = 0 then (0) else (1))))))))) : Int32) fun v81 =>
  v81
def xv_Z_isAllowed (u : XZ) (p0 : Int32) (p1 : Int32) (p2 : Int32) : Prop := XVc (
  xlt (if (p1 &&& (1 : Int32)) = 0 then (0) else (1) : Int32) fun v2 =>
  xlt (if (p1 &&& (2 : Int32)) = 0 then (0) else (1) : Int32) fun v5 =>
  xlt (if (p1 &&& (4 : Int32)) = 0 then (0) else (1) : Int32) fun v8 =>
  xlt (if (p1 &&& (8 : Int32)) = 0 then (0) else (1) : Int32) fun v11 =>
  xlt (if (p1 &&& (16 : Int32)) = 0 then (0) else (1) : Int32) fun v14 =>
  xlt (if v5 = 0 then (if v8 = 0 then (if v11 = 0 then (0) else (1)) else (1)) else (1) : Int32) fun v19 =>
  xlt (if (xg_Z_kind u) = 2 then (if p2 = 0 then (1) else (0)) else (0) : Int32) fun v23 =>
  xlt (if (xg_Z_kind u) = 0 then (if p2 = 0 then (1) else (0)) else (0) : Int32) fun v27 =>
  (if p2 = 0 then ((xv_Z_bit u (256 : Int32) (19 : Int32)) ∧ (xlt (xf_Z_bit u (256 : Int32) (19 : Int32) : Int32) fun q30 => if q30 = 0 then (if p0 = 1 then ((xv_Z_bit u (512 : Int32) (19 : Int32)) ∧ (xlt (xf_Z_bit u (512 : Int32) (19 : Int32) : Int32) fun q34 => if q34 = 0 then (True) else (True))) else (True)) else (True))) else (True)) ∧
  xlt (if p2 = 0 then (xlt (xf_Z_bit u (256 : Int32) (19 : Int32) : Int32) fun q30 => if q30 = 0 then (if p0 = 1 then (xlt (xf_Z_bit u (512 : Int32) (19 : Int32) : Int32) fun q34 => if q34 = 0 then (0) else (1)) else (0)) else (1)) else (0) : Int32) fun v37 =>
  xlt (if v23 = 0 then (if v27 = 0 then (if (xz (xg_Z_executes u)) = 0 then (if v5 = 0 then (if v37 = 0 then (0) else (if v11 = 0 then (0) else (1))) else (1)) else (if p2 = 0 then (v11) else (if v5 = 0 then (if v37 = 0 then (0) else (if v11 = 0 then (0) else (1))) else (1)))) else (v11)) else (v8) : Int32) fun v49 =>
  (if (xg_Z_kind u) = 0 then (True) else (xlt (if p0 = 1 then (512) else (256) : Int32) fun v53 => (xv_Z_bit u v53 (18 : Int32)) ∧ (xlt (xf_Z_bit u v53 (18 : Int32) : Int32) fun q55 => if q55 = 0 then (True) else (True)))) ∧
  xlt (if (xg_Z_kind u) = 0 then (0) else (xlt (if p0 = 1 then (512) else (256) : Int32) fun v53 => xlt (xf_Z_bit u v53 (18 : Int32) : Int32) fun q55 => if q55 = 0 then (0) else (1)) : Int32) fun v59 =>
  xlt (if p0 = 2 then (v14) else (if (xz (xg_Z_user u)) = 0 then (if v14 = 0 then (1) else (if v59 = 0 then (0) else (1))) else (v14)) : Int32) fun v65 =>
  xlt (if v2 = 0 then (0) else (if v19 = 0 then (0) else (if v8 = 0 then (if v49 = 0 then (0) else (if v65 = 0 then (0) else (if (p1 &&& (64 : Int32)) = 0 then (0) else (if v23 = 0 then (1) else (if (p1 &&& (128 : Int32)) = 0 then (0) else (1)))))) else (if v5 = 0 then (0) else (if v49 = 0 then (0) else (if v65 = 0 then (0) else (if (p1 &&& (64 : Int32)) = 0 then (0) else (if v23 = 0 then (1) else (if (p1 &&& (128 : Int32)) = 0 then (0) else (1))))))))) : Int32) fun v81 =>
  True)
set_option maxHeartbeats 4000000 in
set_option maxRecDepth 100000 in
theorem c_Z_isAllowed (l : Launch) (D : va_G) (z : (Nat → Nat) × (Nat → Nat)) (k : ClassId × ClassId) (b : Nat → Nat) (sz : Nat) (u : XZ) (p0 : Int32) (p1 : Int32) (p2 : Int32) (hv : xv_Z_isAllowed u p0 p1 p2) : Met l xy_Z_isAllowed (xk_Z_isAllowed :: lw_g) { frames := 3, cells := 0, slots := 0, locals := 64 } (va_Pc [.ref ((b 0)), .int p0, .int p1, .int p2] (xB D (xTy k) z sz (xWZ k b u))) (va_Qi (fun r (q : XZ) => r = xf_Z_isAllowed u p0 p1 p2 ∧ q = u) (fun q t => xQ D (xTy k) (xWZ k b q) (va_A (xWZ k b u) sz) t) (va_A (xWZ k b u) sz)) 0 0 (va_A (xWZ k b u) sz) := by
  refine xopen_z (wf := fun q : XZ => xWZ k b q) (lv := [(0, .ref ((b 0))), (1, .int p0), (2, .int p1), (3, .int p2)]) (by decide) rfl (Nat.le_of_ble_eq_true rfl) ?_
  intro p e s m args below meth c Q ls A H locs hx hb hml htg hown hin hK hP hD hE hS hA hl hret
  unfold xv_Z_isAllowed at hv
  refine lv_iload_n hx hb xd_Z_isAllowed_0 rfl (lv_at hl 2 rfl) ?_
  refine lv_iconst (v := 1) hx hb xd_Z_isAllowed_1 (by decide) ?_
  refine lv_iand hx hb xd_Z_isAllowed_2 ?_
  have hj3 : ∀ (H : Heap) (locs : List Loc) (ls : Array Slot) (v2 : Int32), v2 = (if (p1 &&& (1 : Int32)) = 0 then (0) else (1)) → lv_has ls 16 [(0, .ref ((b 0))), (1, .int p0), (2, .int p1), (3, .int p2)] → va_P D xCl (xWZ k b u) H → va_D A (xWZ k b u) → va_S A s.heap H locs → W p l e { frames := 3, cells := 0, slots := 0, locals := 64 } s m args below meth c H locs (0) (0) Q (F0 m 11 ls [.int v2]) := by
    intro H locs ls v2 hv2 hl hP hD hS
    have hv := xlt_v hv2 hv
    refine lv_istore (lv' := [(4, .int v2), (0, .ref ((b 0))), (1, .int p0), (2, .int p1), (3, .int p2)]) hx hb xd_Z_isAllowed_11 hl (by decide) rfl (fun ls hl => ?_)
    refine lv_iload_n hx hb xd_Z_isAllowed_13 rfl (lv_at hl 3 rfl) ?_
    refine lv_iconst (v := 2) hx hb xd_Z_isAllowed_14 (by decide) ?_
    refine lv_iand hx hb xd_Z_isAllowed_15 ?_
    have hj6 : ∀ (H : Heap) (locs : List Loc) (ls : Array Slot) (v5 : Int32), v5 = (if (p1 &&& (2 : Int32)) = 0 then (0) else (1)) → lv_has ls 16 [(4, .int v2), (0, .ref ((b 0))), (1, .int p0), (2, .int p1), (3, .int p2)] → va_P D xCl (xWZ k b u) H → va_D A (xWZ k b u) → va_S A s.heap H locs → W p l e { frames := 3, cells := 0, slots := 0, locals := 64 } s m args below meth c H locs (0) (0) Q (F0 m 24 ls [.int v5]) := by
      intro H locs ls v5 hv5 hl hP hD hS
      have hv := xlt_v hv5 hv
      refine lv_istore (lv' := [(5, .int v5), (4, .int v2), (0, .ref ((b 0))), (1, .int p0), (2, .int p1), (3, .int p2)]) hx hb xd_Z_isAllowed_24 hl (by decide) rfl (fun ls hl => ?_)
      refine lv_iload_n hx hb xd_Z_isAllowed_26 rfl (lv_at hl 4 rfl) ?_
      refine lv_iconst (v := 4) hx hb xd_Z_isAllowed_27 (by decide) ?_
      refine lv_iand hx hb xd_Z_isAllowed_28 ?_
      have hj9 : ∀ (H : Heap) (locs : List Loc) (ls : Array Slot) (v8 : Int32), v8 = (if (p1 &&& (4 : Int32)) = 0 then (0) else (1)) → lv_has ls 16 [(5, .int v5), (4, .int v2), (0, .ref ((b 0))), (1, .int p0), (2, .int p1), (3, .int p2)] → va_P D xCl (xWZ k b u) H → va_D A (xWZ k b u) → va_S A s.heap H locs → W p l e { frames := 3, cells := 0, slots := 0, locals := 64 } s m args below meth c H locs (0) (0) Q (F0 m 37 ls [.int v8]) := by
        intro H locs ls v8 hv8 hl hP hD hS
        have hv := xlt_v hv8 hv
        refine lv_istore (lv' := [(6, .int v8), (5, .int v5), (4, .int v2), (0, .ref ((b 0))), (1, .int p0), (2, .int p1), (3, .int p2)]) hx hb xd_Z_isAllowed_37 hl (by decide) rfl (fun ls hl => ?_)
        refine lv_iload_n hx hb xd_Z_isAllowed_39 rfl (lv_at hl 5 rfl) ?_
        refine lv_bipush (v := 8) hx hb xd_Z_isAllowed_40 (by decide) ?_
        refine lv_iand hx hb xd_Z_isAllowed_42 ?_
        have hj12 : ∀ (H : Heap) (locs : List Loc) (ls : Array Slot) (v11 : Int32), v11 = (if (p1 &&& (8 : Int32)) = 0 then (0) else (1)) → lv_has ls 16 [(6, .int v8), (5, .int v5), (4, .int v2), (0, .ref ((b 0))), (1, .int p0), (2, .int p1), (3, .int p2)] → va_P D xCl (xWZ k b u) H → va_D A (xWZ k b u) → va_S A s.heap H locs → W p l e { frames := 3, cells := 0, slots := 0, locals := 64 } s m args below meth c H locs (0) (0) Q (F0 m 51 ls [.int v11]) := by
          intro H locs ls v11 hv11 hl hP hD hS
          have hv := xlt_v hv11 hv
          refine lv_istore (lv' := [(7, .int v11), (6, .int v8), (5, .int v5), (4, .int v2), (0, .ref ((b 0))), (1, .int p0), (2, .int p1), (3, .int p2)]) hx hb xd_Z_isAllowed_51 hl (by decide) rfl (fun ls hl => ?_)
          refine lv_iload_n hx hb xd_Z_isAllowed_53 rfl (lv_at hl 6 rfl) ?_
          refine lv_bipush (v := 16) hx hb xd_Z_isAllowed_54 (by decide) ?_
          refine lv_iand hx hb xd_Z_isAllowed_56 ?_
          have hj15 : ∀ (H : Heap) (locs : List Loc) (ls : Array Slot) (v14 : Int32), v14 = (if (p1 &&& (16 : Int32)) = 0 then (0) else (1)) → lv_has ls 16 [(7, .int v11), (6, .int v8), (5, .int v5), (4, .int v2), (0, .ref ((b 0))), (1, .int p0), (2, .int p1), (3, .int p2)] → va_P D xCl (xWZ k b u) H → va_D A (xWZ k b u) → va_S A s.heap H locs → W p l e { frames := 3, cells := 0, slots := 0, locals := 64 } s m args below meth c H locs (0) (0) Q (F0 m 65 ls [.int v14]) := by
            intro H locs ls v14 hv14 hl hP hD hS
            have hv := xlt_v hv14 hv
            refine lv_istore (lv' := [(8, .int v14), (7, .int v11), (6, .int v8), (5, .int v5), (4, .int v2), (0, .ref ((b 0))), (1, .int p0), (2, .int p1), (3, .int p2)]) hx hb xd_Z_isAllowed_65 hl (by decide) rfl (fun ls hl => ?_)
            refine lv_iload hx hb xd_Z_isAllowed_67 (lv_at hl 3 rfl) ?_
            have hj20 : ∀ (H : Heap) (locs : List Loc) (ls : Array Slot) (v19 : Int32), v19 = (if v5 = 0 then (if v8 = 0 then (if v11 = 0 then (0) else (1)) else (1)) else (1)) → lv_has ls 16 [(8, .int v14), (7, .int v11), (6, .int v8), (5, .int v5), (4, .int v2), (0, .ref ((b 0))), (1, .int p0), (2, .int p1), (3, .int p2)] → va_P D xCl (xWZ k b u) H → va_D A (xWZ k b u) → va_S A s.heap H locs → W p l e { frames := 3, cells := 0, slots := 0, locals := 64 } s m args below meth c H locs (0) (0) Q (F0 m 87 ls [.int v19]) := by
              intro H locs ls v19 hv19 hl hP hD hS
              have hv := xlt_v hv19 hv
              refine lv_istore (lv' := [(9, .int v19), (8, .int v14), (7, .int v11), (6, .int v8), (5, .int v5), (4, .int v2), (0, .ref ((b 0))), (1, .int p0), (2, .int p1), (3, .int p2)]) hx hb xd_Z_isAllowed_87 hl (by decide) rfl (fun ls hl => ?_)
              refine lv_aload_n hx hb xd_Z_isAllowed_89 rfl (lv_at hl 6 rfl) ?_
              refine xget_Z_kind (v := (xg_Z_kind u)) hx hb htg hown hK hP (htg _ xw_747) rfl xd_Z_isAllowed_90 ?_
              refine lv_iconst (v := 2) hx hb xd_Z_isAllowed_93 (by decide) ?_
              have hj24 : ∀ (H : Heap) (locs : List Loc) (ls : Array Slot) (v23 : Int32), v23 = (if (xg_Z_kind u) = 2 then (if p2 = 0 then (1) else (0)) else (0)) → lv_has ls 16 [(9, .int v19), (8, .int v14), (7, .int v11), (6, .int v8), (5, .int v5), (4, .int v2), (0, .ref ((b 0))), (1, .int p0), (2, .int p1), (3, .int p2)] → va_P D xCl (xWZ k b u) H → va_D A (xWZ k b u) → va_S A s.heap H locs → W p l e { frames := 3, cells := 0, slots := 0, locals := 64 } s m args below meth c H locs (0) (0) Q (F0 m 106 ls [.int v23]) := by
                intro H locs ls v23 hv23 hl hP hD hS
                have hv := xlt_v hv23 hv
                refine lv_istore (lv' := [(10, .int v23), (9, .int v19), (8, .int v14), (7, .int v11), (6, .int v8), (5, .int v5), (4, .int v2), (0, .ref ((b 0))), (1, .int p0), (2, .int p1), (3, .int p2)]) hx hb xd_Z_isAllowed_106 hl (by decide) rfl (fun ls hl => ?_)
                refine lv_aload_n hx hb xd_Z_isAllowed_108 rfl (lv_at hl 7 rfl) ?_
                refine xget_Z_kind (v := (xg_Z_kind u)) hx hb htg hown hK hP (htg _ xw_747) rfl xd_Z_isAllowed_109 ?_
                have hj28 : ∀ (H : Heap) (locs : List Loc) (ls : Array Slot) (v27 : Int32), v27 = (if (xg_Z_kind u) = 0 then (if p2 = 0 then (1) else (0)) else (0)) → lv_has ls 16 [(10, .int v23), (9, .int v19), (8, .int v14), (7, .int v11), (6, .int v8), (5, .int v5), (4, .int v2), (0, .ref ((b 0))), (1, .int p0), (2, .int p1), (3, .int p2)] → va_P D xCl (xWZ k b u) H → va_D A (xWZ k b u) → va_S A s.heap H locs → W p l e { frames := 3, cells := 0, slots := 0, locals := 64 } s m args below meth c H locs (0) (0) Q (F0 m 124 ls [.int v27]) := by
                  intro H locs ls v27 hv27 hl hP hD hS
                  have hv := xlt_v hv27 hv
                  refine lv_istore (lv' := [(11, .int v27), (10, .int v23), (9, .int v19), (8, .int v14), (7, .int v11), (6, .int v8), (5, .int v5), (4, .int v2), (0, .ref ((b 0))), (1, .int p0), (2, .int p1), (3, .int p2)]) hx hb xd_Z_isAllowed_124 hl (by decide) rfl (fun ls hl => ?_)
                  refine lv_iload_n hx hb xd_Z_isAllowed_126 rfl (lv_at hl 11 rfl) ?_
                  obtain ⟨hva, hv⟩ := xan_v2 hv
                  have hj38 : ∀ (H : Heap) (locs : List Loc) (ls : Array Slot) (v37 : Int32), v37 = (if p2 = 0 then (xlt (xf_Z_bit u (256 : Int32) (19 : Int32) : Int32) fun q30 => if q30 = 0 then (if p0 = 1 then (xlt (xf_Z_bit u (512 : Int32) (19 : Int32) : Int32) fun q34 => if q34 = 0 then (0) else (1)) else (0)) else (1)) else (0)) → lv_has ls 16 [(11, .int v27), (10, .int v23), (9, .int v19), (8, .int v14), (7, .int v11), (6, .int v8), (5, .int v5), (4, .int v2), (0, .ref ((b 0))), (1, .int p0), (2, .int p1), (3, .int p2)] → va_P D xCl (xWZ k b u) H → va_D A (xWZ k b u) → va_S A s.heap H locs → W p l e { frames := 3, cells := 0, slots := 0, locals := 64 } s m args below meth c H locs (0) (0) Q (F0 m 164 ls [.int v37]) := by
                    intro H locs ls v37 hv37 hl hP hD hS
                    have hv := xlt_v hv37 hv
                    refine lv_istore (lv' := [(12, .int v37), (11, .int v27), (10, .int v23), (9, .int v19), (8, .int v14), (7, .int v11), (6, .int v8), (5, .int v5), (4, .int v2), (0, .ref ((b 0))), (1, .int p0), (2, .int p1), (3, .int p2)]) hx hb xd_Z_isAllowed_164 hl (by decide) rfl (fun ls hl => ?_)
                    refine lv_iload hx hb xd_Z_isAllowed_166 (lv_at hl 2 rfl) ?_
                    have hj50 : ∀ (H : Heap) (locs : List Loc) (ls : Array Slot) (v49 : Int32), v49 = (if v23 = 0 then (if v27 = 0 then (if (xz (xg_Z_executes u)) = 0 then (if v5 = 0 then (if v37 = 0 then (0) else (if v11 = 0 then (0) else (1))) else (1)) else (if p2 = 0 then (v11) else (if v5 = 0 then (if v37 = 0 then (0) else (if v11 = 0 then (0) else (1))) else (1)))) else (v11)) else (v8)) → lv_has ls 16 [(12, .int v37), (11, .int v27), (10, .int v23), (9, .int v19), (8, .int v14), (7, .int v11), (6, .int v8), (5, .int v5), (4, .int v2), (0, .ref ((b 0))), (1, .int p0), (2, .int p1), (3, .int p2)] → va_P D xCl (xWZ k b u) H → va_D A (xWZ k b u) → va_S A s.heap H locs → W p l e { frames := 3, cells := 0, slots := 0, locals := 64 } s m args below meth c H locs (0) (0) Q (F0 m 217 ls [.int v49]) := by
                      intro H locs ls v49 hv49 hl hP hD hS
                      have hv := xlt_v hv49 hv
                      refine lv_istore (lv' := [(13, .int v49), (12, .int v37), (11, .int v27), (10, .int v23), (9, .int v19), (8, .int v14), (7, .int v11), (6, .int v8), (5, .int v5), (4, .int v2), (0, .ref ((b 0))), (1, .int p0), (2, .int p1), (3, .int p2)]) hx hb xd_Z_isAllowed_217 hl (by decide) rfl (fun ls hl => ?_)
                      refine lv_aload_n hx hb xd_Z_isAllowed_219 rfl (lv_at hl 10 rfl) ?_
                      refine xget_Z_kind (v := (xg_Z_kind u)) hx hb htg hown hK hP (htg _ xw_747) rfl xd_Z_isAllowed_220 ?_
                      obtain ⟨hva, hv⟩ := xan_v2 hv
                      have hj60 : ∀ (H : Heap) (locs : List Loc) (ls : Array Slot) (v59 : Int32), v59 = (if (xg_Z_kind u) = 0 then (0) else (xlt (if p0 = 1 then (512) else (256) : Int32) fun v53 => xlt (xf_Z_bit u v53 (18 : Int32) : Int32) fun q55 => if q55 = 0 then (0) else (1))) → lv_has ls 16 [(13, .int v49), (12, .int v37), (11, .int v27), (10, .int v23), (9, .int v19), (8, .int v14), (7, .int v11), (6, .int v8), (5, .int v5), (4, .int v2), (0, .ref ((b 0))), (1, .int p0), (2, .int p1), (3, .int p2)] → va_P D xCl (xWZ k b u) H → va_D A (xWZ k b u) → va_S A s.heap H locs → W p l e { frames := 3, cells := 0, slots := 0, locals := 64 } s m args below meth c H locs (0) (0) Q (F0 m 254 ls [.int v59]) := by
                        intro H locs ls v59 hv59 hl hP hD hS
                        have hv := xlt_v hv59 hv
                        refine lv_istore (lv' := [(14, .int v59), (13, .int v49), (12, .int v37), (11, .int v27), (10, .int v23), (9, .int v19), (8, .int v14), (7, .int v11), (6, .int v8), (5, .int v5), (4, .int v2), (0, .ref ((b 0))), (1, .int p0), (2, .int p1), (3, .int p2)]) hx hb xd_Z_isAllowed_254 hl (by decide) rfl (fun ls hl => ?_)
                        refine lv_iload_n hx hb xd_Z_isAllowed_256 rfl (lv_at hl 12 rfl) ?_
                        refine lv_iconst (v := 2) hx hb xd_Z_isAllowed_257 (by decide) ?_
                        have hj66 : ∀ (H : Heap) (locs : List Loc) (ls : Array Slot) (v65 : Int32), v65 = (if p0 = 2 then (v14) else (if (xz (xg_Z_user u)) = 0 then (if v14 = 0 then (1) else (if v59 = 0 then (0) else (1))) else (v14))) → lv_has ls 16 [(14, .int v59), (13, .int v49), (12, .int v37), (11, .int v27), (10, .int v23), (9, .int v19), (8, .int v14), (7, .int v11), (6, .int v8), (5, .int v5), (4, .int v2), (0, .ref ((b 0))), (1, .int p0), (2, .int p1), (3, .int p2)] → va_P D xCl (xWZ k b u) H → va_D A (xWZ k b u) → va_S A s.heap H locs → W p l e { frames := 3, cells := 0, slots := 0, locals := 64 } s m args below meth c H locs (0) (0) Q (F0 m 288 ls [.int v65]) := by
                          intro H locs ls v65 hv65 hl hP hD hS
                          have hv := xlt_v hv65 hv
                          refine lv_istore (lv' := [(15, .int v65), (14, .int v59), (13, .int v49), (12, .int v37), (11, .int v27), (10, .int v23), (9, .int v19), (8, .int v14), (7, .int v11), (6, .int v8), (5, .int v5), (4, .int v2), (0, .ref ((b 0))), (1, .int p0), (2, .int p1), (3, .int p2)]) hx hb xd_Z_isAllowed_288 hl (by decide) rfl (fun ls hl => ?_)
                          refine lv_iload hx hb xd_Z_isAllowed_290 (lv_at hl 11 rfl) ?_
                          have hj82 : ∀ (H : Heap) (locs : List Loc) (ls : Array Slot) (v81 : Int32), v81 = (if v2 = 0 then (0) else (if v19 = 0 then (0) else (if v8 = 0 then (if v49 = 0 then (0) else (if v65 = 0 then (0) else (if (p1 &&& (64 : Int32)) = 0 then (0) else (if v23 = 0 then (1) else (if (p1 &&& (128 : Int32)) = 0 then (0) else (1)))))) else (if v5 = 0 then (0) else (if v49 = 0 then (0) else (if v65 = 0 then (0) else (if (p1 &&& (64 : Int32)) = 0 then (0) else (if v23 = 0 then (1) else (if (p1 &&& (128 : Int32)) = 0 then (0) else (1)))))))))) → lv_has ls 16 [(15, .int v65), (14, .int v59), (13, .int v49), (12, .int v37), (11, .int v27), (10, .int v23), (9, .int v19), (8, .int v14), (7, .int v11), (6, .int v8), (5, .int v5), (4, .int v2), (0, .ref ((b 0))), (1, .int p0), (2, .int p1), (3, .int p2)] → va_P D xCl (xWZ k b u) H → va_D A (xWZ k b u) → va_S A s.heap H locs → W p l e { frames := 3, cells := 0, slots := 0, locals := 64 } s m args below meth c H locs (0) (0) Q (F0 m 345 ls [.int v81]) := by
                            intro H locs ls v81 hv81 hl hP hD hS
                            have hv := xlt_v hv81 hv
                            exact hret _ u H locs ls _ (xnar (X01_of hv81 (xit_01 (Or.inl rfl) (xit_01 (Or.inl rfl) (xit_01 (xit_01 (Or.inl rfl) (xit_01 (Or.inl rfl) (xit_01 (Or.inl rfl) (xit_01 (Or.inr rfl) (xit_01 (Or.inl rfl) (Or.inr rfl)))))) (xit_01 (Or.inl rfl) (xit_01 (Or.inl rfl) (xit_01 (Or.inl rfl) (xit_01 (Or.inl rfl) (xit_01 (Or.inr rfl) (xit_01 (Or.inl rfl) (Or.inr rfl)))))))))))) ⟨(by unfold xf_Z_isAllowed; exact (xlt_e hv2 (xlt_e hv5 (xlt_e hv8 (xlt_e hv11 (xlt_e hv14 (xlt_e hv19 (xlt_e hv23 (xlt_e hv27 (xlt_e hv37 (xlt_e hv49 (xlt_e hv59 (xlt_e hv65 (xlt_e hv81 rfl)))))))))))))), rfl⟩ hP hD hS xd_Z_isAllowed_345
                          refine lv_if_eq (tgt := 344) hx hb xd_Z_isAllowed_292 rfl (fun h83 => ?_) (fun h83 => ?_)
                          · refine lv_iconst (v := 0) hx hb xd_Z_isAllowed_344 (by decide) ?_
                            exact hj82 H locs ls (0 : Int32) (xit h83 rfl) hl hP hD hS
                          · refine lv_iload hx hb xd_Z_isAllowed_295 (lv_at hl 6 rfl) ?_
                            refine lv_if_eq (tgt := 344) hx hb xd_Z_isAllowed_297 rfl (fun h84 => ?_) (fun h84 => ?_)
                            · refine lv_iconst (v := 0) hx hb xd_Z_isAllowed_344 (by decide) ?_
                              exact hj82 H locs ls (0 : Int32) (xif h83 (xit h84 rfl)) hl hP hD hS
                            · refine lv_iload hx hb xd_Z_isAllowed_300 (lv_at hl 9 rfl) ?_
                              refine lv_if_eq (tgt := 310) hx hb xd_Z_isAllowed_302 rfl (fun h85 => ?_) (fun h85 => ?_)
                              · refine lv_iload hx hb xd_Z_isAllowed_310 (lv_at hl 2 rfl) ?_
                                refine lv_if_eq (tgt := 344) hx hb xd_Z_isAllowed_312 rfl (fun h86 => ?_) (fun h86 => ?_)
                                · refine lv_iconst (v := 0) hx hb xd_Z_isAllowed_344 (by decide) ?_
                                  exact hj82 H locs ls (0 : Int32) (xif h83 (xif h84 (xit h85 (xit h86 rfl)))) hl hP hD hS
                                · refine lv_iload hx hb xd_Z_isAllowed_315 (lv_at hl 0 rfl) ?_
                                  refine lv_if_eq (tgt := 344) hx hb xd_Z_isAllowed_317 rfl (fun h87 => ?_) (fun h87 => ?_)
                                  · refine lv_iconst (v := 0) hx hb xd_Z_isAllowed_344 (by decide) ?_
                                    exact hj82 H locs ls (0 : Int32) (xif h83 (xif h84 (xit h85 (xif h86 (xit h87 rfl))))) hl hP hD hS
                                  · refine lv_iload_n hx hb xd_Z_isAllowed_320 rfl (lv_at hl 14 rfl) ?_
                                    refine lv_bipush (v := 64) hx hb xd_Z_isAllowed_321 (by decide) ?_
                                    refine lv_iand hx hb xd_Z_isAllowed_323 ?_
                                    refine lv_if_eq (tgt := 344) hx hb xd_Z_isAllowed_324 rfl (fun h88 => ?_) (fun h88 => ?_)
                                    · refine lv_iconst (v := 0) hx hb xd_Z_isAllowed_344 (by decide) ?_
                                      exact hj82 H locs ls (0 : Int32) (xif h83 (xif h84 (xit h85 (xif h86 (xif h87 (xit h88 rfl)))))) hl hP hD hS
                                    · refine lv_iload hx hb xd_Z_isAllowed_327 (lv_at hl 5 rfl) ?_
                                      refine lv_if_eq (tgt := 340) hx hb xd_Z_isAllowed_329 rfl (fun h89 => ?_) (fun h89 => ?_)
                                      · refine lv_iconst (v := 1) hx hb xd_Z_isAllowed_340 (by decide) ?_
                                        refine lv_goto (tgt := 345) hx hb xd_Z_isAllowed_341 rfl ?_
                                        exact hj82 H locs ls (1 : Int32) (xif h83 (xif h84 (xit h85 (xif h86 (xif h87 (xif h88 (xit h89 rfl))))))) hl hP hD hS
                                      · refine lv_iload_n hx hb xd_Z_isAllowed_332 rfl (lv_at hl 14 rfl) ?_
                                        refine lv_sipush (v := 128) hx hb xd_Z_isAllowed_333 (by decide) ?_
                                        refine lv_iand hx hb xd_Z_isAllowed_336 ?_
                                        refine lv_if_eq (tgt := 344) hx hb xd_Z_isAllowed_337 rfl (fun h90 => ?_) (fun h90 => ?_)
                                        · refine lv_iconst (v := 0) hx hb xd_Z_isAllowed_344 (by decide) ?_
                                          exact hj82 H locs ls (0 : Int32) (xif h83 (xif h84 (xit h85 (xif h86 (xif h87 (xif h88 (xif h89 (xit h90 rfl)))))))) hl hP hD hS
                                        · refine lv_iconst (v := 1) hx hb xd_Z_isAllowed_340 (by decide) ?_
                                          refine lv_goto (tgt := 345) hx hb xd_Z_isAllowed_341 rfl ?_
                                          exact hj82 H locs ls (1 : Int32) (xif h83 (xif h84 (xit h85 (xif h86 (xif h87 (xif h88 (xif h89 (xif h90 rfl)))))))) hl hP hD hS
                              · refine lv_iload hx hb xd_Z_isAllowed_305 (lv_at hl 10 rfl) ?_
                                refine lv_if_eq (tgt := 344) hx hb xd_Z_isAllowed_307 rfl (fun h91 => ?_) (fun h91 => ?_)
                                · refine lv_iconst (v := 0) hx hb xd_Z_isAllowed_344 (by decide) ?_
                                  exact hj82 H locs ls (0 : Int32) (xif h83 (xif h84 (xif h85 (xit h91 rfl)))) hl hP hD hS
                                · refine lv_iload hx hb xd_Z_isAllowed_310 (lv_at hl 2 rfl) ?_
                                  refine lv_if_eq (tgt := 344) hx hb xd_Z_isAllowed_312 rfl (fun h92 => ?_) (fun h92 => ?_)
                                  · refine lv_iconst (v := 0) hx hb xd_Z_isAllowed_344 (by decide) ?_
                                    exact hj82 H locs ls (0 : Int32) (xif h83 (xif h84 (xif h85 (xif h91 (xit h92 rfl))))) hl hP hD hS
                                  · refine lv_iload hx hb xd_Z_isAllowed_315 (lv_at hl 0 rfl) ?_
                                    refine lv_if_eq (tgt := 344) hx hb xd_Z_isAllowed_317 rfl (fun h93 => ?_) (fun h93 => ?_)
                                    · refine lv_iconst (v := 0) hx hb xd_Z_isAllowed_344 (by decide) ?_
                                      exact hj82 H locs ls (0 : Int32) (xif h83 (xif h84 (xif h85 (xif h91 (xif h92 (xit h93 rfl)))))) hl hP hD hS
                                    · refine lv_iload_n hx hb xd_Z_isAllowed_320 rfl (lv_at hl 14 rfl) ?_
                                      refine lv_bipush (v := 64) hx hb xd_Z_isAllowed_321 (by decide) ?_
                                      refine lv_iand hx hb xd_Z_isAllowed_323 ?_
                                      refine lv_if_eq (tgt := 344) hx hb xd_Z_isAllowed_324 rfl (fun h94 => ?_) (fun h94 => ?_)
                                      · refine lv_iconst (v := 0) hx hb xd_Z_isAllowed_344 (by decide) ?_
                                        exact hj82 H locs ls (0 : Int32) (xif h83 (xif h84 (xif h85 (xif h91 (xif h92 (xif h93 (xit h94 rfl))))))) hl hP hD hS
                                      · refine lv_iload hx hb xd_Z_isAllowed_327 (lv_at hl 5 rfl) ?_
                                        refine lv_if_eq (tgt := 340) hx hb xd_Z_isAllowed_329 rfl (fun h95 => ?_) (fun h95 => ?_)
                                        · refine lv_iconst (v := 1) hx hb xd_Z_isAllowed_340 (by decide) ?_
                                          refine lv_goto (tgt := 345) hx hb xd_Z_isAllowed_341 rfl ?_
                                          exact hj82 H locs ls (1 : Int32) (xif h83 (xif h84 (xif h85 (xif h91 (xif h92 (xif h93 (xif h94 (xit h95 rfl)))))))) hl hP hD hS
                                        · refine lv_iload_n hx hb xd_Z_isAllowed_332 rfl (lv_at hl 14 rfl) ?_
                                          refine lv_sipush (v := 128) hx hb xd_Z_isAllowed_333 (by decide) ?_
                                          refine lv_iand hx hb xd_Z_isAllowed_336 ?_
                                          refine lv_if_eq (tgt := 344) hx hb xd_Z_isAllowed_337 rfl (fun h96 => ?_) (fun h96 => ?_)
                                          · refine lv_iconst (v := 0) hx hb xd_Z_isAllowed_344 (by decide) ?_
                                            exact hj82 H locs ls (0 : Int32) (xif h83 (xif h84 (xif h85 (xif h91 (xif h92 (xif h93 (xif h94 (xif h95 (xit h96 rfl))))))))) hl hP hD hS
                                          · refine lv_iconst (v := 1) hx hb xd_Z_isAllowed_340 (by decide) ?_
                                            refine lv_goto (tgt := 345) hx hb xd_Z_isAllowed_341 rfl ?_
                                            exact hj82 H locs ls (1 : Int32) (xif h83 (xif h84 (xif h85 (xif h91 (xif h92 (xif h93 (xif h94 (xif h95 (xif h96 rfl))))))))) hl hP hD hS
                        refine lv_icmp_eq (tgt := 268) hx hb xd_Z_isAllowed_258 rfl (fun h97 => ?_) (fun h97 => ?_)
                        · refine lv_iload hx hb xd_Z_isAllowed_268 (lv_at hl 6 rfl) ?_
                          refine lv_goto (tgt := 288) hx hb xd_Z_isAllowed_270 rfl ?_
                          exact hj66 H locs ls v14 (xit h97 rfl) hl hP hD hS
                        · refine lv_aload_n hx hb xd_Z_isAllowed_261 rfl (lv_at hl 11 rfl) ?_
                          refine xget_Z_user (v := (xg_Z_user u)) hx hb htg hown hK hP (htg _ xw_749) rfl xd_Z_isAllowed_262 ?_
                          refine lv_if_eq (tgt := 273) hx hb xd_Z_isAllowed_265 rfl (fun h98 => ?_) (fun h98 => ?_)
                          · refine lv_iload hx hb xd_Z_isAllowed_273 (lv_at hl 6 rfl) ?_
                            refine lv_if_eq (tgt := 283) hx hb xd_Z_isAllowed_275 rfl (fun h99 => ?_) (fun h99 => ?_)
                            · refine lv_iconst (v := 1) hx hb xd_Z_isAllowed_283 (by decide) ?_
                              refine lv_goto (tgt := 288) hx hb xd_Z_isAllowed_284 rfl ?_
                              exact hj66 H locs ls (1 : Int32) (xif h97 (xit h98 (xit h99 rfl))) hl hP hD hS
                            · refine lv_iload hx hb xd_Z_isAllowed_278 (lv_at hl 0 rfl) ?_
                              refine lv_if_eq (tgt := 287) hx hb xd_Z_isAllowed_280 rfl (fun h100 => ?_) (fun h100 => ?_)
                              · refine lv_iconst (v := 0) hx hb xd_Z_isAllowed_287 (by decide) ?_
                                exact hj66 H locs ls (0 : Int32) (xif h97 (xit h98 (xif h99 (xit h100 rfl)))) hl hP hD hS
                              · refine lv_iconst (v := 1) hx hb xd_Z_isAllowed_283 (by decide) ?_
                                refine lv_goto (tgt := 288) hx hb xd_Z_isAllowed_284 rfl ?_
                                exact hj66 H locs ls (1 : Int32) (xif h97 (xit h98 (xif h99 (xif h100 rfl)))) hl hP hD hS
                          · refine lv_iload hx hb xd_Z_isAllowed_268 (lv_at hl 6 rfl) ?_
                            refine lv_goto (tgt := 288) hx hb xd_Z_isAllowed_270 rfl ?_
                            exact hj66 H locs ls v14 (xif h97 (xif h98 rfl)) hl hP hD hS
                      have hv := hva
                      refine lv_if_eq (tgt := 253) hx hb xd_Z_isAllowed_223 rfl (fun h101 => ?_) (fun h101 => ?_)
                      · have hv := xit_v h101 hv
                        refine lv_iconst (v := 0) hx hb xd_Z_isAllowed_253 (by decide) ?_
                        exact hj60 H locs ls (0 : Int32) (xit h101 rfl) hl hP hD hS
                      · have hv := xif_v h101 hv
                        refine lv_aload_n hx hb xd_Z_isAllowed_226 rfl (lv_at hl 10 rfl) ?_
                        refine lv_iload_n hx hb xd_Z_isAllowed_227 rfl (lv_at hl 11 rfl) ?_
                        refine lv_iconst (v := 1) hx hb xd_Z_isAllowed_228 (by decide) ?_
                        have hj104 : ∀ (H : Heap) (locs : List Loc) (ls : Array Slot) (v103 : Int32), v103 = (if p0 = 1 then (512) else (256)) → lv_has ls 16 [(13, .int v49), (12, .int v37), (11, .int v27), (10, .int v23), (9, .int v19), (8, .int v14), (7, .int v11), (6, .int v8), (5, .int v5), (4, .int v2), (0, .ref ((b 0))), (1, .int p0), (2, .int p1), (3, .int p2)] → va_P D xCl (xWZ k b u) H → va_D A (xWZ k b u) → va_S A s.heap H locs → W p l e { frames := 3, cells := 0, slots := 0, locals := 64 } s m args below meth c H locs (0) (0) Q (F0 m 241 ls [.int v103, .ref ((b 0))]) := by
                          intro H locs ls v103 hv103 hl hP hD hS
                          have hv := xlt_v hv103 hv
                          refine lv_bipush (v := 18) hx hb xd_Z_isAllowed_241 (by decide) ?_
                          obtain ⟨hn106, hv⟩ := xan_v hv
                          refine xcW_i (va_runV (As := [.int v103, .int 18]) (rest := []) ⟨hx, hb, hml, hown, htg⟩ (c_Z_bit l D z k b H.size u v103 (18 : Int32) hn106) (cwV 2 htg (xg_V0 xkin_Z_bit xw_867 xw_869 xsel_Z_bit xw_9) rfl rfl rfl (by decide +kernel) ⟨Nat.le_of_ble_eq_true rfl, Nat.le_of_ble_eq_true rfl⟩) ⟨xB_blind, xrecv_Z hK hP, fun U hU hW => xB_mk hP hK hD hE hS (xsubW hD hA hS) hU hW⟩ rfl rfl hl.1 rfl (lv_room (Nat.le_of_ble_eq_true rfl)) xd_Z_isAllowed_243 ⟨Nat.le_of_ble_eq_true rfl, Nat.le_of_ble_eq_true rfl⟩) hD hA hS (fun r u1 H locs hw hP hD hS => ?_)
                          obtain ⟨q105, hq105⟩ : ∃ q, q = xf_Z_bit u v103 (18 : Int32) := ⟨_, rfl⟩
                          obtain ⟨e1, e2⟩ := hw
                          rw [← hq105] at e1
                          obtain rfl : q105 = r := e1.symm
                          obtain rfl : u = u1 := e2.symm
                          have hP : va_P D xCl (xWZ k b u) H := hP
                          have hD : va_D A (xWZ k b u) := hD
                          have hv := xlt_v hq105 hv
                          refine lv_if_eq (tgt := 253) hx hb xd_Z_isAllowed_246 rfl (fun h107 => ?_) (fun h107 => ?_)
                          · have hv := xit_v h107 hv
                            refine lv_iconst (v := 0) hx hb xd_Z_isAllowed_253 (by decide) ?_
                            exact hj60 H locs ls (0 : Int32) (xif h101 (xlt_e hv103 (xlt_e hq105 (xit h107 rfl)))) hl hP hD hS
                          · have hv := xif_v h107 hv
                            refine lv_iconst (v := 1) hx hb xd_Z_isAllowed_249 (by decide) ?_
                            refine lv_goto (tgt := 254) hx hb xd_Z_isAllowed_250 rfl ?_
                            exact hj60 H locs ls (1 : Int32) (xif h101 (xlt_e hv103 (xlt_e hq105 (xif h107 rfl)))) hl hP hD hS
                        refine lv_icmp_ne (tgt := 238) hx hb xd_Z_isAllowed_229 rfl (fun h108 => ?_) (fun h108 => ?_)
                        · refine lv_sipush (v := 256) hx hb xd_Z_isAllowed_238 (by decide) ?_
                          exact hj104 H locs ls (256 : Int32) (xif h108 rfl) hl hP hD hS
                        · refine lv_sipush (v := 512) hx hb xd_Z_isAllowed_232 (by decide) ?_
                          refine lv_goto (tgt := 241) hx hb xd_Z_isAllowed_235 rfl ?_
                          exact hj104 H locs ls (512 : Int32) (xit h108 rfl) hl hP hD hS
                    refine lv_if_eq (tgt := 176) hx hb xd_Z_isAllowed_168 rfl (fun h109 => ?_) (fun h109 => ?_)
                    · refine lv_iload hx hb xd_Z_isAllowed_176 (lv_at hl 1 rfl) ?_
                      refine lv_if_ne (tgt := 192) hx hb xd_Z_isAllowed_178 rfl (fun h110 => ?_) (fun h110 => ?_)
                      · refine lv_iload hx hb xd_Z_isAllowed_192 (lv_at hl 5 rfl) ?_
                        refine lv_goto (tgt := 217) hx hb xd_Z_isAllowed_194 rfl ?_
                        exact hj50 H locs ls v11 (xit h109 (xif h110 rfl)) hl hP hD hS
                      · refine lv_aload_n hx hb xd_Z_isAllowed_181 rfl (lv_at hl 9 rfl) ?_
                        refine xget_Z_executes (v := (xg_Z_executes u)) hx hb htg hown hK hP (htg _ xw_750) rfl xd_Z_isAllowed_182 ?_
                        refine lv_if_eq (tgt := 197) hx hb xd_Z_isAllowed_185 rfl (fun h111 => ?_) (fun h111 => ?_)
                        · refine lv_iload hx hb xd_Z_isAllowed_197 (lv_at hl 7 rfl) ?_
                          refine lv_if_ne (tgt := 212) hx hb xd_Z_isAllowed_199 rfl (fun h112 => ?_) (fun h112 => ?_)
                          · refine lv_iconst (v := 1) hx hb xd_Z_isAllowed_212 (by decide) ?_
                            refine lv_goto (tgt := 217) hx hb xd_Z_isAllowed_213 rfl ?_
                            exact hj50 H locs ls (1 : Int32) (xit h109 (xit h110 (xit h111 (xif h112 rfl)))) hl hP hD hS
                          · refine lv_iload hx hb xd_Z_isAllowed_202 (lv_at hl 0 rfl) ?_
                            refine lv_if_eq (tgt := 216) hx hb xd_Z_isAllowed_204 rfl (fun h113 => ?_) (fun h113 => ?_)
                            · refine lv_iconst (v := 0) hx hb xd_Z_isAllowed_216 (by decide) ?_
                              exact hj50 H locs ls (0 : Int32) (xit h109 (xit h110 (xit h111 (xit h112 (xit h113 rfl))))) hl hP hD hS
                            · refine lv_iload hx hb xd_Z_isAllowed_207 (lv_at hl 5 rfl) ?_
                              refine lv_if_eq (tgt := 216) hx hb xd_Z_isAllowed_209 rfl (fun h114 => ?_) (fun h114 => ?_)
                              · refine lv_iconst (v := 0) hx hb xd_Z_isAllowed_216 (by decide) ?_
                                exact hj50 H locs ls (0 : Int32) (xit h109 (xit h110 (xit h111 (xit h112 (xif h113 (xit h114 rfl)))))) hl hP hD hS
                              · refine lv_iconst (v := 1) hx hb xd_Z_isAllowed_212 (by decide) ?_
                                refine lv_goto (tgt := 217) hx hb xd_Z_isAllowed_213 rfl ?_
                                exact hj50 H locs ls (1 : Int32) (xit h109 (xit h110 (xit h111 (xit h112 (xif h113 (xif h114 rfl)))))) hl hP hD hS
                        · refine lv_iload_n hx hb xd_Z_isAllowed_188 rfl (lv_at hl 12 rfl) ?_
                          refine lv_if_ne (tgt := 197) hx hb xd_Z_isAllowed_189 rfl (fun h115 => ?_) (fun h115 => ?_)
                          · refine lv_iload hx hb xd_Z_isAllowed_197 (lv_at hl 7 rfl) ?_
                            refine lv_if_ne (tgt := 212) hx hb xd_Z_isAllowed_199 rfl (fun h116 => ?_) (fun h116 => ?_)
                            · refine lv_iconst (v := 1) hx hb xd_Z_isAllowed_212 (by decide) ?_
                              refine lv_goto (tgt := 217) hx hb xd_Z_isAllowed_213 rfl ?_
                              exact hj50 H locs ls (1 : Int32) (xit h109 (xit h110 (xif h111 (xif h115 (xif h116 rfl))))) hl hP hD hS
                            · refine lv_iload hx hb xd_Z_isAllowed_202 (lv_at hl 0 rfl) ?_
                              refine lv_if_eq (tgt := 216) hx hb xd_Z_isAllowed_204 rfl (fun h117 => ?_) (fun h117 => ?_)
                              · refine lv_iconst (v := 0) hx hb xd_Z_isAllowed_216 (by decide) ?_
                                exact hj50 H locs ls (0 : Int32) (xit h109 (xit h110 (xif h111 (xif h115 (xit h116 (xit h117 rfl)))))) hl hP hD hS
                              · refine lv_iload hx hb xd_Z_isAllowed_207 (lv_at hl 5 rfl) ?_
                                refine lv_if_eq (tgt := 216) hx hb xd_Z_isAllowed_209 rfl (fun h118 => ?_) (fun h118 => ?_)
                                · refine lv_iconst (v := 0) hx hb xd_Z_isAllowed_216 (by decide) ?_
                                  exact hj50 H locs ls (0 : Int32) (xit h109 (xit h110 (xif h111 (xif h115 (xit h116 (xif h117 (xit h118 rfl))))))) hl hP hD hS
                                · refine lv_iconst (v := 1) hx hb xd_Z_isAllowed_212 (by decide) ?_
                                  refine lv_goto (tgt := 217) hx hb xd_Z_isAllowed_213 rfl ?_
                                  exact hj50 H locs ls (1 : Int32) (xit h109 (xit h110 (xif h111 (xif h115 (xit h116 (xif h117 (xif h118 rfl))))))) hl hP hD hS
                          · refine lv_iload hx hb xd_Z_isAllowed_192 (lv_at hl 5 rfl) ?_
                            refine lv_goto (tgt := 217) hx hb xd_Z_isAllowed_194 rfl ?_
                            exact hj50 H locs ls v11 (xit h109 (xit h110 (xif h111 (xit h115 rfl)))) hl hP hD hS
                    · refine lv_iload hx hb xd_Z_isAllowed_171 (lv_at hl 6 rfl) ?_
                      refine lv_goto (tgt := 217) hx hb xd_Z_isAllowed_173 rfl ?_
                      exact hj50 H locs ls v8 (xif h109 rfl) hl hP hD hS
                  have hv := hva
                  refine lv_if_ne (tgt := 163) hx hb xd_Z_isAllowed_127 rfl (fun h119 => ?_) (fun h119 => ?_)
                  · have hv := xif_v h119 hv
                    refine lv_iconst (v := 0) hx hb xd_Z_isAllowed_163 (by decide) ?_
                    exact hj38 H locs ls (0 : Int32) (xif h119 rfl) hl hP hD hS
                  · have hv := xit_v h119 hv
                    refine lv_aload_n hx hb xd_Z_isAllowed_130 rfl (lv_at hl 8 rfl) ?_
                    refine lv_sipush (v := 256) hx hb xd_Z_isAllowed_131 (by decide) ?_
                    refine lv_bipush (v := 19) hx hb xd_Z_isAllowed_134 (by decide) ?_
                    obtain ⟨hn121, hv⟩ := xan_v hv
                    refine xcW_i (va_runV (As := [.int 256, .int 19]) (rest := []) ⟨hx, hb, hml, hown, htg⟩ (c_Z_bit l D z k b H.size u (256 : Int32) (19 : Int32) hn121) (cwV 2 htg (xg_V0 xkin_Z_bit xw_867 xw_869 xsel_Z_bit xw_9) rfl rfl rfl (by decide +kernel) ⟨Nat.le_of_ble_eq_true rfl, Nat.le_of_ble_eq_true rfl⟩) ⟨xB_blind, xrecv_Z hK hP, fun U hU hW => xB_mk hP hK hD hE hS (xsubW hD hA hS) hU hW⟩ rfl rfl hl.1 rfl (lv_room (Nat.le_of_ble_eq_true rfl)) xd_Z_isAllowed_136 ⟨Nat.le_of_ble_eq_true rfl, Nat.le_of_ble_eq_true rfl⟩) hD hA hS (fun r u1 H locs hw hP hD hS => ?_)
                    obtain ⟨q120, hq120⟩ : ∃ q, q = xf_Z_bit u (256 : Int32) (19 : Int32) := ⟨_, rfl⟩
                    obtain ⟨e1, e2⟩ := hw
                    rw [← hq120] at e1
                    obtain rfl : q120 = r := e1.symm
                    obtain rfl : u = u1 := e2.symm
                    have hP : va_P D xCl (xWZ k b u) H := hP
                    have hD : va_D A (xWZ k b u) := hD
                    have hv := xlt_v hq120 hv
                    refine lv_if_ne (tgt := 159) hx hb xd_Z_isAllowed_139 rfl (fun h122 => ?_) (fun h122 => ?_)
                    · have hv := xif_v h122 hv
                      refine lv_iconst (v := 1) hx hb xd_Z_isAllowed_159 (by decide) ?_
                      refine lv_goto (tgt := 164) hx hb xd_Z_isAllowed_160 rfl ?_
                      exact hj38 H locs ls (1 : Int32) (xit h119 (xlt_e hq120 (xif h122 rfl))) hl hP hD hS
                    · have hv := xit_v h122 hv
                      refine lv_iload_n hx hb xd_Z_isAllowed_142 rfl (lv_at hl 9 rfl) ?_
                      refine lv_iconst (v := 1) hx hb xd_Z_isAllowed_143 (by decide) ?_
                      refine lv_icmp_ne (tgt := 163) hx hb xd_Z_isAllowed_144 rfl (fun h123 => ?_) (fun h123 => ?_)
                      · have hv := xif_v h123 hv
                        refine lv_iconst (v := 0) hx hb xd_Z_isAllowed_163 (by decide) ?_
                        exact hj38 H locs ls (0 : Int32) (xit h119 (xlt_e hq120 (xit h122 (xif h123 rfl)))) hl hP hD hS
                      · have hv := xit_v h123 hv
                        refine lv_aload_n hx hb xd_Z_isAllowed_147 rfl (lv_at hl 8 rfl) ?_
                        refine lv_sipush (v := 512) hx hb xd_Z_isAllowed_148 (by decide) ?_
                        refine lv_bipush (v := 19) hx hb xd_Z_isAllowed_151 (by decide) ?_
                        obtain ⟨hn125, hv⟩ := xan_v hv
                        refine xcW_i (va_runV (As := [.int 512, .int 19]) (rest := []) ⟨hx, hb, hml, hown, htg⟩ (c_Z_bit l D z k b H.size u (512 : Int32) (19 : Int32) hn125) (cwV 2 htg (xg_V0 xkin_Z_bit xw_867 xw_869 xsel_Z_bit xw_9) rfl rfl rfl (by decide +kernel) ⟨Nat.le_of_ble_eq_true rfl, Nat.le_of_ble_eq_true rfl⟩) ⟨xB_blind, xrecv_Z hK hP, fun U hU hW => xB_mk hP hK hD hE hS (xsubW hD hA hS) hU hW⟩ rfl rfl hl.1 rfl (lv_room (Nat.le_of_ble_eq_true rfl)) xd_Z_isAllowed_153 ⟨Nat.le_of_ble_eq_true rfl, Nat.le_of_ble_eq_true rfl⟩) hD hA hS (fun r u1 H locs hw hP hD hS => ?_)
                        obtain ⟨q124, hq124⟩ : ∃ q, q = xf_Z_bit u (512 : Int32) (19 : Int32) := ⟨_, rfl⟩
                        obtain ⟨e1, e2⟩ := hw
                        rw [← hq124] at e1
                        obtain rfl : q124 = r := e1.symm
                        obtain rfl : u = u1 := e2.symm
                        have hP : va_P D xCl (xWZ k b u) H := hP
                        have hD : va_D A (xWZ k b u) := hD
                        have hv := xlt_v hq124 hv
                        refine lv_if_eq (tgt := 163) hx hb xd_Z_isAllowed_156 rfl (fun h126 => ?_) (fun h126 => ?_)
                        · have hv := xit_v h126 hv
                          refine lv_iconst (v := 0) hx hb xd_Z_isAllowed_163 (by decide) ?_
                          exact hj38 H locs ls (0 : Int32) (xit h119 (xlt_e hq120 (xit h122 (xit h123 (xlt_e hq124 (xit h126 rfl)))))) hl hP hD hS
                        · have hv := xif_v h126 hv
                          refine lv_iconst (v := 1) hx hb xd_Z_isAllowed_159 (by decide) ?_
                          refine lv_goto (tgt := 164) hx hb xd_Z_isAllowed_160 rfl ?_
                          exact hj38 H locs ls (1 : Int32) (xit h119 (xlt_e hq120 (xit h122 (xit h123 (xlt_e hq124 (xif h126 rfl)))))) hl hP hD hS
                refine lv_if_ne (tgt := 123) hx hb xd_Z_isAllowed_112 rfl (fun h127 => ?_) (fun h127 => ?_)
                · refine lv_iconst (v := 0) hx hb xd_Z_isAllowed_123 (by decide) ?_
                  exact hj28 H locs ls (0 : Int32) (xif h127 rfl) hl hP hD hS
                · refine lv_iload_n hx hb xd_Z_isAllowed_115 rfl (lv_at hl 10 rfl) ?_
                  refine lv_if_ne (tgt := 123) hx hb xd_Z_isAllowed_116 rfl (fun h128 => ?_) (fun h128 => ?_)
                  · refine lv_iconst (v := 0) hx hb xd_Z_isAllowed_123 (by decide) ?_
                    exact hj28 H locs ls (0 : Int32) (xit h127 (xif h128 rfl)) hl hP hD hS
                  · refine lv_iconst (v := 1) hx hb xd_Z_isAllowed_119 (by decide) ?_
                    refine lv_goto (tgt := 124) hx hb xd_Z_isAllowed_120 rfl ?_
                    exact hj28 H locs ls (1 : Int32) (xit h127 (xit h128 rfl)) hl hP hD hS
              refine lv_icmp_ne (tgt := 105) hx hb xd_Z_isAllowed_94 rfl (fun h129 => ?_) (fun h129 => ?_)
              · refine lv_iconst (v := 0) hx hb xd_Z_isAllowed_105 (by decide) ?_
                exact hj24 H locs ls (0 : Int32) (xif h129 rfl) hl hP hD hS
              · refine lv_iload_n hx hb xd_Z_isAllowed_97 rfl (lv_at hl 9 rfl) ?_
                refine lv_if_ne (tgt := 105) hx hb xd_Z_isAllowed_98 rfl (fun h130 => ?_) (fun h130 => ?_)
                · refine lv_iconst (v := 0) hx hb xd_Z_isAllowed_105 (by decide) ?_
                  exact hj24 H locs ls (0 : Int32) (xit h129 (xif h130 rfl)) hl hP hD hS
                · refine lv_iconst (v := 1) hx hb xd_Z_isAllowed_101 (by decide) ?_
                  refine lv_goto (tgt := 106) hx hb xd_Z_isAllowed_102 rfl ?_
                  exact hj24 H locs ls (1 : Int32) (xit h129 (xit h130 rfl)) hl hP hD hS
            refine lv_if_ne (tgt := 82) hx hb xd_Z_isAllowed_69 rfl (fun h131 => ?_) (fun h131 => ?_)
            · refine lv_iconst (v := 1) hx hb xd_Z_isAllowed_82 (by decide) ?_
              refine lv_goto (tgt := 87) hx hb xd_Z_isAllowed_83 rfl ?_
              exact hj20 H locs ls (1 : Int32) (xif h131 rfl) hl hP hD hS
            · refine lv_iload hx hb xd_Z_isAllowed_72 (lv_at hl 2 rfl) ?_
              refine lv_if_ne (tgt := 82) hx hb xd_Z_isAllowed_74 rfl (fun h132 => ?_) (fun h132 => ?_)
              · refine lv_iconst (v := 1) hx hb xd_Z_isAllowed_82 (by decide) ?_
                refine lv_goto (tgt := 87) hx hb xd_Z_isAllowed_83 rfl ?_
                exact hj20 H locs ls (1 : Int32) (xit h131 (xif h132 rfl)) hl hP hD hS
              · refine lv_iload hx hb xd_Z_isAllowed_77 (lv_at hl 1 rfl) ?_
                refine lv_if_eq (tgt := 86) hx hb xd_Z_isAllowed_79 rfl (fun h133 => ?_) (fun h133 => ?_)
                · refine lv_iconst (v := 0) hx hb xd_Z_isAllowed_86 (by decide) ?_
                  exact hj20 H locs ls (0 : Int32) (xit h131 (xit h132 (xit h133 rfl))) hl hP hD hS
                · refine lv_iconst (v := 1) hx hb xd_Z_isAllowed_82 (by decide) ?_
                  refine lv_goto (tgt := 87) hx hb xd_Z_isAllowed_83 rfl ?_
                  exact hj20 H locs ls (1 : Int32) (xit h131 (xit h132 (xif h133 rfl))) hl hP hD hS
          refine lv_if_eq (tgt := 64) hx hb xd_Z_isAllowed_57 rfl (fun h134 => ?_) (fun h134 => ?_)
          · refine lv_iconst (v := 0) hx hb xd_Z_isAllowed_64 (by decide) ?_
            exact hj15 H locs ls (0 : Int32) (xit h134 rfl) hl hP hD hS
          · refine lv_iconst (v := 1) hx hb xd_Z_isAllowed_60 (by decide) ?_
            refine lv_goto (tgt := 65) hx hb xd_Z_isAllowed_61 rfl ?_
            exact hj15 H locs ls (1 : Int32) (xif h134 rfl) hl hP hD hS
        refine lv_if_eq (tgt := 50) hx hb xd_Z_isAllowed_43 rfl (fun h135 => ?_) (fun h135 => ?_)
        · refine lv_iconst (v := 0) hx hb xd_Z_isAllowed_50 (by decide) ?_
          exact hj12 H locs ls (0 : Int32) (xit h135 rfl) hl hP hD hS
        · refine lv_iconst (v := 1) hx hb xd_Z_isAllowed_46 (by decide) ?_
          refine lv_goto (tgt := 51) hx hb xd_Z_isAllowed_47 rfl ?_
          exact hj12 H locs ls (1 : Int32) (xif h135 rfl) hl hP hD hS
      refine lv_if_eq (tgt := 36) hx hb xd_Z_isAllowed_29 rfl (fun h136 => ?_) (fun h136 => ?_)
      · refine lv_iconst (v := 0) hx hb xd_Z_isAllowed_36 (by decide) ?_
        exact hj9 H locs ls (0 : Int32) (xit h136 rfl) hl hP hD hS
      · refine lv_iconst (v := 1) hx hb xd_Z_isAllowed_32 (by decide) ?_
        refine lv_goto (tgt := 37) hx hb xd_Z_isAllowed_33 rfl ?_
        exact hj9 H locs ls (1 : Int32) (xif h136 rfl) hl hP hD hS
    refine lv_if_eq (tgt := 23) hx hb xd_Z_isAllowed_16 rfl (fun h137 => ?_) (fun h137 => ?_)
    · refine lv_iconst (v := 0) hx hb xd_Z_isAllowed_23 (by decide) ?_
      exact hj6 H locs ls (0 : Int32) (xit h137 rfl) hl hP hD hS
    · refine lv_iconst (v := 1) hx hb xd_Z_isAllowed_19 (by decide) ?_
      refine lv_goto (tgt := 24) hx hb xd_Z_isAllowed_20 rfl ?_
      exact hj6 H locs ls (1 : Int32) (xif h137 rfl) hl hP hD hS
  refine lv_if_eq (tgt := 10) hx hb xd_Z_isAllowed_3 rfl (fun h138 => ?_) (fun h138 => ?_)
  · refine lv_iconst (v := 0) hx hb xd_Z_isAllowed_10 (by decide) ?_
    exact hj3 H locs ls (0 : Int32) (xit h138 rfl) hl hP hD hS
  · refine lv_iconst (v := 1) hx hb xd_Z_isAllowed_6 (by decide) ?_
    refine lv_goto (tgt := 11) hx hb xd_Z_isAllowed_7 rfl ?_
    exact hj3 H locs ls (1 : Int32) (xif h138 rfl) hl hP hD hS
theorem xt01_Z_isAllowed (u : XZ) (p0 : Int32) (p1 : Int32) (p2 : Int32) : X01 (xf_Z_isAllowed u p0 p1 p2) := by unfold xf_Z_isAllowed; exact (xlt_01 (fun v2 hv2 => (xlt_01 (fun v5 hv5 => (xlt_01 (fun v8 hv8 => (xlt_01 (fun v11 hv11 => (xlt_01 (fun v14 hv14 => (xlt_01 (fun v19 hv19 => (xlt_01 (fun v23 hv23 => (xlt_01 (fun v27 hv27 => (xlt_01 (fun v37 hv37 => (xlt_01 (fun v49 hv49 => (xlt_01 (fun v59 hv59 => (xlt_01 (fun v65 hv65 => (xlt_01 (fun v81 hv81 => (X01_of hv81 (xit_01 (Or.inl rfl) (xit_01 (Or.inl rfl) (xit_01 (xit_01 (Or.inl rfl) (xit_01 (Or.inl rfl) (xit_01 (Or.inl rfl) (xit_01 (Or.inr rfl) (xit_01 (Or.inl rfl) (Or.inr rfl)))))) (xit_01 (Or.inl rfl) (xit_01 (Or.inl rfl) (xit_01 (Or.inl rfl) (xit_01 (Or.inl rfl) (xit_01 (Or.inr rfl) (xit_01 (Or.inl rfl) (Or.inr rfl)))))))))))))))))))))))))))))))))))))
