noncomputable def xf_H_isVirtual (p0 : Int32) : Int32 :=
  xlt (if p0 < 2 then (0) else (1) : Int32) fun v2 =>
  v2
set_option maxHeartbeats 4000000 in
set_option maxRecDepth 100000 in
theorem c_H_isVirtual (l : Launch) (D : va_G) (tys : List (ClassId × FieldType)) (z : (Nat → Nat) × (Nat → Nat)) (sz : Nat) (p0 : Int32) : Met l xy_H_isVirtual (xk_H_isVirtual :: lw_g) { frames := 0, cells := 0, slots := 0, locals := 0 } (va_Pc [.int p0] (xB D tys z sz [])) (va_Qi (fun r (_ : Unit) => r = xf_H_isVirtual p0) (fun _ t => xQ D tys [] (va_A [] sz) t) (va_A [] sz)) 0 0 (va_A [] sz) := by
  refine xopen_z (lv := [(0, .int p0)]) (by decide) rfl (Nat.le_of_ble_eq_true rfl) ?_
  intro p e s m args below meth c Q ls A H locs hx hb hml htg hown hin hK hP hD hE hS hA hl hret
  refine lv_iload_n hx hb xd_H_isVirtual_0 rfl (lv_at hl 0 rfl) ?_
  refine lv_iconst (v := 2) hx hb xd_H_isVirtual_1 (by decide) ?_
  have hj3 : ∀ (H : Heap) (locs : List Loc) (ls : Array Slot) (v2 : Int32), v2 = (if p0 < 2 then (0) else (1)) → lv_has ls 1 [(0, .int p0)] → va_P D xCl [] H → va_D A [] → va_S A s.heap H locs → W p l e { frames := 0, cells := 0, slots := 0, locals := 0 } s m args below meth c H locs (0) (0) Q (F0 m 10 ls [.int v2]) := by
    intro H locs ls v2 hv2 hl hP hD hS
    exact hret _ () H locs ls _ (xnar (X01_of hv2 (xit_01 (Or.inl rfl) (Or.inr rfl)))) (by unfold xf_H_isVirtual; exact (xlt_e hv2 rfl)) hP hD hS xd_H_isVirtual_10
  refine lv_icmp_lt (tgt := 9) hx hb xd_H_isVirtual_2 rfl (fun h4 => ?_) (fun h4 => ?_)
  · refine lv_iconst (v := 0) hx hb xd_H_isVirtual_9 (by decide) ?_
    exact hj3 H locs ls (0 : Int32) (xit h4 rfl) hl hP hD hS
  · refine lv_iconst (v := 1) hx hb xd_H_isVirtual_5 (by decide) ?_
    refine lv_goto (tgt := 10) hx hb xd_H_isVirtual_6 rfl ?_
    exact hj3 H locs ls (1 : Int32) (xif h4 rfl) hl hP hD hS
theorem xt01_H_isVirtual (p0 : Int32) : X01 (xf_H_isVirtual p0) := by unfold xf_H_isVirtual; exact (xlt_01 (fun v2 hv2 => (X01_of hv2 (xit_01 (Or.inl rfl) (Or.inr rfl)))))

noncomputable def xf_H_isSupervisor (p0 : Int32) : Int32 :=
  xlt (if (p0 &&& (1 : Int32)) = 0 then (0) else (1) : Int32) fun v2 =>
  v2
set_option maxHeartbeats 4000000 in
set_option maxRecDepth 100000 in
theorem c_H_isSupervisor (l : Launch) (D : va_G) (tys : List (ClassId × FieldType)) (z : (Nat → Nat) × (Nat → Nat)) (sz : Nat) (p0 : Int32) : Met l xy_H_isSupervisor (xk_H_isSupervisor :: lw_g) { frames := 0, cells := 0, slots := 0, locals := 0 } (va_Pc [.int p0] (xB D tys z sz [])) (va_Qi (fun r (_ : Unit) => r = xf_H_isSupervisor p0) (fun _ t => xQ D tys [] (va_A [] sz) t) (va_A [] sz)) 0 0 (va_A [] sz) := by
  refine xopen_z (lv := [(0, .int p0)]) (by decide) rfl (Nat.le_of_ble_eq_true rfl) ?_
  intro p e s m args below meth c Q ls A H locs hx hb hml htg hown hin hK hP hD hE hS hA hl hret
  refine lv_iload_n hx hb xd_H_isSupervisor_0 rfl (lv_at hl 0 rfl) ?_
  refine lv_iconst (v := 1) hx hb xd_H_isSupervisor_1 (by decide) ?_
  refine lv_iand hx hb xd_H_isSupervisor_2 ?_
  have hj3 : ∀ (H : Heap) (locs : List Loc) (ls : Array Slot) (v2 : Int32), v2 = (if (p0 &&& (1 : Int32)) = 0 then (0) else (1)) → lv_has ls 1 [(0, .int p0)] → va_P D xCl [] H → va_D A [] → va_S A s.heap H locs → W p l e { frames := 0, cells := 0, slots := 0, locals := 0 } s m args below meth c H locs (0) (0) Q (F0 m 11 ls [.int v2]) := by
    intro H locs ls v2 hv2 hl hP hD hS
    exact hret _ () H locs ls _ (xnar (X01_of hv2 (xit_01 (Or.inl rfl) (Or.inr rfl)))) (by unfold xf_H_isSupervisor; exact (xlt_e hv2 rfl)) hP hD hS xd_H_isSupervisor_11
  refine lv_if_eq (tgt := 10) hx hb xd_H_isSupervisor_3 rfl (fun h4 => ?_) (fun h4 => ?_)
  · refine lv_iconst (v := 0) hx hb xd_H_isSupervisor_10 (by decide) ?_
    exact hj3 H locs ls (0 : Int32) (xit h4 rfl) hl hP hD hS
  · refine lv_iconst (v := 1) hx hb xd_H_isSupervisor_6 (by decide) ?_
    refine lv_goto (tgt := 11) hx hb xd_H_isSupervisor_7 rfl ?_
    exact hj3 H locs ls (1 : Int32) (xif h4 rfl) hl hP hD hS
theorem xt01_H_isSupervisor (p0 : Int32) : X01 (xf_H_isSupervisor p0) := by unfold xf_H_isSupervisor; exact (xlt_01 (fun v2 hv2 => (X01_of hv2 (xit_01 (Or.inl rfl) (Or.inr rfl)))))

noncomputable def xf_D_op (p0 : Int32) : Int32 :=
  (p0 &&& (127 : Int32))
set_option maxHeartbeats 4000000 in
set_option maxRecDepth 100000 in
theorem c_D_op (l : Launch) (D : va_G) (tys : List (ClassId × FieldType)) (z : (Nat → Nat) × (Nat → Nat)) (sz : Nat) (p0 : Int32) : Met l xy_D_op (xk_D_op :: lw_g) { frames := 0, cells := 0, slots := 0, locals := 0 } (va_Pc [.int p0] (xB D tys z sz [])) (va_Qi (fun r (_ : Unit) => r = xf_D_op p0) (fun _ t => xQ D tys [] (va_A [] sz) t) (va_A [] sz)) 0 0 (va_A [] sz) := by
  refine xopen_i (lv := [(0, .int p0)]) (by decide) rfl (Nat.le_of_ble_eq_true rfl) ?_
  intro p e s m args below meth c Q ls A H locs hx hb hml htg hown hin hK hP hD hE hS hA hl hret
  refine lv_iload_n hx hb xd_D_op_0 rfl (lv_at hl 0 rfl) ?_
  refine lv_bipush (v := 127) hx hb xd_D_op_1 (by decide) ?_
  refine lv_iand hx hb xd_D_op_3 ?_
  exact hret _ () H locs ls _ (by unfold xf_D_op; exact rfl) hP hD hS xd_D_op_4

noncomputable def xf_D_d (p0 : Int32) : Int32 :=
  ((xus p0 (7 : Int32)) &&& (31 : Int32))
set_option maxHeartbeats 4000000 in
set_option maxRecDepth 100000 in
theorem c_D_d (l : Launch) (D : va_G) (tys : List (ClassId × FieldType)) (z : (Nat → Nat) × (Nat → Nat)) (sz : Nat) (p0 : Int32) : Met l xy_D_d (xk_D_d :: lw_g) { frames := 0, cells := 0, slots := 0, locals := 0 } (va_Pc [.int p0] (xB D tys z sz [])) (va_Qi (fun r (_ : Unit) => r = xf_D_d p0) (fun _ t => xQ D tys [] (va_A [] sz) t) (va_A [] sz)) 0 0 (va_A [] sz) := by
  refine xopen_i (lv := [(0, .int p0)]) (by decide) rfl (Nat.le_of_ble_eq_true rfl) ?_
  intro p e s m args below meth c Q ls A H locs hx hb hml htg hown hin hK hP hD hE hS hA hl hret
  refine lv_iload_n hx hb xd_D_d_0 rfl (lv_at hl 0 rfl) ?_
  refine lv_bipush (v := 7) hx hb xd_D_d_1 (by decide) ?_
  refine lv_iushr (v := (xus p0 (7 : Int32))) hx hb xd_D_d_3 rfl ?_
  refine lv_bipush (v := 31) hx hb xd_D_d_4 (by decide) ?_
  refine lv_iand hx hb xd_D_d_6 ?_
  exact hret _ () H locs ls _ (by unfold xf_D_d; exact rfl) hP hD hS xd_D_d_7

noncomputable def xf_D_f (p0 : Int32) : Int32 :=
  ((xus p0 (12 : Int32)) &&& (7 : Int32))
set_option maxHeartbeats 4000000 in
set_option maxRecDepth 100000 in
theorem c_D_f (l : Launch) (D : va_G) (tys : List (ClassId × FieldType)) (z : (Nat → Nat) × (Nat → Nat)) (sz : Nat) (p0 : Int32) : Met l xy_D_f (xk_D_f :: lw_g) { frames := 0, cells := 0, slots := 0, locals := 0 } (va_Pc [.int p0] (xB D tys z sz [])) (va_Qi (fun r (_ : Unit) => r = xf_D_f p0) (fun _ t => xQ D tys [] (va_A [] sz) t) (va_A [] sz)) 0 0 (va_A [] sz) := by
  refine xopen_i (lv := [(0, .int p0)]) (by decide) rfl (Nat.le_of_ble_eq_true rfl) ?_
  intro p e s m args below meth c Q ls A H locs hx hb hml htg hown hin hK hP hD hE hS hA hl hret
  refine lv_iload_n hx hb xd_D_f_0 rfl (lv_at hl 0 rfl) ?_
  refine lv_bipush (v := 12) hx hb xd_D_f_1 (by decide) ?_
  refine lv_iushr (v := (xus p0 (12 : Int32))) hx hb xd_D_f_3 rfl ?_
  refine lv_bipush (v := 7) hx hb xd_D_f_4 (by decide) ?_
  refine lv_iand hx hb xd_D_f_6 ?_
  exact hret _ () H locs ls _ (by unfold xf_D_f; exact rfl) hP hD hS xd_D_f_7

noncomputable def xf_D_a (p0 : Int32) : Int32 :=
  ((xus p0 (15 : Int32)) &&& (31 : Int32))
set_option maxHeartbeats 4000000 in
set_option maxRecDepth 100000 in
theorem c_D_a (l : Launch) (D : va_G) (tys : List (ClassId × FieldType)) (z : (Nat → Nat) × (Nat → Nat)) (sz : Nat) (p0 : Int32) : Met l xy_D_a (xk_D_a :: lw_g) { frames := 0, cells := 0, slots := 0, locals := 0 } (va_Pc [.int p0] (xB D tys z sz [])) (va_Qi (fun r (_ : Unit) => r = xf_D_a p0) (fun _ t => xQ D tys [] (va_A [] sz) t) (va_A [] sz)) 0 0 (va_A [] sz) := by
  refine xopen_i (lv := [(0, .int p0)]) (by decide) rfl (Nat.le_of_ble_eq_true rfl) ?_
  intro p e s m args below meth c Q ls A H locs hx hb hml htg hown hin hK hP hD hE hS hA hl hret
  refine lv_iload_n hx hb xd_D_a_0 rfl (lv_at hl 0 rfl) ?_
  refine lv_bipush (v := 15) hx hb xd_D_a_1 (by decide) ?_
  refine lv_iushr (v := (xus p0 (15 : Int32))) hx hb xd_D_a_3 rfl ?_
  refine lv_bipush (v := 31) hx hb xd_D_a_4 (by decide) ?_
  refine lv_iand hx hb xd_D_a_6 ?_
  exact hret _ () H locs ls _ (by unfold xf_D_a; exact rfl) hP hD hS xd_D_a_7

noncomputable def xf_D_b (p0 : Int32) : Int32 :=
  ((xus p0 (20 : Int32)) &&& (31 : Int32))
set_option maxHeartbeats 4000000 in
set_option maxRecDepth 100000 in
theorem c_D_b (l : Launch) (D : va_G) (tys : List (ClassId × FieldType)) (z : (Nat → Nat) × (Nat → Nat)) (sz : Nat) (p0 : Int32) : Met l xy_D_b (xk_D_b :: lw_g) { frames := 0, cells := 0, slots := 0, locals := 0 } (va_Pc [.int p0] (xB D tys z sz [])) (va_Qi (fun r (_ : Unit) => r = xf_D_b p0) (fun _ t => xQ D tys [] (va_A [] sz) t) (va_A [] sz)) 0 0 (va_A [] sz) := by
  refine xopen_i (lv := [(0, .int p0)]) (by decide) rfl (Nat.le_of_ble_eq_true rfl) ?_
  intro p e s m args below meth c Q ls A H locs hx hb hml htg hown hin hK hP hD hE hS hA hl hret
  refine lv_iload_n hx hb xd_D_b_0 rfl (lv_at hl 0 rfl) ?_
  refine lv_bipush (v := 20) hx hb xd_D_b_1 (by decide) ?_
  refine lv_iushr (v := (xus p0 (20 : Int32))) hx hb xd_D_b_3 rfl ?_
  refine lv_bipush (v := 31) hx hb xd_D_b_4 (by decide) ?_
  refine lv_iand hx hb xd_D_b_6 ?_
  exact hret _ () H locs ls _ (by unfold xf_D_b; exact rfl) hP hD hS xd_D_b_7

noncomputable def xf_D_g (p0 : Int32) : Int32 :=
  (xus p0 (25 : Int32))
set_option maxHeartbeats 4000000 in
set_option maxRecDepth 100000 in
theorem c_D_g (l : Launch) (D : va_G) (tys : List (ClassId × FieldType)) (z : (Nat → Nat) × (Nat → Nat)) (sz : Nat) (p0 : Int32) : Met l xy_D_g (xk_D_g :: lw_g) { frames := 0, cells := 0, slots := 0, locals := 0 } (va_Pc [.int p0] (xB D tys z sz [])) (va_Qi (fun r (_ : Unit) => r = xf_D_g p0) (fun _ t => xQ D tys [] (va_A [] sz) t) (va_A [] sz)) 0 0 (va_A [] sz) := by
  refine xopen_i (lv := [(0, .int p0)]) (by decide) rfl (Nat.le_of_ble_eq_true rfl) ?_
  intro p e s m args below meth c Q ls A H locs hx hb hml htg hown hin hK hP hD hE hS hA hl hret
  refine lv_iload_n hx hb xd_D_g_0 rfl (lv_at hl 0 rfl) ?_
  refine lv_bipush (v := 25) hx hb xd_D_g_1 (by decide) ?_
  refine lv_iushr (v := (xus p0 (25 : Int32))) hx hb xd_D_g_3 rfl ?_
  exact hret _ () H locs ls _ (by unfold xf_D_g; exact rfl) hP hD hS xd_D_g_4

noncomputable def xf_D_immediate (p0 : Int32) : Int32 :=
  (p0 >>> ((20 : Int32) &&& 31))
set_option maxHeartbeats 4000000 in
set_option maxRecDepth 100000 in
theorem c_D_immediate (l : Launch) (D : va_G) (tys : List (ClassId × FieldType)) (z : (Nat → Nat) × (Nat → Nat)) (sz : Nat) (p0 : Int32) : Met l xy_D_immediate (xk_D_immediate :: lw_g) { frames := 0, cells := 0, slots := 0, locals := 0 } (va_Pc [.int p0] (xB D tys z sz [])) (va_Qi (fun r (_ : Unit) => r = xf_D_immediate p0) (fun _ t => xQ D tys [] (va_A [] sz) t) (va_A [] sz)) 0 0 (va_A [] sz) := by
  refine xopen_i (lv := [(0, .int p0)]) (by decide) rfl (Nat.le_of_ble_eq_true rfl) ?_
  intro p e s m args below meth c Q ls A H locs hx hb hml htg hown hin hK hP hD hE hS hA hl hret
  refine lv_iload_n hx hb xd_D_immediate_0 rfl (lv_at hl 0 rfl) ?_
  refine lv_bipush (v := 20) hx hb xd_D_immediate_1 (by decide) ?_
  refine lv_ishr hx hb xd_D_immediate_3 ?_
  exact hret _ () H locs ls _ (by unfold xf_D_immediate; exact rfl) hP hD hS xd_D_immediate_4

noncomputable def xf_D_storeOffset (p0 : Int32) : Int32 :=
  xlt (xf_D_d p0 : Int32) fun r1 =>
  (((p0 >>> ((25 : Int32) &&& 31)) <<< ((5 : Int32) &&& 31)) ||| r1)
set_option maxHeartbeats 4000000 in
set_option maxRecDepth 100000 in
theorem c_D_storeOffset (l : Launch) (D : va_G) (tys : List (ClassId × FieldType)) (z : (Nat → Nat) × (Nat → Nat)) (sz : Nat) (p0 : Int32) : Met l xy_D_storeOffset (xk_D_storeOffset :: lw_g) { frames := 1, cells := 0, slots := 0, locals := 20 } (va_Pc [.int p0] (xB D tys z sz [])) (va_Qi (fun r (_ : Unit) => r = xf_D_storeOffset p0) (fun _ t => xQ D tys [] (va_A [] sz) t) (va_A [] sz)) 0 0 (va_A [] sz) := by
  refine xopen_i (lv := [(0, .int p0)]) (by decide) rfl (Nat.le_of_ble_eq_true rfl) ?_
  intro p e s m args below meth c Q ls A H locs hx hb hml htg hown hin hK hP hD hE hS hA hl hret
  refine lv_iload_n hx hb xd_D_storeOffset_0 rfl (lv_at hl 0 rfl) ?_
  refine lv_bipush (v := 25) hx hb xd_D_storeOffset_1 (by decide) ?_
  refine lv_ishr hx hb xd_D_storeOffset_3 ?_
  refine lv_iconst (v := 5) hx hb xd_D_storeOffset_4 (by decide) ?_
  refine lv_ishl hx hb xd_D_storeOffset_5 ?_
  refine lv_iload_n hx hb xd_D_storeOffset_6 rfl (lv_at hl 0 rfl) ?_
  refine xc0_i (va_runS (As := [.int p0]) (rest := [.int (((p0 >>> ((25 : Int32) &&& 31)) <<< ((5 : Int32) &&& 31)))]) ⟨hx, hb, hml, hown, htg⟩ (c_D_d l D tys z H.size p0) (va_cwS 1 htg (xg_S0 xkin_D_d xw_565 xw_530 xw_13) rfl rfl rfl (by decide +kernel) ⟨Nat.le_of_ble_eq_true rfl, Nat.le_of_ble_eq_true rfl⟩) ⟨xB_blind, fun U hU hW => xB_mk va_P0 hK va_D0 hE hS (xsub0 hA hS) hU hW⟩ rfl rfl hl.1 rfl (lv_room (Nat.le_of_ble_eq_true rfl)) xd_D_storeOffset_7 ⟨Nat.le_of_ble_eq_true rfl, Nat.le_of_ble_eq_true rfl⟩) hP hA hS (fun r1 H locs hr1 hP hS => ?_)
  refine lv_ior hx hb xd_D_storeOffset_10 ?_
  exact hret _ () H locs ls _ (by unfold xf_D_storeOffset; exact (xlt_e hr1 rfl)) hP hD hS xd_D_storeOffset_11

noncomputable def xf_D_branchOffset (p0 : Int32) : Int32 :=
  (((((p0 >>> ((31 : Int32) &&& 31)) <<< ((12 : Int32) &&& 31)) ||| (((xus p0 (7 : Int32)) &&& (1 : Int32)) <<< ((11 : Int32) &&& 31))) ||| (((xus p0 (25 : Int32)) &&& (63 : Int32)) <<< ((5 : Int32) &&& 31))) ||| (((xus p0 (8 : Int32)) &&& (15 : Int32)) <<< ((1 : Int32) &&& 31)))
set_option maxHeartbeats 4000000 in
set_option maxRecDepth 100000 in
theorem c_D_branchOffset (l : Launch) (D : va_G) (tys : List (ClassId × FieldType)) (z : (Nat → Nat) × (Nat → Nat)) (sz : Nat) (p0 : Int32) : Met l xy_D_branchOffset (xk_D_branchOffset :: lw_g) { frames := 0, cells := 0, slots := 0, locals := 0 } (va_Pc [.int p0] (xB D tys z sz [])) (va_Qi (fun r (_ : Unit) => r = xf_D_branchOffset p0) (fun _ t => xQ D tys [] (va_A [] sz) t) (va_A [] sz)) 0 0 (va_A [] sz) := by
  refine xopen_i (lv := [(0, .int p0)]) (by decide) rfl (Nat.le_of_ble_eq_true rfl) ?_
  intro p e s m args below meth c Q ls A H locs hx hb hml htg hown hin hK hP hD hE hS hA hl hret
  refine lv_iload_n hx hb xd_D_branchOffset_0 rfl (lv_at hl 0 rfl) ?_
  refine lv_bipush (v := 31) hx hb xd_D_branchOffset_1 (by decide) ?_
  refine lv_ishr hx hb xd_D_branchOffset_3 ?_
  refine lv_bipush (v := 12) hx hb xd_D_branchOffset_4 (by decide) ?_
  refine lv_ishl hx hb xd_D_branchOffset_6 ?_
  refine lv_iload_n hx hb xd_D_branchOffset_7 rfl (lv_at hl 0 rfl) ?_
  refine lv_bipush (v := 7) hx hb xd_D_branchOffset_8 (by decide) ?_
  refine lv_iushr (v := (xus p0 (7 : Int32))) hx hb xd_D_branchOffset_10 rfl ?_
  refine lv_iconst (v := 1) hx hb xd_D_branchOffset_11 (by decide) ?_
  refine lv_iand hx hb xd_D_branchOffset_12 ?_
  refine lv_bipush (v := 11) hx hb xd_D_branchOffset_13 (by decide) ?_
  refine lv_ishl hx hb xd_D_branchOffset_15 ?_
  refine lv_ior hx hb xd_D_branchOffset_16 ?_
  refine lv_iload_n hx hb xd_D_branchOffset_17 rfl (lv_at hl 0 rfl) ?_
  refine lv_bipush (v := 25) hx hb xd_D_branchOffset_18 (by decide) ?_
  refine lv_iushr (v := (xus p0 (25 : Int32))) hx hb xd_D_branchOffset_20 rfl ?_
  refine lv_bipush (v := 63) hx hb xd_D_branchOffset_21 (by decide) ?_
  refine lv_iand hx hb xd_D_branchOffset_23 ?_
  refine lv_iconst (v := 5) hx hb xd_D_branchOffset_24 (by decide) ?_
  refine lv_ishl hx hb xd_D_branchOffset_25 ?_
  refine lv_ior hx hb xd_D_branchOffset_26 ?_
  refine lv_iload_n hx hb xd_D_branchOffset_27 rfl (lv_at hl 0 rfl) ?_
  refine lv_bipush (v := 8) hx hb xd_D_branchOffset_28 (by decide) ?_
  refine lv_iushr (v := (xus p0 (8 : Int32))) hx hb xd_D_branchOffset_30 rfl ?_
  refine lv_bipush (v := 15) hx hb xd_D_branchOffset_31 (by decide) ?_
  refine lv_iand hx hb xd_D_branchOffset_33 ?_
  refine lv_iconst (v := 1) hx hb xd_D_branchOffset_34 (by decide) ?_
  refine lv_ishl hx hb xd_D_branchOffset_35 ?_
  refine lv_ior hx hb xd_D_branchOffset_36 ?_
  exact hret _ () H locs ls _ (by unfold xf_D_branchOffset; exact rfl) hP hD hS xd_D_branchOffset_37

noncomputable def xf_D_jumpOffset (p0 : Int32) : Int32 :=
  (((((p0 >>> ((31 : Int32) &&& 31)) <<< ((20 : Int32) &&& 31)) ||| (p0 &&& (1044480 : Int32))) ||| (((xus p0 (20 : Int32)) &&& (1 : Int32)) <<< ((11 : Int32) &&& 31))) ||| (((xus p0 (21 : Int32)) &&& (1023 : Int32)) <<< ((1 : Int32) &&& 31)))
set_option maxHeartbeats 4000000 in
set_option maxRecDepth 100000 in
theorem c_D_jumpOffset (l : Launch) (D : va_G) (tys : List (ClassId × FieldType)) (z : (Nat → Nat) × (Nat → Nat)) (sz : Nat) (p0 : Int32) : Met l xy_D_jumpOffset (xk_D_jumpOffset :: lw_g) { frames := 0, cells := 0, slots := 0, locals := 0 } (va_Pc [.int p0] (xB D tys z sz [])) (va_Qi (fun r (_ : Unit) => r = xf_D_jumpOffset p0) (fun _ t => xQ D tys [] (va_A [] sz) t) (va_A [] sz)) 0 0 (va_A [] sz) := by
  refine xopen_i (lv := [(0, .int p0)]) (by decide) rfl (Nat.le_of_ble_eq_true rfl) ?_
  intro p e s m args below meth c Q ls A H locs hx hb hml htg hown hin hK hP hD hE hS hA hl hret
  refine lv_iload_n hx hb xd_D_jumpOffset_0 rfl (lv_at hl 0 rfl) ?_
  refine lv_bipush (v := 31) hx hb xd_D_jumpOffset_1 (by decide) ?_
  refine lv_ishr hx hb xd_D_jumpOffset_3 ?_
  refine lv_bipush (v := 20) hx hb xd_D_jumpOffset_4 (by decide) ?_
  refine lv_ishl hx hb xd_D_jumpOffset_6 ?_
  refine lv_iload_n hx hb xd_D_jumpOffset_7 rfl (lv_at hl 0 rfl) ?_
  refine lv_ldc (v := 1044480) hx hb hown (htg _ xw_612) xd_D_jumpOffset_8 ?_
  refine lv_iand hx hb xd_D_jumpOffset_10 ?_
  refine lv_ior hx hb xd_D_jumpOffset_11 ?_
  refine lv_iload_n hx hb xd_D_jumpOffset_12 rfl (lv_at hl 0 rfl) ?_
  refine lv_bipush (v := 20) hx hb xd_D_jumpOffset_13 (by decide) ?_
  refine lv_iushr (v := (xus p0 (20 : Int32))) hx hb xd_D_jumpOffset_15 rfl ?_
  refine lv_iconst (v := 1) hx hb xd_D_jumpOffset_16 (by decide) ?_
  refine lv_iand hx hb xd_D_jumpOffset_17 ?_
  refine lv_bipush (v := 11) hx hb xd_D_jumpOffset_18 (by decide) ?_
  refine lv_ishl hx hb xd_D_jumpOffset_20 ?_
  refine lv_ior hx hb xd_D_jumpOffset_21 ?_
  refine lv_iload_n hx hb xd_D_jumpOffset_22 rfl (lv_at hl 0 rfl) ?_
  refine lv_bipush (v := 21) hx hb xd_D_jumpOffset_23 (by decide) ?_
  refine lv_iushr (v := (xus p0 (21 : Int32))) hx hb xd_D_jumpOffset_25 rfl ?_
  refine lv_sipush (v := 1023) hx hb xd_D_jumpOffset_26 (by decide) ?_
  refine lv_iand hx hb xd_D_jumpOffset_29 ?_
  refine lv_iconst (v := 1) hx hb xd_D_jumpOffset_30 (by decide) ?_
  refine lv_ishl hx hb xd_D_jumpOffset_31 ?_
  refine lv_ior hx hb xd_D_jumpOffset_32 ?_
  exact hret _ () H locs ls _ (by unfold xf_D_jumpOffset; exact rfl) hP hD hS xd_D_jumpOffset_33

noncomputable def xf_D_upper (p0 : Int32) : Int32 :=
  (p0 &&& (-4096 : Int32))
set_option maxHeartbeats 4000000 in
set_option maxRecDepth 100000 in
theorem c_D_upper (l : Launch) (D : va_G) (tys : List (ClassId × FieldType)) (z : (Nat → Nat) × (Nat → Nat)) (sz : Nat) (p0 : Int32) : Met l xy_D_upper (xk_D_upper :: lw_g) { frames := 0, cells := 0, slots := 0, locals := 0 } (va_Pc [.int p0] (xB D tys z sz [])) (va_Qi (fun r (_ : Unit) => r = xf_D_upper p0) (fun _ t => xQ D tys [] (va_A [] sz) t) (va_A [] sz)) 0 0 (va_A [] sz) := by
  refine xopen_i (lv := [(0, .int p0)]) (by decide) rfl (Nat.le_of_ble_eq_true rfl) ?_
  intro p e s m args below meth c Q ls A H locs hx hb hml htg hown hin hK hP hD hE hS hA hl hret
  refine lv_iload_n hx hb xd_D_upper_0 rfl (lv_at hl 0 rfl) ?_
  refine lv_sipush (v := (-4096)) hx hb xd_D_upper_1 (by decide) ?_
  refine lv_iand hx hb xd_D_upper_4 ?_
  exact hret _ () H locs ls _ (by unfold xf_D_upper; exact rfl) hP hD hS xd_D_upper_5

noncomputable def xf_R_lessNoSign (p0 : Int32) (p1 : Int32) : Int32 :=
  xlt (if 0 ≤ (lg_cmp ((Int32.toInt64 p0) &&& (4294967295 : Int64)) ((Int32.toInt64 p1) &&& (4294967295 : Int64))) then (0) else (1) : Int32) fun v2 =>
  v2
set_option maxHeartbeats 4000000 in
set_option maxRecDepth 100000 in
theorem c_R_lessNoSign (l : Launch) (D : va_G) (tys : List (ClassId × FieldType)) (z : (Nat → Nat) × (Nat → Nat)) (sz : Nat) (p0 : Int32) (p1 : Int32) : Met l xy_R_lessNoSign (xk_R_lessNoSign :: lw_g) { frames := 0, cells := 0, slots := 0, locals := 0 } (va_Pc [.int p0, .int p1] (xB D tys z sz [])) (va_Qi (fun r (_ : Unit) => r = xf_R_lessNoSign p0 p1) (fun _ t => xQ D tys [] (va_A [] sz) t) (va_A [] sz)) 0 0 (va_A [] sz) := by
  refine xopen_z (lv := [(0, .int p0), (1, .int p1)]) (by decide) rfl (Nat.le_of_ble_eq_true rfl) ?_
  intro p e s m args below meth c Q ls A H locs hx hb hml htg hown hin hK hP hD hE hS hA hl hret
  refine lv_iload_n hx hb xd_R_lessNoSign_0 rfl (lv_at hl 0 rfl) ?_
  refine lv_i2l (v := (Int32.toInt64 p0)) hx hb xd_R_lessNoSign_1 rfl ?_
  refine lv_ldc2 (v := 4294967295) hx hb hown (htg _ xw_554) xd_R_lessNoSign_2 ?_
  refine lv_land hx hb xd_R_lessNoSign_5 ?_
  refine lv_iload_n hx hb xd_R_lessNoSign_6 rfl (lv_at hl 1 rfl) ?_
  refine lv_i2l (v := (Int32.toInt64 p1)) hx hb xd_R_lessNoSign_7 rfl ?_
  refine lv_ldc2 (v := 4294967295) hx hb hown (htg _ xw_554) xd_R_lessNoSign_8 ?_
  refine lv_land hx hb xd_R_lessNoSign_11 ?_
  refine W.lcmp hx hb xd_R_lessNoSign_12 ?_
  have hj3 : ∀ (H : Heap) (locs : List Loc) (ls : Array Slot) (v2 : Int32), v2 = (if 0 ≤ (lg_cmp ((Int32.toInt64 p0) &&& (4294967295 : Int64)) ((Int32.toInt64 p1) &&& (4294967295 : Int64))) then (0) else (1)) → lv_has ls 2 [(0, .int p0), (1, .int p1)] → va_P D xCl [] H → va_D A [] → va_S A s.heap H locs → W p l e { frames := 0, cells := 0, slots := 0, locals := 0 } s m args below meth c H locs (0) (0) Q (F0 m 21 ls [.int v2]) := by
    intro H locs ls v2 hv2 hl hP hD hS
    exact hret _ () H locs ls _ (xnar (X01_of hv2 (xit_01 (Or.inl rfl) (Or.inr rfl)))) (by unfold xf_R_lessNoSign; exact (xlt_e hv2 rfl)) hP hD hS xd_R_lessNoSign_21
  refine lv_if_ge (tgt := 20) hx hb xd_R_lessNoSign_13 rfl (fun h4 => ?_) (fun h4 => ?_)
  · refine lv_iconst (v := 0) hx hb xd_R_lessNoSign_20 (by decide) ?_
    exact hj3 H locs ls (0 : Int32) (xit h4 rfl) hl hP hD hS
  · refine lv_iconst (v := 1) hx hb xd_R_lessNoSign_16 (by decide) ?_
    refine lv_goto (tgt := 21) hx hb xd_R_lessNoSign_17 rfl ?_
    exact hj3 H locs ls (1 : Int32) (xif h4 rfl) hl hP hD hS
theorem xt01_R_lessNoSign (p0 : Int32) (p1 : Int32) : X01 (xf_R_lessNoSign p0 p1) := by unfold xf_R_lessNoSign; exact (xlt_01 (fun v2 hv2 => (X01_of hv2 (xit_01 (Or.inl rfl) (Or.inr rfl)))))

noncomputable def xf_R_combine (p0 : Int32) (p1 : Int32) (p2 : Int32) : Int32 :=
  if p0 = 0 then
    (p1 + p2)
  else
    if p0 = 1 then
      (p1 <<< ((p2 &&& (31 : Int32)) &&& 31))
    else
      if p0 = 2 then
        xlt (if p2 ≤ p1 then (0) else (1) : Int32) fun v5 =>
        v5
      else
        if p0 = 3 then
          xlt (xf_R_lessNoSign p1 p2 : Int32) fun r9 =>
          xlt (if r9 = 0 then (0) else (1) : Int32) fun v11 =>
          v11
        else
          if p0 = 4 then
            (p1 ^^^ p2)
          else
            if p0 = 5 then
              (xus p1 (p2 &&& (31 : Int32)))
            else
              if p0 = 6 then
                (p1 ||| p2)
              else
                (p1 &&& p2)
set_option maxHeartbeats 4000000 in
set_option maxRecDepth 100000 in
theorem c_R_combine (l : Launch) (D : va_G) (tys : List (ClassId × FieldType)) (z : (Nat → Nat) × (Nat → Nat)) (sz : Nat) (p0 : Int32) (p1 : Int32) (p2 : Int32) : Met l xy_R_combine (xk_R_combine :: lw_g) { frames := 1, cells := 0, slots := 0, locals := 21 } (va_Pc [.int p0, .int p1, .int p2] (xB D tys z sz [])) (va_Qi (fun r (_ : Unit) => r = xf_R_combine p0 p1 p2) (fun _ t => xQ D tys [] (va_A [] sz) t) (va_A [] sz)) 0 0 (va_A [] sz) := by
  refine xopen_i (lv := [(0, .int p0), (1, .int p1), (2, .int p2)]) (by decide) rfl (Nat.le_of_ble_eq_true rfl) ?_
  intro p e s m args below meth c Q ls A H locs hx hb hml htg hown hin hK hP hD hE hS hA hl hret
  refine lv_iload_n hx hb xd_R_combine_0 rfl (lv_at hl 0 rfl) ?_
  refine (Decidable.em (p0 = 0)).elim (fun h1 => ?_) (fun h1 => ?_)
  · refine lv_tableIn (tgt := 44) (off := 43) hx hb xd_R_combine_1 (by rw [h1]; decide) (by rw [h1]; decide) (by rw [h1]; decide +kernel) rfl ?_
    refine lv_iload_n hx hb xd_R_combine_44 rfl (lv_at hl 1 rfl) ?_
    refine lv_iload_n hx hb xd_R_combine_45 rfl (lv_at hl 2 rfl) ?_
    refine lv_iadd hx hb xd_R_combine_46 ?_
    exact hret _ () H locs ls _ (by unfold xf_R_combine; exact (xit h1 rfl)) hP hD hS xd_R_combine_47
  · refine (Decidable.em (p0 = 1)).elim (fun h2 => ?_) (fun h2 => ?_)
    · refine lv_tableIn (tgt := 48) (off := 47) hx hb xd_R_combine_1 (by rw [h2]; decide) (by rw [h2]; decide) (by rw [h2]; decide +kernel) rfl ?_
      refine lv_iload_n hx hb xd_R_combine_48 rfl (lv_at hl 1 rfl) ?_
      refine lv_iload_n hx hb xd_R_combine_49 rfl (lv_at hl 2 rfl) ?_
      refine lv_bipush (v := 31) hx hb xd_R_combine_50 (by decide) ?_
      refine lv_iand hx hb xd_R_combine_52 ?_
      refine lv_ishl hx hb xd_R_combine_53 ?_
      exact hret _ () H locs ls _ (by unfold xf_R_combine; exact (xif h1 (xit h2 rfl))) hP hD hS xd_R_combine_54
    · refine (Decidable.em (p0 = 2)).elim (fun h3 => ?_) (fun h3 => ?_)
      · refine lv_tableIn (tgt := 55) (off := 54) hx hb xd_R_combine_1 (by rw [h3]; decide) (by rw [h3]; decide) (by rw [h3]; decide +kernel) rfl ?_
        refine lv_iload_n hx hb xd_R_combine_55 rfl (lv_at hl 1 rfl) ?_
        refine lv_iload_n hx hb xd_R_combine_56 rfl (lv_at hl 2 rfl) ?_
        have hj6 : ∀ (H : Heap) (locs : List Loc) (ls : Array Slot) (v5 : Int32), v5 = (if p2 ≤ p1 then (0) else (1)) → lv_has ls 3 [(0, .int p0), (1, .int p1), (2, .int p2)] → va_P D xCl [] H → va_D A [] → va_S A s.heap H locs → W p l e { frames := 1, cells := 0, slots := 0, locals := 21 } s m args below meth c H locs (0) (0) Q (F0 m 65 ls [.int v5]) := by
          intro H locs ls v5 hv5 hl hP hD hS
          exact hret _ () H locs ls _ (by unfold xf_R_combine; exact (xif h1 (xif h2 (xit h3 (xlt_e hv5 rfl))))) hP hD hS xd_R_combine_65
        refine lv_icmp_ge (tgt := 64) hx hb xd_R_combine_57 rfl (fun h7 => ?_) (fun h7 => ?_)
        · refine lv_iconst (v := 0) hx hb xd_R_combine_64 (by decide) ?_
          exact hj6 H locs ls (0 : Int32) (xit h7 rfl) hl hP hD hS
        · refine lv_iconst (v := 1) hx hb xd_R_combine_60 (by decide) ?_
          refine lv_goto (tgt := 65) hx hb xd_R_combine_61 rfl ?_
          exact hj6 H locs ls (1 : Int32) (xif h7 rfl) hl hP hD hS
      · refine (Decidable.em (p0 = 3)).elim (fun h8 => ?_) (fun h8 => ?_)
        · refine lv_tableIn (tgt := 66) (off := 65) hx hb xd_R_combine_1 (by rw [h8]; decide) (by rw [h8]; decide) (by rw [h8]; decide +kernel) rfl ?_
          refine lv_iload_n hx hb xd_R_combine_66 rfl (lv_at hl 1 rfl) ?_
          refine lv_iload_n hx hb xd_R_combine_67 rfl (lv_at hl 2 rfl) ?_
          refine xc0_i (va_runS (As := [.int p1, .int p2]) (rest := []) ⟨hx, hb, hml, hown, htg⟩ (c_R_lessNoSign l D tys z H.size p1 p2) (va_cwS 2 htg (xg_S0 xkin_R_lessNoSign xw_551 xw_552 xw_14) rfl rfl rfl (by decide +kernel) ⟨Nat.le_of_ble_eq_true rfl, Nat.le_of_ble_eq_true rfl⟩) ⟨xB_blind, fun U hU hW => xB_mk va_P0 hK va_D0 hE hS (xsub0 hA hS) hU hW⟩ rfl rfl hl.1 rfl (lv_room (Nat.le_of_ble_eq_true rfl)) xd_R_combine_68 ⟨Nat.le_of_ble_eq_true rfl, Nat.le_of_ble_eq_true rfl⟩) hP hA hS (fun r9 H locs hr9 hP hS => ?_)
          have hj12 : ∀ (H : Heap) (locs : List Loc) (ls : Array Slot) (v11 : Int32), v11 = (if r9 = 0 then (0) else (1)) → lv_has ls 3 [(0, .int p0), (1, .int p1), (2, .int p2)] → va_P D xCl [] H → va_D A [] → va_S A s.heap H locs → W p l e { frames := 1, cells := 0, slots := 0, locals := 21 } s m args below meth c H locs (0) (0) Q (F0 m 79 ls [.int v11]) := by
            intro H locs ls v11 hv11 hl hP hD hS
            exact hret _ () H locs ls _ (by unfold xf_R_combine; exact (xif h1 (xif h2 (xif h3 (xit h8 (xlt_e hr9 (xlt_e hv11 rfl))))))) hP hD hS xd_R_combine_79
          refine lv_if_eq (tgt := 78) hx hb xd_R_combine_71 rfl (fun h13 => ?_) (fun h13 => ?_)
          · refine lv_iconst (v := 0) hx hb xd_R_combine_78 (by decide) ?_
            exact hj12 H locs ls (0 : Int32) (xit h13 rfl) hl hP hD hS
          · refine lv_iconst (v := 1) hx hb xd_R_combine_74 (by decide) ?_
            refine lv_goto (tgt := 79) hx hb xd_R_combine_75 rfl ?_
            exact hj12 H locs ls (1 : Int32) (xif h13 rfl) hl hP hD hS
        · refine (Decidable.em (p0 = 4)).elim (fun h14 => ?_) (fun h14 => ?_)
          · refine lv_tableIn (tgt := 80) (off := 79) hx hb xd_R_combine_1 (by rw [h14]; decide) (by rw [h14]; decide) (by rw [h14]; decide +kernel) rfl ?_
            refine lv_iload_n hx hb xd_R_combine_80 rfl (lv_at hl 1 rfl) ?_
            refine lv_iload_n hx hb xd_R_combine_81 rfl (lv_at hl 2 rfl) ?_
            refine lv_ixor hx hb xd_R_combine_82 ?_
            exact hret _ () H locs ls _ (by unfold xf_R_combine; exact (xif h1 (xif h2 (xif h3 (xif h8 (xit h14 rfl)))))) hP hD hS xd_R_combine_83
          · refine (Decidable.em (p0 = 5)).elim (fun h15 => ?_) (fun h15 => ?_)
            · refine lv_tableIn (tgt := 84) (off := 83) hx hb xd_R_combine_1 (by rw [h15]; decide) (by rw [h15]; decide) (by rw [h15]; decide +kernel) rfl ?_
              refine lv_iload_n hx hb xd_R_combine_84 rfl (lv_at hl 1 rfl) ?_
              refine lv_iload_n hx hb xd_R_combine_85 rfl (lv_at hl 2 rfl) ?_
              refine lv_bipush (v := 31) hx hb xd_R_combine_86 (by decide) ?_
              refine lv_iand hx hb xd_R_combine_88 ?_
              refine lv_iushr (v := (xus p1 (p2 &&& (31 : Int32)))) hx hb xd_R_combine_89 rfl ?_
              exact hret _ () H locs ls _ (by unfold xf_R_combine; exact (xif h1 (xif h2 (xif h3 (xif h8 (xif h14 (xit h15 rfl))))))) hP hD hS xd_R_combine_90
            · refine (Decidable.em (p0 = 6)).elim (fun h16 => ?_) (fun h16 => ?_)
              · refine lv_tableIn (tgt := 91) (off := 90) hx hb xd_R_combine_1 (by rw [h16]; decide) (by rw [h16]; decide) (by rw [h16]; decide +kernel) rfl ?_
                refine lv_iload_n hx hb xd_R_combine_91 rfl (lv_at hl 1 rfl) ?_
                refine lv_iload_n hx hb xd_R_combine_92 rfl (lv_at hl 2 rfl) ?_
                refine lv_ior hx hb xd_R_combine_93 ?_
                exact hret _ () H locs ls _ (by unfold xf_R_combine; exact (xif h1 (xif h2 (xif h3 (xif h8 (xif h14 (xif h15 (xit h16 rfl)))))))) hP hD hS xd_R_combine_94
              · refine lv_tableOut (tgt := 95) hx hb xd_R_combine_1 (xsw_out [0, 1, 2, 3, 4, 5, 6] (by decide) (by simp only [List.forall_mem_cons, List.not_mem_nil, false_imp_iff, implies_true, and_true]; exact ⟨h1, h2, h3, h8, h14, h15, h16⟩)) rfl ?_
                refine lv_iload_n hx hb xd_R_combine_95 rfl (lv_at hl 1 rfl) ?_
                refine lv_iload_n hx hb xd_R_combine_96 rfl (lv_at hl 2 rfl) ?_
                refine lv_iand hx hb xd_R_combine_97 ?_
                exact hret _ () H locs ls _ (by unfold xf_R_combine; exact (xif h1 (xif h2 (xif h3 (xif h8 (xif h14 (xif h15 (xif h16 rfl)))))))) hP hD hS xd_R_combine_98

noncomputable def xf_R_multiply (p0 : Int32) (p1 : Int32) (p2 : Int32) : Int32 :=
  if p0 = 0 then
    (p1 * p2)
  else
    if p0 = 1 then
      (Int64.toInt32 (((Int32.toInt64 p1) * (Int32.toInt64 p2)) >>> (Int32.toInt64 (32 : Int32) &&& 63)))
    else
      if p0 = 2 then
        (Int64.toInt32 (((Int32.toInt64 p1) * ((Int32.toInt64 p2) &&& (4294967295 : Int64))) >>> (Int32.toInt64 (32 : Int32) &&& 63)))
      else
        (Int64.toInt32 (xul (((Int32.toInt64 p1) &&& (4294967295 : Int64)) * ((Int32.toInt64 p2) &&& (4294967295 : Int64))) (32 : Int32)))
set_option maxHeartbeats 4000000 in
set_option maxRecDepth 100000 in
theorem c_R_multiply (l : Launch) (D : va_G) (tys : List (ClassId × FieldType)) (z : (Nat → Nat) × (Nat → Nat)) (sz : Nat) (p0 : Int32) (p1 : Int32) (p2 : Int32) : Met l xy_R_multiply (xk_R_multiply :: lw_g) { frames := 0, cells := 0, slots := 0, locals := 0 } (va_Pc [.int p0, .int p1, .int p2] (xB D tys z sz [])) (va_Qi (fun r (_ : Unit) => r = xf_R_multiply p0 p1 p2) (fun _ t => xQ D tys [] (va_A [] sz) t) (va_A [] sz)) 0 0 (va_A [] sz) := by
  refine xopen_i (lv := [(0, .int p0), (1, .int p1), (2, .int p2)]) (by decide) rfl (Nat.le_of_ble_eq_true rfl) ?_
  intro p e s m args below meth c Q ls A H locs hx hb hml htg hown hin hK hP hD hE hS hA hl hret
  refine lv_iload_n hx hb xd_R_multiply_0 rfl (lv_at hl 0 rfl) ?_
  refine (Decidable.em (p0 = 0)).elim (fun h1 => ?_) (fun h1 => ?_)
  · refine lv_tableIn (tgt := 28) (off := 27) hx hb xd_R_multiply_1 (by rw [h1]; decide) (by rw [h1]; decide) (by rw [h1]; decide +kernel) rfl ?_
    refine lv_iload_n hx hb xd_R_multiply_28 rfl (lv_at hl 1 rfl) ?_
    refine lv_iload_n hx hb xd_R_multiply_29 rfl (lv_at hl 2 rfl) ?_
    refine lv_imul hx hb xd_R_multiply_30 ?_
    exact hret _ () H locs ls _ (by unfold xf_R_multiply; exact (xit h1 rfl)) hP hD hS xd_R_multiply_31
  · refine (Decidable.em (p0 = 1)).elim (fun h2 => ?_) (fun h2 => ?_)
    · refine lv_tableIn (tgt := 32) (off := 31) hx hb xd_R_multiply_1 (by rw [h2]; decide) (by rw [h2]; decide) (by rw [h2]; decide +kernel) rfl ?_
      refine lv_iload_n hx hb xd_R_multiply_32 rfl (lv_at hl 1 rfl) ?_
      refine lv_i2l (v := (Int32.toInt64 p1)) hx hb xd_R_multiply_33 rfl ?_
      refine lv_iload_n hx hb xd_R_multiply_34 rfl (lv_at hl 2 rfl) ?_
      refine lv_i2l (v := (Int32.toInt64 p2)) hx hb xd_R_multiply_35 rfl ?_
      refine lv_lmul hx hb xd_R_multiply_36 ?_
      refine lv_bipush (v := 32) hx hb xd_R_multiply_37 (by decide) ?_
      refine lv_lshr (v := (((Int32.toInt64 p1) * (Int32.toInt64 p2)) >>> (Int32.toInt64 (32 : Int32) &&& 63))) hx hb xd_R_multiply_39 rfl ?_
      refine lv_l2i (v := (Int64.toInt32 (((Int32.toInt64 p1) * (Int32.toInt64 p2)) >>> (Int32.toInt64 (32 : Int32) &&& 63)))) hx hb xd_R_multiply_40 rfl ?_
      exact hret _ () H locs ls _ (by unfold xf_R_multiply; exact (xif h1 (xit h2 rfl))) hP hD hS xd_R_multiply_41
    · refine (Decidable.em (p0 = 2)).elim (fun h3 => ?_) (fun h3 => ?_)
      · refine lv_tableIn (tgt := 42) (off := 41) hx hb xd_R_multiply_1 (by rw [h3]; decide) (by rw [h3]; decide) (by rw [h3]; decide +kernel) rfl ?_
        refine lv_iload_n hx hb xd_R_multiply_42 rfl (lv_at hl 1 rfl) ?_
        refine lv_i2l (v := (Int32.toInt64 p1)) hx hb xd_R_multiply_43 rfl ?_
        refine lv_iload_n hx hb xd_R_multiply_44 rfl (lv_at hl 2 rfl) ?_
        refine lv_i2l (v := (Int32.toInt64 p2)) hx hb xd_R_multiply_45 rfl ?_
        refine lv_ldc2 (v := 4294967295) hx hb hown (htg _ xw_554) xd_R_multiply_46 ?_
        refine lv_land hx hb xd_R_multiply_49 ?_
        refine lv_lmul hx hb xd_R_multiply_50 ?_
        refine lv_bipush (v := 32) hx hb xd_R_multiply_51 (by decide) ?_
        refine lv_lshr (v := (((Int32.toInt64 p1) * ((Int32.toInt64 p2) &&& (4294967295 : Int64))) >>> (Int32.toInt64 (32 : Int32) &&& 63))) hx hb xd_R_multiply_53 rfl ?_
        refine lv_l2i (v := (Int64.toInt32 (((Int32.toInt64 p1) * ((Int32.toInt64 p2) &&& (4294967295 : Int64))) >>> (Int32.toInt64 (32 : Int32) &&& 63)))) hx hb xd_R_multiply_54 rfl ?_
        exact hret _ () H locs ls _ (by unfold xf_R_multiply; exact (xif h1 (xif h2 (xit h3 rfl)))) hP hD hS xd_R_multiply_55
      · refine lv_tableOut (tgt := 56) hx hb xd_R_multiply_1 (xsw_out [0, 1, 2] (by decide) (by simp only [List.forall_mem_cons, List.not_mem_nil, false_imp_iff, implies_true, and_true]; exact ⟨h1, h2, h3⟩)) rfl ?_
        refine lv_iload_n hx hb xd_R_multiply_56 rfl (lv_at hl 1 rfl) ?_
        refine lv_i2l (v := (Int32.toInt64 p1)) hx hb xd_R_multiply_57 rfl ?_
        refine lv_ldc2 (v := 4294967295) hx hb hown (htg _ xw_554) xd_R_multiply_58 ?_
        refine lv_land hx hb xd_R_multiply_61 ?_
        refine lv_iload_n hx hb xd_R_multiply_62 rfl (lv_at hl 2 rfl) ?_
        refine lv_i2l (v := (Int32.toInt64 p2)) hx hb xd_R_multiply_63 rfl ?_
        refine lv_ldc2 (v := 4294967295) hx hb hown (htg _ xw_554) xd_R_multiply_64 ?_
        refine lv_land hx hb xd_R_multiply_67 ?_
        refine lv_lmul hx hb xd_R_multiply_68 ?_
        refine lv_bipush (v := 32) hx hb xd_R_multiply_69 (by decide) ?_
        refine lv_lushr (v := (xul (((Int32.toInt64 p1) &&& (4294967295 : Int64)) * ((Int32.toInt64 p2) &&& (4294967295 : Int64))) (32 : Int32))) hx hb xd_R_multiply_71 rfl ?_
        refine lv_l2i (v := (Int64.toInt32 (xul (((Int32.toInt64 p1) &&& (4294967295 : Int64)) * ((Int32.toInt64 p2) &&& (4294967295 : Int64))) (32 : Int32)))) hx hb xd_R_multiply_72 rfl ?_
        exact hret _ () H locs ls _ (by unfold xf_R_multiply; exact (xif h1 (xif h2 (xif h3 rfl)))) hP hD hS xd_R_multiply_73

noncomputable def xf_R_divide (p0 : Int32) (p1 : Int32) (p2 : Int32) : Int32 :=
  xlt (if p0 < 6 then (0) else (1) : Int32) fun v2 =>
  if p2 = 0 then
    xlt (if v2 = 0 then ((-1)) else (p1) : Int32) fun v22 =>
    v22
  else
    xlt (if (p0 &&& (1 : Int32)) = 0 then (0) else (1) : Int32) fun v6 =>
    xlt (if v6 = 0 then ((Int32.toInt64 p1)) else (((Int32.toInt64 p1) &&& (4294967295 : Int64))) : Int64) fun v9 =>
    xlt (if v6 = 0 then ((Int32.toInt64 p2)) else (((Int32.toInt64 p2) &&& (4294967295 : Int64))) : Int64) fun v12 =>
    xlt (if v2 = 0 then ((v9 / v12)) else ((v9 - v9 / v12 * v12)) : Int64) fun v15 =>
    (Int64.toInt32 v15)
set_option maxHeartbeats 4000000 in
set_option maxRecDepth 100000 in
theorem c_R_divide (l : Launch) (D : va_G) (tys : List (ClassId × FieldType)) (z : (Nat → Nat) × (Nat → Nat)) (sz : Nat) (p0 : Int32) (p1 : Int32) (p2 : Int32) : Met l xy_R_divide (xk_R_divide :: lw_g) { frames := 0, cells := 0, slots := 0, locals := 0 } (va_Pc [.int p0, .int p1, .int p2] (xB D tys z sz [])) (va_Qi (fun r (_ : Unit) => r = xf_R_divide p0 p1 p2) (fun _ t => xQ D tys [] (va_A [] sz) t) (va_A [] sz)) 0 0 (va_A [] sz) := by
  refine xopen_i (lv := [(0, .int p0), (1, .int p1), (2, .int p2)]) (by decide) rfl (Nat.le_of_ble_eq_true rfl) ?_
  intro p e s m args below meth c Q ls A H locs hx hb hml htg hown hin hK hP hD hE hS hA hl hret
  refine lv_iload_n hx hb xd_R_divide_0 rfl (lv_at hl 0 rfl) ?_
  refine lv_bipush (v := 6) hx hb xd_R_divide_1 (by decide) ?_
  have hj3 : ∀ (H : Heap) (locs : List Loc) (ls : Array Slot) (v2 : Int32), v2 = (if p0 < 6 then (0) else (1)) → lv_has ls 9 [(0, .int p0), (1, .int p1), (2, .int p2)] → va_P D xCl [] H → va_D A [] → va_S A s.heap H locs → W p l e { frames := 0, cells := 0, slots := 0, locals := 0 } s m args below meth c H locs (0) (0) Q (F0 m 11 ls [.int v2]) := by
    intro H locs ls v2 hv2 hl hP hD hS
    refine lv_istore_n (lv' := [(3, .int v2), (0, .int p0), (1, .int p1), (2, .int p2)]) hx hb xd_R_divide_11 rfl hl (by decide) rfl (fun ls hl => ?_)
    refine lv_iload_n hx hb xd_R_divide_12 rfl (lv_at hl 3 rfl) ?_
    refine lv_if_ne (tgt := 26) hx hb xd_R_divide_13 rfl (fun h4 => ?_) (fun h4 => ?_)
    · refine lv_iload_n hx hb xd_R_divide_26 rfl (lv_at hl 1 rfl) ?_
      refine lv_iconst (v := 1) hx hb xd_R_divide_27 (by decide) ?_
      refine lv_iand hx hb xd_R_divide_28 ?_
      have hj7 : ∀ (H : Heap) (locs : List Loc) (ls : Array Slot) (v6 : Int32), v6 = (if (p0 &&& (1 : Int32)) = 0 then (0) else (1)) → lv_has ls 9 [(3, .int v2), (0, .int p0), (1, .int p1), (2, .int p2)] → va_P D xCl [] H → va_D A [] → va_S A s.heap H locs → W p l e { frames := 0, cells := 0, slots := 0, locals := 0 } s m args below meth c H locs (0) (0) Q (F0 m 37 ls [.int v6]) := by
        intro H locs ls v6 hv6 hl hP hD hS
        refine lv_istore (lv' := [(4, .int v6), (3, .int v2), (0, .int p0), (1, .int p1), (2, .int p2)]) hx hb xd_R_divide_37 hl (by decide) rfl (fun ls hl => ?_)
        refine lv_iload hx hb xd_R_divide_39 (lv_at hl 0 rfl) ?_
        have hj10 : ∀ (H : Heap) (locs : List Loc) (ls : Array Slot) (v9 : Int64), v9 = (if v6 = 0 then ((Int32.toInt64 p1)) else (((Int32.toInt64 p1) &&& (4294967295 : Int64)))) → lv_has ls 9 [(4, .int v6), (3, .int v2), (0, .int p0), (1, .int p1), (2, .int p2)] → va_P D xCl [] H → va_D A [] → va_S A s.heap H locs → W p l e { frames := 0, cells := 0, slots := 0, locals := 0 } s m args below meth c H locs (0) (0) Q (F0 m 55 ls [.long v9]) := by
          intro H locs ls v9 hv9 hl hP hD hS
          refine lv_lstore (lv' := [(5, .long v9), (4, .int v6), (3, .int v2), (0, .int p0), (1, .int p1), (2, .int p2)]) hx hb xd_R_divide_55 hl (by decide) rfl (fun ls hl => ?_)
          refine lv_iload hx hb xd_R_divide_57 (lv_at hl 1 rfl) ?_
          have hj13 : ∀ (H : Heap) (locs : List Loc) (ls : Array Slot) (v12 : Int64), v12 = (if v6 = 0 then ((Int32.toInt64 p2)) else (((Int32.toInt64 p2) &&& (4294967295 : Int64)))) → lv_has ls 9 [(5, .long v9), (4, .int v6), (3, .int v2), (0, .int p0), (1, .int p1), (2, .int p2)] → va_P D xCl [] H → va_D A [] → va_S A s.heap H locs → W p l e { frames := 0, cells := 0, slots := 0, locals := 0 } s m args below meth c H locs (0) (0) Q (F0 m 73 ls [.long v12]) := by
            intro H locs ls v12 hv12 hl hP hD hS
            refine lv_lstore (lv' := [(7, .long v12), (5, .long v9), (4, .int v6), (3, .int v2), (0, .int p0), (1, .int p1), (2, .int p2)]) hx hb xd_R_divide_73 hl (by decide) rfl (fun ls hl => ?_)
            refine lv_iload_n hx hb xd_R_divide_75 rfl (lv_at hl 3 rfl) ?_
            have hj16 : ∀ (H : Heap) (locs : List Loc) (ls : Array Slot) (v15 : Int64), v15 = (if v2 = 0 then ((v9 / v12)) else ((v9 - v9 / v12 * v12))) → lv_has ls 9 [(7, .long v12), (5, .long v9), (4, .int v6), (3, .int v2), (0, .int p0), (1, .int p1), (2, .int p2)] → va_P D xCl [] H → va_D A [] → va_S A s.heap H locs → W p l e { frames := 0, cells := 0, slots := 0, locals := 0 } s m args below meth c H locs (0) (0) Q (F0 m 92 ls [.long v15]) := by
              intro H locs ls v15 hv15 hl hP hD hS
              refine lv_l2i (v := (Int64.toInt32 v15)) hx hb xd_R_divide_92 rfl ?_
              exact hret _ () H locs ls _ (by unfold xf_R_divide; exact (xlt_e hv2 (xif h4 (xlt_e hv6 (xlt_e hv9 (xlt_e hv12 (xlt_e hv15 rfl))))))) hP hD hS xd_R_divide_93
            refine lv_if_eq (tgt := 87) hx hb xd_R_divide_76 rfl (fun h17 => ?_) (fun h17 => ?_)
            · refine lv_lload hx hb xd_R_divide_87 (lv_at hl 1 rfl) ?_
              refine lv_lload hx hb xd_R_divide_89 (lv_at hl 0 rfl) ?_
              refine lv_ldiv hx hb xd_R_divide_91 (by rw [hv12]; split <;> first | exact xne_l (by assumption) | exact xne_u (by assumption)) ?_
              exact hj16 H locs ls (v9 / v12) (xit h17 rfl) hl hP hD hS
            · refine lv_lload hx hb xd_R_divide_79 (lv_at hl 1 rfl) ?_
              refine lv_lload hx hb xd_R_divide_81 (lv_at hl 0 rfl) ?_
              refine lv_lrem hx hb xd_R_divide_83 (by rw [hv12]; split <;> first | exact xne_l (by assumption) | exact xne_u (by assumption)) ?_
              refine lv_goto (tgt := 92) hx hb xd_R_divide_84 rfl ?_
              exact hj16 H locs ls (v9 - v9 / v12 * v12) (xif h17 rfl) hl hP hD hS
          refine lv_if_eq (tgt := 71) hx hb xd_R_divide_59 rfl (fun h18 => ?_) (fun h18 => ?_)
          · refine lv_iload_n hx hb xd_R_divide_71 rfl (lv_at hl 5 rfl) ?_
            refine lv_i2l (v := (Int32.toInt64 p2)) hx hb xd_R_divide_72 rfl ?_
            exact hj13 H locs ls (Int32.toInt64 p2) (xit h18 rfl) hl hP hD hS
          · refine lv_iload_n hx hb xd_R_divide_62 rfl (lv_at hl 5 rfl) ?_
            refine lv_i2l (v := (Int32.toInt64 p2)) hx hb xd_R_divide_63 rfl ?_
            refine lv_ldc2 (v := 4294967295) hx hb hown (htg _ xw_554) xd_R_divide_64 ?_
            refine lv_land hx hb xd_R_divide_67 ?_
            refine lv_goto (tgt := 73) hx hb xd_R_divide_68 rfl ?_
            exact hj13 H locs ls ((Int32.toInt64 p2) &&& (4294967295 : Int64)) (xif h18 rfl) hl hP hD hS
        refine lv_if_eq (tgt := 53) hx hb xd_R_divide_41 rfl (fun h19 => ?_) (fun h19 => ?_)
        · refine lv_iload_n hx hb xd_R_divide_53 rfl (lv_at hl 3 rfl) ?_
          refine lv_i2l (v := (Int32.toInt64 p1)) hx hb xd_R_divide_54 rfl ?_
          exact hj10 H locs ls (Int32.toInt64 p1) (xit h19 rfl) hl hP hD hS
        · refine lv_iload_n hx hb xd_R_divide_44 rfl (lv_at hl 3 rfl) ?_
          refine lv_i2l (v := (Int32.toInt64 p1)) hx hb xd_R_divide_45 rfl ?_
          refine lv_ldc2 (v := 4294967295) hx hb hown (htg _ xw_554) xd_R_divide_46 ?_
          refine lv_land hx hb xd_R_divide_49 ?_
          refine lv_goto (tgt := 55) hx hb xd_R_divide_50 rfl ?_
          exact hj10 H locs ls ((Int32.toInt64 p1) &&& (4294967295 : Int64)) (xif h19 rfl) hl hP hD hS
      refine lv_if_eq (tgt := 36) hx hb xd_R_divide_29 rfl (fun h20 => ?_) (fun h20 => ?_)
      · refine lv_iconst (v := 0) hx hb xd_R_divide_36 (by decide) ?_
        exact hj7 H locs ls (0 : Int32) (xit h20 rfl) hl hP hD hS
      · refine lv_iconst (v := 1) hx hb xd_R_divide_32 (by decide) ?_
        refine lv_goto (tgt := 37) hx hb xd_R_divide_33 rfl ?_
        exact hj7 H locs ls (1 : Int32) (xif h20 rfl) hl hP hD hS
    · refine lv_iload_n hx hb xd_R_divide_16 rfl (lv_at hl 0 rfl) ?_
      have hj23 : ∀ (H : Heap) (locs : List Loc) (ls : Array Slot) (v22 : Int32), v22 = (if v2 = 0 then ((-1)) else (p1)) → lv_has ls 9 [(3, .int v2), (0, .int p0), (1, .int p1), (2, .int p2)] → va_P D xCl [] H → va_D A [] → va_S A s.heap H locs → W p l e { frames := 0, cells := 0, slots := 0, locals := 0 } s m args below meth c H locs (0) (0) Q (F0 m 25 ls [.int v22]) := by
        intro H locs ls v22 hv22 hl hP hD hS
        exact hret _ () H locs ls _ (by unfold xf_R_divide; exact (xlt_e hv2 (xit h4 (xlt_e hv22 rfl)))) hP hD hS xd_R_divide_25
      refine lv_if_eq (tgt := 24) hx hb xd_R_divide_17 rfl (fun h24 => ?_) (fun h24 => ?_)
      · refine lv_iconst (v := (-1)) hx hb xd_R_divide_24 (by decide) ?_
        exact hj23 H locs ls (-1 : Int32) (xit h24 rfl) hl hP hD hS
      · refine lv_iload_n hx hb xd_R_divide_20 rfl (lv_at hl 2 rfl) ?_
        refine lv_goto (tgt := 25) hx hb xd_R_divide_21 rfl ?_
        exact hj23 H locs ls p1 (xif h24 rfl) hl hP hD hS
  refine lv_icmp_lt (tgt := 10) hx hb xd_R_divide_3 rfl (fun h25 => ?_) (fun h25 => ?_)
  · refine lv_iconst (v := 0) hx hb xd_R_divide_10 (by decide) ?_
    exact hj3 H locs ls (0 : Int32) (xit h25 rfl) hl hP hD hS
  · refine lv_iconst (v := 1) hx hb xd_R_divide_6 (by decide) ?_
    refine lv_goto (tgt := 11) hx hb xd_R_divide_7 rfl ?_
    exact hj3 H locs ls (1 : Int32) (xif h25 rfl) hl hP hD hS

noncomputable def xf_R_isComparison (p0 : Int32) : Int32 :=
  xlt (if p0 = 2 then (0) else (if p0 = 3 then (0) else (1)) : Int32) fun v3 =>
  v3
set_option maxHeartbeats 4000000 in
set_option maxRecDepth 100000 in
theorem c_R_isComparison (l : Launch) (D : va_G) (tys : List (ClassId × FieldType)) (z : (Nat → Nat) × (Nat → Nat)) (sz : Nat) (p0 : Int32) : Met l xy_R_isComparison (xk_R_isComparison :: lw_g) { frames := 0, cells := 0, slots := 0, locals := 0 } (va_Pc [.int p0] (xB D tys z sz [])) (va_Qi (fun r (_ : Unit) => r = xf_R_isComparison p0) (fun _ t => xQ D tys [] (va_A [] sz) t) (va_A [] sz)) 0 0 (va_A [] sz) := by
  refine xopen_z (lv := [(0, .int p0)]) (by decide) rfl (Nat.le_of_ble_eq_true rfl) ?_
  intro p e s m args below meth c Q ls A H locs hx hb hml htg hown hin hK hP hD hE hS hA hl hret
  refine lv_iload_n hx hb xd_R_isComparison_0 rfl (lv_at hl 0 rfl) ?_
  refine lv_iconst (v := 2) hx hb xd_R_isComparison_1 (by decide) ?_
  have hj4 : ∀ (H : Heap) (locs : List Loc) (ls : Array Slot) (v3 : Int32), v3 = (if p0 = 2 then (0) else (if p0 = 3 then (0) else (1))) → lv_has ls 1 [(0, .int p0)] → va_P D xCl [] H → va_D A [] → va_S A s.heap H locs → W p l e { frames := 0, cells := 0, slots := 0, locals := 0 } s m args below meth c H locs (0) (0) Q (F0 m 15 ls [.int v3]) := by
    intro H locs ls v3 hv3 hl hP hD hS
    exact hret _ () H locs ls _ (xnar (X01_of hv3 (xit_01 (Or.inl rfl) (xit_01 (Or.inl rfl) (Or.inr rfl))))) (by unfold xf_R_isComparison; exact (xlt_e hv3 rfl)) hP hD hS xd_R_isComparison_15
  refine lv_icmp_eq (tgt := 14) hx hb xd_R_isComparison_2 rfl (fun h5 => ?_) (fun h5 => ?_)
  · refine lv_iconst (v := 0) hx hb xd_R_isComparison_14 (by decide) ?_
    exact hj4 H locs ls (0 : Int32) (xit h5 rfl) hl hP hD hS
  · refine lv_iload_n hx hb xd_R_isComparison_5 rfl (lv_at hl 0 rfl) ?_
    refine lv_iconst (v := 3) hx hb xd_R_isComparison_6 (by decide) ?_
    refine lv_icmp_eq (tgt := 14) hx hb xd_R_isComparison_7 rfl (fun h6 => ?_) (fun h6 => ?_)
    · refine lv_iconst (v := 0) hx hb xd_R_isComparison_14 (by decide) ?_
      exact hj4 H locs ls (0 : Int32) (xif h5 (xit h6 rfl)) hl hP hD hS
    · refine lv_iconst (v := 1) hx hb xd_R_isComparison_10 (by decide) ?_
      refine lv_goto (tgt := 15) hx hb xd_R_isComparison_11 rfl ?_
      exact hj4 H locs ls (1 : Int32) (xif h5 (xif h6 rfl)) hl hP hD hS
theorem xt01_R_isComparison (p0 : Int32) : X01 (xf_R_isComparison p0) := by unfold xf_R_isComparison; exact (xlt_01 (fun v3 hv3 => (X01_of hv3 (xit_01 (Or.inl rfl) (xit_01 (Or.inl rfl) (Or.inr rfl))))))

noncomputable def xf_R_holds (p0 : Int32) (p1 : Int32) (p2 : Int32) : Int32 :=
  xlt (if (p0 &&& (1 : Int32)) = 0 then (0) else (1) : Int32) fun v2 =>
  if 4 ≤ p0 then
    xlt (if 6 ≤ p0 then (xlt (xf_R_lessNoSign p1 p2 : Int32) fun r6 => r6) else (if p2 ≤ p1 then (0) else (1)) : Int32) fun v8 =>
    xlt (if v8 = v2 then (0) else (1) : Int32) fun v11 =>
    v11
  else
    xlt (if p1 = p2 then (1) else (0) : Int32) fun v18 =>
    xlt (if v18 = v2 then (0) else (1) : Int32) fun v21 =>
    v21
set_option maxHeartbeats 4000000 in
set_option maxRecDepth 100000 in
theorem c_R_holds (l : Launch) (D : va_G) (tys : List (ClassId × FieldType)) (z : (Nat → Nat) × (Nat → Nat)) (sz : Nat) (p0 : Int32) (p1 : Int32) (p2 : Int32) : Met l xy_R_holds (xk_R_holds :: lw_g) { frames := 1, cells := 0, slots := 0, locals := 21 } (va_Pc [.int p0, .int p1, .int p2] (xB D tys z sz [])) (va_Qi (fun r (_ : Unit) => r = xf_R_holds p0 p1 p2) (fun _ t => xQ D tys [] (va_A [] sz) t) (va_A [] sz)) 0 0 (va_A [] sz) := by
  refine xopen_z (lv := [(0, .int p0), (1, .int p1), (2, .int p2)]) (by decide) rfl (Nat.le_of_ble_eq_true rfl) ?_
  intro p e s m args below meth c Q ls A H locs hx hb hml htg hown hin hK hP hD hE hS hA hl hret
  refine lv_iload_n hx hb xd_R_holds_0 rfl (lv_at hl 0 rfl) ?_
  refine lv_iconst (v := 1) hx hb xd_R_holds_1 (by decide) ?_
  refine lv_iand hx hb xd_R_holds_2 ?_
  have hj3 : ∀ (H : Heap) (locs : List Loc) (ls : Array Slot) (v2 : Int32), v2 = (if (p0 &&& (1 : Int32)) = 0 then (0) else (1)) → lv_has ls 4 [(0, .int p0), (1, .int p1), (2, .int p2)] → va_P D xCl [] H → va_D A [] → va_S A s.heap H locs → W p l e { frames := 1, cells := 0, slots := 0, locals := 21 } s m args below meth c H locs (0) (0) Q (F0 m 11 ls [.int v2]) := by
    intro H locs ls v2 hv2 hl hP hD hS
    refine lv_istore_n (lv' := [(3, .int v2), (0, .int p0), (1, .int p1), (2, .int p2)]) hx hb xd_R_holds_11 rfl hl (by decide) rfl (fun ls hl => ?_)
    refine lv_iload_n hx hb xd_R_holds_12 rfl (lv_at hl 1 rfl) ?_
    refine lv_iconst (v := 4) hx hb xd_R_holds_13 (by decide) ?_
    refine lv_icmp_ge (tgt := 37) hx hb xd_R_holds_14 rfl (fun h4 => ?_) (fun h4 => ?_)
    · refine lv_iload_n hx hb xd_R_holds_37 rfl (lv_at hl 1 rfl) ?_
      refine lv_bipush (v := 6) hx hb xd_R_holds_38 (by decide) ?_
      have hj9 : ∀ (H : Heap) (locs : List Loc) (ls : Array Slot) (v8 : Int32), v8 = (if 6 ≤ p0 then (xlt (xf_R_lessNoSign p1 p2 : Int32) fun r6 => r6) else (if p2 ≤ p1 then (0) else (1))) → lv_has ls 4 [(3, .int v2), (0, .int p0), (1, .int p1), (2, .int p2)] → va_P D xCl [] H → va_D A [] → va_S A s.heap H locs → W p l e { frames := 1, cells := 0, slots := 0, locals := 21 } s m args below meth c H locs (0) (0) Q (F0 m 61 ls [.int v8]) := by
        intro H locs ls v8 hv8 hl hP hD hS
        refine lv_iload_n hx hb xd_R_holds_61 rfl (lv_at hl 0 rfl) ?_
        have hj12 : ∀ (H : Heap) (locs : List Loc) (ls : Array Slot) (v11 : Int32), v11 = (if v8 = v2 then (0) else (1)) → lv_has ls 4 [(3, .int v2), (0, .int p0), (1, .int p1), (2, .int p2)] → va_P D xCl [] H → va_D A [] → va_S A s.heap H locs → W p l e { frames := 1, cells := 0, slots := 0, locals := 21 } s m args below meth c H locs (0) (0) Q (F0 m 70 ls [.int v11]) := by
          intro H locs ls v11 hv11 hl hP hD hS
          exact hret _ () H locs ls _ (xnar (X01_of hv11 (xit_01 (Or.inl rfl) (Or.inr rfl)))) (by unfold xf_R_holds; exact (xlt_e hv2 (xit h4 (xlt_e hv8 (xlt_e hv11 rfl))))) hP hD hS xd_R_holds_70
        refine lv_icmp_eq (tgt := 69) hx hb xd_R_holds_62 rfl (fun h13 => ?_) (fun h13 => ?_)
        · refine lv_iconst (v := 0) hx hb xd_R_holds_69 (by decide) ?_
          exact hj12 H locs ls (0 : Int32) (xit h13 rfl) hl hP hD hS
        · refine lv_iconst (v := 1) hx hb xd_R_holds_65 (by decide) ?_
          refine lv_goto (tgt := 70) hx hb xd_R_holds_66 rfl ?_
          exact hj12 H locs ls (1 : Int32) (xif h13 rfl) hl hP hD hS
      refine lv_icmp_ge (tgt := 56) hx hb xd_R_holds_40 rfl (fun h14 => ?_) (fun h14 => ?_)
      · refine lv_iload_n hx hb xd_R_holds_56 rfl (lv_at hl 2 rfl) ?_
        refine lv_iload_n hx hb xd_R_holds_57 rfl (lv_at hl 3 rfl) ?_
        refine xc0_i (va_runS (As := [.int p1, .int p2]) (rest := []) ⟨hx, hb, hml, hown, htg⟩ (c_R_lessNoSign l D tys z H.size p1 p2) (va_cwS 2 htg (xg_S0 xkin_R_lessNoSign xw_551 xw_552 xw_14) rfl rfl rfl (by decide +kernel) ⟨Nat.le_of_ble_eq_true rfl, Nat.le_of_ble_eq_true rfl⟩) ⟨xB_blind, fun U hU hW => xB_mk va_P0 hK va_D0 hE hS (xsub0 hA hS) hU hW⟩ rfl rfl hl.1 rfl (lv_room (Nat.le_of_ble_eq_true rfl)) xd_R_holds_58 ⟨Nat.le_of_ble_eq_true rfl, Nat.le_of_ble_eq_true rfl⟩) hP hA hS (fun r15 H locs hr15 hP hS => ?_)
        exact hj9 H locs ls r15 (xit h14 (xlt_e hr15 rfl)) hl hP hD hS
      · refine lv_iload_n hx hb xd_R_holds_43 rfl (lv_at hl 2 rfl) ?_
        refine lv_iload_n hx hb xd_R_holds_44 rfl (lv_at hl 3 rfl) ?_
        refine lv_icmp_ge (tgt := 52) hx hb xd_R_holds_45 rfl (fun h16 => ?_) (fun h16 => ?_)
        · refine lv_iconst (v := 0) hx hb xd_R_holds_52 (by decide) ?_
          refine lv_goto (tgt := 61) hx hb xd_R_holds_53 rfl ?_
          exact hj9 H locs ls (0 : Int32) (xif h14 (xit h16 rfl)) hl hP hD hS
        · refine lv_iconst (v := 1) hx hb xd_R_holds_48 (by decide) ?_
          refine lv_goto (tgt := 61) hx hb xd_R_holds_49 rfl ?_
          exact hj9 H locs ls (1 : Int32) (xif h14 (xif h16 rfl)) hl hP hD hS
    · refine lv_iload_n hx hb xd_R_holds_17 rfl (lv_at hl 2 rfl) ?_
      refine lv_iload_n hx hb xd_R_holds_18 rfl (lv_at hl 3 rfl) ?_
      have hj19 : ∀ (H : Heap) (locs : List Loc) (ls : Array Slot) (v18 : Int32), v18 = (if p1 = p2 then (1) else (0)) → lv_has ls 4 [(3, .int v2), (0, .int p0), (1, .int p1), (2, .int p2)] → va_P D xCl [] H → va_D A [] → va_S A s.heap H locs → W p l e { frames := 1, cells := 0, slots := 0, locals := 21 } s m args below meth c H locs (0) (0) Q (F0 m 27 ls [.int v18]) := by
        intro H locs ls v18 hv18 hl hP hD hS
        refine lv_iload_n hx hb xd_R_holds_27 rfl (lv_at hl 0 rfl) ?_
        have hj22 : ∀ (H : Heap) (locs : List Loc) (ls : Array Slot) (v21 : Int32), v21 = (if v18 = v2 then (0) else (1)) → lv_has ls 4 [(3, .int v2), (0, .int p0), (1, .int p1), (2, .int p2)] → va_P D xCl [] H → va_D A [] → va_S A s.heap H locs → W p l e { frames := 1, cells := 0, slots := 0, locals := 21 } s m args below meth c H locs (0) (0) Q (F0 m 36 ls [.int v21]) := by
          intro H locs ls v21 hv21 hl hP hD hS
          exact hret _ () H locs ls _ (xnar (X01_of hv21 (xit_01 (Or.inl rfl) (Or.inr rfl)))) (by unfold xf_R_holds; exact (xlt_e hv2 (xif h4 (xlt_e hv18 (xlt_e hv21 rfl))))) hP hD hS xd_R_holds_36
        refine lv_icmp_eq (tgt := 35) hx hb xd_R_holds_28 rfl (fun h23 => ?_) (fun h23 => ?_)
        · refine lv_iconst (v := 0) hx hb xd_R_holds_35 (by decide) ?_
          exact hj22 H locs ls (0 : Int32) (xit h23 rfl) hl hP hD hS
        · refine lv_iconst (v := 1) hx hb xd_R_holds_31 (by decide) ?_
          refine lv_goto (tgt := 36) hx hb xd_R_holds_32 rfl ?_
          exact hj22 H locs ls (1 : Int32) (xif h23 rfl) hl hP hD hS
      refine lv_icmp_ne (tgt := 26) hx hb xd_R_holds_19 rfl (fun h24 => ?_) (fun h24 => ?_)
      · refine lv_iconst (v := 0) hx hb xd_R_holds_26 (by decide) ?_
        exact hj19 H locs ls (0 : Int32) (xif h24 rfl) hl hP hD hS
      · refine lv_iconst (v := 1) hx hb xd_R_holds_22 (by decide) ?_
        refine lv_goto (tgt := 27) hx hb xd_R_holds_23 rfl ?_
        exact hj19 H locs ls (1 : Int32) (xit h24 rfl) hl hP hD hS
  refine lv_if_eq (tgt := 10) hx hb xd_R_holds_3 rfl (fun h25 => ?_) (fun h25 => ?_)
  · refine lv_iconst (v := 0) hx hb xd_R_holds_10 (by decide) ?_
    exact hj3 H locs ls (0 : Int32) (xit h25 rfl) hl hP hD hS
  · refine lv_iconst (v := 1) hx hb xd_R_holds_6 (by decide) ?_
    refine lv_goto (tgt := 11) hx hb xd_R_holds_7 rfl ?_
    exact hj3 H locs ls (1 : Int32) (xif h25 rfl) hl hP hD hS
theorem xt01_R_holds (p0 : Int32) (p1 : Int32) (p2 : Int32) : X01 (xf_R_holds p0 p1 p2) := by unfold xf_R_holds; exact (xlt_01 (fun v2 hv2 => (xit_01 (xlt_01 (fun v8 hv8 => (xlt_01 (fun v11 hv11 => (X01_of hv11 (xit_01 (Or.inl rfl) (Or.inr rfl))))))) (xlt_01 (fun v18 hv18 => (xlt_01 (fun v21 hv21 => (X01_of hv21 (xit_01 (Or.inl rfl) (Or.inr rfl))))))))))

noncomputable def xf_K_isOfS (p0 : Int32) : Int32 :=
  if p0 = 256 then
    1
  else
    if p0 = 260 then
      1
    else
      if p0 = 261 then
        1
      else
        if p0 = 320 then
          1
        else
          if p0 = 321 then
            1
          else
            if p0 = 322 then
              1
            else
              if p0 = 323 then
                1
              else
                if p0 = 324 then
                  1
                else
                  if p0 = 384 then
                    1
                  else
                    0
set_option maxHeartbeats 4000000 in
set_option maxRecDepth 100000 in
theorem c_K_isOfS (l : Launch) (D : va_G) (tys : List (ClassId × FieldType)) (z : (Nat → Nat) × (Nat → Nat)) (sz : Nat) (p0 : Int32) : Met l xy_K_isOfS (xk_K_isOfS :: lw_g) { frames := 0, cells := 0, slots := 0, locals := 0 } (va_Pc [.int p0] (xB D tys z sz [])) (va_Qi (fun r (_ : Unit) => r = xf_K_isOfS p0) (fun _ t => xQ D tys [] (va_A [] sz) t) (va_A [] sz)) 0 0 (va_A [] sz) := by
  refine xopen_z (lv := [(0, .int p0)]) (by decide) rfl (Nat.le_of_ble_eq_true rfl) ?_
  intro p e s m args below meth c Q ls A H locs hx hb hml htg hown hin hK hP hD hE hS hA hl hret
  refine lv_iload_n hx hb xd_K_isOfS_0 rfl (lv_at hl 0 rfl) ?_
  refine (Decidable.em (p0 = 256)).elim (fun h1 => ?_) (fun h1 => ?_)
  · refine lv_lookup (tgt := 84) (off := 83) hx hb xd_K_isOfS_1 (by decide +kernel) (by rw [h1]; decide +kernel) rfl ?_
    refine lv_iconst (v := 1) hx hb xd_K_isOfS_84 (by decide) ?_
    exact hret _ () H locs ls _ rfl (by unfold xf_K_isOfS; exact (xit h1 rfl)) hP hD hS xd_K_isOfS_85
  · refine (Decidable.em (p0 = 260)).elim (fun h2 => ?_) (fun h2 => ?_)
    · refine lv_lookup (tgt := 84) (off := 83) hx hb xd_K_isOfS_1 (by decide +kernel) (by rw [h2]; decide +kernel) rfl ?_
      refine lv_iconst (v := 1) hx hb xd_K_isOfS_84 (by decide) ?_
      exact hret _ () H locs ls _ rfl (by unfold xf_K_isOfS; exact (xif h1 (xit h2 rfl))) hP hD hS xd_K_isOfS_85
    · refine (Decidable.em (p0 = 261)).elim (fun h3 => ?_) (fun h3 => ?_)
      · refine lv_lookup (tgt := 84) (off := 83) hx hb xd_K_isOfS_1 (by decide +kernel) (by rw [h3]; decide +kernel) rfl ?_
        refine lv_iconst (v := 1) hx hb xd_K_isOfS_84 (by decide) ?_
        exact hret _ () H locs ls _ rfl (by unfold xf_K_isOfS; exact (xif h1 (xif h2 (xit h3 rfl)))) hP hD hS xd_K_isOfS_85
      · refine (Decidable.em (p0 = 320)).elim (fun h4 => ?_) (fun h4 => ?_)
        · refine lv_lookup (tgt := 84) (off := 83) hx hb xd_K_isOfS_1 (by decide +kernel) (by rw [h4]; decide +kernel) rfl ?_
          refine lv_iconst (v := 1) hx hb xd_K_isOfS_84 (by decide) ?_
          exact hret _ () H locs ls _ rfl (by unfold xf_K_isOfS; exact (xif h1 (xif h2 (xif h3 (xit h4 rfl))))) hP hD hS xd_K_isOfS_85
        · refine (Decidable.em (p0 = 321)).elim (fun h5 => ?_) (fun h5 => ?_)
          · refine lv_lookup (tgt := 84) (off := 83) hx hb xd_K_isOfS_1 (by decide +kernel) (by rw [h5]; decide +kernel) rfl ?_
            refine lv_iconst (v := 1) hx hb xd_K_isOfS_84 (by decide) ?_
            exact hret _ () H locs ls _ rfl (by unfold xf_K_isOfS; exact (xif h1 (xif h2 (xif h3 (xif h4 (xit h5 rfl)))))) hP hD hS xd_K_isOfS_85
          · refine (Decidable.em (p0 = 322)).elim (fun h6 => ?_) (fun h6 => ?_)
            · refine lv_lookup (tgt := 84) (off := 83) hx hb xd_K_isOfS_1 (by decide +kernel) (by rw [h6]; decide +kernel) rfl ?_
              refine lv_iconst (v := 1) hx hb xd_K_isOfS_84 (by decide) ?_
              exact hret _ () H locs ls _ rfl (by unfold xf_K_isOfS; exact (xif h1 (xif h2 (xif h3 (xif h4 (xif h5 (xit h6 rfl))))))) hP hD hS xd_K_isOfS_85
            · refine (Decidable.em (p0 = 323)).elim (fun h7 => ?_) (fun h7 => ?_)
              · refine lv_lookup (tgt := 84) (off := 83) hx hb xd_K_isOfS_1 (by decide +kernel) (by rw [h7]; decide +kernel) rfl ?_
                refine lv_iconst (v := 1) hx hb xd_K_isOfS_84 (by decide) ?_
                exact hret _ () H locs ls _ rfl (by unfold xf_K_isOfS; exact (xif h1 (xif h2 (xif h3 (xif h4 (xif h5 (xif h6 (xit h7 rfl)))))))) hP hD hS xd_K_isOfS_85
              · refine (Decidable.em (p0 = 324)).elim (fun h8 => ?_) (fun h8 => ?_)
                · refine lv_lookup (tgt := 84) (off := 83) hx hb xd_K_isOfS_1 (by decide +kernel) (by rw [h8]; decide +kernel) rfl ?_
                  refine lv_iconst (v := 1) hx hb xd_K_isOfS_84 (by decide) ?_
                  exact hret _ () H locs ls _ rfl (by unfold xf_K_isOfS; exact (xif h1 (xif h2 (xif h3 (xif h4 (xif h5 (xif h6 (xif h7 (xit h8 rfl))))))))) hP hD hS xd_K_isOfS_85
                · refine (Decidable.em (p0 = 384)).elim (fun h9 => ?_) (fun h9 => ?_)
                  · refine lv_lookup (tgt := 84) (off := 83) hx hb xd_K_isOfS_1 (by decide +kernel) (by rw [h9]; decide +kernel) rfl ?_
                    refine lv_iconst (v := 1) hx hb xd_K_isOfS_84 (by decide) ?_
                    exact hret _ () H locs ls _ rfl (by unfold xf_K_isOfS; exact (xif h1 (xif h2 (xif h3 (xif h4 (xif h5 (xif h6 (xif h7 (xif h8 (xit h9 rfl)))))))))) hP hD hS xd_K_isOfS_85
                  · refine lv_lookup (tgt := 86) (off := 85) hx hb xd_K_isOfS_1 (by decide +kernel) (by first | (rw [lv_osw h1 (by decide), lv_osw h2 (by decide), lv_osw h3 (by decide), lv_osw h4 (by decide), lv_osw h5 (by decide), lv_osw h6 (by decide), lv_osw h7 (by decide), lv_osw h8 (by decide), lv_osw h9 (by decide)]; rfl) | (simp only [lv_osw h1 (by decide), lv_osw h2 (by decide), lv_osw h3 (by decide), lv_osw h4 (by decide), lv_osw h5 (by decide), lv_osw h6 (by decide), lv_osw h7 (by decide), lv_osw h8 (by decide), lv_osw h9 (by decide)]; rfl)) rfl ?_
                    refine lv_iconst (v := 0) hx hb xd_K_isOfS_86 (by decide) ?_
                    exact hret _ () H locs ls _ rfl (by unfold xf_K_isOfS; exact (xif h1 (xif h2 (xif h3 (xif h4 (xif h5 (xif h6 (xif h7 (xif h8 (xif h9 rfl)))))))))) hP hD hS xd_K_isOfS_87
theorem xt01_K_isOfS (p0 : Int32) : X01 (xf_K_isOfS p0) := by unfold xf_K_isOfS; exact (xit_01 (Or.inr rfl) (xit_01 (Or.inr rfl) (xit_01 (Or.inr rfl) (xit_01 (Or.inr rfl) (xit_01 (Or.inr rfl) (xit_01 (Or.inr rfl) (xit_01 (Or.inr rfl) (xit_01 (Or.inr rfl) (xit_01 (Or.inr rfl) (Or.inl rfl))))))))))

noncomputable def xf_K_isOfH (p0 : Int32) : Int32 :=
  if p0 = 1536 then
    1
  else
    if p0 = 1538 then
      1
    else
      if p0 = 1539 then
        1
      else
        if p0 = 1540 then
          1
        else
          if p0 = 1603 then
            1
          else
            if p0 = 1604 then
              1
            else
              if p0 = 1605 then
                1
              else
                if p0 = 1610 then
                  1
                else
                  if p0 = 1664 then
                    1
                  else
                    0
set_option maxHeartbeats 4000000 in
set_option maxRecDepth 100000 in
theorem c_K_isOfH (l : Launch) (D : va_G) (tys : List (ClassId × FieldType)) (z : (Nat → Nat) × (Nat → Nat)) (sz : Nat) (p0 : Int32) : Met l xy_K_isOfH (xk_K_isOfH :: lw_g) { frames := 0, cells := 0, slots := 0, locals := 0 } (va_Pc [.int p0] (xB D tys z sz [])) (va_Qi (fun r (_ : Unit) => r = xf_K_isOfH p0) (fun _ t => xQ D tys [] (va_A [] sz) t) (va_A [] sz)) 0 0 (va_A [] sz) := by
  refine xopen_z (lv := [(0, .int p0)]) (by decide) rfl (Nat.le_of_ble_eq_true rfl) ?_
  intro p e s m args below meth c Q ls A H locs hx hb hml htg hown hin hK hP hD hE hS hA hl hret
  refine lv_iload_n hx hb xd_K_isOfH_0 rfl (lv_at hl 0 rfl) ?_
  refine (Decidable.em (p0 = 1536)).elim (fun h1 => ?_) (fun h1 => ?_)
  · refine lv_lookup (tgt := 84) (off := 83) hx hb xd_K_isOfH_1 (by decide +kernel) (by rw [h1]; decide +kernel) rfl ?_
    refine lv_iconst (v := 1) hx hb xd_K_isOfH_84 (by decide) ?_
    exact hret _ () H locs ls _ rfl (by unfold xf_K_isOfH; exact (xit h1 rfl)) hP hD hS xd_K_isOfH_85
  · refine (Decidable.em (p0 = 1538)).elim (fun h2 => ?_) (fun h2 => ?_)
    · refine lv_lookup (tgt := 84) (off := 83) hx hb xd_K_isOfH_1 (by decide +kernel) (by rw [h2]; decide +kernel) rfl ?_
      refine lv_iconst (v := 1) hx hb xd_K_isOfH_84 (by decide) ?_
      exact hret _ () H locs ls _ rfl (by unfold xf_K_isOfH; exact (xif h1 (xit h2 rfl))) hP hD hS xd_K_isOfH_85
    · refine (Decidable.em (p0 = 1539)).elim (fun h3 => ?_) (fun h3 => ?_)
      · refine lv_lookup (tgt := 84) (off := 83) hx hb xd_K_isOfH_1 (by decide +kernel) (by rw [h3]; decide +kernel) rfl ?_
        refine lv_iconst (v := 1) hx hb xd_K_isOfH_84 (by decide) ?_
        exact hret _ () H locs ls _ rfl (by unfold xf_K_isOfH; exact (xif h1 (xif h2 (xit h3 rfl)))) hP hD hS xd_K_isOfH_85
      · refine (Decidable.em (p0 = 1540)).elim (fun h4 => ?_) (fun h4 => ?_)
        · refine lv_lookup (tgt := 84) (off := 83) hx hb xd_K_isOfH_1 (by decide +kernel) (by rw [h4]; decide +kernel) rfl ?_
          refine lv_iconst (v := 1) hx hb xd_K_isOfH_84 (by decide) ?_
          exact hret _ () H locs ls _ rfl (by unfold xf_K_isOfH; exact (xif h1 (xif h2 (xif h3 (xit h4 rfl))))) hP hD hS xd_K_isOfH_85
        · refine (Decidable.em (p0 = 1603)).elim (fun h5 => ?_) (fun h5 => ?_)
          · refine lv_lookup (tgt := 84) (off := 83) hx hb xd_K_isOfH_1 (by decide +kernel) (by rw [h5]; decide +kernel) rfl ?_
            refine lv_iconst (v := 1) hx hb xd_K_isOfH_84 (by decide) ?_
            exact hret _ () H locs ls _ rfl (by unfold xf_K_isOfH; exact (xif h1 (xif h2 (xif h3 (xif h4 (xit h5 rfl)))))) hP hD hS xd_K_isOfH_85
          · refine (Decidable.em (p0 = 1604)).elim (fun h6 => ?_) (fun h6 => ?_)
            · refine lv_lookup (tgt := 84) (off := 83) hx hb xd_K_isOfH_1 (by decide +kernel) (by rw [h6]; decide +kernel) rfl ?_
              refine lv_iconst (v := 1) hx hb xd_K_isOfH_84 (by decide) ?_
              exact hret _ () H locs ls _ rfl (by unfold xf_K_isOfH; exact (xif h1 (xif h2 (xif h3 (xif h4 (xif h5 (xit h6 rfl))))))) hP hD hS xd_K_isOfH_85
            · refine (Decidable.em (p0 = 1605)).elim (fun h7 => ?_) (fun h7 => ?_)
              · refine lv_lookup (tgt := 84) (off := 83) hx hb xd_K_isOfH_1 (by decide +kernel) (by rw [h7]; decide +kernel) rfl ?_
                refine lv_iconst (v := 1) hx hb xd_K_isOfH_84 (by decide) ?_
                exact hret _ () H locs ls _ rfl (by unfold xf_K_isOfH; exact (xif h1 (xif h2 (xif h3 (xif h4 (xif h5 (xif h6 (xit h7 rfl)))))))) hP hD hS xd_K_isOfH_85
              · refine (Decidable.em (p0 = 1610)).elim (fun h8 => ?_) (fun h8 => ?_)
                · refine lv_lookup (tgt := 84) (off := 83) hx hb xd_K_isOfH_1 (by decide +kernel) (by rw [h8]; decide +kernel) rfl ?_
                  refine lv_iconst (v := 1) hx hb xd_K_isOfH_84 (by decide) ?_
                  exact hret _ () H locs ls _ rfl (by unfold xf_K_isOfH; exact (xif h1 (xif h2 (xif h3 (xif h4 (xif h5 (xif h6 (xif h7 (xit h8 rfl))))))))) hP hD hS xd_K_isOfH_85
                · refine (Decidable.em (p0 = 1664)).elim (fun h9 => ?_) (fun h9 => ?_)
                  · refine lv_lookup (tgt := 84) (off := 83) hx hb xd_K_isOfH_1 (by decide +kernel) (by rw [h9]; decide +kernel) rfl ?_
                    refine lv_iconst (v := 1) hx hb xd_K_isOfH_84 (by decide) ?_
                    exact hret _ () H locs ls _ rfl (by unfold xf_K_isOfH; exact (xif h1 (xif h2 (xif h3 (xif h4 (xif h5 (xif h6 (xif h7 (xif h8 (xit h9 rfl)))))))))) hP hD hS xd_K_isOfH_85
                  · refine lv_lookup (tgt := 86) (off := 85) hx hb xd_K_isOfH_1 (by decide +kernel) (by first | (rw [lv_osw h1 (by decide), lv_osw h2 (by decide), lv_osw h3 (by decide), lv_osw h4 (by decide), lv_osw h5 (by decide), lv_osw h6 (by decide), lv_osw h7 (by decide), lv_osw h8 (by decide), lv_osw h9 (by decide)]; rfl) | (simp only [lv_osw h1 (by decide), lv_osw h2 (by decide), lv_osw h3 (by decide), lv_osw h4 (by decide), lv_osw h5 (by decide), lv_osw h6 (by decide), lv_osw h7 (by decide), lv_osw h8 (by decide), lv_osw h9 (by decide)]; rfl)) rfl ?_
                    refine lv_iconst (v := 0) hx hb xd_K_isOfH_86 (by decide) ?_
                    exact hret _ () H locs ls _ rfl (by unfold xf_K_isOfH; exact (xif h1 (xif h2 (xif h3 (xif h4 (xif h5 (xif h6 (xif h7 (xif h8 (xif h9 rfl)))))))))) hP hD hS xd_K_isOfH_87
theorem xt01_K_isOfH (p0 : Int32) : X01 (xf_K_isOfH p0) := by unfold xf_K_isOfH; exact (xit_01 (Or.inr rfl) (xit_01 (Or.inr rfl) (xit_01 (Or.inr rfl) (xit_01 (Or.inr rfl) (xit_01 (Or.inr rfl) (xit_01 (Or.inr rfl) (xit_01 (Or.inr rfl) (xit_01 (Or.inr rfl) (xit_01 (Or.inr rfl) (Or.inl rfl))))))))))

noncomputable def xf_K_meant (p0 : Int32) (p1 : Int32) : Int32 :=
  xlt (if p1 = 3 then (xlt (xf_K_isOfS p0 : Int32) fun r2 => if r2 = 0 then (p0) else ((p0 + (256 : Int32)))) else (p0) : Int32) fun v4 =>
  v4
set_option maxHeartbeats 4000000 in
set_option maxRecDepth 100000 in
theorem c_K_meant (l : Launch) (D : va_G) (tys : List (ClassId × FieldType)) (z : (Nat → Nat) × (Nat → Nat)) (sz : Nat) (p0 : Int32) (p1 : Int32) : Met l xy_K_meant (xk_K_meant :: lw_g) { frames := 1, cells := 0, slots := 0, locals := 20 } (va_Pc [.int p0, .int p1] (xB D tys z sz [])) (va_Qi (fun r (_ : Unit) => r = xf_K_meant p0 p1) (fun _ t => xQ D tys [] (va_A [] sz) t) (va_A [] sz)) 0 0 (va_A [] sz) := by
  refine xopen_i (lv := [(0, .int p0), (1, .int p1)]) (by decide) rfl (Nat.le_of_ble_eq_true rfl) ?_
  intro p e s m args below meth c Q ls A H locs hx hb hml htg hown hin hK hP hD hE hS hA hl hret
  refine lv_iload_n hx hb xd_K_meant_0 rfl (lv_at hl 1 rfl) ?_
  refine lv_iconst (v := 3) hx hb xd_K_meant_1 (by decide) ?_
  have hj5 : ∀ (H : Heap) (locs : List Loc) (ls : Array Slot) (v4 : Int32), v4 = (if p1 = 3 then (xlt (xf_K_isOfS p0 : Int32) fun r2 => if r2 = 0 then (p0) else ((p0 + (256 : Int32)))) else (p0)) → lv_has ls 2 [(0, .int p0), (1, .int p1)] → va_P D xCl [] H → va_D A [] → va_S A s.heap H locs → W p l e { frames := 1, cells := 0, slots := 0, locals := 20 } s m args below meth c H locs (0) (0) Q (F0 m 21 ls [.int v4]) := by
    intro H locs ls v4 hv4 hl hP hD hS
    exact hret _ () H locs ls _ (by unfold xf_K_meant; exact (xlt_e hv4 rfl)) hP hD hS xd_K_meant_21
  refine lv_icmp_ne (tgt := 20) hx hb xd_K_meant_2 rfl (fun h6 => ?_) (fun h6 => ?_)
  · refine lv_iload_n hx hb xd_K_meant_20 rfl (lv_at hl 0 rfl) ?_
    exact hj5 H locs ls p0 (xif h6 rfl) hl hP hD hS
  · refine lv_iload_n hx hb xd_K_meant_5 rfl (lv_at hl 0 rfl) ?_
    refine xc0_i (va_runS (As := [.int p0]) (rest := []) ⟨hx, hb, hml, hown, htg⟩ (c_K_isOfS l D tys z H.size p0) (va_cwS 1 htg (xg_S0 xkin_K_isOfS xw_337 xw_338 xw_5) rfl rfl rfl (by decide +kernel) ⟨Nat.le_of_ble_eq_true rfl, Nat.le_of_ble_eq_true rfl⟩) ⟨xB_blind, fun U hU hW => xB_mk va_P0 hK va_D0 hE hS (xsub0 hA hS) hU hW⟩ rfl rfl hl.1 rfl (lv_room (Nat.le_of_ble_eq_true rfl)) xd_K_meant_6 ⟨Nat.le_of_ble_eq_true rfl, Nat.le_of_ble_eq_true rfl⟩) hP hA hS (fun r7 H locs hr7 hP hS => ?_)
    refine lv_if_eq (tgt := 20) hx hb xd_K_meant_9 rfl (fun h8 => ?_) (fun h8 => ?_)
    · refine lv_iload_n hx hb xd_K_meant_20 rfl (lv_at hl 0 rfl) ?_
      exact hj5 H locs ls p0 (xit h6 (xlt_e hr7 (xit h8 rfl))) hl hP hD hS
    · refine lv_iload_n hx hb xd_K_meant_12 rfl (lv_at hl 0 rfl) ?_
      refine lv_sipush (v := 256) hx hb xd_K_meant_13 (by decide) ?_
      refine lv_iadd hx hb xd_K_meant_16 ?_
      refine lv_goto (tgt := 21) hx hb xd_K_meant_17 rfl ?_
      exact hj5 H locs ls (p0 + (256 : Int32)) (xit h6 (xlt_e hr7 (xif h8 rfl))) hl hP hD hS

noncomputable def xf_K_first (p0 : Int32) : Int32 :=
  if ((xus p0 (9 : Int32)) &&& (1 : Int32)) = 0 then
    if ((xus p0 (1 : Int32)) &&& (1 : Int32)) = 0 then
      if ((xus p0 (5 : Int32)) &&& (1 : Int32)) = 0 then
        if ((xus p0 (10 : Int32)) &&& (1 : Int32)) = 0 then
          if ((xus p0 (2 : Int32)) &&& (1 : Int32)) = 0 then
            if ((xus p0 (6 : Int32)) &&& (1 : Int32)) = 0 then
              (-1)
            else
              6
          else
            2
        else
          10
      else
        5
    else
      1
  else
    9
set_option maxHeartbeats 4000000 in
set_option maxRecDepth 100000 in
theorem c_K_first (l : Launch) (D : va_G) (tys : List (ClassId × FieldType)) (z : (Nat → Nat) × (Nat → Nat)) (sz : Nat) (p0 : Int32) : Met l xy_K_first (xk_K_first :: lw_g) { frames := 0, cells := 0, slots := 0, locals := 0 } (va_Pc [.int p0] (xB D tys z sz [])) (va_Qi (fun r (_ : Unit) => r = xf_K_first p0) (fun _ t => xQ D tys [] (va_A [] sz) t) (va_A [] sz)) 0 0 (va_A [] sz) := by
  refine xopen_i (lv := [(0, .int p0)]) (by decide) rfl (Nat.le_of_ble_eq_true rfl) ?_
  intro p e s m args below meth c Q ls A H locs hx hb hml htg hown hin hK hP hD hE hS hA hl hret
  refine lv_iconst (v := 0) hx hb xd_K_first_0 (by decide) ?_
  refine lv_istore_n (lv' := [(1, .int 0), (0, .int p0)]) hx hb xd_K_first_1 rfl hl (by decide) rfl (fun ls hl => ?_)
  refine lv_iload_n hx hb xd_K_first_2 rfl (lv_at hl 0 rfl) ?_
  refine va_getsN hx hb hE.2.1.1 hS hown (va_Nw.use rfl (xnest (w := .fieldLinkNest "HyperHost$Controls" 100 "HyperHost" "INTERRUPT_ORDER" "[I" "HyperHost") hE (by decide +kernel))) (fun _ h9 => h9) xd_K_first_3 ?_
  refine va_tlen (v := 6) hx hb hE.2.1.2 hS rfl xd_K_first_6 ?_
  refine lv_icmp_ge (tgt := 34) hx hb xd_K_first_7 rfl (fun h => absurd h (by decide)) (fun _ => ?_)
  refine lv_iload_n hx hb xd_K_first_10 rfl (lv_at hl 1 rfl) ?_
  refine va_getsN hx hb hE.2.1.1 hS hown (va_Nw.use rfl (xnest (w := .fieldLinkNest "HyperHost$Controls" 100 "HyperHost" "INTERRUPT_ORDER" "[I" "HyperHost") hE (by decide +kernel))) (fun _ h9 => h9) xd_K_first_11 ?_
  refine lv_iload_n hx hb xd_K_first_14 rfl (lv_at hl 0 rfl) ?_
  refine va_ti (v := .int 9) hx hb hE.2.1.2 hS (vp_in_iff.mpr (by decide)) rfl xd_K_first_15 ?_
  refine lv_iushr (v := (xus p0 (9 : Int32))) hx hb xd_K_first_16 rfl ?_
  refine lv_iconst (v := 1) hx hb xd_K_first_17 (by decide) ?_
  refine lv_iand hx hb xd_K_first_18 ?_
  refine lv_if_eq (tgt := 28) hx hb xd_K_first_19 rfl (fun h1 => ?_) (fun h1 => ?_)
  · refine lv_iinc (k := 0) (v := 1) (lv' := [(1, .int 1), (0, .int p0)]) hx hb xd_K_first_28 hl rfl (by first | rfl | decide) (by decide) rfl (fun ls hl => ?_)
    refine lv_goto (tgt := 2) hx hb xd_K_first_31 rfl ?_
    refine lv_iload_n hx hb xd_K_first_2 rfl (lv_at hl 0 rfl) ?_
    refine va_getsN hx hb hE.2.1.1 hS hown (va_Nw.use rfl (xnest (w := .fieldLinkNest "HyperHost$Controls" 100 "HyperHost" "INTERRUPT_ORDER" "[I" "HyperHost") hE (by decide +kernel))) (fun _ h9 => h9) xd_K_first_3 ?_
    refine va_tlen (v := 6) hx hb hE.2.1.2 hS rfl xd_K_first_6 ?_
    refine lv_icmp_ge (tgt := 34) hx hb xd_K_first_7 rfl (fun h => absurd h (by decide)) (fun _ => ?_)
    refine lv_iload_n hx hb xd_K_first_10 rfl (lv_at hl 1 rfl) ?_
    refine va_getsN hx hb hE.2.1.1 hS hown (va_Nw.use rfl (xnest (w := .fieldLinkNest "HyperHost$Controls" 100 "HyperHost" "INTERRUPT_ORDER" "[I" "HyperHost") hE (by decide +kernel))) (fun _ h9 => h9) xd_K_first_11 ?_
    refine lv_iload_n hx hb xd_K_first_14 rfl (lv_at hl 0 rfl) ?_
    refine va_ti (v := .int 1) hx hb hE.2.1.2 hS (vp_in_iff.mpr (by decide)) rfl xd_K_first_15 ?_
    refine lv_iushr (v := (xus p0 (1 : Int32))) hx hb xd_K_first_16 rfl ?_
    refine lv_iconst (v := 1) hx hb xd_K_first_17 (by decide) ?_
    refine lv_iand hx hb xd_K_first_18 ?_
    refine lv_if_eq (tgt := 28) hx hb xd_K_first_19 rfl (fun h2 => ?_) (fun h2 => ?_)
    · refine lv_iinc (k := 0) (v := 2) (lv' := [(1, .int 2), (0, .int p0)]) hx hb xd_K_first_28 hl rfl (by first | rfl | decide) (by decide) rfl (fun ls hl => ?_)
      refine lv_goto (tgt := 2) hx hb xd_K_first_31 rfl ?_
      refine lv_iload_n hx hb xd_K_first_2 rfl (lv_at hl 0 rfl) ?_
      refine va_getsN hx hb hE.2.1.1 hS hown (va_Nw.use rfl (xnest (w := .fieldLinkNest "HyperHost$Controls" 100 "HyperHost" "INTERRUPT_ORDER" "[I" "HyperHost") hE (by decide +kernel))) (fun _ h9 => h9) xd_K_first_3 ?_
      refine va_tlen (v := 6) hx hb hE.2.1.2 hS rfl xd_K_first_6 ?_
      refine lv_icmp_ge (tgt := 34) hx hb xd_K_first_7 rfl (fun h => absurd h (by decide)) (fun _ => ?_)
      refine lv_iload_n hx hb xd_K_first_10 rfl (lv_at hl 1 rfl) ?_
      refine va_getsN hx hb hE.2.1.1 hS hown (va_Nw.use rfl (xnest (w := .fieldLinkNest "HyperHost$Controls" 100 "HyperHost" "INTERRUPT_ORDER" "[I" "HyperHost") hE (by decide +kernel))) (fun _ h9 => h9) xd_K_first_11 ?_
      refine lv_iload_n hx hb xd_K_first_14 rfl (lv_at hl 0 rfl) ?_
      refine va_ti (v := .int 5) hx hb hE.2.1.2 hS (vp_in_iff.mpr (by decide)) rfl xd_K_first_15 ?_
      refine lv_iushr (v := (xus p0 (5 : Int32))) hx hb xd_K_first_16 rfl ?_
      refine lv_iconst (v := 1) hx hb xd_K_first_17 (by decide) ?_
      refine lv_iand hx hb xd_K_first_18 ?_
      refine lv_if_eq (tgt := 28) hx hb xd_K_first_19 rfl (fun h3 => ?_) (fun h3 => ?_)
      · refine lv_iinc (k := 0) (v := 3) (lv' := [(1, .int 3), (0, .int p0)]) hx hb xd_K_first_28 hl rfl (by first | rfl | decide) (by decide) rfl (fun ls hl => ?_)
        refine lv_goto (tgt := 2) hx hb xd_K_first_31 rfl ?_
        refine lv_iload_n hx hb xd_K_first_2 rfl (lv_at hl 0 rfl) ?_
        refine va_getsN hx hb hE.2.1.1 hS hown (va_Nw.use rfl (xnest (w := .fieldLinkNest "HyperHost$Controls" 100 "HyperHost" "INTERRUPT_ORDER" "[I" "HyperHost") hE (by decide +kernel))) (fun _ h9 => h9) xd_K_first_3 ?_
        refine va_tlen (v := 6) hx hb hE.2.1.2 hS rfl xd_K_first_6 ?_
        refine lv_icmp_ge (tgt := 34) hx hb xd_K_first_7 rfl (fun h => absurd h (by decide)) (fun _ => ?_)
        refine lv_iload_n hx hb xd_K_first_10 rfl (lv_at hl 1 rfl) ?_
        refine va_getsN hx hb hE.2.1.1 hS hown (va_Nw.use rfl (xnest (w := .fieldLinkNest "HyperHost$Controls" 100 "HyperHost" "INTERRUPT_ORDER" "[I" "HyperHost") hE (by decide +kernel))) (fun _ h9 => h9) xd_K_first_11 ?_
        refine lv_iload_n hx hb xd_K_first_14 rfl (lv_at hl 0 rfl) ?_
        refine va_ti (v := .int 10) hx hb hE.2.1.2 hS (vp_in_iff.mpr (by decide)) rfl xd_K_first_15 ?_
        refine lv_iushr (v := (xus p0 (10 : Int32))) hx hb xd_K_first_16 rfl ?_
        refine lv_iconst (v := 1) hx hb xd_K_first_17 (by decide) ?_
        refine lv_iand hx hb xd_K_first_18 ?_
        refine lv_if_eq (tgt := 28) hx hb xd_K_first_19 rfl (fun h4 => ?_) (fun h4 => ?_)
        · refine lv_iinc (k := 0) (v := 4) (lv' := [(1, .int 4), (0, .int p0)]) hx hb xd_K_first_28 hl rfl (by first | rfl | decide) (by decide) rfl (fun ls hl => ?_)
          refine lv_goto (tgt := 2) hx hb xd_K_first_31 rfl ?_
          refine lv_iload_n hx hb xd_K_first_2 rfl (lv_at hl 0 rfl) ?_
          refine va_getsN hx hb hE.2.1.1 hS hown (va_Nw.use rfl (xnest (w := .fieldLinkNest "HyperHost$Controls" 100 "HyperHost" "INTERRUPT_ORDER" "[I" "HyperHost") hE (by decide +kernel))) (fun _ h9 => h9) xd_K_first_3 ?_
          refine va_tlen (v := 6) hx hb hE.2.1.2 hS rfl xd_K_first_6 ?_
          refine lv_icmp_ge (tgt := 34) hx hb xd_K_first_7 rfl (fun h => absurd h (by decide)) (fun _ => ?_)
          refine lv_iload_n hx hb xd_K_first_10 rfl (lv_at hl 1 rfl) ?_
          refine va_getsN hx hb hE.2.1.1 hS hown (va_Nw.use rfl (xnest (w := .fieldLinkNest "HyperHost$Controls" 100 "HyperHost" "INTERRUPT_ORDER" "[I" "HyperHost") hE (by decide +kernel))) (fun _ h9 => h9) xd_K_first_11 ?_
          refine lv_iload_n hx hb xd_K_first_14 rfl (lv_at hl 0 rfl) ?_
          refine va_ti (v := .int 2) hx hb hE.2.1.2 hS (vp_in_iff.mpr (by decide)) rfl xd_K_first_15 ?_
          refine lv_iushr (v := (xus p0 (2 : Int32))) hx hb xd_K_first_16 rfl ?_
          refine lv_iconst (v := 1) hx hb xd_K_first_17 (by decide) ?_
          refine lv_iand hx hb xd_K_first_18 ?_
          refine lv_if_eq (tgt := 28) hx hb xd_K_first_19 rfl (fun h5 => ?_) (fun h5 => ?_)
          · refine lv_iinc (k := 0) (v := 5) (lv' := [(1, .int 5), (0, .int p0)]) hx hb xd_K_first_28 hl rfl (by first | rfl | decide) (by decide) rfl (fun ls hl => ?_)
            refine lv_goto (tgt := 2) hx hb xd_K_first_31 rfl ?_
            refine lv_iload_n hx hb xd_K_first_2 rfl (lv_at hl 0 rfl) ?_
            refine va_getsN hx hb hE.2.1.1 hS hown (va_Nw.use rfl (xnest (w := .fieldLinkNest "HyperHost$Controls" 100 "HyperHost" "INTERRUPT_ORDER" "[I" "HyperHost") hE (by decide +kernel))) (fun _ h9 => h9) xd_K_first_3 ?_
            refine va_tlen (v := 6) hx hb hE.2.1.2 hS rfl xd_K_first_6 ?_
            refine lv_icmp_ge (tgt := 34) hx hb xd_K_first_7 rfl (fun h => absurd h (by decide)) (fun _ => ?_)
            refine lv_iload_n hx hb xd_K_first_10 rfl (lv_at hl 1 rfl) ?_
            refine va_getsN hx hb hE.2.1.1 hS hown (va_Nw.use rfl (xnest (w := .fieldLinkNest "HyperHost$Controls" 100 "HyperHost" "INTERRUPT_ORDER" "[I" "HyperHost") hE (by decide +kernel))) (fun _ h9 => h9) xd_K_first_11 ?_
            refine lv_iload_n hx hb xd_K_first_14 rfl (lv_at hl 0 rfl) ?_
            refine va_ti (v := .int 6) hx hb hE.2.1.2 hS (vp_in_iff.mpr (by decide)) rfl xd_K_first_15 ?_
            refine lv_iushr (v := (xus p0 (6 : Int32))) hx hb xd_K_first_16 rfl ?_
            refine lv_iconst (v := 1) hx hb xd_K_first_17 (by decide) ?_
            refine lv_iand hx hb xd_K_first_18 ?_
            refine lv_if_eq (tgt := 28) hx hb xd_K_first_19 rfl (fun h6 => ?_) (fun h6 => ?_)
            · refine lv_iinc (k := 0) (v := 6) (lv' := [(1, .int 6), (0, .int p0)]) hx hb xd_K_first_28 hl rfl (by first | rfl | decide) (by decide) rfl (fun ls hl => ?_)
              refine lv_goto (tgt := 2) hx hb xd_K_first_31 rfl ?_
              refine lv_iload_n hx hb xd_K_first_2 rfl (lv_at hl 0 rfl) ?_
              refine va_getsN hx hb hE.2.1.1 hS hown (va_Nw.use rfl (xnest (w := .fieldLinkNest "HyperHost$Controls" 100 "HyperHost" "INTERRUPT_ORDER" "[I" "HyperHost") hE (by decide +kernel))) (fun _ h9 => h9) xd_K_first_3 ?_
              refine va_tlen (v := 6) hx hb hE.2.1.2 hS rfl xd_K_first_6 ?_
              refine lv_icmp_ge (tgt := 34) hx hb xd_K_first_7 rfl (fun _ => ?_) (fun h => absurd h (by decide))
              refine lv_iconst (v := (-1)) hx hb xd_K_first_34 (by decide) ?_
              exact hret _ () H locs ls _ (by unfold xf_K_first; exact (xit h1 (xit h2 (xit h3 (xit h4 (xit h5 (xit h6 rfl))))))) hP hD hS xd_K_first_35
            · refine va_getsN hx hb hE.2.1.1 hS hown (va_Nw.use rfl (xnest (w := .fieldLinkNest "HyperHost$Controls" 100 "HyperHost" "INTERRUPT_ORDER" "[I" "HyperHost") hE (by decide +kernel))) (fun _ h9 => h9) xd_K_first_22 ?_
              refine lv_iload_n hx hb xd_K_first_25 rfl (lv_at hl 0 rfl) ?_
              refine va_ti (v := .int 6) hx hb hE.2.1.2 hS (vp_in_iff.mpr (by decide)) rfl xd_K_first_26 ?_
              exact hret _ () H locs ls _ (by unfold xf_K_first; exact (xit h1 (xit h2 (xit h3 (xit h4 (xit h5 (xif h6 rfl))))))) hP hD hS xd_K_first_27
          · refine va_getsN hx hb hE.2.1.1 hS hown (va_Nw.use rfl (xnest (w := .fieldLinkNest "HyperHost$Controls" 100 "HyperHost" "INTERRUPT_ORDER" "[I" "HyperHost") hE (by decide +kernel))) (fun _ h9 => h9) xd_K_first_22 ?_
            refine lv_iload_n hx hb xd_K_first_25 rfl (lv_at hl 0 rfl) ?_
            refine va_ti (v := .int 2) hx hb hE.2.1.2 hS (vp_in_iff.mpr (by decide)) rfl xd_K_first_26 ?_
            exact hret _ () H locs ls _ (by unfold xf_K_first; exact (xit h1 (xit h2 (xit h3 (xit h4 (xif h5 rfl)))))) hP hD hS xd_K_first_27
        · refine va_getsN hx hb hE.2.1.1 hS hown (va_Nw.use rfl (xnest (w := .fieldLinkNest "HyperHost$Controls" 100 "HyperHost" "INTERRUPT_ORDER" "[I" "HyperHost") hE (by decide +kernel))) (fun _ h9 => h9) xd_K_first_22 ?_
          refine lv_iload_n hx hb xd_K_first_25 rfl (lv_at hl 0 rfl) ?_
          refine va_ti (v := .int 10) hx hb hE.2.1.2 hS (vp_in_iff.mpr (by decide)) rfl xd_K_first_26 ?_
          exact hret _ () H locs ls _ (by unfold xf_K_first; exact (xit h1 (xit h2 (xit h3 (xif h4 rfl))))) hP hD hS xd_K_first_27
      · refine va_getsN hx hb hE.2.1.1 hS hown (va_Nw.use rfl (xnest (w := .fieldLinkNest "HyperHost$Controls" 100 "HyperHost" "INTERRUPT_ORDER" "[I" "HyperHost") hE (by decide +kernel))) (fun _ h9 => h9) xd_K_first_22 ?_
        refine lv_iload_n hx hb xd_K_first_25 rfl (lv_at hl 0 rfl) ?_
        refine va_ti (v := .int 5) hx hb hE.2.1.2 hS (vp_in_iff.mpr (by decide)) rfl xd_K_first_26 ?_
        exact hret _ () H locs ls _ (by unfold xf_K_first; exact (xit h1 (xit h2 (xif h3 rfl)))) hP hD hS xd_K_first_27
    · refine va_getsN hx hb hE.2.1.1 hS hown (va_Nw.use rfl (xnest (w := .fieldLinkNest "HyperHost$Controls" 100 "HyperHost" "INTERRUPT_ORDER" "[I" "HyperHost") hE (by decide +kernel))) (fun _ h9 => h9) xd_K_first_22 ?_
      refine lv_iload_n hx hb xd_K_first_25 rfl (lv_at hl 0 rfl) ?_
      refine va_ti (v := .int 1) hx hb hE.2.1.2 hS (vp_in_iff.mpr (by decide)) rfl xd_K_first_26 ?_
      exact hret _ () H locs ls _ (by unfold xf_K_first; exact (xit h1 (xif h2 rfl))) hP hD hS xd_K_first_27
  · refine va_getsN hx hb hE.2.1.1 hS hown (va_Nw.use rfl (xnest (w := .fieldLinkNest "HyperHost$Controls" 100 "HyperHost" "INTERRUPT_ORDER" "[I" "HyperHost") hE (by decide +kernel))) (fun _ h9 => h9) xd_K_first_22 ?_
    refine lv_iload_n hx hb xd_K_first_25 rfl (lv_at hl 0 rfl) ?_
    refine va_ti (v := .int 9) hx hb hE.2.1.2 hS (vp_in_iff.mpr (by decide)) rfl xd_K_first_26 ?_
    exact hret _ () H locs ls _ (by unfold xf_K_first; exact (xif h1 rfl)) hP hD hS xd_K_first_27

noncomputable def xf_T_inMemory (p0 : Int64) : Int64 :=
  xlt (if 0 ≤ (lg_cmp p0 (262144 : Int64)) then ((-3)) else (p0) : Int64) fun v2 =>
  v2
set_option maxHeartbeats 4000000 in
set_option maxRecDepth 100000 in
theorem c_T_inMemory (l : Launch) (D : va_G) (tys : List (ClassId × FieldType)) (z : (Nat → Nat) × (Nat → Nat)) (sz : Nat) (p0 : Int64) : Met l xy_T_inMemory (xk_T_inMemory :: lw_g) { frames := 0, cells := 0, slots := 0, locals := 0 } (va_Pc [.long p0] (xB D tys z sz [])) (va_Ql (fun r (_ : Unit) => r = xf_T_inMemory p0) (fun _ t => xQ D tys [] (va_A [] sz) t) (va_A [] sz)) 0 0 (va_A [] sz) := by
  refine xopen_l (lv := [(0, .long p0)]) (by decide) rfl (Nat.le_of_ble_eq_true rfl) ?_
  intro p e s m args below meth c Q ls A H locs hx hb hml htg hown hin hK hP hD hE hS hA hl hret
  refine lv_lload_n hx hb xd_T_inMemory_0 rfl (lv_at hl 0 rfl) ?_
  refine lv_ldc2 (v := 262144) hx hb hown (htg _ xw_458) xd_T_inMemory_1 ?_
  refine W.lcmp hx hb xd_T_inMemory_4 ?_
  have hj3 : ∀ (H : Heap) (locs : List Loc) (ls : Array Slot) (v2 : Int64), v2 = (if 0 ≤ (lg_cmp p0 (262144 : Int64)) then ((-3)) else (p0)) → lv_has ls 2 [(0, .long p0)] → va_P D xCl [] H → va_D A [] → va_S A s.heap H locs → W p l e { frames := 0, cells := 0, slots := 0, locals := 0 } s m args below meth c H locs (0) (0) Q (F0 m 15 ls [.long v2]) := by
    intro H locs ls v2 hv2 hl hP hD hS
    exact hret _ () H locs ls _ (by unfold xf_T_inMemory; exact (xlt_e hv2 rfl)) hP hD hS xd_T_inMemory_15
  refine lv_if_ge (tgt := 12) hx hb xd_T_inMemory_5 rfl (fun h4 => ?_) (fun h4 => ?_)
  · refine lv_ldc2 (v := (-3)) hx hb hown (htg _ xw_459) xd_T_inMemory_12 ?_
    exact hj3 H locs ls (-3 : Int64) (xit h4 rfl) hl hP hD hS
  · refine lv_lload_n hx hb xd_T_inMemory_8 rfl (lv_at hl 0 rfl) ?_
    refine lv_goto (tgt := 15) hx hb xd_T_inMemory_9 rfl ?_
    exact hj3 H locs ls p0 (xif h4 rfl) hl hP hD hS

noncomputable def xf_T_firstPlace (p0 : Int32) (p1 : Int64) : Int64 :=
  (((Int32.toInt64 (p0 &&& (4194303 : Int32))) <<< (Int32.toInt64 (12 : Int32) &&& 63)) + ((4 : Int64) * (xul p1 (22 : Int32))))
set_option maxHeartbeats 4000000 in
set_option maxRecDepth 100000 in
theorem c_T_firstPlace (l : Launch) (D : va_G) (tys : List (ClassId × FieldType)) (z : (Nat → Nat) × (Nat → Nat)) (sz : Nat) (p0 : Int32) (p1 : Int64) : Met l xy_T_firstPlace (xk_T_firstPlace :: lw_g) { frames := 0, cells := 0, slots := 0, locals := 0 } (va_Pc [.int p0, .long p1] (xB D tys z sz [])) (va_Ql (fun r (_ : Unit) => r = xf_T_firstPlace p0 p1) (fun _ t => xQ D tys [] (va_A [] sz) t) (va_A [] sz)) 0 0 (va_A [] sz) := by
  refine xopen_l (lv := [(0, .int p0), (1, .long p1)]) (by decide) rfl (Nat.le_of_ble_eq_true rfl) ?_
  intro p e s m args below meth c Q ls A H locs hx hb hml htg hown hin hK hP hD hE hS hA hl hret
  refine lv_iload_n hx hb xd_T_firstPlace_0 rfl (lv_at hl 0 rfl) ?_
  refine lv_ldc (v := 4194303) hx hb hown (htg _ xw_449) xd_T_firstPlace_1 ?_
  refine lv_iand hx hb xd_T_firstPlace_3 ?_
  refine lv_i2l (v := (Int32.toInt64 (p0 &&& (4194303 : Int32)))) hx hb xd_T_firstPlace_4 rfl ?_
  refine lv_bipush (v := 12) hx hb xd_T_firstPlace_5 (by decide) ?_
  refine lv_lshl (v := ((Int32.toInt64 (p0 &&& (4194303 : Int32))) <<< (Int32.toInt64 (12 : Int32) &&& 63))) hx hb xd_T_firstPlace_7 rfl ?_
  refine lv_ldc2 (v := 4) hx hb hown (htg _ xw_450) xd_T_firstPlace_8 ?_
  refine lv_lload_n hx hb xd_T_firstPlace_11 rfl (lv_at hl 1 rfl) ?_
  refine lv_bipush (v := 22) hx hb xd_T_firstPlace_12 (by decide) ?_
  refine lv_lushr (v := (xul p1 (22 : Int32))) hx hb xd_T_firstPlace_14 rfl ?_
  refine lv_lmul hx hb xd_T_firstPlace_15 ?_
  refine lv_ladd hx hb xd_T_firstPlace_16 ?_
  exact hret _ () H locs ls _ (by unfold xf_T_firstPlace; exact rfl) hP hD hS xd_T_firstPlace_17

noncomputable def xf_T_nextPlace (p0 : Int32) (p1 : Int64) : Int64 :=
  (((Int32.toInt64 (xus p0 (10 : Int32))) <<< (Int32.toInt64 (12 : Int32) &&& 63)) + ((4 : Int64) * ((xul p1 (12 : Int32)) &&& (1023 : Int64))))
set_option maxHeartbeats 4000000 in
set_option maxRecDepth 100000 in
theorem c_T_nextPlace (l : Launch) (D : va_G) (tys : List (ClassId × FieldType)) (z : (Nat → Nat) × (Nat → Nat)) (sz : Nat) (p0 : Int32) (p1 : Int64) : Met l xy_T_nextPlace (xk_T_nextPlace :: lw_g) { frames := 0, cells := 0, slots := 0, locals := 0 } (va_Pc [.int p0, .long p1] (xB D tys z sz [])) (va_Ql (fun r (_ : Unit) => r = xf_T_nextPlace p0 p1) (fun _ t => xQ D tys [] (va_A [] sz) t) (va_A [] sz)) 0 0 (va_A [] sz) := by
  refine xopen_l (lv := [(0, .int p0), (1, .long p1)]) (by decide) rfl (Nat.le_of_ble_eq_true rfl) ?_
  intro p e s m args below meth c Q ls A H locs hx hb hml htg hown hin hK hP hD hE hS hA hl hret
  refine lv_iload_n hx hb xd_T_nextPlace_0 rfl (lv_at hl 0 rfl) ?_
  refine lv_bipush (v := 10) hx hb xd_T_nextPlace_1 (by decide) ?_
  refine lv_iushr (v := (xus p0 (10 : Int32))) hx hb xd_T_nextPlace_3 rfl ?_
  refine lv_i2l (v := (Int32.toInt64 (xus p0 (10 : Int32)))) hx hb xd_T_nextPlace_4 rfl ?_
  refine lv_bipush (v := 12) hx hb xd_T_nextPlace_5 (by decide) ?_
  refine lv_lshl (v := ((Int32.toInt64 (xus p0 (10 : Int32))) <<< (Int32.toInt64 (12 : Int32) &&& 63))) hx hb xd_T_nextPlace_7 rfl ?_
  refine lv_ldc2 (v := 4) hx hb hown (htg _ xw_450) xd_T_nextPlace_8 ?_
  refine lv_lload_n hx hb xd_T_nextPlace_11 rfl (lv_at hl 1 rfl) ?_
  refine lv_bipush (v := 12) hx hb xd_T_nextPlace_12 (by decide) ?_
  refine lv_lushr (v := (xul p1 (12 : Int32))) hx hb xd_T_nextPlace_14 rfl ?_
  refine lv_ldc2 (v := 1023) hx hb hown (htg _ xw_478) xd_T_nextPlace_15 ?_
  refine lv_land hx hb xd_T_nextPlace_18 ?_
  refine lv_lmul hx hb xd_T_nextPlace_19 ?_
  refine lv_ladd hx hb xd_T_nextPlace_20 ?_
  exact hret _ () H locs ls _ (by unfold xf_T_nextPlace; exact rfl) hP hD hS xd_T_nextPlace_21

noncomputable def xf_T_isLeaf (p0 : Int32) : Int32 :=
  xlt (if (p0 &&& (14 : Int32)) = 0 then (0) else (1) : Int32) fun v2 =>
  v2
set_option maxHeartbeats 4000000 in
set_option maxRecDepth 100000 in
theorem c_T_isLeaf (l : Launch) (D : va_G) (tys : List (ClassId × FieldType)) (z : (Nat → Nat) × (Nat → Nat)) (sz : Nat) (p0 : Int32) : Met l xy_T_isLeaf (xk_T_isLeaf :: lw_g) { frames := 0, cells := 0, slots := 0, locals := 0 } (va_Pc [.int p0] (xB D tys z sz [])) (va_Qi (fun r (_ : Unit) => r = xf_T_isLeaf p0) (fun _ t => xQ D tys [] (va_A [] sz) t) (va_A [] sz)) 0 0 (va_A [] sz) := by
  refine xopen_z (lv := [(0, .int p0)]) (by decide) rfl (Nat.le_of_ble_eq_true rfl) ?_
  intro p e s m args below meth c Q ls A H locs hx hb hml htg hown hin hK hP hD hE hS hA hl hret
  refine lv_iload_n hx hb xd_T_isLeaf_0 rfl (lv_at hl 0 rfl) ?_
  refine lv_bipush (v := 14) hx hb xd_T_isLeaf_1 (by decide) ?_
  refine lv_iand hx hb xd_T_isLeaf_3 ?_
  have hj3 : ∀ (H : Heap) (locs : List Loc) (ls : Array Slot) (v2 : Int32), v2 = (if (p0 &&& (14 : Int32)) = 0 then (0) else (1)) → lv_has ls 1 [(0, .int p0)] → va_P D xCl [] H → va_D A [] → va_S A s.heap H locs → W p l e { frames := 0, cells := 0, slots := 0, locals := 0 } s m args below meth c H locs (0) (0) Q (F0 m 12 ls [.int v2]) := by
    intro H locs ls v2 hv2 hl hP hD hS
    exact hret _ () H locs ls _ (xnar (X01_of hv2 (xit_01 (Or.inl rfl) (Or.inr rfl)))) (by unfold xf_T_isLeaf; exact (xlt_e hv2 rfl)) hP hD hS xd_T_isLeaf_12
  refine lv_if_eq (tgt := 11) hx hb xd_T_isLeaf_4 rfl (fun h4 => ?_) (fun h4 => ?_)
  · refine lv_iconst (v := 0) hx hb xd_T_isLeaf_11 (by decide) ?_
    exact hj3 H locs ls (0 : Int32) (xit h4 rfl) hl hP hD hS
  · refine lv_iconst (v := 1) hx hb xd_T_isLeaf_7 (by decide) ?_
    refine lv_goto (tgt := 12) hx hb xd_T_isLeaf_8 rfl ?_
    exact hj3 H locs ls (1 : Int32) (xif h4 rfl) hl hP hD hS
theorem xt01_T_isLeaf (p0 : Int32) : X01 (xf_T_isLeaf p0) := by unfold xf_T_isLeaf; exact (xlt_01 (fun v2 hv2 => (X01_of hv2 (xit_01 (Or.inl rfl) (Or.inr rfl)))))

noncomputable def xf_T_isPointer (p0 : Int32) : Int32 :=
  xlt (if (p0 &&& (209 : Int32)) = 1 then (1) else (0) : Int32) fun v2 =>
  v2
set_option maxHeartbeats 4000000 in
set_option maxRecDepth 100000 in
theorem c_T_isPointer (l : Launch) (D : va_G) (tys : List (ClassId × FieldType)) (z : (Nat → Nat) × (Nat → Nat)) (sz : Nat) (p0 : Int32) : Met l xy_T_isPointer (xk_T_isPointer :: lw_g) { frames := 0, cells := 0, slots := 0, locals := 0 } (va_Pc [.int p0] (xB D tys z sz [])) (va_Qi (fun r (_ : Unit) => r = xf_T_isPointer p0) (fun _ t => xQ D tys [] (va_A [] sz) t) (va_A [] sz)) 0 0 (va_A [] sz) := by
  refine xopen_z (lv := [(0, .int p0)]) (by decide) rfl (Nat.le_of_ble_eq_true rfl) ?_
  intro p e s m args below meth c Q ls A H locs hx hb hml htg hown hin hK hP hD hE hS hA hl hret
  refine lv_iload_n hx hb xd_T_isPointer_0 rfl (lv_at hl 0 rfl) ?_
  refine lv_sipush (v := 209) hx hb xd_T_isPointer_1 (by decide) ?_
  refine lv_iand hx hb xd_T_isPointer_4 ?_
  refine lv_iconst (v := 1) hx hb xd_T_isPointer_5 (by decide) ?_
  have hj3 : ∀ (H : Heap) (locs : List Loc) (ls : Array Slot) (v2 : Int32), v2 = (if (p0 &&& (209 : Int32)) = 1 then (1) else (0)) → lv_has ls 1 [(0, .int p0)] → va_P D xCl [] H → va_D A [] → va_S A s.heap H locs → W p l e { frames := 0, cells := 0, slots := 0, locals := 0 } s m args below meth c H locs (0) (0) Q (F0 m 14 ls [.int v2]) := by
    intro H locs ls v2 hv2 hl hP hD hS
    exact hret _ () H locs ls _ (xnar (X01_of hv2 (xit_01 (Or.inr rfl) (Or.inl rfl)))) (by unfold xf_T_isPointer; exact (xlt_e hv2 rfl)) hP hD hS xd_T_isPointer_14
  refine lv_icmp_ne (tgt := 13) hx hb xd_T_isPointer_6 rfl (fun h4 => ?_) (fun h4 => ?_)
  · refine lv_iconst (v := 0) hx hb xd_T_isPointer_13 (by decide) ?_
    exact hj3 H locs ls (0 : Int32) (xif h4 rfl) hl hP hD hS
  · refine lv_iconst (v := 1) hx hb xd_T_isPointer_9 (by decide) ?_
    refine lv_goto (tgt := 14) hx hb xd_T_isPointer_10 rfl ?_
    exact hj3 H locs ls (1 : Int32) (xit h4 rfl) hl hP hD hS
theorem xt01_T_isPointer (p0 : Int32) : X01 (xf_T_isPointer p0) := by unfold xf_T_isPointer; exact (xlt_01 (fun v2 hv2 => (X01_of hv2 (xit_01 (Or.inr rfl) (Or.inl rfl)))))

noncomputable def xf_T_allows (p0 : Int32) (p1 : Int32) (p2 : Int32) (p3 : Int32) (p4 : Int32) : Int32 :=
  xlt (if (p0 &&& (6 : Int32)) = 4 then (0) else (if p1 = 0 then (if (p0 &&& (1047552 : Int32)) = 0 then (1) else (0)) else (1)) : Int32) fun v4 =>
  xlt (if v4 = 0 then (0) else (if (p0 &&& p2) = 0 then (0) else (if (p0 &&& p3) = p3 then (if (p0 &&& p4) = 0 then (1) else (0)) else (0))) : Int32) fun v10 =>
  v10
set_option maxHeartbeats 4000000 in
set_option maxRecDepth 100000 in
theorem c_T_allows (l : Launch) (D : va_G) (tys : List (ClassId × FieldType)) (z : (Nat → Nat) × (Nat → Nat)) (sz : Nat) (p0 : Int32) (p1 : Int32) (p2 : Int32) (p3 : Int32) (p4 : Int32) : Met l xy_T_allows (xk_T_allows :: lw_g) { frames := 0, cells := 0, slots := 0, locals := 0 } (va_Pc [.int p0, .int p1, .int p2, .int p3, .int p4] (xB D tys z sz [])) (va_Qi (fun r (_ : Unit) => r = xf_T_allows p0 p1 p2 p3 p4) (fun _ t => xQ D tys [] (va_A [] sz) t) (va_A [] sz)) 0 0 (va_A [] sz) := by
  refine xopen_z (lv := [(0, .int p0), (1, .int p1), (2, .int p2), (3, .int p3), (4, .int p4)]) (by decide) rfl (Nat.le_of_ble_eq_true rfl) ?_
  intro p e s m args below meth c Q ls A H locs hx hb hml htg hown hin hK hP hD hE hS hA hl hret
  refine lv_iload_n hx hb xd_T_allows_0 rfl (lv_at hl 0 rfl) ?_
  refine lv_bipush (v := 6) hx hb xd_T_allows_1 (by decide) ?_
  refine lv_iand hx hb xd_T_allows_3 ?_
  refine lv_iconst (v := 4) hx hb xd_T_allows_4 (by decide) ?_
  have hj5 : ∀ (H : Heap) (locs : List Loc) (ls : Array Slot) (v4 : Int32), v4 = (if (p0 &&& (6 : Int32)) = 4 then (0) else (if p1 = 0 then (if (p0 &&& (1047552 : Int32)) = 0 then (1) else (0)) else (1))) → lv_has ls 6 [(0, .int p0), (1, .int p1), (2, .int p2), (3, .int p3), (4, .int p4)] → va_P D xCl [] H → va_D A [] → va_S A s.heap H locs → W p l e { frames := 0, cells := 0, slots := 0, locals := 0 } s m args below meth c H locs (0) (0) Q (F0 m 24 ls [.int v4]) := by
    intro H locs ls v4 hv4 hl hP hD hS
    refine lv_istore (lv' := [(5, .int v4), (0, .int p0), (1, .int p1), (2, .int p2), (3, .int p3), (4, .int p4)]) hx hb xd_T_allows_24 hl (by decide) rfl (fun ls hl => ?_)
    refine lv_iload hx hb xd_T_allows_26 (lv_at hl 0 rfl) ?_
    have hj11 : ∀ (H : Heap) (locs : List Loc) (ls : Array Slot) (v10 : Int32), v10 = (if v4 = 0 then (0) else (if (p0 &&& p2) = 0 then (0) else (if (p0 &&& p3) = p3 then (if (p0 &&& p4) = 0 then (1) else (0)) else (0)))) → lv_has ls 6 [(5, .int v4), (0, .int p0), (1, .int p1), (2, .int p2), (3, .int p3), (4, .int p4)] → va_P D xCl [] H → va_D A [] → va_S A s.heap H locs → W p l e { frames := 0, cells := 0, slots := 0, locals := 0 } s m args below meth c H locs (0) (0) Q (F0 m 56 ls [.int v10]) := by
      intro H locs ls v10 hv10 hl hP hD hS
      exact hret _ () H locs ls _ (xnar (X01_of hv10 (xit_01 (Or.inl rfl) (xit_01 (Or.inl rfl) (xit_01 (xit_01 (Or.inr rfl) (Or.inl rfl)) (Or.inl rfl)))))) (by unfold xf_T_allows; exact (xlt_e hv4 (xlt_e hv10 rfl))) hP hD hS xd_T_allows_56
    refine lv_if_eq (tgt := 55) hx hb xd_T_allows_28 rfl (fun h12 => ?_) (fun h12 => ?_)
    · refine lv_iconst (v := 0) hx hb xd_T_allows_55 (by decide) ?_
      exact hj11 H locs ls (0 : Int32) (xit h12 rfl) hl hP hD hS
    · refine lv_iload_n hx hb xd_T_allows_31 rfl (lv_at hl 1 rfl) ?_
      refine lv_iload_n hx hb xd_T_allows_32 rfl (lv_at hl 3 rfl) ?_
      refine lv_iand hx hb xd_T_allows_33 ?_
      refine lv_if_eq (tgt := 55) hx hb xd_T_allows_34 rfl (fun h13 => ?_) (fun h13 => ?_)
      · refine lv_iconst (v := 0) hx hb xd_T_allows_55 (by decide) ?_
        exact hj11 H locs ls (0 : Int32) (xif h12 (xit h13 rfl)) hl hP hD hS
      · refine lv_iload_n hx hb xd_T_allows_37 rfl (lv_at hl 1 rfl) ?_
        refine lv_iload_n hx hb xd_T_allows_38 rfl (lv_at hl 4 rfl) ?_
        refine lv_iand hx hb xd_T_allows_39 ?_
        refine lv_iload_n hx hb xd_T_allows_40 rfl (lv_at hl 4 rfl) ?_
        refine lv_icmp_ne (tgt := 55) hx hb xd_T_allows_41 rfl (fun h14 => ?_) (fun h14 => ?_)
        · refine lv_iconst (v := 0) hx hb xd_T_allows_55 (by decide) ?_
          exact hj11 H locs ls (0 : Int32) (xif h12 (xif h13 (xif h14 rfl))) hl hP hD hS
        · refine lv_iload_n hx hb xd_T_allows_44 rfl (lv_at hl 1 rfl) ?_
          refine lv_iload hx hb xd_T_allows_45 (lv_at hl 5 rfl) ?_
          refine lv_iand hx hb xd_T_allows_47 ?_
          refine lv_if_ne (tgt := 55) hx hb xd_T_allows_48 rfl (fun h15 => ?_) (fun h15 => ?_)
          · refine lv_iconst (v := 0) hx hb xd_T_allows_55 (by decide) ?_
            exact hj11 H locs ls (0 : Int32) (xif h12 (xif h13 (xit h14 (xif h15 rfl)))) hl hP hD hS
          · refine lv_iconst (v := 1) hx hb xd_T_allows_51 (by decide) ?_
            refine lv_goto (tgt := 56) hx hb xd_T_allows_52 rfl ?_
            exact hj11 H locs ls (1 : Int32) (xif h12 (xif h13 (xit h14 (xit h15 rfl)))) hl hP hD hS
  refine lv_icmp_eq (tgt := 23) hx hb xd_T_allows_5 rfl (fun h16 => ?_) (fun h16 => ?_)
  · refine lv_iconst (v := 0) hx hb xd_T_allows_23 (by decide) ?_
    exact hj5 H locs ls (0 : Int32) (xit h16 rfl) hl hP hD hS
  · refine lv_iload_n hx hb xd_T_allows_8 rfl (lv_at hl 1 rfl) ?_
    refine lv_if_ne (tgt := 19) hx hb xd_T_allows_9 rfl (fun h17 => ?_) (fun h17 => ?_)
    · refine lv_iconst (v := 1) hx hb xd_T_allows_19 (by decide) ?_
      refine lv_goto (tgt := 24) hx hb xd_T_allows_20 rfl ?_
      exact hj5 H locs ls (1 : Int32) (xif h16 (xif h17 rfl)) hl hP hD hS
    · refine lv_iload_n hx hb xd_T_allows_12 rfl (lv_at hl 0 rfl) ?_
      refine lv_ldc (v := 1047552) hx hb hown (htg _ xw_467) xd_T_allows_13 ?_
      refine lv_iand hx hb xd_T_allows_15 ?_
      refine lv_if_ne (tgt := 23) hx hb xd_T_allows_16 rfl (fun h18 => ?_) (fun h18 => ?_)
      · refine lv_iconst (v := 0) hx hb xd_T_allows_23 (by decide) ?_
        exact hj5 H locs ls (0 : Int32) (xif h16 (xit h17 (xif h18 rfl))) hl hP hD hS
      · refine lv_iconst (v := 1) hx hb xd_T_allows_19 (by decide) ?_
        refine lv_goto (tgt := 24) hx hb xd_T_allows_20 rfl ?_
        exact hj5 H locs ls (1 : Int32) (xif h16 (xit h17 (xit h18 rfl))) hl hP hD hS
theorem xt01_T_allows (p0 : Int32) (p1 : Int32) (p2 : Int32) (p3 : Int32) (p4 : Int32) : X01 (xf_T_allows p0 p1 p2 p3 p4) := by unfold xf_T_allows; exact (xlt_01 (fun v4 hv4 => (xlt_01 (fun v10 hv10 => (X01_of hv10 (xit_01 (Or.inl rfl) (xit_01 (Or.inl rfl) (xit_01 (xit_01 (Or.inr rfl) (Or.inl rfl)) (Or.inl rfl)))))))))

noncomputable def xf_T_result (p0 : Int32) (p1 : Int32) (p2 : Int64) : Int64 :=
  xlt (if p1 = 0 then (4194303) else (4095) : Int32) fun v2 =>
  (((Int32.toInt64 (xus p0 (10 : Int32))) <<< (Int32.toInt64 (12 : Int32) &&& 63)) ||| (p2 &&& (Int32.toInt64 v2)))
set_option maxHeartbeats 4000000 in
set_option maxRecDepth 100000 in
theorem c_T_result (l : Launch) (D : va_G) (tys : List (ClassId × FieldType)) (z : (Nat → Nat) × (Nat → Nat)) (sz : Nat) (p0 : Int32) (p1 : Int32) (p2 : Int64) : Met l xy_T_result (xk_T_result :: lw_g) { frames := 0, cells := 0, slots := 0, locals := 0 } (va_Pc [.int p0, .int p1, .long p2] (xB D tys z sz [])) (va_Ql (fun r (_ : Unit) => r = xf_T_result p0 p1 p2) (fun _ t => xQ D tys [] (va_A [] sz) t) (va_A [] sz)) 0 0 (va_A [] sz) := by
  refine xopen_l (lv := [(0, .int p0), (1, .int p1), (2, .long p2)]) (by decide) rfl (Nat.le_of_ble_eq_true rfl) ?_
  intro p e s m args below meth c Q ls A H locs hx hb hml htg hown hin hK hP hD hE hS hA hl hret
  refine lv_lload_n hx hb xd_T_result_0 rfl (lv_at hl 2 rfl) ?_
  refine lv_iload_n hx hb xd_T_result_1 rfl (lv_at hl 1 rfl) ?_
  have hj3 : ∀ (H : Heap) (locs : List Loc) (ls : Array Slot) (v2 : Int32), v2 = (if p1 = 0 then (4194303) else (4095)) → lv_has ls 6 [(0, .int p0), (1, .int p1), (2, .long p2)] → va_P D xCl [] H → va_D A [] → va_S A s.heap H locs → W p l e { frames := 0, cells := 0, slots := 0, locals := 0 } s m args below meth c H locs (0) (0) Q (F0 m 13 ls [.int v2, .long p2]) := by
    intro H locs ls v2 hv2 hl hP hD hS
    refine lv_i2l (v := (Int32.toInt64 v2)) hx hb xd_T_result_13 rfl ?_
    refine lv_land hx hb xd_T_result_14 ?_
    refine lv_lstore (lv' := [(4, .long ((p2 &&& (Int32.toInt64 v2)))), (0, .int p0), (1, .int p1), (2, .long p2)]) hx hb xd_T_result_15 hl (by decide) rfl (fun ls hl => ?_)
    refine lv_iload_n hx hb xd_T_result_17 rfl (lv_at hl 1 rfl) ?_
    refine lv_bipush (v := 10) hx hb xd_T_result_18 (by decide) ?_
    refine lv_iushr (v := (xus p0 (10 : Int32))) hx hb xd_T_result_20 rfl ?_
    refine lv_i2l (v := (Int32.toInt64 (xus p0 (10 : Int32)))) hx hb xd_T_result_21 rfl ?_
    refine lv_bipush (v := 12) hx hb xd_T_result_22 (by decide) ?_
    refine lv_lshl (v := ((Int32.toInt64 (xus p0 (10 : Int32))) <<< (Int32.toInt64 (12 : Int32) &&& 63))) hx hb xd_T_result_24 rfl ?_
    refine lv_lload hx hb xd_T_result_25 (lv_at hl 0 rfl) ?_
    refine lv_lor hx hb xd_T_result_27 ?_
    exact hret _ () H locs ls _ (by unfold xf_T_result; exact (xlt_e hv2 rfl)) hP hD hS xd_T_result_28
  refine lv_if_ne (tgt := 10) hx hb xd_T_result_2 rfl (fun h4 => ?_) (fun h4 => ?_)
  · refine lv_sipush (v := 4095) hx hb xd_T_result_10 (by decide) ?_
    exact hj3 H locs ls (4095 : Int32) (xif h4 rfl) hl hP hD hS
  · refine lv_ldc (v := 4194303) hx hb hown (htg _ xw_449) xd_T_result_5 ?_
    refine lv_goto (tgt := 13) hx hb xd_T_result_7 rfl ?_
    exact hj3 H locs ls (4194303 : Int32) (xit h4 rfl) hl hP hD hS

noncomputable def xf_C_changed (p0 : Int32) (p1 : Int32) (p2 : Int32) : Int32 :=
  if p0 = 1 then
    p2
  else
    xlt (if p0 = 2 then ((p1 ||| p2)) else ((p1 &&& (p2 ^^^ (-1 : Int32)))) : Int32) fun v3 =>
    v3
set_option maxHeartbeats 4000000 in
set_option maxRecDepth 100000 in
theorem c_C_changed (l : Launch) (D : va_G) (tys : List (ClassId × FieldType)) (z : (Nat → Nat) × (Nat → Nat)) (sz : Nat) (p0 : Int32) (p1 : Int32) (p2 : Int32) : Met l xy_C_changed (xk_C_changed :: lw_g) { frames := 0, cells := 0, slots := 0, locals := 0 } (va_Pc [.int p0, .int p1, .int p2] (xB D tys z sz [])) (va_Qi (fun r (_ : Unit) => r = xf_C_changed p0 p1 p2) (fun _ t => xQ D tys [] (va_A [] sz) t) (va_A [] sz)) 0 0 (va_A [] sz) := by
  refine xopen_i (lv := [(0, .int p0), (1, .int p1), (2, .int p2)]) (by decide) rfl (Nat.le_of_ble_eq_true rfl) ?_
  intro p e s m args below meth c Q ls A H locs hx hb hml htg hown hin hK hP hD hE hS hA hl hret
  refine lv_iload_n hx hb xd_C_changed_0 rfl (lv_at hl 0 rfl) ?_
  refine lv_iconst (v := 1) hx hb xd_C_changed_1 (by decide) ?_
  refine lv_icmp_ne (tgt := 7) hx hb xd_C_changed_2 rfl (fun h1 => ?_) (fun h1 => ?_)
  · refine lv_iload_n hx hb xd_C_changed_7 rfl (lv_at hl 0 rfl) ?_
    refine lv_iconst (v := 2) hx hb xd_C_changed_8 (by decide) ?_
    have hj4 : ∀ (H : Heap) (locs : List Loc) (ls : Array Slot) (v3 : Int32), v3 = (if p0 = 2 then ((p1 ||| p2)) else ((p1 &&& (p2 ^^^ (-1 : Int32))))) → lv_has ls 3 [(0, .int p0), (1, .int p1), (2, .int p2)] → va_P D xCl [] H → va_D A [] → va_S A s.heap H locs → W p l e { frames := 0, cells := 0, slots := 0, locals := 0 } s m args below meth c H locs (0) (0) Q (F0 m 23 ls [.int v3]) := by
      intro H locs ls v3 hv3 hl hP hD hS
      exact hret _ () H locs ls _ (by unfold xf_C_changed; exact (xif h1 (xlt_e hv3 rfl))) hP hD hS xd_C_changed_23
    refine lv_icmp_ne (tgt := 18) hx hb xd_C_changed_9 rfl (fun h5 => ?_) (fun h5 => ?_)
    · refine lv_iload_n hx hb xd_C_changed_18 rfl (lv_at hl 1 rfl) ?_
      refine lv_iload_n hx hb xd_C_changed_19 rfl (lv_at hl 2 rfl) ?_
      refine lv_iconst (v := (-1)) hx hb xd_C_changed_20 (by decide) ?_
      refine lv_ixor hx hb xd_C_changed_21 ?_
      refine lv_iand hx hb xd_C_changed_22 ?_
      exact hj4 H locs ls (p1 &&& (p2 ^^^ (-1 : Int32))) (xif h5 rfl) hl hP hD hS
    · refine lv_iload_n hx hb xd_C_changed_12 rfl (lv_at hl 1 rfl) ?_
      refine lv_iload_n hx hb xd_C_changed_13 rfl (lv_at hl 2 rfl) ?_
      refine lv_ior hx hb xd_C_changed_14 ?_
      refine lv_goto (tgt := 23) hx hb xd_C_changed_15 rfl ?_
      exact hj4 H locs ls (p1 ||| p2) (xit h5 rfl) hl hP hD hS
  · refine lv_iload_n hx hb xd_C_changed_5 rfl (lv_at hl 2 rfl) ?_
    exact hret _ () H locs ls _ (by unfold xf_C_changed; exact (xit h1 rfl)) hP hD hS xd_C_changed_6

noncomputable def xf_C_isGuestForm (p0 : Int32) (p1 : Int32) (p2 : Int32) : Int32 :=
  if p0 = 48 then
    xlt (if p1 = 0 then (1) else (if p1 = 1 then (1) else (0)) : Int32) fun v4 =>
    v4
  else
    if p0 = 49 then
      xlt (if p2 = 0 then (1) else (0) : Int32) fun v10 =>
      v10
    else
      if p0 = 50 then
        xlt (if p1 = 0 then (1) else (if p1 = 1 then (1) else (if p1 = 3 then (1) else (0))) : Int32) fun v17 =>
        v17
      else
        if p0 = 51 then
          xlt (if p2 = 0 then (1) else (0) : Int32) fun v24 =>
          v24
        else
          if p0 = 52 then
            xlt (if p1 = 0 then (1) else (if p1 = 3 then (1) else (0)) : Int32) fun v30 =>
            v30
          else
            if p0 = 53 then
              xlt (if p2 = 0 then (1) else (0) : Int32) fun v36 =>
              v36
            else
              0
set_option maxHeartbeats 4000000 in
set_option maxRecDepth 100000 in
theorem c_C_isGuestForm (l : Launch) (D : va_G) (tys : List (ClassId × FieldType)) (z : (Nat → Nat) × (Nat → Nat)) (sz : Nat) (p0 : Int32) (p1 : Int32) (p2 : Int32) : Met l xy_C_isGuestForm (xk_C_isGuestForm :: lw_g) { frames := 0, cells := 0, slots := 0, locals := 0 } (va_Pc [.int p0, .int p1, .int p2] (xB D tys z sz [])) (va_Qi (fun r (_ : Unit) => r = xf_C_isGuestForm p0 p1 p2) (fun _ t => xQ D tys [] (va_A [] sz) t) (va_A [] sz)) 0 0 (va_A [] sz) := by
  refine xopen_z (lv := [(0, .int p0), (1, .int p1), (2, .int p2)]) (by decide) rfl (Nat.le_of_ble_eq_true rfl) ?_
  intro p e s m args below meth c Q ls A H locs hx hb hml htg hown hin hK hP hD hE hS hA hl hret
  refine lv_iload_n hx hb xd_C_isGuestForm_0 rfl (lv_at hl 0 rfl) ?_
  refine (Decidable.em (p0 = 48)).elim (fun h1 => ?_) (fun h1 => ?_)
  · refine lv_tableIn (tgt := 40) (off := 39) hx hb xd_C_isGuestForm_1 (by rw [h1]; decide) (by rw [h1]; decide) (by rw [h1]; decide +kernel) rfl ?_
    refine lv_iload_n hx hb xd_C_isGuestForm_40 rfl (lv_at hl 1 rfl) ?_
    have hj5 : ∀ (H : Heap) (locs : List Loc) (ls : Array Slot) (v4 : Int32), v4 = (if p1 = 0 then (1) else (if p1 = 1 then (1) else (0))) → lv_has ls 3 [(0, .int p0), (1, .int p1), (2, .int p2)] → va_P D xCl [] H → va_D A [] → va_S A s.heap H locs → W p l e { frames := 0, cells := 0, slots := 0, locals := 0 } s m args below meth c H locs (0) (0) Q (F0 m 54 ls [.int v4]) := by
      intro H locs ls v4 hv4 hl hP hD hS
      exact hret _ () H locs ls _ (xnar (X01_of hv4 (xit_01 (Or.inr rfl) (xit_01 (Or.inr rfl) (Or.inl rfl))))) (by unfold xf_C_isGuestForm; exact (xit h1 (xlt_e hv4 rfl))) hP hD hS xd_C_isGuestForm_54
    refine lv_if_eq (tgt := 49) hx hb xd_C_isGuestForm_41 rfl (fun h6 => ?_) (fun h6 => ?_)
    · refine lv_iconst (v := 1) hx hb xd_C_isGuestForm_49 (by decide) ?_
      refine lv_goto (tgt := 54) hx hb xd_C_isGuestForm_50 rfl ?_
      exact hj5 H locs ls (1 : Int32) (xit h6 rfl) hl hP hD hS
    · refine lv_iload_n hx hb xd_C_isGuestForm_44 rfl (lv_at hl 1 rfl) ?_
      refine lv_iconst (v := 1) hx hb xd_C_isGuestForm_45 (by decide) ?_
      refine lv_icmp_ne (tgt := 53) hx hb xd_C_isGuestForm_46 rfl (fun h7 => ?_) (fun h7 => ?_)
      · refine lv_iconst (v := 0) hx hb xd_C_isGuestForm_53 (by decide) ?_
        exact hj5 H locs ls (0 : Int32) (xif h6 (xif h7 rfl)) hl hP hD hS
      · refine lv_iconst (v := 1) hx hb xd_C_isGuestForm_49 (by decide) ?_
        refine lv_goto (tgt := 54) hx hb xd_C_isGuestForm_50 rfl ?_
        exact hj5 H locs ls (1 : Int32) (xif h6 (xit h7 rfl)) hl hP hD hS
  · refine (Decidable.em (p0 = 49)).elim (fun h8 => ?_) (fun h8 => ?_)
    · refine lv_tableIn (tgt := 90) (off := 89) hx hb xd_C_isGuestForm_1 (by rw [h8]; decide) (by rw [h8]; decide) (by rw [h8]; decide +kernel) rfl ?_
      refine lv_iload_n hx hb xd_C_isGuestForm_90 rfl (lv_at hl 2 rfl) ?_
      have hj11 : ∀ (H : Heap) (locs : List Loc) (ls : Array Slot) (v10 : Int32), v10 = (if p2 = 0 then (1) else (0)) → lv_has ls 3 [(0, .int p0), (1, .int p1), (2, .int p2)] → va_P D xCl [] H → va_D A [] → va_S A s.heap H locs → W p l e { frames := 0, cells := 0, slots := 0, locals := 0 } s m args below meth c H locs (0) (0) Q (F0 m 99 ls [.int v10]) := by
        intro H locs ls v10 hv10 hl hP hD hS
        exact hret _ () H locs ls _ (xnar (X01_of hv10 (xit_01 (Or.inr rfl) (Or.inl rfl)))) (by unfold xf_C_isGuestForm; exact (xif h1 (xit h8 (xlt_e hv10 rfl)))) hP hD hS xd_C_isGuestForm_99
      refine lv_if_ne (tgt := 98) hx hb xd_C_isGuestForm_91 rfl (fun h12 => ?_) (fun h12 => ?_)
      · refine lv_iconst (v := 0) hx hb xd_C_isGuestForm_98 (by decide) ?_
        exact hj11 H locs ls (0 : Int32) (xif h12 rfl) hl hP hD hS
      · refine lv_iconst (v := 1) hx hb xd_C_isGuestForm_94 (by decide) ?_
        refine lv_goto (tgt := 99) hx hb xd_C_isGuestForm_95 rfl ?_
        exact hj11 H locs ls (1 : Int32) (xit h12 rfl) hl hP hD hS
    · refine (Decidable.em (p0 = 50)).elim (fun h13 => ?_) (fun h13 => ?_)
      · refine lv_tableIn (tgt := 55) (off := 54) hx hb xd_C_isGuestForm_1 (by rw [h13]; decide) (by rw [h13]; decide) (by rw [h13]; decide +kernel) rfl ?_
        refine lv_iload_n hx hb xd_C_isGuestForm_55 rfl (lv_at hl 1 rfl) ?_
        have hj18 : ∀ (H : Heap) (locs : List Loc) (ls : Array Slot) (v17 : Int32), v17 = (if p1 = 0 then (1) else (if p1 = 1 then (1) else (if p1 = 3 then (1) else (0)))) → lv_has ls 3 [(0, .int p0), (1, .int p1), (2, .int p2)] → va_P D xCl [] H → va_D A [] → va_S A s.heap H locs → W p l e { frames := 0, cells := 0, slots := 0, locals := 0 } s m args below meth c H locs (0) (0) Q (F0 m 74 ls [.int v17]) := by
          intro H locs ls v17 hv17 hl hP hD hS
          exact hret _ () H locs ls _ (xnar (X01_of hv17 (xit_01 (Or.inr rfl) (xit_01 (Or.inr rfl) (xit_01 (Or.inr rfl) (Or.inl rfl)))))) (by unfold xf_C_isGuestForm; exact (xif h1 (xif h8 (xit h13 (xlt_e hv17 rfl))))) hP hD hS xd_C_isGuestForm_74
        refine lv_if_eq (tgt := 69) hx hb xd_C_isGuestForm_56 rfl (fun h19 => ?_) (fun h19 => ?_)
        · refine lv_iconst (v := 1) hx hb xd_C_isGuestForm_69 (by decide) ?_
          refine lv_goto (tgt := 74) hx hb xd_C_isGuestForm_70 rfl ?_
          exact hj18 H locs ls (1 : Int32) (xit h19 rfl) hl hP hD hS
        · refine lv_iload_n hx hb xd_C_isGuestForm_59 rfl (lv_at hl 1 rfl) ?_
          refine lv_iconst (v := 1) hx hb xd_C_isGuestForm_60 (by decide) ?_
          refine lv_icmp_eq (tgt := 69) hx hb xd_C_isGuestForm_61 rfl (fun h20 => ?_) (fun h20 => ?_)
          · refine lv_iconst (v := 1) hx hb xd_C_isGuestForm_69 (by decide) ?_
            refine lv_goto (tgt := 74) hx hb xd_C_isGuestForm_70 rfl ?_
            exact hj18 H locs ls (1 : Int32) (xif h19 (xit h20 rfl)) hl hP hD hS
          · refine lv_iload_n hx hb xd_C_isGuestForm_64 rfl (lv_at hl 1 rfl) ?_
            refine lv_iconst (v := 3) hx hb xd_C_isGuestForm_65 (by decide) ?_
            refine lv_icmp_ne (tgt := 73) hx hb xd_C_isGuestForm_66 rfl (fun h21 => ?_) (fun h21 => ?_)
            · refine lv_iconst (v := 0) hx hb xd_C_isGuestForm_73 (by decide) ?_
              exact hj18 H locs ls (0 : Int32) (xif h19 (xif h20 (xif h21 rfl))) hl hP hD hS
            · refine lv_iconst (v := 1) hx hb xd_C_isGuestForm_69 (by decide) ?_
              refine lv_goto (tgt := 74) hx hb xd_C_isGuestForm_70 rfl ?_
              exact hj18 H locs ls (1 : Int32) (xif h19 (xif h20 (xit h21 rfl))) hl hP hD hS
      · refine (Decidable.em (p0 = 51)).elim (fun h22 => ?_) (fun h22 => ?_)
        · refine lv_tableIn (tgt := 90) (off := 89) hx hb xd_C_isGuestForm_1 (by rw [h22]; decide) (by rw [h22]; decide) (by rw [h22]; decide +kernel) rfl ?_
          refine lv_iload_n hx hb xd_C_isGuestForm_90 rfl (lv_at hl 2 rfl) ?_
          have hj25 : ∀ (H : Heap) (locs : List Loc) (ls : Array Slot) (v24 : Int32), v24 = (if p2 = 0 then (1) else (0)) → lv_has ls 3 [(0, .int p0), (1, .int p1), (2, .int p2)] → va_P D xCl [] H → va_D A [] → va_S A s.heap H locs → W p l e { frames := 0, cells := 0, slots := 0, locals := 0 } s m args below meth c H locs (0) (0) Q (F0 m 99 ls [.int v24]) := by
            intro H locs ls v24 hv24 hl hP hD hS
            exact hret _ () H locs ls _ (xnar (X01_of hv24 (xit_01 (Or.inr rfl) (Or.inl rfl)))) (by unfold xf_C_isGuestForm; exact (xif h1 (xif h8 (xif h13 (xit h22 (xlt_e hv24 rfl)))))) hP hD hS xd_C_isGuestForm_99
          refine lv_if_ne (tgt := 98) hx hb xd_C_isGuestForm_91 rfl (fun h26 => ?_) (fun h26 => ?_)
          · refine lv_iconst (v := 0) hx hb xd_C_isGuestForm_98 (by decide) ?_
            exact hj25 H locs ls (0 : Int32) (xif h26 rfl) hl hP hD hS
          · refine lv_iconst (v := 1) hx hb xd_C_isGuestForm_94 (by decide) ?_
            refine lv_goto (tgt := 99) hx hb xd_C_isGuestForm_95 rfl ?_
            exact hj25 H locs ls (1 : Int32) (xit h26 rfl) hl hP hD hS
        · refine (Decidable.em (p0 = 52)).elim (fun h27 => ?_) (fun h27 => ?_)
          · refine lv_tableIn (tgt := 75) (off := 74) hx hb xd_C_isGuestForm_1 (by rw [h27]; decide) (by rw [h27]; decide) (by rw [h27]; decide +kernel) rfl ?_
            refine lv_iload_n hx hb xd_C_isGuestForm_75 rfl (lv_at hl 1 rfl) ?_
            have hj31 : ∀ (H : Heap) (locs : List Loc) (ls : Array Slot) (v30 : Int32), v30 = (if p1 = 0 then (1) else (if p1 = 3 then (1) else (0))) → lv_has ls 3 [(0, .int p0), (1, .int p1), (2, .int p2)] → va_P D xCl [] H → va_D A [] → va_S A s.heap H locs → W p l e { frames := 0, cells := 0, slots := 0, locals := 0 } s m args below meth c H locs (0) (0) Q (F0 m 89 ls [.int v30]) := by
              intro H locs ls v30 hv30 hl hP hD hS
              exact hret _ () H locs ls _ (xnar (X01_of hv30 (xit_01 (Or.inr rfl) (xit_01 (Or.inr rfl) (Or.inl rfl))))) (by unfold xf_C_isGuestForm; exact (xif h1 (xif h8 (xif h13 (xif h22 (xit h27 (xlt_e hv30 rfl))))))) hP hD hS xd_C_isGuestForm_89
            refine lv_if_eq (tgt := 84) hx hb xd_C_isGuestForm_76 rfl (fun h32 => ?_) (fun h32 => ?_)
            · refine lv_iconst (v := 1) hx hb xd_C_isGuestForm_84 (by decide) ?_
              refine lv_goto (tgt := 89) hx hb xd_C_isGuestForm_85 rfl ?_
              exact hj31 H locs ls (1 : Int32) (xit h32 rfl) hl hP hD hS
            · refine lv_iload_n hx hb xd_C_isGuestForm_79 rfl (lv_at hl 1 rfl) ?_
              refine lv_iconst (v := 3) hx hb xd_C_isGuestForm_80 (by decide) ?_
              refine lv_icmp_ne (tgt := 88) hx hb xd_C_isGuestForm_81 rfl (fun h33 => ?_) (fun h33 => ?_)
              · refine lv_iconst (v := 0) hx hb xd_C_isGuestForm_88 (by decide) ?_
                exact hj31 H locs ls (0 : Int32) (xif h32 (xif h33 rfl)) hl hP hD hS
              · refine lv_iconst (v := 1) hx hb xd_C_isGuestForm_84 (by decide) ?_
                refine lv_goto (tgt := 89) hx hb xd_C_isGuestForm_85 rfl ?_
                exact hj31 H locs ls (1 : Int32) (xif h32 (xit h33 rfl)) hl hP hD hS
          · refine (Decidable.em (p0 = 53)).elim (fun h34 => ?_) (fun h34 => ?_)
            · refine lv_tableIn (tgt := 90) (off := 89) hx hb xd_C_isGuestForm_1 (by rw [h34]; decide) (by rw [h34]; decide) (by rw [h34]; decide +kernel) rfl ?_
              refine lv_iload_n hx hb xd_C_isGuestForm_90 rfl (lv_at hl 2 rfl) ?_
              have hj37 : ∀ (H : Heap) (locs : List Loc) (ls : Array Slot) (v36 : Int32), v36 = (if p2 = 0 then (1) else (0)) → lv_has ls 3 [(0, .int p0), (1, .int p1), (2, .int p2)] → va_P D xCl [] H → va_D A [] → va_S A s.heap H locs → W p l e { frames := 0, cells := 0, slots := 0, locals := 0 } s m args below meth c H locs (0) (0) Q (F0 m 99 ls [.int v36]) := by
                intro H locs ls v36 hv36 hl hP hD hS
                exact hret _ () H locs ls _ (xnar (X01_of hv36 (xit_01 (Or.inr rfl) (Or.inl rfl)))) (by unfold xf_C_isGuestForm; exact (xif h1 (xif h8 (xif h13 (xif h22 (xif h27 (xit h34 (xlt_e hv36 rfl)))))))) hP hD hS xd_C_isGuestForm_99
              refine lv_if_ne (tgt := 98) hx hb xd_C_isGuestForm_91 rfl (fun h38 => ?_) (fun h38 => ?_)
              · refine lv_iconst (v := 0) hx hb xd_C_isGuestForm_98 (by decide) ?_
                exact hj37 H locs ls (0 : Int32) (xif h38 rfl) hl hP hD hS
              · refine lv_iconst (v := 1) hx hb xd_C_isGuestForm_94 (by decide) ?_
                refine lv_goto (tgt := 99) hx hb xd_C_isGuestForm_95 rfl ?_
                exact hj37 H locs ls (1 : Int32) (xit h38 rfl) hl hP hD hS
            · refine lv_tableOut (tgt := 100) hx hb xd_C_isGuestForm_1 (xsw_out [48, 49, 50, 51, 52, 53] (by decide) (by simp only [List.forall_mem_cons, List.not_mem_nil, false_imp_iff, implies_true, and_true]; exact ⟨h1, h8, h13, h22, h27, h34⟩)) rfl ?_
              refine lv_iconst (v := 0) hx hb xd_C_isGuestForm_100 (by decide) ?_
              exact hret _ () H locs ls _ rfl (by unfold xf_C_isGuestForm; exact (xif h1 (xif h8 (xif h13 (xif h22 (xif h27 (xif h34 rfl))))))) hP hD hS xd_C_isGuestForm_101
theorem xt01_C_isGuestForm (p0 : Int32) (p1 : Int32) (p2 : Int32) : X01 (xf_C_isGuestForm p0 p1 p2) := by unfold xf_C_isGuestForm; exact (xit_01 (xlt_01 (fun v4 hv4 => (X01_of hv4 (xit_01 (Or.inr rfl) (xit_01 (Or.inr rfl) (Or.inl rfl)))))) (xit_01 (xlt_01 (fun v10 hv10 => (X01_of hv10 (xit_01 (Or.inr rfl) (Or.inl rfl))))) (xit_01 (xlt_01 (fun v17 hv17 => (X01_of hv17 (xit_01 (Or.inr rfl) (xit_01 (Or.inr rfl) (xit_01 (Or.inr rfl) (Or.inl rfl))))))) (xit_01 (xlt_01 (fun v24 hv24 => (X01_of hv24 (xit_01 (Or.inr rfl) (Or.inl rfl))))) (xit_01 (xlt_01 (fun v30 hv30 => (X01_of hv30 (xit_01 (Or.inr rfl) (xit_01 (Or.inr rfl) (Or.inl rfl)))))) (xit_01 (xlt_01 (fun v36 hv36 => (X01_of hv36 (xit_01 (Or.inr rfl) (Or.inl rfl))))) (Or.inl rfl)))))))
