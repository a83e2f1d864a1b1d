theorem xdef_B : ∀ j, j < 9 → defaultValue (xT_B j) = vp_V [.int 0, .int 0, .int 0, .int 0, .int 0, .int 0, .int 0, .int 0, .int 0] j := by
  intro j hj
  have h9 : j = 0 ∨ j = 1 ∨ j = 2 ∨ j = 3 ∨ j = 4 ∨ j = 5 ∨ j = 6 ∨ j = 7 ∨ j = 8 := by omega
  rcases h9 with rfl | rfl | rfl | rfl | rfl | rfl | rfl | rfl | rfl <;> rfl
theorem xdef_P : ∀ j, j < 6 → defaultValue (xT_P j) = vp_V [.int 0, .int 0, .int 0, .int 0, .int 0, .int 0] j := by
  intro j hj
  have h9 : j = 0 ∨ j = 1 ∨ j = 2 ∨ j = 3 ∨ j = 4 ∨ j = 5 := by omega
  rcases h9 with rfl | rfl | rfl | rfl | rfl | rfl <;> rfl
theorem xdef_K : ∀ j, j < 13 → defaultValue (xT_K j) = vp_V [.null, .null, .int 0, .int 0, .int 0, .int 0, .int 0, .int 0, .int 0, .int 0, .long 0, .long 0, .int 0] j := by
  intro j hj
  have h9 : j = 0 ∨ j = 1 ∨ j = 2 ∨ j = 3 ∨ j = 4 ∨ j = 5 ∨ j = 6 ∨ j = 7 ∨ j = 8 ∨ j = 9 ∨ j = 10 ∨ j = 11 ∨ j = 12 := by omega
  rcases h9 with rfl | rfl | rfl | rfl | rfl | rfl | rfl | rfl | rfl | rfl | rfl | rfl | rfl <;> rfl
theorem xdef_M : ∀ j, j < 2 → defaultValue (xT_M j) = vp_V [.null, .int 0] j := by
  intro j hj
  have h9 : j = 0 ∨ j = 1 := by omega
  rcases h9 with rfl | rfl <;> rfl
theorem xdef_T : ∀ j, j < 3 → defaultValue (xT_T j) = vp_V [.null, .null, .null] j := by
  intro j hj
  have h9 : j = 0 ∨ j = 1 ∨ j = 2 := by omega
  rcases h9 with rfl | rfl | rfl <;> rfl

set_option maxHeartbeats 4000000 in
set_option maxRecDepth 100000 in
theorem c_B_init (l : Launch) (D : va_G) (z : (Nat → Nat) × (Nat → Nat)) (k : ClassId × ClassId) (sz q : Nat) : Met l xy_B_init (xk_B_init :: lw_g) { frames := 1, cells := 0, slots := 0, locals := 20 } (va_Pc [.ref q] (xB D (xTy k) z sz [(q, .inr (2, [.int 0, .int 0, .int 0, .int 0, .int 0, .int 0, .int 0, .int 0, .int 0]))])) (va_Qv (fun _ : Unit => True) (fun w t => xQ D (xTy k) ((fun _ : Unit => [(q, .inr (2, [.int 0, .int 0, .int 0, .int 0, .int 0, .int 0, .int 0, .int 0, .int 0]))]) w) (va_A [(q, .inr (2, [.int 0, .int 0, .int 0, .int 0, .int 0, .int 0, .int 0, .int 0, .int 0]))] sz) t) (va_A [(q, .inr (2, [.int 0, .int 0, .int 0, .int 0, .int 0, .int 0, .int 0, .int 0, .int 0]))] sz)) 0 0 (va_A [(q, .inr (2, [.int 0, .int 0, .int 0, .int 0, .int 0, .int 0, .int 0, .int 0, .int 0]))] sz) := by
  refine xopen_v (wf := (fun _ : Unit => [(q, .inr (2, [.int 0, .int 0, .int 0, .int 0, .int 0, .int 0, .int 0, .int 0, .int 0]))])) (lv := [(0, .ref q)]) (by decide) rfl (Nat.le_of_ble_eq_true rfl) ?_
  intro p e s m args below meth c Q ls A H locs hx hb hml htg hown hin hK hP hD hE hS hA hl hret
  refine lv_aload_n hx hb xd_B_init_0 rfl (lv_at hl 0 rfl) ?_
  refine W.objInit hx hb hown (htg _ xw_65) (htg _ xw_21) (htg _ xkin_O_init) rfl (by rw [hml]; exact hl.1) rfl xd_B_init_1 (Nat.le_of_ble_eq_true rfl) (Nat.le_of_ble_eq_true rfl) ?_
  exact hret () H locs ls _ trivial hP hD hS xd_B_init_4

set_option maxHeartbeats 4000000 in
set_option maxRecDepth 100000 in
theorem c_P_init (l : Launch) (D : va_G) (z : (Nat → Nat) × (Nat → Nat)) (k : ClassId × ClassId) (sz q : Nat) : Met l xy_P_init (xk_P_init :: lw_g) { frames := 1, cells := 0, slots := 0, locals := 20 } (va_Pc [.ref q] (xB D (xTy k) z sz [(q, .inr (8, [.int 0, .int 0, .int 0, .int 0, .int 0, .int 0]))])) (va_Qv (fun _ : Unit => True) (fun w t => xQ D (xTy k) ((fun _ : Unit => [(q, .inr (8, [.int 0, .int 0, .int 0, .int 0, .int 0, .int 0]))]) w) (va_A [(q, .inr (8, [.int 0, .int 0, .int 0, .int 0, .int 0, .int 0]))] sz) t) (va_A [(q, .inr (8, [.int 0, .int 0, .int 0, .int 0, .int 0, .int 0]))] sz)) 0 0 (va_A [(q, .inr (8, [.int 0, .int 0, .int 0, .int 0, .int 0, .int 0]))] sz) := by
  refine xopen_v (wf := (fun _ : Unit => [(q, .inr (8, [.int 0, .int 0, .int 0, .int 0, .int 0, .int 0]))])) (lv := [(0, .ref q)]) (by decide) rfl (Nat.le_of_ble_eq_true rfl) ?_
  intro p e s m args below meth c Q ls A H locs hx hb hml htg hown hin hK hP hD hE hS hA hl hret
  refine lv_aload_n hx hb xd_P_init_0 rfl (lv_at hl 0 rfl) ?_
  refine W.objInit hx hb hown (htg _ xw_157) (htg _ xw_21) (htg _ xkin_O_init) rfl (by rw [hml]; exact hl.1) rfl xd_P_init_1 (Nat.le_of_ble_eq_true rfl) (Nat.le_of_ble_eq_true rfl) ?_
  exact hret () H locs ls _ trivial hP hD hS xd_P_init_4

set_option maxHeartbeats 4000000 in
set_option maxRecDepth 100000 in
theorem c_K_init (l : Launch) (D : va_G) (z : (Nat → Nat) × (Nat → Nat)) (k : ClassId × ClassId) (sz q : Nat) : Met l xy_K_init (xk_K_init :: lw_g) { frames := 2, cells := 2, slots := 18, locals := 40 } (va_Pc [.ref q] (xB D (xTy k) z sz [(q, .inr (3, [.null, .null, .int 0, .int 0, .int 0, .int 0, .int 0, .int 0, .int 0, .int 0, .long 0, .long 0, .int 0]))])) (va_Qv (fun _ : Nat × Nat => True) (fun w t => xQ D (xTy k) ((fun w : Nat × Nat => [(q, .inr (3, [.ref w.1, .ref w.2, .int 0, .int 0, .int 0, .int 0, .int 0, .int 0, .int 0, .int 0, .long 0, .long 0, .int 0])), (w.1, .inr (2, [.int 0, .int 0, .int 0, .int 0, .int 0, .int 0, .int 0, .int 0, .int 0])), (w.2, .inr (2, [.int 0, .int 0, .int 0, .int 0, .int 0, .int 0, .int 0, .int 0, .int 0]))]) w) (va_A [(q, .inr (3, [.null, .null, .int 0, .int 0, .int 0, .int 0, .int 0, .int 0, .int 0, .int 0, .long 0, .long 0, .int 0]))] sz) t) (va_A [(q, .inr (3, [.null, .null, .int 0, .int 0, .int 0, .int 0, .int 0, .int 0, .int 0, .int 0, .long 0, .long 0, .int 0]))] sz)) 2 18 (va_A [(q, .inr (3, [.null, .null, .int 0, .int 0, .int 0, .int 0, .int 0, .int 0, .int 0, .int 0, .long 0, .long 0, .int 0]))] sz) := by
  refine xopen_v (wf := (fun w : Nat × Nat => [(q, .inr (3, [.ref w.1, .ref w.2, .int 0, .int 0, .int 0, .int 0, .int 0, .int 0, .int 0, .int 0, .long 0, .long 0, .int 0])), (w.1, .inr (2, [.int 0, .int 0, .int 0, .int 0, .int 0, .int 0, .int 0, .int 0, .int 0])), (w.2, .inr (2, [.int 0, .int 0, .int 0, .int 0, .int 0, .int 0, .int 0, .int 0, .int 0]))])) (lv := [(0, .ref q)]) (by decide) rfl (Nat.le_of_ble_eq_true rfl) ?_
  intro p e s m args below meth c Q ls A H locs hx hb hml htg hown hin hK hP hD hE hS hA hl hret
  refine lv_aload_n hx hb xd_K_init_0 rfl (lv_at hl 0 rfl) ?_
  refine W.objInit hx hb hown (htg _ xw_59) (htg _ xw_21) (htg _ xkin_O_init) rfl (by rw [hml]; exact hl.1) rfl xd_K_init_1 (Nat.le_of_ble_eq_true rfl) (Nat.le_of_ble_eq_true rfl) ?_
  refine lv_aload_n hx hb xd_K_init_4 rfl (lv_at hl 0 rfl) ?_
  refine va_new (ci := 2) (fs := [.int 0, .int 0, .int 0, .int 0, .int 0, .int 0, .int 0, .int 0, .int 0]) hx hb htg xin_B xT_B xO_B hown (htg _ xw_60) (htg _ xw_61) (htg _ xw_6) hK hP hD hS hA rfl xdef_B (Nat.le_of_ble_eq_true rfl) (Nat.le_of_ble_eq_true rfl) xd_K_init_5 (fun s1 H hP hD hS => ?_)
  refine lv_dup hx hb xd_K_init_8 rfl ?_
  refine xcS_v (wf := fun _ : Unit => [(s1, .inr (2, [.int 0, .int 0, .int 0, .int 0, .int 0, .int 0, .int 0, .int 0, .int 0]))]) (X := [(q, .inr (3, [.null, .null, .int 0, .int 0, .int 0, .int 0, .int 0, .int 0, .int 0, .int 0, .long 0, .long 0, .int 0]))]) (Y := []) (va_runIN (As := []) (rest := [.ref s1, .ref q]) ⟨hx, hb, hml, hown, htg⟩ (c_B_init l D z k H.size s1) ⟨va_cnB (host := "HyperHost") 0 htg (xg_C0 xkin_B_init) rfl rfl rfl (xnest hE (by decide +kernel)) (htg _ xw_6) (by decide +kernel) ⟨Nat.le_of_ble_eq_true rfl, Nat.le_of_ble_eq_true rfl⟩, rfl, htg _ xw_63⟩ ⟨xB_blind, fun U hU hW => xB_mk (xPs (X := [(q, .inr (3, [.null, .null, .int 0, .int 0, .int 0, .int 0, .int 0, .int 0, .int 0, .int 0, .long 0, .long 0, .int 0]))]) (Y := []) hP) hK (xDs (X := [(q, .inr (3, [.null, .null, .int 0, .int 0, .int 0, .int 0, .int 0, .int 0, .int 0, .int 0, .long 0, .long 0, .int 0]))]) (Y := []) hD) hE hS (xsubS (X := [(q, .inr (3, [.null, .null, .int 0, .int 0, .int 0, .int 0, .int 0, .int 0, .int 0, .int 0, .long 0, .long 0, .int 0]))]) (Y := []) hD hA hS) hU hW⟩ rfl rfl hl.1 rfl (lv_room (Nat.le_of_ble_eq_true rfl)) xd_K_init_9 ⟨Nat.le_of_ble_eq_true rfl, Nat.le_of_ble_eq_true rfl⟩) hP hD hA hS (fun _ H locs _ hP hD hS => ?_)
  refine va_putF (D := D) (ci := 3) (v := .ref s1) (ty := .object "HyperHost$Bank") (C := xR_K) (T := xF_K) (N := 13) hx hb htg xin_K xT_K xO_K xN_K hown hK hP hD hS 0 rfl rfl 0 (by decide) (htg _ xw_100) (fun _ h9 => h9) rfl hin rfl (by decide +kernel) rfl rfl (Nat.le_of_ble_eq_true rfl) xd_K_init_12 (fun H locs hP hD hS => ?_)
  refine lv_aload_n hx hb xd_K_init_15 rfl (lv_at hl 0 rfl) ?_
  refine va_new (ci := 2) (fs := [.int 0, .int 0, .int 0, .int 0, .int 0, .int 0, .int 0, .int 0, .int 0]) hx hb htg xin_B xT_B xO_B hown (htg _ xw_60) (htg _ xw_61) (htg _ xw_6) hK hP hD hS hA rfl xdef_B (Nat.le_of_ble_eq_true rfl) (Nat.le_of_ble_eq_true rfl) xd_K_init_16 (fun s2 H hP hD hS => ?_)
  refine lv_dup hx hb xd_K_init_19 rfl ?_
  refine xcS_v (wf := fun _ : Unit => [(s2, .inr (2, [.int 0, .int 0, .int 0, .int 0, .int 0, .int 0, .int 0, .int 0, .int 0]))]) (X := [(q, .inr (3, [.ref s1, .null, .int 0, .int 0, .int 0, .int 0, .int 0, .int 0, .int 0, .int 0, .long 0, .long 0, .int 0])), (s1, .inr (2, [.int 0, .int 0, .int 0, .int 0, .int 0, .int 0, .int 0, .int 0, .int 0]))]) (Y := []) (va_runIN (As := []) (rest := [.ref s2, .ref q]) ⟨hx, hb, hml, hown, htg⟩ (c_B_init l D z k H.size s2) ⟨va_cnB (host := "HyperHost") 0 htg (xg_C0 xkin_B_init) rfl rfl rfl (xnest hE (by decide +kernel)) (htg _ xw_6) (by decide +kernel) ⟨Nat.le_of_ble_eq_true rfl, Nat.le_of_ble_eq_true rfl⟩, rfl, htg _ xw_63⟩ ⟨xB_blind, fun U hU hW => xB_mk (xPs (X := [(q, .inr (3, [.ref s1, .null, .int 0, .int 0, .int 0, .int 0, .int 0, .int 0, .int 0, .int 0, .long 0, .long 0, .int 0])), (s1, .inr (2, [.int 0, .int 0, .int 0, .int 0, .int 0, .int 0, .int 0, .int 0, .int 0]))]) (Y := []) hP) hK (xDs (X := [(q, .inr (3, [.ref s1, .null, .int 0, .int 0, .int 0, .int 0, .int 0, .int 0, .int 0, .int 0, .long 0, .long 0, .int 0])), (s1, .inr (2, [.int 0, .int 0, .int 0, .int 0, .int 0, .int 0, .int 0, .int 0, .int 0]))]) (Y := []) hD) hE hS (xsubS (X := [(q, .inr (3, [.ref s1, .null, .int 0, .int 0, .int 0, .int 0, .int 0, .int 0, .int 0, .int 0, .long 0, .long 0, .int 0])), (s1, .inr (2, [.int 0, .int 0, .int 0, .int 0, .int 0, .int 0, .int 0, .int 0, .int 0]))]) (Y := []) hD hA hS) hU hW⟩ rfl rfl hl.1 rfl (lv_room (Nat.le_of_ble_eq_true rfl)) xd_K_init_20 ⟨Nat.le_of_ble_eq_true rfl, Nat.le_of_ble_eq_true rfl⟩) hP hD hA hS (fun _ H locs _ hP hD hS => ?_)
  refine va_putF (D := D) (ci := 3) (v := .ref s2) (ty := .object "HyperHost$Bank") (C := xR_K) (T := xF_K) (N := 13) hx hb htg xin_K xT_K xO_K xN_K hown hK hP hD hS 0 rfl rfl 1 (by decide) (htg _ xw_103) (fun _ h9 => h9) rfl hin rfl (by decide +kernel) rfl rfl (Nat.le_of_ble_eq_true rfl) xd_K_init_23 (fun H locs hP hD hS => ?_)
  exact hret (s1, s2) H locs ls _ trivial hP hD hS xd_K_init_26

