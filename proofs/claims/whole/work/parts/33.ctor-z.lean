def xZ0 : XZ := ((fun _ => 0), (fun _ => 0), 0, 0, 0, 0, false, false, (fun _ => 0), (fun _ => 0), 0, 0, 0, 0, 0, 0, false, 0, false, 0, false, false, false, 0, false, 0, 0)
def xadr (q : Nat) (w : Nat × Nat × Nat × Nat) : Nat → Nat := fun i => match i with
  | 0 => q
  | 1 => w.1
  | 2 => w.2.1
  | 3 => w.2.2.1
  | _ => w.2.2.2
set_option maxHeartbeats 4000000 in
set_option maxRecDepth 100000 in
theorem c_Z_init (l : Launch) (D : va_G) (z : (Nat → Nat) × (Nat → Nat)) (k : ClassId × ClassId) (sz q : Nat) : Met l xy_Z_init (xk_Z_init :: lw_g) { frames := 1, cells := 4, slots := 69693, locals := 23 } (va_Pc [.ref q] (xB D (xTy k) z sz [(q, .inr (1, [.null, .null, .int 0, .int 0, .long 0, .long 0, .int 0, .int 0, .null, .null, .int 0, .int 0, .int 0, .int 0, .int 0, .int 0, .int 0, .long 0, .int 0, .int 0, .int 0, .int 0, .int 0, .int 0, .int 0, .int 0, .int 0]))])) (va_Qv (fun _ : Nat × Nat × Nat × Nat => True) (fun w t => xQ D (xTy k) ((fun w : Nat × Nat × Nat × Nat => xWZ k (xadr q w) (xf_Z_clearMachine xZ0)) w) (va_A [(q, .inr (1, [.null, .null, .int 0, .int 0, .long 0, .long 0, .int 0, .int 0, .null, .null, .int 0, .int 0, .int 0, .int 0, .int 0, .int 0, .int 0, .long 0, .int 0, .int 0, .int 0, .int 0, .int 0, .int 0, .int 0, .int 0, .int 0]))] sz) t) (va_A [(q, .inr (1, [.null, .null, .int 0, .int 0, .long 0, .long 0, .int 0, .int 0, .null, .null, .int 0, .int 0, .int 0, .int 0, .int 0, .int 0, .int 0, .long 0, .int 0, .int 0, .int 0, .int 0, .int 0, .int 0, .int 0, .int 0, .int 0]))] sz)) 4 69693 (va_A [(q, .inr (1, [.null, .null, .int 0, .int 0, .long 0, .long 0, .int 0, .int 0, .null, .null, .int 0, .int 0, .int 0, .int 0, .int 0, .int 0, .int 0, .long 0, .int 0, .int 0, .int 0, .int 0, .int 0, .int 0, .int 0, .int 0, .int 0]))] sz) := by
  refine xopen_v (wf := (fun w : Nat × Nat × Nat × Nat => xWZ k (xadr q w) (xf_Z_clearMachine xZ0))) (lv := [(0, .ref q)]) (by decide) rfl (Nat.le_of_ble_eq_true rfl) ?_
  intro p e s m args below meth c Q ls A H locs hx hb hml htg hown hin hK hP hD hE hS hA hl hret
  refine lv_aload_n hx hb xd_Z_init_0 rfl (lv_at hl 0 rfl) ?_
  refine W.objInit hx hb hown (htg _ xw_721) (htg _ xw_21) (htg _ xkin_O_init) rfl (by rw [hml]; exact hl.1) rfl xd_Z_init_1 (Nat.le_of_ble_eq_true rfl) (Nat.le_of_ble_eq_true rfl) ?_
  refine lv_aload_n hx hb xd_Z_init_4 rfl (lv_at hl 0 rfl) ?_
  refine lv_ldc (v := 65536) hx hb hown (htg _ xw_722) xd_Z_init_5 ?_
  refine va_newa (atype := .int) (a0 := (65536, .inl (fun _ => 0))) (ty := .int) hx hb (htg _ xw_45) rfl hK hP hD hS hA (fun cA => rfl) (by decide) (by decide) (by decide) (Nat.le_of_ble_eq_true rfl) (Nat.le_of_ble_eq_true rfl) xd_Z_init_7 (fun a1 cA H hK2 hP hD hS => ?_)
  have hca1 : cA = k.1 := xKA hK2 rfl
  rw [hca1] at hP hD
  refine va_putF (D := D) (ci := 1) (v := .ref a1) (ty := .array .int) (C := xR_Z) (T := xF_Z) (N := 27) hx hb htg xin_Z xT_Z xO_Z xN_Z hown hK hP hD hS 0 rfl rfl 0 (by decide) (htg _ xw_728) (fun _ h9 => h9) rfl hin rfl (by decide +kernel) rfl rfl (Nat.le_of_ble_eq_true rfl) xd_Z_init_9 (fun H locs hP hD hS => ?_)
  refine lv_aload_n hx hb xd_Z_init_12 rfl (lv_at hl 0 rfl) ?_
  refine lv_bipush (v := 32) hx hb xd_Z_init_13 (by decide) ?_
  refine va_newa (atype := .int) (a0 := (32, .inl (fun _ => 0))) (ty := .int) hx hb (htg _ xw_45) rfl hK hP hD hS hA (fun cA => rfl) (by decide) (by decide) (by decide) (Nat.le_of_ble_eq_true rfl) (Nat.le_of_ble_eq_true rfl) xd_Z_init_15 (fun a2 cA H hK2 hP hD hS => ?_)
  have hca2 : cA = k.1 := xKA hK2 rfl
  rw [hca2] at hP hD
  refine va_putF (D := D) (ci := 1) (v := .ref a2) (ty := .array .int) (C := xR_Z) (T := xF_Z) (N := 27) hx hb htg xin_Z xT_Z xO_Z xN_Z hown hK hP hD hS 0 rfl rfl 1 (by decide) (htg _ xw_729) (fun _ h9 => h9) rfl hin rfl (by decide +kernel) rfl rfl (Nat.le_of_ble_eq_true rfl) xd_Z_init_17 (fun H locs hP hD hS => ?_)
  refine lv_aload_n hx hb xd_Z_init_20 rfl (lv_at hl 0 rfl) ?_
  refine lv_bipush (v := 29) hx hb xd_Z_init_21 (by decide) ?_
  refine va_newa (atype := .int) (a0 := (29, .inl (fun _ => 0))) (ty := .int) hx hb (htg _ xw_45) rfl hK hP hD hS hA (fun cA => rfl) (by decide) (by decide) (by decide) (Nat.le_of_ble_eq_true rfl) (Nat.le_of_ble_eq_true rfl) xd_Z_init_23 (fun a3 cA H hK2 hP hD hS => ?_)
  have hca3 : cA = k.1 := xKA hK2 rfl
  rw [hca3] at hP hD
  refine va_putF (D := D) (ci := 1) (v := .ref a3) (ty := .array .int) (C := xR_Z) (T := xF_Z) (N := 27) hx hb htg xin_Z xT_Z xO_Z xN_Z hown hK hP hD hS 0 rfl rfl 8 (by decide) (htg _ xw_736) (fun _ h9 => h9) rfl hin rfl (by decide +kernel) rfl rfl (Nat.le_of_ble_eq_true rfl) xd_Z_init_25 (fun H locs hP hD hS => ?_)
  refine lv_aload_n hx hb xd_Z_init_28 rfl (lv_at hl 0 rfl) ?_
  refine lv_sipush (v := 4096) hx hb xd_Z_init_29 (by decide) ?_
  refine va_newa (atype := .int) (a0 := (4096, .inl (fun _ => 0))) (ty := .int) hx hb (htg _ xw_45) rfl hK hP hD hS hA (fun cA => rfl) (by decide) (by decide) (by decide) (Nat.le_of_ble_eq_true rfl) (Nat.le_of_ble_eq_true rfl) xd_Z_init_32 (fun a4 cA H hK2 hP hD hS => ?_)
  have hca4 : cA = k.1 := xKA hK2 rfl
  rw [hca4] at hP hD
  refine va_putF (D := D) (ci := 1) (v := .ref a4) (ty := .array .int) (C := xR_Z) (T := xF_Z) (N := 27) hx hb htg xin_Z xT_Z xO_Z xN_Z hown hK hP hD hS 0 rfl rfl 9 (by decide) (htg _ xw_737) (fun _ h9 => h9) rfl hin rfl (by decide +kernel) rfl rfl (Nat.le_of_ble_eq_true rfl) xd_Z_init_34 (fun H locs hP hD hS => ?_)
  have hP : va_P D xCl (xWZ k (xadr q (a1, a2, a3, a4)) xZ0) H := hP
  have hD : va_D A (xWZ k (xadr q (a1, a2, a3, a4)) xZ0) := hD
  refine lv_aload_n hx hb xd_Z_init_37 rfl (lv_at hl 0 rfl) ?_
  refine xcW_v (wf := fun v : XZ => xWZ k (xadr q (a1, a2, a3, a4)) v) (va_runV (As := []) (rest := []) ⟨hx, hb, hml, hown, htg⟩ (c_Z_clearMachine l D z k (xadr q (a1, a2, a3, a4)) H.size xZ0) (cwV 0 htg (xg_V0 xkin_Z_clearMachine xw_723 xw_725 xsel_Z_clearMachine xw_9) rfl rfl rfl (by decide +kernel) ⟨Nat.le_of_ble_eq_true rfl, Nat.le_of_ble_eq_true rfl⟩) ⟨xB_blind, xrecv_Z hK hP, fun U hU hW => xB_mk hP hK hD hE hS (xsubW hD hA hS) hU hW⟩ rfl rfl hl.1 rfl (lv_room (Nat.le_of_ble_eq_true rfl)) xd_Z_init_38 ⟨Nat.le_of_ble_eq_true rfl, Nat.le_of_ble_eq_true rfl⟩) hD hA hS (fun v H locs hw hP hD hS => ?_)
  obtain rfl : v = xf_Z_clearMachine xZ0 := hw
  exact W.widen (Nat.le_of_ble_eq_true rfl) (Nat.le_of_ble_eq_true rfl) (hret (a1, a2, a3, a4) H locs ls _ trivial hP hD hS xd_Z_init_41)

