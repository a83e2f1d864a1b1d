noncomputable def xf_C_mayDo (u : XH) (p0 : Int32) : Int32 × XH :=
  if (xg_C_mode u) = 1 then
    (1, u)
  else
    if (xg_C_mode u) = 3 then
      if p0 = 0 then
        (1, u)
      else
        xlt (if (xg_C_mode u) = 0 then (2) else (22) : Int32) fun v8 =>
        xlt (xf_C_refuse u v8 : XH) fun q10 =>
        (0, q10)
    else
      xlt (if (xg_C_mode u) = 0 then (2) else (22) : Int32) fun v3 =>
      xlt (xf_C_refuse u v3 : XH) fun q5 =>
      (0, q5)
set_option maxHeartbeats 4000000 in
set_option maxRecDepth 100000 in
theorem c_C_mayDo (l : Launch) (D : va_G) (z : (Nat → Nat) × (Nat → Nat)) (k : ClassId × ClassId) (a : Nat → Nat) (g : XG) (sz : Nat) (u : XH) (hg : xok k g u) (p0 : Int32) : Met l xy_C_mayDo (xk_C_mayDo :: lw_g) { frames := 2, cells := 0, slots := 0, locals := 43 } (va_Pc [.ref ((a 1)), .int p0] (xB D (xTy k) z sz (xWH k a g u))) (va_Qi (fun r (q : XH × XG) => (r, q.1) = xf_C_mayDo u p0 ∧ xok k q.2 q.1) (fun q t => xQ D (xTy k) (xWH k a q.2 q.1) (va_A (xWH k a g u) sz) t) (va_A (xWH k a g u) sz)) 0 0 (va_A (xWH k a g u) sz) := by
  refine xopen_z (wf := fun q : XH × XG => xWH k a q.2 q.1) (lv := [(0, .ref ((a 1))), (1, .int p0)]) (by decide) rfl (Nat.le_of_ble_eq_true rfl) ?_
  intro p e s m args below meth c Q ls A H locs hx hb hml htg hown hin hK hP hD hE hS hA hl hret
  refine lv_aload_n hx hb xd_C_mayDo_0 rfl (lv_at hl 0 rfl) ?_
  refine xget_C_mode (v := (xg_C_mode u)) hx hb htg hown hK hP (htg _ xw_213) rfl xd_C_mayDo_1 ?_
  refine lv_iconst (v := 1) hx hb xd_C_mayDo_4 (by decide) ?_
  refine lv_icmp_eq (tgt := 20) hx hb xd_C_mayDo_5 rfl (fun h1 => ?_) (fun h1 => ?_)
  · refine lv_iconst (v := 1) hx hb xd_C_mayDo_20 (by decide) ?_
    exact hret _ (u, g) H locs ls _ rfl ⟨(by unfold xf_C_mayDo; exact (xit h1 rfl)), hg⟩ hP hD hS xd_C_mayDo_21
  · refine lv_aload_n hx hb xd_C_mayDo_8 rfl (lv_at hl 0 rfl) ?_
    refine xget_C_mode (v := (xg_C_mode u)) hx hb htg hown hK hP (htg _ xw_213) rfl xd_C_mayDo_9 ?_
    refine lv_iconst (v := 3) hx hb xd_C_mayDo_12 (by decide) ?_
    refine lv_icmp_ne (tgt := 22) hx hb xd_C_mayDo_13 rfl (fun h2 => ?_) (fun h2 => ?_)
    · refine lv_aload_n hx hb xd_C_mayDo_22 rfl (lv_at hl 0 rfl) ?_
      refine lv_aload_n hx hb xd_C_mayDo_23 rfl (lv_at hl 0 rfl) ?_
      refine xget_C_mode (v := (xg_C_mode u)) hx hb htg hown hK hP (htg _ xw_213) rfl xd_C_mayDo_24 ?_
      have hj4 : ∀ (H : Heap) (locs : List Loc) (ls : Array Slot) (g : XG) (v3 : Int32), v3 = (if (xg_C_mode u) = 0 then (2) else (22)) → xok k g u → lv_has ls 2 [(0, .ref ((a 1))), (1, .int p0)] → va_P D xCl (xWH k a g u) H → va_D A (xWH k a g u) → va_S A s.heap H locs → W p l e { frames := 2, cells := 0, slots := 0, locals := 43 } s m args below meth c H locs (0) (0) Q (F0 m 36 ls [.int v3, .ref ((a 1))]) := by
        intro H locs ls g v3 hv3 hg hl hP hD hS
        refine xcW_v (va_runV (As := [.int v3]) (rest := []) ⟨hx, hb, hml, hown, htg⟩ (c_C_refuse l D z k a g H.size u hg v3) (cwV 1 htg (xg_V0 xkin_C_refuse xw_509 xw_511 xsel_C_refuse xw_2) rfl rfl rfl (by decide +kernel) ⟨Nat.le_of_ble_eq_true rfl, Nat.le_of_ble_eq_true rfl⟩) ⟨xB_blind, xrecv_C hK hP, fun U hU hW => xB_mk hP hK hD hE hS (xsubW hD hA hS) hU hW⟩ rfl rfl hl.1 rfl (lv_room (Nat.le_of_ble_eq_true rfl)) xd_C_mayDo_36 ⟨Nat.le_of_ble_eq_true rfl, Nat.le_of_ble_eq_true rfl⟩) hD hA hS (fun w1 H locs hw hP hD hS => ?_)
        obtain ⟨u1, g⟩ := w1
        obtain ⟨q5, hq5⟩ : ∃ q, q = xf_C_refuse u v3 := ⟨_, rfl⟩
        obtain ⟨e2, hg⟩ := hw
        rw [← hq5] at e2
        obtain rfl : q5 = u1 := e2.symm
        have hP : va_P D xCl (xWH k a g q5) H := hP
        have hD : va_D A (xWH k a g q5) := hD
        have hg : xok k g q5 := hg
        refine lv_iconst (v := 0) hx hb xd_C_mayDo_39 (by decide) ?_
        exact hret _ (q5, g) H locs ls _ rfl ⟨(by unfold xf_C_mayDo; exact (xif h1 (xif h2 (xlt_e hv3 (xlt_e hq5 rfl))))), hg⟩ hP hD hS xd_C_mayDo_40
      refine lv_if_ne (tgt := 34) hx hb xd_C_mayDo_27 rfl (fun h6 => ?_) (fun h6 => ?_)
      · refine lv_bipush (v := 22) hx hb xd_C_mayDo_34 (by decide) ?_
        exact hj4 H locs ls g (22 : Int32) (xif h6 rfl) hg hl hP hD hS
      · refine lv_iconst (v := 2) hx hb xd_C_mayDo_30 (by decide) ?_
        refine lv_goto (tgt := 36) hx hb xd_C_mayDo_31 rfl ?_
        exact hj4 H locs ls g (2 : Int32) (xit h6 rfl) hg hl hP hD hS
    · refine lv_iload_n hx hb xd_C_mayDo_16 rfl (lv_at hl 1 rfl) ?_
      refine lv_if_ne (tgt := 22) hx hb xd_C_mayDo_17 rfl (fun h7 => ?_) (fun h7 => ?_)
      · refine lv_aload_n hx hb xd_C_mayDo_22 rfl (lv_at hl 0 rfl) ?_
        refine lv_aload_n hx hb xd_C_mayDo_23 rfl (lv_at hl 0 rfl) ?_
        refine xget_C_mode (v := (xg_C_mode u)) hx hb htg hown hK hP (htg _ xw_213) rfl xd_C_mayDo_24 ?_
        have hj9 : ∀ (H : Heap) (locs : List Loc) (ls : Array Slot) (g : XG) (v8 : Int32), v8 = (if (xg_C_mode u) = 0 then (2) else (22)) → xok k g u → lv_has ls 2 [(0, .ref ((a 1))), (1, .int p0)] → va_P D xCl (xWH k a g u) H → va_D A (xWH k a g u) → va_S A s.heap H locs → W p l e { frames := 2, cells := 0, slots := 0, locals := 43 } s m args below meth c H locs (0) (0) Q (F0 m 36 ls [.int v8, .ref ((a 1))]) := by
          intro H locs ls g v8 hv8 hg hl hP hD hS
          refine xcW_v (va_runV (As := [.int v8]) (rest := []) ⟨hx, hb, hml, hown, htg⟩ (c_C_refuse l D z k a g H.size u hg v8) (cwV 1 htg (xg_V0 xkin_C_refuse xw_509 xw_511 xsel_C_refuse xw_2) rfl rfl rfl (by decide +kernel) ⟨Nat.le_of_ble_eq_true rfl, Nat.le_of_ble_eq_true rfl⟩) ⟨xB_blind, xrecv_C hK hP, fun U hU hW => xB_mk hP hK hD hE hS (xsubW hD hA hS) hU hW⟩ rfl rfl hl.1 rfl (lv_room (Nat.le_of_ble_eq_true rfl)) xd_C_mayDo_36 ⟨Nat.le_of_ble_eq_true rfl, Nat.le_of_ble_eq_true rfl⟩) hD hA hS (fun w1 H locs hw hP hD hS => ?_)
          obtain ⟨u1, g⟩ := w1
          obtain ⟨q10, hq10⟩ : ∃ q, q = xf_C_refuse u v8 := ⟨_, rfl⟩
          obtain ⟨e2, hg⟩ := hw
          rw [← hq10] at e2
          obtain rfl : q10 = u1 := e2.symm
          have hP : va_P D xCl (xWH k a g q10) H := hP
          have hD : va_D A (xWH k a g q10) := hD
          have hg : xok k g q10 := hg
          refine lv_iconst (v := 0) hx hb xd_C_mayDo_39 (by decide) ?_
          exact hret _ (q10, g) H locs ls _ rfl ⟨(by unfold xf_C_mayDo; exact (xif h1 (xit h2 (xif h7 (xlt_e hv8 (xlt_e hq10 rfl)))))), hg⟩ hP hD hS xd_C_mayDo_40
        refine lv_if_ne (tgt := 34) hx hb xd_C_mayDo_27 rfl (fun h11 => ?_) (fun h11 => ?_)
        · refine lv_bipush (v := 22) hx hb xd_C_mayDo_34 (by decide) ?_
          exact hj9 H locs ls g (22 : Int32) (xif h11 rfl) hg hl hP hD hS
        · refine lv_iconst (v := 2) hx hb xd_C_mayDo_30 (by decide) ?_
          refine lv_goto (tgt := 36) hx hb xd_C_mayDo_31 rfl ?_
          exact hj9 H locs ls g (2 : Int32) (xit h11 rfl) hg hl hP hD hS
      · refine lv_iconst (v := 1) hx hb xd_C_mayDo_20 (by decide) ?_
        exact hret _ (u, g) H locs ls _ rfl ⟨(by unfold xf_C_mayDo; exact (xif h1 (xit h2 (xit h7 rfl)))), hg⟩ hP hD hS xd_C_mayDo_21
theorem xt01_C_mayDo (u : XH) (p0 : Int32) : X01p (xf_C_mayDo u p0) := by unfold xf_C_mayDo; exact (xit_01p (Or.inr rfl) (xit_01p (xit_01p (Or.inr rfl) (xlt_01p (fun v8 hv8 => (xlt_01p (fun q10 hq10 => (Or.inl rfl)))))) (xlt_01p (fun v3 hv3 => (xlt_01p (fun q5 hq5 => (Or.inl rfl)))))))

noncomputable def xf_C_setAlarm (u : XH) (p0 : Int32) (p1 : Int32) : XH :=
  xlt (if 0 ≤ (lg_cmp (((Int32.toInt64 p0) <<< (Int32.toInt64 (32 : Int32) &&& 63)) ||| ((Int32.toInt64 p1) &&& (4294967295 : Int64))) (0 : Int64)) then ((((Int32.toInt64 p0) <<< (Int32.toInt64 (32 : Int32) &&& 63)) ||| ((Int32.toInt64 p1) &&& (4294967295 : Int64)))) else (9223372036854775807) : Int64) fun v1 =>
  (xs_K_alarm u v1)
set_option maxHeartbeats 4000000 in
set_option maxRecDepth 100000 in
theorem c_C_setAlarm (l : Launch) (D : va_G) (z : (Nat → Nat) × (Nat → Nat)) (k : ClassId × ClassId) (a : Nat → Nat) (g : XG) (sz : Nat) (u : XH) (hg : xok k g u) (p0 : Int32) (p1 : Int32) : Met l xy_C_setAlarm (xk_C_setAlarm :: lw_g) { frames := 0, cells := 0, slots := 0, locals := 0 } (va_Pc [.ref ((a 1)), .int p0, .int p1] (xB D (xTy k) z sz (xWH k a g u))) (va_Qv (fun q : XH × XG => q.1 = xf_C_setAlarm u p0 p1 ∧ xok k q.2 q.1) (fun q t => xQ D (xTy k) (xWH k a q.2 q.1) (va_A (xWH k a g u) sz) t) (va_A (xWH k a g u) sz)) 0 0 (va_A (xWH k a g u) sz) := by
  refine xopen_v (wf := fun q : XH × XG => xWH k a q.2 q.1) (lv := [(0, .ref ((a 1))), (1, .int p0), (2, .int p1)]) (by decide) rfl (Nat.le_of_ble_eq_true rfl) ?_
  intro p e s m args below meth c Q ls A H locs hx hb hml htg hown hin hK hP hD hE hS hA hl hret
  refine lv_iload_n hx hb xd_C_setAlarm_0 rfl (lv_at hl 1 rfl) ?_
  refine lv_i2l (v := (Int32.toInt64 p0)) hx hb xd_C_setAlarm_1 rfl ?_
  refine lv_bipush (v := 32) hx hb xd_C_setAlarm_2 (by decide) ?_
  refine lv_lshl (v := ((Int32.toInt64 p0) <<< (Int32.toInt64 (32 : Int32) &&& 63))) hx hb xd_C_setAlarm_4 rfl ?_
  refine lv_iload_n hx hb xd_C_setAlarm_5 rfl (lv_at hl 2 rfl) ?_
  refine lv_i2l (v := (Int32.toInt64 p1)) hx hb xd_C_setAlarm_6 rfl ?_
  refine lv_ldc2 (v := 4294967295) hx hb hown (htg _ xw_634) xd_C_setAlarm_7 ?_
  refine lv_land hx hb xd_C_setAlarm_10 ?_
  refine lv_lor hx hb xd_C_setAlarm_11 ?_
  refine lv_lstore_n (lv' := [(3, .long ((((Int32.toInt64 p0) <<< (Int32.toInt64 (32 : Int32) &&& 63)) ||| ((Int32.toInt64 p1) &&& (4294967295 : Int64))))), (0, .ref ((a 1))), (1, .int p0), (2, .int p1)]) hx hb xd_C_setAlarm_12 rfl hl (by decide) rfl (fun ls hl => ?_)
  refine lv_aload_n hx hb xd_C_setAlarm_13 rfl (lv_at hl 1 rfl) ?_
  refine xget_C_controls hx hb htg hown hK hP (htg _ xw_206) xd_C_setAlarm_14 ?_
  refine lv_lload_n hx hb xd_C_setAlarm_17 rfl (lv_at hl 0 rfl) ?_
  refine lv_lconst (v := 0) hx hb xd_C_setAlarm_18 (by decide) ?_
  refine W.lcmp hx hb xd_C_setAlarm_19 ?_
  have hj2 : ∀ (H : Heap) (locs : List Loc) (ls : Array Slot) (g : XG) (v1 : Int64), v1 = (if 0 ≤ (lg_cmp (((Int32.toInt64 p0) <<< (Int32.toInt64 (32 : Int32) &&& 63)) ||| ((Int32.toInt64 p1) &&& (4294967295 : Int64))) (0 : Int64)) then ((((Int32.toInt64 p0) <<< (Int32.toInt64 (32 : Int32) &&& 63)) ||| ((Int32.toInt64 p1) &&& (4294967295 : Int64)))) else (9223372036854775807)) → xok k g u → lv_has ls 5 [(3, .long ((((Int32.toInt64 p0) <<< (Int32.toInt64 (32 : Int32) &&& 63)) ||| ((Int32.toInt64 p1) &&& (4294967295 : Int64))))), (0, .ref ((a 1))), (1, .int p0), (2, .int p1)] → va_P D xCl (xWH k a g u) H → va_D A (xWH k a g u) → va_S A s.heap H locs → W p l e { frames := 0, cells := 0, slots := 0, locals := 0 } s m args below meth c H locs (0) (0) Q (F0 m 30 ls [.long v1, .ref ((a 4))]) := by
    intro H locs ls g v1 hv1 hg hl hP hD hS
    refine xput_K_alarm (v := v1) hx hb htg hown hK hP hD hS hg (htg _ xw_122) xd_C_setAlarm_30 (fun H locs hP hD hS hg => ?_)
    exact hret ((xs_K_alarm u v1), g) H locs ls _ ⟨(by unfold xf_C_setAlarm; exact (xlt_e hv1 rfl)), hg⟩ hP hD hS xd_C_setAlarm_33
  refine lv_if_ge (tgt := 29) hx hb xd_C_setAlarm_20 rfl (fun h3 => ?_) (fun h3 => ?_)
  · refine lv_lload_n hx hb xd_C_setAlarm_29 rfl (lv_at hl 0 rfl) ?_
    exact hj2 H locs ls g (((Int32.toInt64 p0) <<< (Int32.toInt64 (32 : Int32) &&& 63)) ||| ((Int32.toInt64 p1) &&& (4294967295 : Int64))) (xit h3 rfl) hg hl hP hD hS
  · refine lv_ldc2 (v := 9223372036854775807) hx hb hown (htg _ xw_635) xd_C_setAlarm_23 ?_
    refine lv_goto (tgt := 30) hx hb xd_C_setAlarm_26 rfl ?_
    exact hj2 H locs ls g (9223372036854775807 : Int64) (xif h3 rfl) hg hl hP hD hS

noncomputable def xf_C_returnFromTrap (u : XH) : XH :=
  xlt (xf_C_isSet u (4194304 : Int32) : Int32) fun q1 =>
  xlt (xf_C_mayDo u q1 : Int32 × XH) fun q2 =>
  if q2.1 = 0 then
    q2.2
  else
    xlt (if (xg_C_mode q2.2) = 3 then (1) else (xlt (xf_C_isSet q2.2 (128 : Int32) : Int32) fun q5 => if q5 = 0 then (0) else (1)) : Int32) fun v4 =>
    if (xg_C_mode q2.2) = 3 then
      xlt (if (xg_C_mode q2.2) = 1 then ((xs_K_hstatus q2.2 ((xg_K_hstatus q2.2) &&& (-129 : Int32)))) else (q2.2) : XH) fun v17 =>
      xlt (xf_B_leave (xg_V v17) : Int32 × XB) fun q19 =>
      xlt (if v4 = 0 then (0) else (2) : Int32) fun v20 =>
      xlt (if q19.1 = 0 then (0) else (1) : Int32) fun v22 =>
      (xs_C_mode (xs_C_next (xs_V v17 q19.2) (xg_V_epc (xs_V v17 q19.2))) (v20 + v22))
    else
      xlt (if (xg_C_mode q2.2) = 1 then ((xs_K_hstatus q2.2 ((xg_K_hstatus q2.2) &&& (-129 : Int32)))) else (q2.2) : XH) fun v7 =>
      xlt (xf_B_leave (xg_S v7) : Int32 × XB) fun q9 =>
      xlt (if v4 = 0 then (0) else (2) : Int32) fun v10 =>
      xlt (if q9.1 = 0 then (0) else (1) : Int32) fun v12 =>
      (xs_C_mode (xs_C_next (xs_S v7 q9.2) (xg_S_epc (xs_S v7 q9.2))) (v10 + v12))
set_option maxHeartbeats 4000000 in
set_option maxRecDepth 100000 in
theorem c_C_returnFromTrap (l : Launch) (D : va_G) (z : (Nat → Nat) × (Nat → Nat)) (k : ClassId × ClassId) (a : Nat → Nat) (g : XG) (sz : Nat) (u : XH) (hg : xok k g u) : Met l xy_C_returnFromTrap (xk_C_returnFromTrap :: lw_g) { frames := 3, cells := 0, slots := 0, locals := 64 } (va_Pc [.ref ((a 1))] (xB D (xTy k) z sz (xWH k a g u))) (va_Qv (fun q : XH × XG => q.1 = xf_C_returnFromTrap u ∧ xok k q.2 q.1) (fun q t => xQ D (xTy k) (xWH k a q.2 q.1) (va_A (xWH k a g u) sz) t) (va_A (xWH k a g u) sz)) 0 0 (va_A (xWH k a g u) sz) := by
  refine xopen_v (wf := fun q : XH × XG => xWH k a q.2 q.1) (lv := [(0, .ref ((a 1)))]) (by decide) rfl (Nat.le_of_ble_eq_true rfl) ?_
  intro p e s m args below meth c Q ls A H locs hx hb hml htg hown hin hK hP hD hE hS hA hl hret
  refine lv_aload_n hx hb xd_C_returnFromTrap_0 rfl (lv_at hl 0 rfl) ?_
  refine lv_aload_n hx hb xd_C_returnFromTrap_1 rfl (lv_at hl 0 rfl) ?_
  refine lv_ldcw (v := 4194304) hx hb hown (htg _ xw_644) xd_C_returnFromTrap_2 ?_
  refine xcW_i (va_runV (As := [.int 4194304]) (rest := [.ref ((a 1))]) ⟨hx, hb, hml, hown, htg⟩ (c_C_isSet l D z k a g H.size u hg (4194304 : Int32)) (cwV 1 htg (xg_V0 xkin_C_isSet xw_618 xw_620 xsel_C_isSet xw_2) rfl rfl rfl (by decide +kernel) ⟨Nat.le_of_ble_eq_true rfl, Nat.le_of_ble_eq_true rfl⟩) ⟨xB_blind, xrecv_C hK hP, fun U hU hW => xB_mk hP hK hD hE hS (xsubW hD hA hS) hU hW⟩ rfl rfl hl.1 rfl (lv_room (Nat.le_of_ble_eq_true rfl)) xd_C_returnFromTrap_5 ⟨Nat.le_of_ble_eq_true rfl, Nat.le_of_ble_eq_true rfl⟩) hD hA hS (fun r w1 H locs hw hP hD hS => ?_)
  obtain ⟨u1, g⟩ := w1
  obtain ⟨q1, hq1⟩ : ∃ q, q = xf_C_isSet u (4194304 : Int32) := ⟨_, rfl⟩
  obtain ⟨e1, e2, hg⟩ := hw
  rw [← hq1] at e1
  obtain rfl : q1 = r := e1.symm
  obtain rfl : u = u1 := e2.symm
  have hP : va_P D xCl (xWH k a g u) H := hP
  have hD : va_D A (xWH k a g u) := hD
  have hg : xok k g u := hg
  refine xcW_i (va_runV (As := [.int q1]) (rest := []) ⟨hx, hb, hml, hown, htg⟩ (c_C_mayDo l D z k a g H.size u hg q1) (cwV 1 htg (xg_V0 xkin_C_mayDo xw_622 xw_624 xsel_C_mayDo xw_2) rfl rfl rfl (by decide +kernel) ⟨Nat.le_of_ble_eq_true rfl, Nat.le_of_ble_eq_true rfl⟩) ⟨xB_blind, xrecv_C hK hP, fun U hU hW => xB_mk hP hK hD hE hS (xsubW hD hA hS) hU hW⟩ rfl rfl hl.1 rfl (lv_room (Nat.le_of_ble_eq_true rfl)) xd_C_returnFromTrap_8 ⟨Nat.le_of_ble_eq_true rfl, Nat.le_of_ble_eq_true rfl⟩) hD hA hS (fun r w1 H locs hw hP hD hS => ?_)
  obtain ⟨u1, g⟩ := w1
  obtain ⟨q2, hq2⟩ : ∃ q, q = xf_C_mayDo u q1 := ⟨_, rfl⟩
  obtain ⟨e1, hg⟩ := hw
  rw [← hq2] at e1
  obtain rfl : r = q2.1 := congrArg Prod.fst e1
  obtain rfl : u1 = q2.2 := congrArg Prod.snd e1
  have hP : va_P D xCl (xWH k a g q2.2) H := hP
  have hD : va_D A (xWH k a g q2.2) := hD
  have hg : xok k g q2.2 := hg
  refine lv_if_ne (tgt := 15) hx hb xd_C_returnFromTrap_11 rfl (fun h3 => ?_) (fun h3 => ?_)
  · refine lv_aload_n hx hb xd_C_returnFromTrap_15 rfl (lv_at hl 0 rfl) ?_
    refine xget_C_mode (v := (xg_C_mode q2.2)) hx hb htg hown hK hP (htg _ xw_213) rfl xd_C_returnFromTrap_16 ?_
    refine lv_iconst (v := 3) hx hb xd_C_returnFromTrap_19 (by decide) ?_
    have hj5 : ∀ (H : Heap) (locs : List Loc) (ls : Array Slot) (g : XG) (v4 : Int32), v4 = (if (xg_C_mode q2.2) = 3 then (1) else (xlt (xf_C_isSet q2.2 (128 : Int32) : Int32) fun q5 => if q5 = 0 then (0) else (1))) → xok k g q2.2 → lv_has ls 4 [(0, .ref ((a 1)))] → va_P D xCl (xWH k a g q2.2) H → va_D A (xWH k a g q2.2) → va_S A s.heap H locs → W p l e { frames := 3, cells := 0, slots := 0, locals := 64 } s m args below meth c H locs (0) (0) Q (F0 m 38 ls [.int v4]) := by
      intro H locs ls g v4 hv4 hg hl hP hD hS
      refine lv_istore_n (lv' := [(1, .int v4), (0, .ref ((a 1)))]) hx hb xd_C_returnFromTrap_38 rfl hl (by decide) rfl (fun ls hl => ?_)
      refine lv_aload_n hx hb xd_C_returnFromTrap_39 rfl (lv_at hl 1 rfl) ?_
      refine xget_C_mode (v := (xg_C_mode q2.2)) hx hb htg hown hK hP (htg _ xw_213) rfl xd_C_returnFromTrap_40 ?_
      refine lv_iconst (v := 3) hx hb xd_C_returnFromTrap_43 (by decide) ?_
      refine lv_icmp_ne (tgt := 57) hx hb xd_C_returnFromTrap_44 rfl (fun h6 => ?_) (fun h6 => ?_)
      · refine lv_aload_n hx hb xd_C_returnFromTrap_57 rfl (lv_at hl 1 rfl) ?_
        refine xget_C_controls hx hb htg hown hK hP (htg _ xw_206) xd_C_returnFromTrap_58 ?_
        refine xget_K_s hx hb htg hown hK hP (htg _ xw_102) xd_C_returnFromTrap_61 ?_
        refine lv_astore_n (lv' := [(2, .ref ((a 5))), (1, .int v4), (0, .ref ((a 1)))]) hx hb xd_C_returnFromTrap_64 rfl hl (by decide) rfl (fun ls hl => ?_)
        refine lv_aload_n hx hb xd_C_returnFromTrap_65 rfl (lv_at hl 2 rfl) ?_
        refine xget_C_mode (v := (xg_C_mode q2.2)) hx hb htg hown hK hP (htg _ xw_213) rfl xd_C_returnFromTrap_66 ?_
        refine lv_iconst (v := 1) hx hb xd_C_returnFromTrap_69 (by decide) ?_
        have hj8 : ∀ (H : Heap) (locs : List Loc) (ls : Array Slot) (g : XG) (v7 : XH), v7 = (if (xg_C_mode q2.2) = 1 then ((xs_K_hstatus q2.2 ((xg_K_hstatus q2.2) &&& (-129 : Int32)))) else (q2.2)) → xok k g v7 → lv_has ls 4 [(2, .ref ((a 5))), (1, .int v4), (0, .ref ((a 1)))] → va_P D xCl (xWH k a g v7) H → va_D A (xWH k a g v7) → va_S A s.heap H locs → W p l e { frames := 3, cells := 0, slots := 0, locals := 64 } s m args below meth c H locs (0) (0) Q (F0 m 88 ls []) := by
          intro H locs ls g v7 hv7 hg hl hP hD hS
          refine lv_aload_n hx hb xd_C_returnFromTrap_88 rfl (lv_at hl 0 rfl) ?_
          refine xcb_S_i (b0 := (xg_S v7)) rfl (va_runV (As := []) (rest := []) ⟨hx, hb, hml, hown, htg⟩ (c_B_leave l D (xTy k) z H.size (a 5) (xg_S v7)) (cwV 0 htg (xg_V0 xkin_B_leave xw_645 xw_646 xsel_B_leave xw_6) rfl rfl rfl (by decide +kernel) ⟨Nat.le_of_ble_eq_true rfl, Nat.le_of_ble_eq_true rfl⟩) ⟨xB_blind, xrecv_S hK hP, fun U hU hW => xpre_S hP hK hD hE hS hA hU hW⟩ rfl rfl hl.1 rfl (lv_room (Nat.le_of_ble_eq_true rfl)) xd_C_returnFromTrap_89 ⟨Nat.le_of_ble_eq_true rfl, Nat.le_of_ble_eq_true rfl⟩) hP hD hA hS (fun r u1 H locs hw hP hD hS => ?_)
          obtain ⟨q9, hq9⟩ : ∃ q, q = xf_B_leave (xg_S v7) := ⟨_, rfl⟩
          rw [← hq9] at hw
          obtain rfl : r = q9.1 := congrArg Prod.fst hw
          obtain rfl : u1 = q9.2 := congrArg Prod.snd hw
          have hg := xok_S (b := q9.2) hg
          refine lv_istore_n (lv' := [(3, .int (q9.1)), (2, .ref ((a 5))), (1, .int v4), (0, .ref ((a 1)))]) hx hb xd_C_returnFromTrap_92 rfl hl (by decide) rfl (fun ls hl => ?_)
          refine lv_aload_n hx hb xd_C_returnFromTrap_93 rfl (lv_at hl 3 rfl) ?_
          refine lv_aload_n hx hb xd_C_returnFromTrap_94 rfl (lv_at hl 1 rfl) ?_
          refine xget_S_epc (v := (xg_S_epc (xs_S v7 q9.2))) hx hb htg hown hK hP (htg _ xw_74) rfl xd_C_returnFromTrap_95 ?_
          refine xput_C_next (v := (xg_S_epc (xs_S v7 q9.2))) hx hb htg hown hK hP hD hS hg (htg _ xw_223) xd_C_returnFromTrap_98 (fun H locs hP hD hS hg => ?_)
          refine lv_aload_n hx hb xd_C_returnFromTrap_101 rfl (lv_at hl 3 rfl) ?_
          refine lv_iload_n hx hb xd_C_returnFromTrap_102 rfl (lv_at hl 2 rfl) ?_
          have hj11 : ∀ (H : Heap) (locs : List Loc) (ls : Array Slot) (g : XG) (v10 : Int32), v10 = (if v4 = 0 then (0) else (2)) → xok k g (xs_C_next (xs_S v7 q9.2) (xg_S_epc (xs_S v7 q9.2))) → lv_has ls 4 [(3, .int (q9.1)), (2, .ref ((a 5))), (1, .int v4), (0, .ref ((a 1)))] → va_P D xCl (xWH k a g (xs_C_next (xs_S v7 q9.2) (xg_S_epc (xs_S v7 q9.2)))) H → va_D A (xWH k a g (xs_C_next (xs_S v7 q9.2) (xg_S_epc (xs_S v7 q9.2)))) → va_S A s.heap H locs → W p l e { frames := 3, cells := 0, slots := 0, locals := 64 } s m args below meth c H locs (0) (0) Q (F0 m 111 ls [.int v10, .ref ((a 1))]) := by
            intro H locs ls g v10 hv10 hg hl hP hD hS
            refine lv_iload_n hx hb xd_C_returnFromTrap_111 rfl (lv_at hl 0 rfl) ?_
            have hj13 : ∀ (H : Heap) (locs : List Loc) (ls : Array Slot) (g : XG) (v12 : Int32), v12 = (if q9.1 = 0 then (0) else (1)) → xok k g (xs_C_next (xs_S v7 q9.2) (xg_S_epc (xs_S v7 q9.2))) → lv_has ls 4 [(3, .int (q9.1)), (2, .ref ((a 5))), (1, .int v4), (0, .ref ((a 1)))] → va_P D xCl (xWH k a g (xs_C_next (xs_S v7 q9.2) (xg_S_epc (xs_S v7 q9.2)))) H → va_D A (xWH k a g (xs_C_next (xs_S v7 q9.2) (xg_S_epc (xs_S v7 q9.2)))) → va_S A s.heap H locs → W p l e { frames := 3, cells := 0, slots := 0, locals := 64 } s m args below meth c H locs (0) (0) Q (F0 m 120 ls [.int v12, .int v10, .ref ((a 1))]) := by
              intro H locs ls g v12 hv12 hg hl hP hD hS
              refine lv_iadd hx hb xd_C_returnFromTrap_120 ?_
              refine xput_C_mode (v := (v10 + v12)) hx hb htg hown hK hP hD hS hg (htg _ xw_213) xd_C_returnFromTrap_121 (fun H locs hP hD hS hg => ?_)
              exact hret ((xs_C_mode (xs_C_next (xs_S v7 q9.2) (xg_S_epc (xs_S v7 q9.2))) (v10 + v12)), g) H locs ls _ ⟨(by unfold xf_C_returnFromTrap; exact (xlt_e hq1 (xlt_e hq2 (xif h3 (xlt_e hv4 (xif h6 (xlt_e hv7 (xlt_e hq9 (xlt_e hv10 (xlt_e hv12 rfl)))))))))), hg⟩ hP hD hS xd_C_returnFromTrap_124
            refine lv_if_eq (tgt := 119) hx hb xd_C_returnFromTrap_112 rfl (fun h14 => ?_) (fun h14 => ?_)
            · refine lv_iconst (v := 0) hx hb xd_C_returnFromTrap_119 (by decide) ?_
              exact hj13 H locs ls g (0 : Int32) (xit h14 rfl) hg hl hP hD hS
            · refine lv_iconst (v := 1) hx hb xd_C_returnFromTrap_115 (by decide) ?_
              refine lv_goto (tgt := 120) hx hb xd_C_returnFromTrap_116 rfl ?_
              exact hj13 H locs ls g (1 : Int32) (xif h14 rfl) hg hl hP hD hS
          refine lv_if_eq (tgt := 110) hx hb xd_C_returnFromTrap_103 rfl (fun h15 => ?_) (fun h15 => ?_)
          · refine lv_iconst (v := 0) hx hb xd_C_returnFromTrap_110 (by decide) ?_
            exact hj11 H locs ls g (0 : Int32) (xit h15 rfl) hg hl hP hD hS
          · refine lv_iconst (v := 2) hx hb xd_C_returnFromTrap_106 (by decide) ?_
            refine lv_goto (tgt := 111) hx hb xd_C_returnFromTrap_107 rfl ?_
            exact hj11 H locs ls g (2 : Int32) (xif h15 rfl) hg hl hP hD hS
        refine lv_icmp_ne (tgt := 88) hx hb xd_C_returnFromTrap_70 rfl (fun h16 => ?_) (fun h16 => ?_)
        · exact hj8 H locs ls g q2.2 (xif h16 rfl) hg hl hP hD hS
        · refine lv_aload_n hx hb xd_C_returnFromTrap_73 rfl (lv_at hl 2 rfl) ?_
          refine xget_C_controls hx hb htg hown hK hP (htg _ xw_206) xd_C_returnFromTrap_74 ?_
          refine lv_dup hx hb xd_C_returnFromTrap_77 rfl ?_
          refine xget_K_hstatus (v := (xg_K_hstatus q2.2)) hx hb htg hown hK hP (htg _ xw_107) rfl xd_C_returnFromTrap_78 ?_
          refine lv_sipush (v := (-129)) hx hb xd_C_returnFromTrap_81 (by decide) ?_
          refine lv_iand hx hb xd_C_returnFromTrap_84 ?_
          refine xput_K_hstatus (v := ((xg_K_hstatus q2.2) &&& (-129 : Int32))) hx hb htg hown hK hP hD hS hg (htg _ xw_107) xd_C_returnFromTrap_85 (fun H locs hP hD hS hg => ?_)
          exact hj8 H locs ls g (xs_K_hstatus q2.2 ((xg_K_hstatus q2.2) &&& (-129 : Int32))) (xit h16 rfl) hg hl hP hD hS
      · refine lv_aload_n hx hb xd_C_returnFromTrap_47 rfl (lv_at hl 1 rfl) ?_
        refine xget_C_controls hx hb htg hown hK hP (htg _ xw_206) xd_C_returnFromTrap_48 ?_
        refine xget_K_vs hx hb htg hown hK hP (htg _ xw_105) xd_C_returnFromTrap_51 ?_
        refine lv_goto (tgt := 64) hx hb xd_C_returnFromTrap_54 rfl ?_
        refine lv_astore_n (lv' := [(2, .ref ((a 6))), (1, .int v4), (0, .ref ((a 1)))]) hx hb xd_C_returnFromTrap_64 rfl hl (by decide) rfl (fun ls hl => ?_)
        refine lv_aload_n hx hb xd_C_returnFromTrap_65 rfl (lv_at hl 2 rfl) ?_
        refine xget_C_mode (v := (xg_C_mode q2.2)) hx hb htg hown hK hP (htg _ xw_213) rfl xd_C_returnFromTrap_66 ?_
        refine lv_iconst (v := 1) hx hb xd_C_returnFromTrap_69 (by decide) ?_
        have hj18 : ∀ (H : Heap) (locs : List Loc) (ls : Array Slot) (g : XG) (v17 : XH), v17 = (if (xg_C_mode q2.2) = 1 then ((xs_K_hstatus q2.2 ((xg_K_hstatus q2.2) &&& (-129 : Int32)))) else (q2.2)) → xok k g v17 → lv_has ls 4 [(2, .ref ((a 6))), (1, .int v4), (0, .ref ((a 1)))] → va_P D xCl (xWH k a g v17) H → va_D A (xWH k a g v17) → va_S A s.heap H locs → W p l e { frames := 3, cells := 0, slots := 0, locals := 64 } s m args below meth c H locs (0) (0) Q (F0 m 88 ls []) := by
          intro H locs ls g v17 hv17 hg hl hP hD hS
          refine lv_aload_n hx hb xd_C_returnFromTrap_88 rfl (lv_at hl 0 rfl) ?_
          refine xcb_V_i (b0 := (xg_V v17)) rfl (va_runV (As := []) (rest := []) ⟨hx, hb, hml, hown, htg⟩ (c_B_leave l D (xTy k) z H.size (a 6) (xg_V v17)) (cwV 0 htg (xg_V0 xkin_B_leave xw_645 xw_646 xsel_B_leave xw_6) rfl rfl rfl (by decide +kernel) ⟨Nat.le_of_ble_eq_true rfl, Nat.le_of_ble_eq_true rfl⟩) ⟨xB_blind, xrecv_V hK hP, fun U hU hW => xpre_V hP hK hD hE hS hA hU hW⟩ rfl rfl hl.1 rfl (lv_room (Nat.le_of_ble_eq_true rfl)) xd_C_returnFromTrap_89 ⟨Nat.le_of_ble_eq_true rfl, Nat.le_of_ble_eq_true rfl⟩) hP hD hA hS (fun r u1 H locs hw hP hD hS => ?_)
          obtain ⟨q19, hq19⟩ : ∃ q, q = xf_B_leave (xg_V v17) := ⟨_, rfl⟩
          rw [← hq19] at hw
          obtain rfl : r = q19.1 := congrArg Prod.fst hw
          obtain rfl : u1 = q19.2 := congrArg Prod.snd hw
          have hg := xok_V (b := q19.2) hg
          refine lv_istore_n (lv' := [(3, .int (q19.1)), (2, .ref ((a 6))), (1, .int v4), (0, .ref ((a 1)))]) hx hb xd_C_returnFromTrap_92 rfl hl (by decide) rfl (fun ls hl => ?_)
          refine lv_aload_n hx hb xd_C_returnFromTrap_93 rfl (lv_at hl 3 rfl) ?_
          refine lv_aload_n hx hb xd_C_returnFromTrap_94 rfl (lv_at hl 1 rfl) ?_
          refine xget_V_epc (v := (xg_V_epc (xs_V v17 q19.2))) hx hb htg hown hK hP (htg _ xw_74) rfl xd_C_returnFromTrap_95 ?_
          refine xput_C_next (v := (xg_V_epc (xs_V v17 q19.2))) hx hb htg hown hK hP hD hS hg (htg _ xw_223) xd_C_returnFromTrap_98 (fun H locs hP hD hS hg => ?_)
          refine lv_aload_n hx hb xd_C_returnFromTrap_101 rfl (lv_at hl 3 rfl) ?_
          refine lv_iload_n hx hb xd_C_returnFromTrap_102 rfl (lv_at hl 2 rfl) ?_
          have hj21 : ∀ (H : Heap) (locs : List Loc) (ls : Array Slot) (g : XG) (v20 : Int32), v20 = (if v4 = 0 then (0) else (2)) → xok k g (xs_C_next (xs_V v17 q19.2) (xg_V_epc (xs_V v17 q19.2))) → lv_has ls 4 [(3, .int (q19.1)), (2, .ref ((a 6))), (1, .int v4), (0, .ref ((a 1)))] → va_P D xCl (xWH k a g (xs_C_next (xs_V v17 q19.2) (xg_V_epc (xs_V v17 q19.2)))) H → va_D A (xWH k a g (xs_C_next (xs_V v17 q19.2) (xg_V_epc (xs_V v17 q19.2)))) → va_S A s.heap H locs → W p l e { frames := 3, cells := 0, slots := 0, locals := 64 } s m args below meth c H locs (0) (0) Q (F0 m 111 ls [.int v20, .ref ((a 1))]) := by
            intro H locs ls g v20 hv20 hg hl hP hD hS
            refine lv_iload_n hx hb xd_C_returnFromTrap_111 rfl (lv_at hl 0 rfl) ?_
            have hj23 : ∀ (H : Heap) (locs : List Loc) (ls : Array Slot) (g : XG) (v22 : Int32), v22 = (if q19.1 = 0 then (0) else (1)) → xok k g (xs_C_next (xs_V v17 q19.2) (xg_V_epc (xs_V v17 q19.2))) → lv_has ls 4 [(3, .int (q19.1)), (2, .ref ((a 6))), (1, .int v4), (0, .ref ((a 1)))] → va_P D xCl (xWH k a g (xs_C_next (xs_V v17 q19.2) (xg_V_epc (xs_V v17 q19.2)))) H → va_D A (xWH k a g (xs_C_next (xs_V v17 q19.2) (xg_V_epc (xs_V v17 q19.2)))) → va_S A s.heap H locs → W p l e { frames := 3, cells := 0, slots := 0, locals := 64 } s m args below meth c H locs (0) (0) Q (F0 m 120 ls [.int v22, .int v20, .ref ((a 1))]) := by
              intro H locs ls g v22 hv22 hg hl hP hD hS
              refine lv_iadd hx hb xd_C_returnFromTrap_120 ?_
              refine xput_C_mode (v := (v20 + v22)) hx hb htg hown hK hP hD hS hg (htg _ xw_213) xd_C_returnFromTrap_121 (fun H locs hP hD hS hg => ?_)
              exact hret ((xs_C_mode (xs_C_next (xs_V v17 q19.2) (xg_V_epc (xs_V v17 q19.2))) (v20 + v22)), g) H locs ls _ ⟨(by unfold xf_C_returnFromTrap; exact (xlt_e hq1 (xlt_e hq2 (xif h3 (xlt_e hv4 (xit h6 (xlt_e hv17 (xlt_e hq19 (xlt_e hv20 (xlt_e hv22 rfl)))))))))), hg⟩ hP hD hS xd_C_returnFromTrap_124
            refine lv_if_eq (tgt := 119) hx hb xd_C_returnFromTrap_112 rfl (fun h24 => ?_) (fun h24 => ?_)
            · refine lv_iconst (v := 0) hx hb xd_C_returnFromTrap_119 (by decide) ?_
              exact hj23 H locs ls g (0 : Int32) (xit h24 rfl) hg hl hP hD hS
            · refine lv_iconst (v := 1) hx hb xd_C_returnFromTrap_115 (by decide) ?_
              refine lv_goto (tgt := 120) hx hb xd_C_returnFromTrap_116 rfl ?_
              exact hj23 H locs ls g (1 : Int32) (xif h24 rfl) hg hl hP hD hS
          refine lv_if_eq (tgt := 110) hx hb xd_C_returnFromTrap_103 rfl (fun h25 => ?_) (fun h25 => ?_)
          · refine lv_iconst (v := 0) hx hb xd_C_returnFromTrap_110 (by decide) ?_
            exact hj21 H locs ls g (0 : Int32) (xit h25 rfl) hg hl hP hD hS
          · refine lv_iconst (v := 2) hx hb xd_C_returnFromTrap_106 (by decide) ?_
            refine lv_goto (tgt := 111) hx hb xd_C_returnFromTrap_107 rfl ?_
            exact hj21 H locs ls g (2 : Int32) (xif h25 rfl) hg hl hP hD hS
        refine lv_icmp_ne (tgt := 88) hx hb xd_C_returnFromTrap_70 rfl (fun h26 => ?_) (fun h26 => ?_)
        · exact hj18 H locs ls g q2.2 (xif h26 rfl) hg hl hP hD hS
        · refine lv_aload_n hx hb xd_C_returnFromTrap_73 rfl (lv_at hl 2 rfl) ?_
          refine xget_C_controls hx hb htg hown hK hP (htg _ xw_206) xd_C_returnFromTrap_74 ?_
          refine lv_dup hx hb xd_C_returnFromTrap_77 rfl ?_
          refine xget_K_hstatus (v := (xg_K_hstatus q2.2)) hx hb htg hown hK hP (htg _ xw_107) rfl xd_C_returnFromTrap_78 ?_
          refine lv_sipush (v := (-129)) hx hb xd_C_returnFromTrap_81 (by decide) ?_
          refine lv_iand hx hb xd_C_returnFromTrap_84 ?_
          refine xput_K_hstatus (v := ((xg_K_hstatus q2.2) &&& (-129 : Int32))) hx hb htg hown hK hP hD hS hg (htg _ xw_107) xd_C_returnFromTrap_85 (fun H locs hP hD hS hg => ?_)
          exact hj18 H locs ls g (xs_K_hstatus q2.2 ((xg_K_hstatus q2.2) &&& (-129 : Int32))) (xit h26 rfl) hg hl hP hD hS
    refine lv_icmp_eq (tgt := 33) hx hb xd_C_returnFromTrap_20 rfl (fun h27 => ?_) (fun h27 => ?_)
    · refine lv_iconst (v := 1) hx hb xd_C_returnFromTrap_33 (by decide) ?_
      refine lv_goto (tgt := 38) hx hb xd_C_returnFromTrap_34 rfl ?_
      exact hj5 H locs ls g (1 : Int32) (xit h27 rfl) hg hl hP hD hS
    · refine lv_aload_n hx hb xd_C_returnFromTrap_23 rfl (lv_at hl 0 rfl) ?_
      refine lv_sipush (v := 128) hx hb xd_C_returnFromTrap_24 (by decide) ?_
      refine xcW_i (va_runV (As := [.int 128]) (rest := []) ⟨hx, hb, hml, hown, htg⟩ (c_C_isSet l D z k a g H.size q2.2 hg (128 : Int32)) (cwV 1 htg (xg_V0 xkin_C_isSet xw_618 xw_620 xsel_C_isSet xw_2) rfl rfl rfl (by decide +kernel) ⟨Nat.le_of_ble_eq_true rfl, Nat.le_of_ble_eq_true rfl⟩) ⟨xB_blind, xrecv_C hK hP, fun U hU hW => xB_mk hP hK hD hE hS (xsubW hD hA hS) hU hW⟩ rfl rfl hl.1 rfl (lv_room (Nat.le_of_ble_eq_true rfl)) xd_C_returnFromTrap_27 ⟨Nat.le_of_ble_eq_true rfl, Nat.le_of_ble_eq_true rfl⟩) hD hA hS (fun r w1 H locs hw hP hD hS => ?_)
      obtain ⟨u1, g⟩ := w1
      obtain ⟨q28, hq28⟩ : ∃ q, q = xf_C_isSet q2.2 (128 : Int32) := ⟨_, rfl⟩
      obtain ⟨e1, e2, hg⟩ := hw
      rw [← hq28] at e1
      obtain rfl : q28 = r := e1.symm
      obtain rfl : q2.2 = u1 := e2.symm
      have hP : va_P D xCl (xWH k a g q2.2) H := hP
      have hD : va_D A (xWH k a g q2.2) := hD
      have hg : xok k g q2.2 := hg
      refine lv_if_eq (tgt := 37) hx hb xd_C_returnFromTrap_30 rfl (fun h29 => ?_) (fun h29 => ?_)
      · refine lv_iconst (v := 0) hx hb xd_C_returnFromTrap_37 (by decide) ?_
        exact hj5 H locs ls g (0 : Int32) (xif h27 (xlt_e hq28 (xit h29 rfl))) hg hl hP hD hS
      · refine lv_iconst (v := 1) hx hb xd_C_returnFromTrap_33 (by decide) ?_
        refine lv_goto (tgt := 38) hx hb xd_C_returnFromTrap_34 rfl ?_
        exact hj5 H locs ls g (1 : Int32) (xif h27 (xlt_e hq28 (xif h29 rfl))) hg hl hP hD hS
  · exact hret (q2.2, g) H locs ls _ ⟨(by unfold xf_C_returnFromTrap; exact (xlt_e hq1 (xlt_e hq2 (xit h3 rfl)))), hg⟩ hP hD hS xd_C_returnFromTrap_14

noncomputable def xf_H_word (u : XH) (p0 : Int32) : Int32 × XH :=
  if p0 < 0 then
    (0, u)
  else
    if 262144 ≤ p0 then
      (0, u)
    else
      if (p0 &&& (3 : Int32)) = 0 then
        xlt (xf_M_readWord 64 (xg_M u).1 p0 : Int32 × XM1) fun q5 =>
        (q5.1, (xs_M1 u q5.2))
      else
        (0, u)
set_option maxHeartbeats 4000000 in
set_option maxRecDepth 100000 in
theorem c_H_word (l : Launch) (D : va_G) (z : (Nat → Nat) × (Nat → Nat)) (k : ClassId × ClassId) (a : Nat → Nat) (g : XG) (sz : Nat) (u : XH) (hg : xok k g u) (p0 : Int32) : Met l xy_H_word (xk_H_word :: lw_g) { frames := 1, cells := 0, slots := 0, locals := 23 } (va_Pc [.ref ((a 0)), .int p0] (xB D (xTy k) z sz (xWH k a g u))) (va_Qi (fun r (q : XH × XG) => (r, q.1) = xf_H_word u p0 ∧ xok k q.2 q.1) (fun q t => xQ D (xTy k) (xWH k a q.2 q.1) (va_A (xWH k a g u) sz) t) (va_A (xWH k a g u) sz)) 0 0 (va_A (xWH k a g u) sz) := by
  refine xopen_i (wf := fun q : XH × XG => xWH k a q.2 q.1) (lv := [(0, .ref ((a 0))), (1, .int p0)]) (by decide) rfl (Nat.le_of_ble_eq_true rfl) ?_
  intro p e s m args below meth c Q ls A H locs hx hb hml htg hown hin hK hP hD hE hS hA hl hret
  refine lv_iload_n hx hb xd_H_word_0 rfl (lv_at hl 1 rfl) ?_
  refine lv_if_lt (tgt := 16) hx hb xd_H_word_1 rfl (fun h1 => ?_) (fun h1 => ?_)
  · refine lv_iconst (v := 0) hx hb xd_H_word_16 (by decide) ?_
    exact hret _ (u, g) H locs ls _ ⟨(by unfold xf_H_word; exact (xit h1 rfl)), hg⟩ hP hD hS xd_H_word_17
  · refine lv_iload_n hx hb xd_H_word_4 rfl (lv_at hl 1 rfl) ?_
    refine lv_ldc (v := 262144) hx hb hown (htg _ xw_308) xd_H_word_5 ?_
    refine lv_icmp_ge (tgt := 16) hx hb xd_H_word_7 rfl (fun h2 => ?_) (fun h2 => ?_)
    · refine lv_iconst (v := 0) hx hb xd_H_word_16 (by decide) ?_
      exact hret _ (u, g) H locs ls _ ⟨(by unfold xf_H_word; exact (xif h1 (xit h2 rfl))), hg⟩ hP hD hS xd_H_word_17
    · refine lv_iload_n hx hb xd_H_word_10 rfl (lv_at hl 1 rfl) ?_
      refine lv_iconst (v := 3) hx hb xd_H_word_11 (by decide) ?_
      refine lv_iand hx hb xd_H_word_12 ?_
      refine lv_if_eq (tgt := 18) hx hb xd_H_word_13 rfl (fun h3 => ?_) (fun h3 => ?_)
      · refine lv_aload_n hx hb xd_H_word_18 rfl (lv_at hl 0 rfl) ?_
        refine xget_H_core hx hb htg hown hK hP (htg _ xw_277) xd_H_word_19 ?_
        refine xget_C_memory hx hb htg hown hK hP (htg _ xw_205) xd_H_word_22 ?_
        refine lv_iload_n hx hb xd_H_word_25 rfl (lv_at hl 1 rfl) ?_
        obtain ⟨q5, hq5⟩ : ∃ q, q = xf_M_readWord 64 (xg_M u).1 p0 := ⟨_, rfl⟩
        refine xcM_i hq5 (va_runV (As := [.int p0]) (rest := []) ⟨hx, hb, hml, hown, htg⟩ (c_M_readWord l D z k H.size (a 8) (a 10) 64 (by decide) g.1 (xg_M u).1 hg.1 p0) (cwV 1 htg (xg_V0 xkin_M_readWord xw_309 xw_310 xsel_M_readWord xw_3) rfl rfl rfl (by decide +kernel) ⟨Nat.le_of_ble_eq_true rfl, Nat.le_of_ble_eq_true rfl⟩) ⟨xB_blind, xrecv_M hK hP, fun U hU hW => xpre_M hP hK hD hE hS hA hU hW⟩ rfl rfl hl.1 rfl (lv_room (Nat.le_of_ble_eq_true rfl)) xd_H_word_26 ⟨Nat.le_of_ble_eq_true rfl, Nat.le_of_ble_eq_true rfl⟩) hP hD hA hS hg (fun g H locs hP hD hS hg => ?_)
        exact hret _ ((xs_M1 u q5.2), g) H locs ls _ ⟨(by unfold xf_H_word; exact (xif h1 (xif h2 (xit h3 (xlt_e hq5 rfl))))), hg⟩ hP hD hS xd_H_word_29
      · refine lv_iconst (v := 0) hx hb xd_H_word_16 (by decide) ?_
        exact hret _ (u, g) H locs ls _ ⟨(by unfold xf_H_word; exact (xif h1 (xif h2 (xif h3 rfl)))), hg⟩ hP hD hS xd_H_word_17

noncomputable def xf_H_setRegister (u : XH) (p0 : Int32) (p1 : Int32) : Int32 × XH :=
  if p0 < 0 then
    (0, u)
  else
    if p0 < 32 then
      xlt (xf_C_put u p0 p1 : XH) fun q3 =>
      (((xg_x u) p0.toNatClampNeg), q3)
    else
      (0, u)
set_option maxHeartbeats 4000000 in
set_option maxRecDepth 100000 in
theorem c_H_setRegister (l : Launch) (D : va_G) (z : (Nat → Nat) × (Nat → Nat)) (k : ClassId × ClassId) (a : Nat → Nat) (g : XG) (sz : Nat) (u : XH) (hg : xok k g u) (p0 : Int32) (p1 : Int32) : Met l xy_H_setRegister (xk_H_setRegister :: lw_g) { frames := 1, cells := 0, slots := 0, locals := 22 } (va_Pc [.ref ((a 0)), .int p0, .int p1] (xB D (xTy k) z sz (xWH k a g u))) (va_Qi (fun r (q : XH × XG) => (r, q.1) = xf_H_setRegister u p0 p1 ∧ xok k q.2 q.1) (fun q t => xQ D (xTy k) (xWH k a q.2 q.1) (va_A (xWH k a g u) sz) t) (va_A (xWH k a g u) sz)) 0 0 (va_A (xWH k a g u) sz) := by
  refine xopen_i (wf := fun q : XH × XG => xWH k a q.2 q.1) (lv := [(0, .ref ((a 0))), (1, .int p0), (2, .int p1)]) (by decide) rfl (Nat.le_of_ble_eq_true rfl) ?_
  intro p e s m args below meth c Q ls A H locs hx hb hml htg hown hin hK hP hD hE hS hA hl hret
  refine lv_iload_n hx hb xd_H_setRegister_0 rfl (lv_at hl 1 rfl) ?_
  refine lv_if_lt (tgt := 10) hx hb xd_H_setRegister_1 rfl (fun h1 => ?_) (fun h1 => ?_)
  · refine lv_iconst (v := 0) hx hb xd_H_setRegister_10 (by decide) ?_
    exact hret _ (u, g) H locs ls _ ⟨(by unfold xf_H_setRegister; exact (xit h1 rfl)), hg⟩ hP hD hS xd_H_setRegister_11
  · refine lv_iload_n hx hb xd_H_setRegister_4 rfl (lv_at hl 1 rfl) ?_
    refine lv_bipush (v := 32) hx hb xd_H_setRegister_5 (by decide) ?_
    refine lv_icmp_lt (tgt := 12) hx hb xd_H_setRegister_7 rfl (fun h2 => ?_) (fun h2 => ?_)
    · refine lv_aload_n hx hb xd_H_setRegister_12 rfl (lv_at hl 0 rfl) ?_
      refine xget_H_core hx hb htg hown hK hP (htg _ xw_277) xd_H_setRegister_13 ?_
      refine xget_C_x hx hb htg hown hK hP (htg _ xw_200) xd_H_setRegister_16 ?_
      refine lv_iload_n hx hb xd_H_setRegister_19 rfl (lv_at hl 1 rfl) ?_
      refine xald_x (f := (xg_x u)) hx hb hK hP (xin_lt2 h1 h2) rfl xd_H_setRegister_20 ?_
      refine lv_istore_n (lv' := [(3, .int (((xg_x u) p0.toNatClampNeg))), (0, .ref ((a 0))), (1, .int p0), (2, .int p1)]) hx hb xd_H_setRegister_21 rfl hl (by decide) rfl (fun ls hl => ?_)
      refine lv_aload_n hx hb xd_H_setRegister_22 rfl (lv_at hl 1 rfl) ?_
      refine xget_H_core hx hb htg hown hK hP (htg _ xw_277) xd_H_setRegister_23 ?_
      refine lv_iload_n hx hb xd_H_setRegister_26 rfl (lv_at hl 2 rfl) ?_
      refine lv_iload_n hx hb xd_H_setRegister_27 rfl (lv_at hl 3 rfl) ?_
      refine xcW_v (va_runV (As := [.int p0, .int p1]) (rest := []) ⟨hx, hb, hml, hown, htg⟩ (c_C_put l D z k a g H.size u hg p0 p1 (xin_lt2 h1 h2)) (cwV 2 htg (xg_V0 xkin_C_put xw_321 xw_322 xsel_C_put xw_2) rfl rfl rfl (by decide +kernel) ⟨Nat.le_of_ble_eq_true rfl, Nat.le_of_ble_eq_true rfl⟩) ⟨xB_blind, xrecv_C hK hP, fun U hU hW => xB_mk hP hK hD hE hS (xsubW hD hA hS) hU hW⟩ rfl rfl hl.1 rfl (lv_room (Nat.le_of_ble_eq_true rfl)) xd_H_setRegister_28 ⟨Nat.le_of_ble_eq_true rfl, Nat.le_of_ble_eq_true rfl⟩) hD hA hS (fun w1 H locs hw hP hD hS => ?_)
      obtain ⟨u1, g⟩ := w1
      obtain ⟨q3, hq3⟩ : ∃ q, q = xf_C_put u p0 p1 := ⟨_, rfl⟩
      obtain ⟨e2, hg⟩ := hw
      rw [← hq3] at e2
      obtain rfl : q3 = u1 := e2.symm
      have hP : va_P D xCl (xWH k a g q3) H := hP
      have hD : va_D A (xWH k a g q3) := hD
      have hg : xok k g q3 := hg
      refine lv_iload_n hx hb xd_H_setRegister_31 rfl (lv_at hl 0 rfl) ?_
      exact hret _ (q3, g) H locs ls _ ⟨(by unfold xf_H_setRegister; exact (xif h1 (xit h2 (xlt_e hq3 rfl)))), hg⟩ hP hD hS xd_H_setRegister_32
    · refine lv_iconst (v := 0) hx hb xd_H_setRegister_10 (by decide) ?_
      exact hret _ (u, g) H locs ls _ ⟨(by unfold xf_H_setRegister; exact (xif h1 (xif h2 rfl))), hg⟩ hP hD hS xd_H_setRegister_11

noncomputable def xf_H_register (u : XH) (p0 : Int32) : Int32 :=
  xlt (if p0 < 0 then (0) else (if p0 < 32 then (((xg_x u) p0.toNatClampNeg)) else (0)) : Int32) fun v1 =>
  v1
set_option maxHeartbeats 4000000 in
set_option maxRecDepth 100000 in
theorem c_H_register (l : Launch) (D : va_G) (z : (Nat → Nat) × (Nat → Nat)) (k : ClassId × ClassId) (a : Nat → Nat) (g : XG) (sz : Nat) (u : XH) (hg : xok k g u) (p0 : Int32) : Met l xy_H_register (xk_H_register :: lw_g) { frames := 0, cells := 0, slots := 0, locals := 0 } (va_Pc [.ref ((a 0)), .int p0] (xB D (xTy k) z sz (xWH k a g u))) (va_Qi (fun r (q : XH × XG) => r = xf_H_register u p0 ∧ q.1 = u ∧ xok k q.2 q.1) (fun q t => xQ D (xTy k) (xWH k a q.2 q.1) (va_A (xWH k a g u) sz) t) (va_A (xWH k a g u) sz)) 0 0 (va_A (xWH k a g u) sz) := by
  refine xopen_i (wf := fun q : XH × XG => xWH k a q.2 q.1) (lv := [(0, .ref ((a 0))), (1, .int p0)]) (by decide) rfl (Nat.le_of_ble_eq_true rfl) ?_
  intro p e s m args below meth c Q ls A H locs hx hb hml htg hown hin hK hP hD hE hS hA hl hret
  refine lv_iload_n hx hb xd_H_register_0 rfl (lv_at hl 1 rfl) ?_
  have hj2 : ∀ (H : Heap) (locs : List Loc) (ls : Array Slot) (g : XG) (v1 : Int32), v1 = (if p0 < 0 then (0) else (if p0 < 32 then (((xg_x u) p0.toNatClampNeg)) else (0))) → xok k g u → lv_has ls 2 [(0, .ref ((a 0))), (1, .int p0)] → va_P D xCl (xWH k a g u) H → va_D A (xWH k a g u) → va_S A s.heap H locs → W p l e { frames := 0, cells := 0, slots := 0, locals := 0 } s m args below meth c H locs (0) (0) Q (F0 m 23 ls [.int v1]) := by
    intro H locs ls g v1 hv1 hg hl hP hD hS
    exact hret _ (u, g) H locs ls _ ⟨(by unfold xf_H_register; exact (xlt_e hv1 rfl)), rfl, hg⟩ hP hD hS xd_H_register_23
  refine lv_if_lt (tgt := 10) hx hb xd_H_register_1 rfl (fun h3 => ?_) (fun h3 => ?_)
  · refine lv_iconst (v := 0) hx hb xd_H_register_10 (by decide) ?_
    refine lv_goto (tgt := 23) hx hb xd_H_register_11 rfl ?_
    exact hj2 H locs ls g (0 : Int32) (xit h3 rfl) hg hl hP hD hS
  · refine lv_iload_n hx hb xd_H_register_4 rfl (lv_at hl 1 rfl) ?_
    refine lv_bipush (v := 32) hx hb xd_H_register_5 (by decide) ?_
    refine lv_icmp_lt (tgt := 14) hx hb xd_H_register_7 rfl (fun h4 => ?_) (fun h4 => ?_)
    · refine lv_aload_n hx hb xd_H_register_14 rfl (lv_at hl 0 rfl) ?_
      refine xget_H_core hx hb htg hown hK hP (htg _ xw_277) xd_H_register_15 ?_
      refine xget_C_x hx hb htg hown hK hP (htg _ xw_200) xd_H_register_18 ?_
      refine lv_iload_n hx hb xd_H_register_21 rfl (lv_at hl 1 rfl) ?_
      refine xald_x (f := (xg_x u)) hx hb hK hP (xin_lt2 h3 h4) rfl xd_H_register_22 ?_
      exact hj2 H locs ls g ((xg_x u) p0.toNatClampNeg) (xif h3 (xit h4 rfl)) hg hl hP hD hS
    · refine lv_iconst (v := 0) hx hb xd_H_register_10 (by decide) ?_
      refine lv_goto (tgt := 23) hx hb xd_H_register_11 rfl ?_
      exact hj2 H locs ls g (0 : Int32) (xif h3 (xif h4 rfl)) hg hl hP hD hS

noncomputable def xf_H_place (u : XH) (p0 : Int32) (p1 : Int32) : Int32 × XH :=
  if (p0 &&& (3 : Int32)) = 0 then
    if p1 < 0 then
      ((-1), u)
    else
      if p1 ≤ 3 then
        ((xg_C_mode u), (xs_C_mode (xs_C_pc u p0) p1))
      else
        ((-1), u)
  else
    ((-1), u)
set_option maxHeartbeats 4000000 in
set_option maxRecDepth 100000 in
theorem c_H_place (l : Launch) (D : va_G) (z : (Nat → Nat) × (Nat → Nat)) (k : ClassId × ClassId) (a : Nat → Nat) (g : XG) (sz : Nat) (u : XH) (hg : xok k g u) (p0 : Int32) (p1 : Int32) : Met l xy_H_place (xk_H_place :: lw_g) { frames := 0, cells := 0, slots := 0, locals := 0 } (va_Pc [.ref ((a 0)), .int p0, .int p1] (xB D (xTy k) z sz (xWH k a g u))) (va_Qi (fun r (q : XH × XG) => (r, q.1) = xf_H_place u p0 p1 ∧ xok k q.2 q.1) (fun q t => xQ D (xTy k) (xWH k a q.2 q.1) (va_A (xWH k a g u) sz) t) (va_A (xWH k a g u) sz)) 0 0 (va_A (xWH k a g u) sz) := by
  refine xopen_i (wf := fun q : XH × XG => xWH k a q.2 q.1) (lv := [(0, .ref ((a 0))), (1, .int p0), (2, .int p1)]) (by decide) rfl (Nat.le_of_ble_eq_true rfl) ?_
  intro p e s m args below meth c Q ls A H locs hx hb hml htg hown hin hK hP hD hE hS hA hl hret
  refine lv_iload_n hx hb xd_H_place_0 rfl (lv_at hl 1 rfl) ?_
  refine lv_iconst (v := 3) hx hb xd_H_place_1 (by decide) ?_
  refine lv_iand hx hb xd_H_place_2 ?_
  refine lv_if_ne (tgt := 15) hx hb xd_H_place_3 rfl (fun h1 => ?_) (fun h1 => ?_)
  · refine lv_iconst (v := (-1)) hx hb xd_H_place_15 (by decide) ?_
    exact hret _ (u, g) H locs ls _ ⟨(by unfold xf_H_place; exact (xif h1 rfl)), hg⟩ hP hD hS xd_H_place_16
  · refine lv_iload_n hx hb xd_H_place_6 rfl (lv_at hl 2 rfl) ?_
    refine lv_if_lt (tgt := 15) hx hb xd_H_place_7 rfl (fun h2 => ?_) (fun h2 => ?_)
    · refine lv_iconst (v := (-1)) hx hb xd_H_place_15 (by decide) ?_
      exact hret _ (u, g) H locs ls _ ⟨(by unfold xf_H_place; exact (xit h1 (xit h2 rfl))), hg⟩ hP hD hS xd_H_place_16
    · refine lv_iload_n hx hb xd_H_place_10 rfl (lv_at hl 2 rfl) ?_
      refine lv_iconst (v := 3) hx hb xd_H_place_11 (by decide) ?_
      refine lv_icmp_le (tgt := 17) hx hb xd_H_place_12 rfl (fun h3 => ?_) (fun h3 => ?_)
      · refine lv_aload_n hx hb xd_H_place_17 rfl (lv_at hl 0 rfl) ?_
        refine xget_H_core hx hb htg hown hK hP (htg _ xw_277) xd_H_place_18 ?_
        refine xget_C_mode (v := (xg_C_mode u)) hx hb htg hown hK hP (htg _ xw_214) rfl xd_H_place_21 ?_
        refine lv_istore_n (lv' := [(3, .int ((xg_C_mode u))), (0, .ref ((a 0))), (1, .int p0), (2, .int p1)]) hx hb xd_H_place_24 rfl hl (by decide) rfl (fun ls hl => ?_)
        refine lv_aload_n hx hb xd_H_place_25 rfl (lv_at hl 1 rfl) ?_
        refine xget_H_core hx hb htg hown hK hP (htg _ xw_277) xd_H_place_26 ?_
        refine lv_iload_n hx hb xd_H_place_29 rfl (lv_at hl 2 rfl) ?_
        refine xput_C_pc (v := p0) hx hb htg hown hK hP hD hS hg (htg _ xw_212) xd_H_place_30 (fun H locs hP hD hS hg => ?_)
        refine lv_aload_n hx hb xd_H_place_33 rfl (lv_at hl 1 rfl) ?_
        refine xget_H_core hx hb htg hown hK hP (htg _ xw_277) xd_H_place_34 ?_
        refine lv_iload_n hx hb xd_H_place_37 rfl (lv_at hl 3 rfl) ?_
        refine xput_C_mode (v := p1) hx hb htg hown hK hP hD hS hg (htg _ xw_214) xd_H_place_38 (fun H locs hP hD hS hg => ?_)
        refine lv_iload_n hx hb xd_H_place_41 rfl (lv_at hl 0 rfl) ?_
        exact hret _ ((xs_C_mode (xs_C_pc u p0) p1), g) H locs ls _ ⟨(by unfold xf_H_place; exact (xit h1 (xif h2 (xit h3 rfl)))), hg⟩ hP hD hS xd_H_place_42
      · refine lv_iconst (v := (-1)) hx hb xd_H_place_15 (by decide) ?_
        exact hret _ (u, g) H locs ls _ ⟨(by unfold xf_H_place; exact (xit h1 (xif h2 (xif h3 rfl)))), hg⟩ hP hD hS xd_H_place_16

noncomputable def xf_H_count (u : XH) (p0 : Int32) : Int32 :=
  if p0 = 0 then
    (xg_C_mode u)
  else
    if p0 = 1 then
      (xg_C_pc u)
    else
      if p0 = 2 then
        (Int64.toInt32 (xg_K_time u))
      else
        if p0 = 3 then
          (Int64.toInt32 (xul (xg_K_time u) (32 : Int32)))
        else
          if p0 = 4 then
            (xg_C_trapsToS u)
          else
            if p0 = 5 then
              (xg_C_trapsToVs u)
            else
              if p0 = 6 then
                (xg_C_interrupts u)
              else
                if p0 = 7 then
                  (xg_C_consoleSize u)
                else
                  if p0 = 8 then
                    xlt (if (xz (xg_C_off u)) = 0 then (0) else (1) : Int32) fun v10 =>
                    v10
                  else
                    if p0 = 9 then
                      (Int64.toInt32 (xg_K_alarm u))
                    else
                      if p0 = 10 then
                        (Int64.toInt32 (xul (xg_K_alarm u) (32 : Int32)))
                      else
                        (-1)
set_option maxHeartbeats 4000000 in
set_option maxRecDepth 100000 in
theorem c_H_count (l : Launch) (D : va_G) (z : (Nat → Nat) × (Nat → Nat)) (k : ClassId × ClassId) (a : Nat → Nat) (g : XG) (sz : Nat) (u : XH) (hg : xok k g u) (p0 : Int32) : Met l xy_H_count (xk_H_count :: lw_g) { frames := 0, cells := 0, slots := 0, locals := 0 } (va_Pc [.ref ((a 0)), .int p0] (xB D (xTy k) z sz (xWH k a g u))) (va_Qi (fun r (q : XH × XG) => r = xf_H_count u p0 ∧ q.1 = u ∧ xok k q.2 q.1) (fun q t => xQ D (xTy k) (xWH k a q.2 q.1) (va_A (xWH k a g u) sz) t) (va_A (xWH k a g u) sz)) 0 0 (va_A (xWH k a g u) sz) := by
  refine xopen_i (wf := fun q : XH × XG => xWH k a q.2 q.1) (lv := [(0, .ref ((a 0))), (1, .int p0)]) (by decide) rfl (Nat.le_of_ble_eq_true rfl) ?_
  intro p e s m args below meth c Q ls A H locs hx hb hml htg hown hin hK hP hD hE hS hA hl hret
  refine lv_iload_n hx hb xd_H_count_0 rfl (lv_at hl 1 rfl) ?_
  refine (Decidable.em (p0 = 0)).elim (fun h1 => ?_) (fun h1 => ?_)
  · refine lv_tableIn (tgt := 60) (off := 59) hx hb xd_H_count_1 (by rw [h1]; decide) (by rw [h1]; decide) (by rw [h1]; decide +kernel) rfl ?_
    refine lv_aload_n hx hb xd_H_count_60 rfl (lv_at hl 0 rfl) ?_
    refine xget_H_core hx hb htg hown hK hP (htg _ xw_277) xd_H_count_61 ?_
    refine xget_C_mode (v := (xg_C_mode u)) hx hb htg hown hK hP (htg _ xw_214) rfl xd_H_count_64 ?_
    exact hret _ (u, g) H locs ls _ ⟨(by unfold xf_H_count; exact (xit h1 rfl)), rfl, hg⟩ hP hD hS xd_H_count_67
  · refine (Decidable.em (p0 = 1)).elim (fun h2 => ?_) (fun h2 => ?_)
    · refine lv_tableIn (tgt := 68) (off := 67) hx hb xd_H_count_1 (by rw [h2]; decide) (by rw [h2]; decide) (by rw [h2]; decide +kernel) rfl ?_
      refine lv_aload_n hx hb xd_H_count_68 rfl (lv_at hl 0 rfl) ?_
      refine xget_H_core hx hb htg hown hK hP (htg _ xw_277) xd_H_count_69 ?_
      refine xget_C_pc (v := (xg_C_pc u)) hx hb htg hown hK hP (htg _ xw_212) rfl xd_H_count_72 ?_
      exact hret _ (u, g) H locs ls _ ⟨(by unfold xf_H_count; exact (xif h1 (xit h2 rfl))), rfl, hg⟩ hP hD hS xd_H_count_75
    · refine (Decidable.em (p0 = 2)).elim (fun h3 => ?_) (fun h3 => ?_)
      · refine lv_tableIn (tgt := 76) (off := 75) hx hb xd_H_count_1 (by rw [h3]; decide) (by rw [h3]; decide) (by rw [h3]; decide +kernel) rfl ?_
        refine lv_aload_n hx hb xd_H_count_76 rfl (lv_at hl 0 rfl) ?_
        refine xget_H_core hx hb htg hown hK hP (htg _ xw_277) xd_H_count_77 ?_
        refine xget_C_controls hx hb htg hown hK hP (htg _ xw_207) xd_H_count_80 ?_
        refine xget_K_time (v := (xg_K_time u)) hx hb htg hown hK hP (htg _ xw_119) rfl xd_H_count_83 ?_
        refine lv_l2i (v := (Int64.toInt32 (xg_K_time u))) hx hb xd_H_count_86 rfl ?_
        exact hret _ (u, g) H locs ls _ ⟨(by unfold xf_H_count; exact (xif h1 (xif h2 (xit h3 rfl)))), rfl, hg⟩ hP hD hS xd_H_count_87
      · refine (Decidable.em (p0 = 3)).elim (fun h4 => ?_) (fun h4 => ?_)
        · refine lv_tableIn (tgt := 88) (off := 87) hx hb xd_H_count_1 (by rw [h4]; decide) (by rw [h4]; decide) (by rw [h4]; decide +kernel) rfl ?_
          refine lv_aload_n hx hb xd_H_count_88 rfl (lv_at hl 0 rfl) ?_
          refine xget_H_core hx hb htg hown hK hP (htg _ xw_277) xd_H_count_89 ?_
          refine xget_C_controls hx hb htg hown hK hP (htg _ xw_207) xd_H_count_92 ?_
          refine xget_K_time (v := (xg_K_time u)) hx hb htg hown hK hP (htg _ xw_119) rfl xd_H_count_95 ?_
          refine lv_bipush (v := 32) hx hb xd_H_count_98 (by decide) ?_
          refine lv_lushr (v := (xul (xg_K_time u) (32 : Int32))) hx hb xd_H_count_100 rfl ?_
          refine lv_l2i (v := (Int64.toInt32 (xul (xg_K_time u) (32 : Int32)))) hx hb xd_H_count_101 rfl ?_
          exact hret _ (u, g) H locs ls _ ⟨(by unfold xf_H_count; exact (xif h1 (xif h2 (xif h3 (xit h4 rfl))))), rfl, hg⟩ hP hD hS xd_H_count_102
        · refine (Decidable.em (p0 = 4)).elim (fun h5 => ?_) (fun h5 => ?_)
          · refine lv_tableIn (tgt := 103) (off := 102) hx hb xd_H_count_1 (by rw [h5]; decide) (by rw [h5]; decide) (by rw [h5]; decide +kernel) rfl ?_
            refine lv_aload_n hx hb xd_H_count_103 rfl (lv_at hl 0 rfl) ?_
            refine xget_H_core hx hb htg hown hK hP (htg _ xw_277) xd_H_count_104 ?_
            refine xget_C_trapsToS (v := (xg_C_trapsToS u)) hx hb htg hown hK hP (htg _ xw_218) rfl xd_H_count_107 ?_
            exact hret _ (u, g) H locs ls _ ⟨(by unfold xf_H_count; exact (xif h1 (xif h2 (xif h3 (xif h4 (xit h5 rfl)))))), rfl, hg⟩ hP hD hS xd_H_count_110
          · refine (Decidable.em (p0 = 5)).elim (fun h6 => ?_) (fun h6 => ?_)
            · refine lv_tableIn (tgt := 111) (off := 110) hx hb xd_H_count_1 (by rw [h6]; decide) (by rw [h6]; decide) (by rw [h6]; decide +kernel) rfl ?_
              refine lv_aload_n hx hb xd_H_count_111 rfl (lv_at hl 0 rfl) ?_
              refine xget_H_core hx hb htg hown hK hP (htg _ xw_277) xd_H_count_112 ?_
              refine xget_C_trapsToVs (v := (xg_C_trapsToVs u)) hx hb htg hown hK hP (htg _ xw_220) rfl xd_H_count_115 ?_
              exact hret _ (u, g) H locs ls _ ⟨(by unfold xf_H_count; exact (xif h1 (xif h2 (xif h3 (xif h4 (xif h5 (xit h6 rfl))))))), rfl, hg⟩ hP hD hS xd_H_count_118
            · refine (Decidable.em (p0 = 6)).elim (fun h7 => ?_) (fun h7 => ?_)
              · refine lv_tableIn (tgt := 119) (off := 118) hx hb xd_H_count_1 (by rw [h7]; decide) (by rw [h7]; decide) (by rw [h7]; decide +kernel) rfl ?_
                refine lv_aload_n hx hb xd_H_count_119 rfl (lv_at hl 0 rfl) ?_
                refine xget_H_core hx hb htg hown hK hP (htg _ xw_277) xd_H_count_120 ?_
                refine xget_C_interrupts (v := (xg_C_interrupts u)) hx hb htg hown hK hP (htg _ xw_222) rfl xd_H_count_123 ?_
                exact hret _ (u, g) H locs ls _ ⟨(by unfold xf_H_count; exact (xif h1 (xif h2 (xif h3 (xif h4 (xif h5 (xif h6 (xit h7 rfl)))))))), rfl, hg⟩ hP hD hS xd_H_count_126
              · refine (Decidable.em (p0 = 7)).elim (fun h8 => ?_) (fun h8 => ?_)
                · refine lv_tableIn (tgt := 127) (off := 126) hx hb xd_H_count_1 (by rw [h8]; decide) (by rw [h8]; decide) (by rw [h8]; decide +kernel) rfl ?_
                  refine lv_aload_n hx hb xd_H_count_127 rfl (lv_at hl 0 rfl) ?_
                  refine xget_H_core hx hb htg hown hK hP (htg _ xw_277) xd_H_count_128 ?_
                  refine xget_C_consoleSize (v := (xg_C_consoleSize u)) hx hb htg hown hK hP (htg _ xw_210) rfl xd_H_count_131 ?_
                  exact hret _ (u, g) H locs ls _ ⟨(by unfold xf_H_count; exact (xif h1 (xif h2 (xif h3 (xif h4 (xif h5 (xif h6 (xif h7 (xit h8 rfl))))))))), rfl, hg⟩ hP hD hS xd_H_count_134
                · refine (Decidable.em (p0 = 8)).elim (fun h9 => ?_) (fun h9 => ?_)
                  · refine lv_tableIn (tgt := 135) (off := 134) hx hb xd_H_count_1 (by rw [h9]; decide) (by rw [h9]; decide) (by rw [h9]; decide +kernel) rfl ?_
                    refine lv_aload_n hx hb xd_H_count_135 rfl (lv_at hl 0 rfl) ?_
                    refine xget_H_core hx hb htg hown hK hP (htg _ xw_277) xd_H_count_136 ?_
                    refine xget_C_off (v := (xg_C_off u)) hx hb htg hown hK hP (htg _ xw_216) rfl xd_H_count_139 ?_
                    have hj11 : ∀ (H : Heap) (locs : List Loc) (ls : Array Slot) (g : XG) (v10 : Int32), v10 = (if (xz (xg_C_off u)) = 0 then (0) else (1)) → xok k g u → lv_has ls 2 [(0, .ref ((a 0))), (1, .int p0)] → va_P D xCl (xWH k a g u) H → va_D A (xWH k a g u) → va_S A s.heap H locs → W p l e { frames := 0, cells := 0, slots := 0, locals := 0 } s m args below meth c H locs (0) (0) Q (F0 m 150 ls [.int v10]) := by
                      intro H locs ls g v10 hv10 hg hl hP hD hS
                      exact hret _ (u, g) H locs ls _ ⟨(by unfold xf_H_count; exact (xif h1 (xif h2 (xif h3 (xif h4 (xif h5 (xif h6 (xif h7 (xif h8 (xit h9 (xlt_e hv10 rfl))))))))))), rfl, hg⟩ hP hD hS xd_H_count_150
                    refine lv_if_eq (tgt := 149) hx hb xd_H_count_142 rfl (fun h12 => ?_) (fun h12 => ?_)
                    · refine lv_iconst (v := 0) hx hb xd_H_count_149 (by decide) ?_
                      exact hj11 H locs ls g (0 : Int32) (xit h12 rfl) hg hl hP hD hS
                    · refine lv_iconst (v := 1) hx hb xd_H_count_145 (by decide) ?_
                      refine lv_goto (tgt := 150) hx hb xd_H_count_146 rfl ?_
                      exact hj11 H locs ls g (1 : Int32) (xif h12 rfl) hg hl hP hD hS
                  · refine (Decidable.em (p0 = 9)).elim (fun h13 => ?_) (fun h13 => ?_)
                    · refine lv_tableIn (tgt := 151) (off := 150) hx hb xd_H_count_1 (by rw [h13]; decide) (by rw [h13]; decide) (by rw [h13]; decide +kernel) rfl ?_
                      refine lv_aload_n hx hb xd_H_count_151 rfl (lv_at hl 0 rfl) ?_
                      refine xget_H_core hx hb htg hown hK hP (htg _ xw_277) xd_H_count_152 ?_
                      refine xget_C_controls hx hb htg hown hK hP (htg _ xw_207) xd_H_count_155 ?_
                      refine xget_K_alarm (v := (xg_K_alarm u)) hx hb htg hown hK hP (htg _ xw_121) rfl xd_H_count_158 ?_
                      refine lv_l2i (v := (Int64.toInt32 (xg_K_alarm u))) hx hb xd_H_count_161 rfl ?_
                      exact hret _ (u, g) H locs ls _ ⟨(by unfold xf_H_count; exact (xif h1 (xif h2 (xif h3 (xif h4 (xif h5 (xif h6 (xif h7 (xif h8 (xif h9 (xit h13 rfl))))))))))), rfl, hg⟩ hP hD hS xd_H_count_162
                    · refine (Decidable.em (p0 = 10)).elim (fun h14 => ?_) (fun h14 => ?_)
                      · refine lv_tableIn (tgt := 163) (off := 162) hx hb xd_H_count_1 (by rw [h14]; decide) (by rw [h14]; decide) (by rw [h14]; decide +kernel) rfl ?_
                        refine lv_aload_n hx hb xd_H_count_163 rfl (lv_at hl 0 rfl) ?_
                        refine xget_H_core hx hb htg hown hK hP (htg _ xw_277) xd_H_count_164 ?_
                        refine xget_C_controls hx hb htg hown hK hP (htg _ xw_207) xd_H_count_167 ?_
                        refine xget_K_alarm (v := (xg_K_alarm u)) hx hb htg hown hK hP (htg _ xw_121) rfl xd_H_count_170 ?_
                        refine lv_bipush (v := 32) hx hb xd_H_count_173 (by decide) ?_
                        refine lv_lushr (v := (xul (xg_K_alarm u) (32 : Int32))) hx hb xd_H_count_175 rfl ?_
                        refine lv_l2i (v := (Int64.toInt32 (xul (xg_K_alarm u) (32 : Int32)))) hx hb xd_H_count_176 rfl ?_
                        exact hret _ (u, g) H locs ls _ ⟨(by unfold xf_H_count; exact (xif h1 (xif h2 (xif h3 (xif h4 (xif h5 (xif h6 (xif h7 (xif h8 (xif h9 (xif h13 (xit h14 rfl)))))))))))), rfl, hg⟩ hP hD hS xd_H_count_177
                      · refine lv_tableOut (tgt := 178) hx hb xd_H_count_1 (xsw_out [0, 1, 2, 3, 4, 5, 6, 7, 8, 9, 10] (by decide) (by simp only [List.forall_mem_cons, List.not_mem_nil, false_imp_iff, implies_true, and_true]; exact ⟨h1, h2, h3, h4, h5, h6, h7, h8, h9, h13, h14⟩)) rfl ?_
                        refine lv_iconst (v := (-1)) hx hb xd_H_count_178 (by decide) ?_
                        exact hret _ (u, g) H locs ls _ ⟨(by unfold xf_H_count; exact (xif h1 (xif h2 (xif h3 (xif h4 (xif h5 (xif h6 (xif h7 (xif h8 (xif h9 (xif h13 (xif h14 rfl)))))))))))), rfl, hg⟩ hP hD hS xd_H_count_179

noncomputable def xf_H_console (u : XH) (p0 : Int32) : Int32 × XH :=
  xlt (if p0 < 0 then ((-1)) else (if p0 < (xg_C_consoleSize u) then (xlt (xf_M_read 1 (xg_M u).2 p0 (0 : Int32) : Int32 × XM1) fun q4 => (q4.1 &&& (255 : Int32))) else ((-1))) : Int32) fun v1 =>
  xlt (if p0 < 0 then (u) else (if p0 < (xg_C_consoleSize u) then (xlt (xf_M_read 1 (xg_M u).2 p0 (0 : Int32) : Int32 × XM1) fun q4 => (xs_M2 u q4.2)) else (u)) : XH) fun v2 =>
  (v1, v2)
set_option maxHeartbeats 4000000 in
set_option maxRecDepth 100000 in
theorem c_H_console (l : Launch) (D : va_G) (z : (Nat → Nat) × (Nat → Nat)) (k : ClassId × ClassId) (a : Nat → Nat) (g : XG) (sz : Nat) (u : XH) (hg : xok k g u) (p0 : Int32) : Met l xy_H_console (xk_H_console :: lw_g) { frames := 2, cells := 0, slots := 0, locals := 46 } (va_Pc [.ref ((a 0)), .int p0] (xB D (xTy k) z sz (xWH k a g u))) (va_Qi (fun r (q : XH × XG) => (r, q.1) = xf_H_console u p0 ∧ xok k q.2 q.1) (fun q t => xQ D (xTy k) (xWH k a q.2 q.1) (va_A (xWH k a g u) sz) t) (va_A (xWH k a g u) sz)) 0 0 (va_A (xWH k a g u) sz) := by
  refine xopen_i (wf := fun q : XH × XG => xWH k a q.2 q.1) (lv := [(0, .ref ((a 0))), (1, .int p0)]) (by decide) rfl (Nat.le_of_ble_eq_true rfl) ?_
  intro p e s m args below meth c Q ls A H locs hx hb hml htg hown hin hK hP hD hE hS hA hl hret
  refine lv_iload_n hx hb xd_H_console_0 rfl (lv_at hl 1 rfl) ?_
  have hj3 : ∀ (H : Heap) (locs : List Loc) (ls : Array Slot) (g : XG) (v1 : Int32) (v2 : XH), v1 = (if p0 < 0 then ((-1)) else (if p0 < (xg_C_consoleSize u) then (xlt (xf_M_read 1 (xg_M u).2 p0 (0 : Int32) : Int32 × XM1) fun q4 => (q4.1 &&& (255 : Int32))) else ((-1)))) → v2 = (if p0 < 0 then (u) else (if p0 < (xg_C_consoleSize u) then (xlt (xf_M_read 1 (xg_M u).2 p0 (0 : Int32) : Int32 × XM1) fun q4 => (xs_M2 u q4.2)) else (u))) → xok k g v2 → lv_has ls 2 [(0, .ref ((a 0))), (1, .int p0)] → va_P D xCl (xWH k a g v2) H → va_D A (xWH k a g v2) → va_S A s.heap H locs → W p l e { frames := 2, cells := 0, slots := 0, locals := 46 } s m args below meth c H locs (0) (0) Q (F0 m 35 ls [.int v1]) := by
    intro H locs ls g v1 v2 hv1 hv2 hg hl hP hD hS
    exact hret _ (v2, g) H locs ls _ ⟨(by unfold xf_H_console; exact (xlt_e hv1 (xlt_e hv2 rfl))), hg⟩ hP hD hS xd_H_console_35
  refine lv_if_lt (tgt := 15) hx hb xd_H_console_1 rfl (fun h4 => ?_) (fun h4 => ?_)
  · refine lv_iconst (v := (-1)) hx hb xd_H_console_15 (by decide) ?_
    refine lv_goto (tgt := 35) hx hb xd_H_console_16 rfl ?_
    exact hj3 H locs ls g (-1 : Int32) u (xit h4 rfl) (xit h4 rfl) hg hl hP hD hS
  · refine lv_iload_n hx hb xd_H_console_4 rfl (lv_at hl 1 rfl) ?_
    refine lv_aload_n hx hb xd_H_console_5 rfl (lv_at hl 0 rfl) ?_
    refine xget_H_core hx hb htg hown hK hP (htg _ xw_277) xd_H_console_6 ?_
    refine xget_C_consoleSize (v := (xg_C_consoleSize u)) hx hb htg hown hK hP (htg _ xw_210) rfl xd_H_console_9 ?_
    refine lv_icmp_lt (tgt := 19) hx hb xd_H_console_12 rfl (fun h5 => ?_) (fun h5 => ?_)
    · refine lv_aload_n hx hb xd_H_console_19 rfl (lv_at hl 0 rfl) ?_
      refine xget_H_core hx hb htg hown hK hP (htg _ xw_277) xd_H_console_20 ?_
      refine xget_C_console hx hb htg hown hK hP (htg _ xw_202) xd_H_console_23 ?_
      refine lv_iload_n hx hb xd_H_console_26 rfl (lv_at hl 1 rfl) ?_
      refine lv_iconst (v := 0) hx hb xd_H_console_27 (by decide) ?_
      obtain ⟨q7, hq7⟩ : ∃ q, q = xf_M_read 1 (xg_M u).2 p0 (0 : Int32) := ⟨_, rfl⟩
      refine xcN_i hq7 (va_runV (As := [.int p0, .int 0]) (rest := []) ⟨hx, hb, hml, hown, htg⟩ (c_M_read l D z k H.size (a 9) (a 11) 1 (by decide) g.2 (xg_M u).2 hg.2 p0 (0 : Int32)) (cwV 2 htg (xg_V0 xkin_M_read xw_711 xw_525 xsel_M_read xw_3) rfl rfl rfl (by decide +kernel) ⟨Nat.le_of_ble_eq_true rfl, Nat.le_of_ble_eq_true rfl⟩) ⟨xB_blind, xrecv_N hK hP, fun U hU hW => xpre_N hP hK hD hE hS hA hU hW⟩ rfl rfl hl.1 rfl (lv_room (Nat.le_of_ble_eq_true rfl)) xd_H_console_28 ⟨Nat.le_of_ble_eq_true rfl, Nat.le_of_ble_eq_true rfl⟩) hP hD hA hS hg (fun g H locs hP hD hS hg => ?_)
      refine lv_sipush (v := 255) hx hb xd_H_console_31 (by decide) ?_
      refine lv_iand hx hb xd_H_console_34 ?_
      exact hj3 H locs ls g (q7.1 &&& (255 : Int32)) (xs_M2 u q7.2) (xif h4 (xit h5 (xlt_e hq7 rfl))) (xif h4 (xit h5 (xlt_e hq7 rfl))) hg hl hP hD hS
    · refine lv_iconst (v := (-1)) hx hb xd_H_console_15 (by decide) ?_
      refine lv_goto (tgt := 35) hx hb xd_H_console_16 rfl ?_
      exact hj3 H locs ls g (-1 : Int32) u (xif h4 (xif h5 rfl)) (xif h4 (xif h5 rfl)) hg hl hP hD hS

noncomputable def xf_H_breaches (u : XH) : Int32 :=
  ((xg_M u).1.2.2)
set_option maxHeartbeats 4000000 in
set_option maxRecDepth 100000 in
theorem c_H_breaches (l : Launch) (D : va_G) (z : (Nat → Nat) × (Nat → Nat)) (k : ClassId × ClassId) (a : Nat → Nat) (g : XG) (sz : Nat) (u : XH) (hg : xok k g u) : Met l xy_H_breaches (xk_H_breaches :: lw_g) { frames := 0, cells := 0, slots := 0, locals := 0 } (va_Pc [.ref ((a 0))] (xB D (xTy k) z sz (xWH k a g u))) (va_Qi (fun r (q : XH × XG) => r = xf_H_breaches u ∧ q.1 = u ∧ xok k q.2 q.1) (fun q t => xQ D (xTy k) (xWH k a q.2 q.1) (va_A (xWH k a g u) sz) t) (va_A (xWH k a g u) sz)) 0 0 (va_A (xWH k a g u) sz) := by
  refine xopen_i (wf := fun q : XH × XG => xWH k a q.2 q.1) (lv := [(0, .ref ((a 0)))]) (by decide) rfl (Nat.le_of_ble_eq_true rfl) ?_
  intro p e s m args below meth c Q ls A H locs hx hb hml htg hown hin hK hP hD hE hS hA hl hret
  refine lv_aload_n hx hb xd_H_breaches_0 rfl (lv_at hl 0 rfl) ?_
  refine xget_H_core hx hb htg hown hK hP (htg _ xw_277) xd_H_breaches_1 ?_
  refine xget_C_memory hx hb htg hown hK hP (htg _ xw_205) xd_H_breaches_4 ?_
  refine xget_M_breachCount (v := ((xg_M u).1.2.2)) hx hb htg hown hK hP (htg _ xw_39) rfl xd_H_breaches_7 ?_
  exact hret _ (u, g) H locs ls _ ⟨(by unfold xf_H_breaches; exact rfl), rfl, hg⟩ hP hD hS xd_H_breaches_10

noncomputable def xf_K_tell (u : XH) (p0 : Int32) : Int32 :=
  xlt (xf_K_isOfS p0 : Int32) fun r1 =>
  if r1 = 0 then
    if p0 = 516 then
      (xus ((xg_K_hie u) &&& (xg_K_hideleg u)) (1 : Int32))
    else
      if p0 = 580 then
        (xus ((xg_K_hvip u) &&& (xg_K_hideleg u)) (1 : Int32))
      else
        if p0 = 1536 then
          (xg_K_hstatus u)
        else
          if p0 = 1538 then
            (xg_K_hedeleg u)
          else
            if p0 = 1539 then
              (xg_K_hideleg u)
            else
              if p0 = 1540 then
                (xg_K_hie u)
              else
                if p0 = 1603 then
                  (xg_K_htval u)
                else
                  if p0 = 1604 then
                    (xg_K_hvip u)
                  else
                    if p0 = 1605 then
                      (xg_K_hvip u)
                    else
                      if p0 = 1610 then
                        (xg_K_htinst u)
                      else
                        if p0 = 1664 then
                          (xg_K_hgatp u)
                        else
                          if p0 = 3073 then
                            (Int64.toInt32 (xg_K_time u))
                          else
                            if p0 = 3201 then
                              (Int64.toInt32 (xul (xg_K_time u) (32 : Int32)))
                            else
                              xlt (xf_B_tell (xg_V u) (p0 - (256 : Int32)) : Int32) fun q16 =>
                              q16
  else
    xlt (if p0 = 324 then (xlt (xf_K_pendingForS u : Int32) fun q19 => q19) else (xlt (xf_B_tell (xg_S u) p0 : Int32) fun q18 => q18) : Int32) fun v17 =>
    v17
set_option maxHeartbeats 4000000 in
set_option maxRecDepth 100000 in
theorem c_K_tell (l : Launch) (D : va_G) (z : (Nat → Nat) × (Nat → Nat)) (k : ClassId × ClassId) (a : Nat → Nat) (g : XG) (sz : Nat) (u : XH) (hg : xok k g u) (p0 : Int32) : Met l xy_K_tell (xk_K_tell :: lw_g) { frames := 1, cells := 0, slots := 0, locals := 21 } (va_Pc [.ref ((a 4)), .int p0] (xB D (xTy k) z sz (xWH k a g u))) (va_Qi (fun r (q : XH × XG) => r = xf_K_tell u p0 ∧ q.1 = u ∧ xok k q.2 q.1) (fun q t => xQ D (xTy k) (xWH k a q.2 q.1) (va_A (xWH k a g u) sz) t) (va_A (xWH k a g u) sz)) 0 0 (va_A (xWH k a g u) sz) := by
  refine xopen_i (wf := fun q : XH × XG => xWH k a q.2 q.1) (lv := [(0, .ref ((a 4))), (1, .int p0)]) (by decide) rfl (Nat.le_of_ble_eq_true rfl) ?_
  intro p e s m args below meth c Q ls A H locs hx hb hml htg hown hin hK hP hD hE hS hA hl hret
  refine lv_iload_n hx hb xd_K_tell_0 rfl (lv_at hl 1 rfl) ?_
  refine xc0_i (va_runS (As := [.int p0]) (rest := []) ⟨hx, hb, hml, hown, htg⟩ (c_K_isOfS l D (xTy k) z H.size p0) (va_cwS 1 htg (xg_S0 xkin_K_isOfS xw_337 xw_338 xw_5) rfl rfl rfl (by decide +kernel) ⟨Nat.le_of_ble_eq_true rfl, Nat.le_of_ble_eq_true rfl⟩) ⟨xB_blind, fun U hU hW => xB_mk va_P0 hK va_D0 hE hS (xsub0 hA hS) hU hW⟩ rfl rfl hl.1 rfl (lv_room (Nat.le_of_ble_eq_true rfl)) xd_K_tell_1 ⟨Nat.le_of_ble_eq_true rfl, Nat.le_of_ble_eq_true rfl⟩) hP hA hS (fun r1 H locs hr1 hP hS => ?_)
  refine lv_if_eq (tgt := 30) hx hb xd_K_tell_4 rfl (fun h2 => ?_) (fun h2 => ?_)
  · refine lv_iload_n hx hb xd_K_tell_30 rfl (lv_at hl 1 rfl) ?_
    refine (Decidable.em (p0 = 516)).elim (fun h3 => ?_) (fun h3 => ?_)
    · refine lv_lookup (tgt := 144) (off := 113) hx hb xd_K_tell_31 (by decide +kernel) (by rw [h3]; decide +kernel) rfl ?_
      refine lv_aload_n hx hb xd_K_tell_144 rfl (lv_at hl 0 rfl) ?_
      refine xget_K_hie (v := (xg_K_hie u)) hx hb htg hown hK hP (htg _ xw_111) rfl xd_K_tell_145 ?_
      refine lv_aload_n hx hb xd_K_tell_148 rfl (lv_at hl 0 rfl) ?_
      refine xget_K_hideleg (v := (xg_K_hideleg u)) hx hb htg hown hK hP (htg _ xw_110) rfl xd_K_tell_149 ?_
      refine lv_iand hx hb xd_K_tell_152 ?_
      refine lv_iconst (v := 1) hx hb xd_K_tell_153 (by decide) ?_
      refine lv_iushr (v := (xus ((xg_K_hie u) &&& (xg_K_hideleg u)) (1 : Int32))) hx hb xd_K_tell_154 rfl ?_
      exact hret _ (u, g) H locs ls _ ⟨(by unfold xf_K_tell; exact (xlt_e hr1 (xit h2 (xit h3 rfl)))), rfl, hg⟩ hP hD hS xd_K_tell_155
    · refine (Decidable.em (p0 = 580)).elim (fun h4 => ?_) (fun h4 => ?_)
      · refine lv_lookup (tgt := 156) (off := 125) hx hb xd_K_tell_31 (by decide +kernel) (by rw [h4]; decide +kernel) rfl ?_
        refine lv_aload_n hx hb xd_K_tell_156 rfl (lv_at hl 0 rfl) ?_
        refine xget_K_hvip (v := (xg_K_hvip u)) hx hb htg hown hK hP (htg _ xw_113) rfl xd_K_tell_157 ?_
        refine lv_aload_n hx hb xd_K_tell_160 rfl (lv_at hl 0 rfl) ?_
        refine xget_K_hideleg (v := (xg_K_hideleg u)) hx hb htg hown hK hP (htg _ xw_110) rfl xd_K_tell_161 ?_
        refine lv_iand hx hb xd_K_tell_164 ?_
        refine lv_iconst (v := 1) hx hb xd_K_tell_165 (by decide) ?_
        refine lv_iushr (v := (xus ((xg_K_hvip u) &&& (xg_K_hideleg u)) (1 : Int32))) hx hb xd_K_tell_166 rfl ?_
        exact hret _ (u, g) H locs ls _ ⟨(by unfold xf_K_tell; exact (xlt_e hr1 (xit h2 (xif h3 (xit h4 rfl))))), rfl, hg⟩ hP hD hS xd_K_tell_167
      · refine (Decidable.em (p0 = 1536)).elim (fun h5 => ?_) (fun h5 => ?_)
        · refine lv_lookup (tgt := 168) (off := 137) hx hb xd_K_tell_31 (by decide +kernel) (by rw [h5]; decide +kernel) rfl ?_
          refine lv_aload_n hx hb xd_K_tell_168 rfl (lv_at hl 0 rfl) ?_
          refine xget_K_hstatus (v := (xg_K_hstatus u)) hx hb htg hown hK hP (htg _ xw_106) rfl xd_K_tell_169 ?_
          exact hret _ (u, g) H locs ls _ ⟨(by unfold xf_K_tell; exact (xlt_e hr1 (xit h2 (xif h3 (xif h4 (xit h5 rfl)))))), rfl, hg⟩ hP hD hS xd_K_tell_172
        · refine (Decidable.em (p0 = 1538)).elim (fun h6 => ?_) (fun h6 => ?_)
          · refine lv_lookup (tgt := 173) (off := 142) hx hb xd_K_tell_31 (by decide +kernel) (by rw [h6]; decide +kernel) rfl ?_
            refine lv_aload_n hx hb xd_K_tell_173 rfl (lv_at hl 0 rfl) ?_
            refine xget_K_hedeleg (v := (xg_K_hedeleg u)) hx hb htg hown hK hP (htg _ xw_108) rfl xd_K_tell_174 ?_
            exact hret _ (u, g) H locs ls _ ⟨(by unfold xf_K_tell; exact (xlt_e hr1 (xit h2 (xif h3 (xif h4 (xif h5 (xit h6 rfl))))))), rfl, hg⟩ hP hD hS xd_K_tell_177
          · refine (Decidable.em (p0 = 1539)).elim (fun h7 => ?_) (fun h7 => ?_)
            · refine lv_lookup (tgt := 178) (off := 147) hx hb xd_K_tell_31 (by decide +kernel) (by rw [h7]; decide +kernel) rfl ?_
              refine lv_aload_n hx hb xd_K_tell_178 rfl (lv_at hl 0 rfl) ?_
              refine xget_K_hideleg (v := (xg_K_hideleg u)) hx hb htg hown hK hP (htg _ xw_110) rfl xd_K_tell_179 ?_
              exact hret _ (u, g) H locs ls _ ⟨(by unfold xf_K_tell; exact (xlt_e hr1 (xit h2 (xif h3 (xif h4 (xif h5 (xif h6 (xit h7 rfl)))))))), rfl, hg⟩ hP hD hS xd_K_tell_182
            · refine (Decidable.em (p0 = 1540)).elim (fun h8 => ?_) (fun h8 => ?_)
              · refine lv_lookup (tgt := 183) (off := 152) hx hb xd_K_tell_31 (by decide +kernel) (by rw [h8]; decide +kernel) rfl ?_
                refine lv_aload_n hx hb xd_K_tell_183 rfl (lv_at hl 0 rfl) ?_
                refine xget_K_hie (v := (xg_K_hie u)) hx hb htg hown hK hP (htg _ xw_111) rfl xd_K_tell_184 ?_
                exact hret _ (u, g) H locs ls _ ⟨(by unfold xf_K_tell; exact (xlt_e hr1 (xit h2 (xif h3 (xif h4 (xif h5 (xif h6 (xif h7 (xit h8 rfl))))))))), rfl, hg⟩ hP hD hS xd_K_tell_187
              · refine (Decidable.em (p0 = 1603)).elim (fun h9 => ?_) (fun h9 => ?_)
                · refine lv_lookup (tgt := 188) (off := 157) hx hb xd_K_tell_31 (by decide +kernel) (by rw [h9]; decide +kernel) rfl ?_
                  refine lv_aload_n hx hb xd_K_tell_188 rfl (lv_at hl 0 rfl) ?_
                  refine xget_K_htval (v := (xg_K_htval u)) hx hb htg hown hK hP (htg _ xw_112) rfl xd_K_tell_189 ?_
                  exact hret _ (u, g) H locs ls _ ⟨(by unfold xf_K_tell; exact (xlt_e hr1 (xit h2 (xif h3 (xif h4 (xif h5 (xif h6 (xif h7 (xif h8 (xit h9 rfl)))))))))), rfl, hg⟩ hP hD hS xd_K_tell_192
                · refine (Decidable.em (p0 = 1604)).elim (fun h10 => ?_) (fun h10 => ?_)
                  · refine lv_lookup (tgt := 193) (off := 162) hx hb xd_K_tell_31 (by decide +kernel) (by rw [h10]; decide +kernel) rfl ?_
                    refine lv_aload_n hx hb xd_K_tell_193 rfl (lv_at hl 0 rfl) ?_
                    refine xget_K_hvip (v := (xg_K_hvip u)) hx hb htg hown hK hP (htg _ xw_113) rfl xd_K_tell_194 ?_
                    exact hret _ (u, g) H locs ls _ ⟨(by unfold xf_K_tell; exact (xlt_e hr1 (xit h2 (xif h3 (xif h4 (xif h5 (xif h6 (xif h7 (xif h8 (xif h9 (xit h10 rfl))))))))))), rfl, hg⟩ hP hD hS xd_K_tell_197
                  · refine (Decidable.em (p0 = 1605)).elim (fun h11 => ?_) (fun h11 => ?_)
                    · refine lv_lookup (tgt := 198) (off := 167) hx hb xd_K_tell_31 (by decide +kernel) (by rw [h11]; decide +kernel) rfl ?_
                      refine lv_aload_n hx hb xd_K_tell_198 rfl (lv_at hl 0 rfl) ?_
                      refine xget_K_hvip (v := (xg_K_hvip u)) hx hb htg hown hK hP (htg _ xw_113) rfl xd_K_tell_199 ?_
                      exact hret _ (u, g) H locs ls _ ⟨(by unfold xf_K_tell; exact (xlt_e hr1 (xit h2 (xif h3 (xif h4 (xif h5 (xif h6 (xif h7 (xif h8 (xif h9 (xif h10 (xit h11 rfl)))))))))))), rfl, hg⟩ hP hD hS xd_K_tell_202
                    · refine (Decidable.em (p0 = 1610)).elim (fun h12 => ?_) (fun h12 => ?_)
                      · refine lv_lookup (tgt := 203) (off := 172) hx hb xd_K_tell_31 (by decide +kernel) (by rw [h12]; decide +kernel) rfl ?_
                        refine lv_aload_n hx hb xd_K_tell_203 rfl (lv_at hl 0 rfl) ?_
                        refine xget_K_htinst (v := (xg_K_htinst u)) hx hb htg hown hK hP (htg _ xw_114) rfl xd_K_tell_204 ?_
                        exact hret _ (u, g) H locs ls _ ⟨(by unfold xf_K_tell; exact (xlt_e hr1 (xit h2 (xif h3 (xif h4 (xif h5 (xif h6 (xif h7 (xif h8 (xif h9 (xif h10 (xif h11 (xit h12 rfl))))))))))))), rfl, hg⟩ hP hD hS xd_K_tell_207
                      · refine (Decidable.em (p0 = 1664)).elim (fun h13 => ?_) (fun h13 => ?_)
                        · refine lv_lookup (tgt := 208) (off := 177) hx hb xd_K_tell_31 (by decide +kernel) (by rw [h13]; decide +kernel) rfl ?_
                          refine lv_aload_n hx hb xd_K_tell_208 rfl (lv_at hl 0 rfl) ?_
                          refine xget_K_hgatp (v := (xg_K_hgatp u)) hx hb htg hown hK hP (htg _ xw_115) rfl xd_K_tell_209 ?_
                          exact hret _ (u, g) H locs ls _ ⟨(by unfold xf_K_tell; exact (xlt_e hr1 (xit h2 (xif h3 (xif h4 (xif h5 (xif h6 (xif h7 (xif h8 (xif h9 (xif h10 (xif h11 (xif h12 (xit h13 rfl)))))))))))))), rfl, hg⟩ hP hD hS xd_K_tell_212
                        · refine (Decidable.em (p0 = 3073)).elim (fun h14 => ?_) (fun h14 => ?_)
                          · refine lv_lookup (tgt := 213) (off := 182) hx hb xd_K_tell_31 (by decide +kernel) (by rw [h14]; decide +kernel) rfl ?_
                            refine lv_aload_n hx hb xd_K_tell_213 rfl (lv_at hl 0 rfl) ?_
                            refine xget_K_time (v := (xg_K_time u)) hx hb htg hown hK hP (htg _ xw_117) rfl xd_K_tell_214 ?_
                            refine lv_l2i (v := (Int64.toInt32 (xg_K_time u))) hx hb xd_K_tell_217 rfl ?_
                            exact hret _ (u, g) H locs ls _ ⟨(by unfold xf_K_tell; exact (xlt_e hr1 (xit h2 (xif h3 (xif h4 (xif h5 (xif h6 (xif h7 (xif h8 (xif h9 (xif h10 (xif h11 (xif h12 (xif h13 (xit h14 rfl))))))))))))))), rfl, hg⟩ hP hD hS xd_K_tell_218
                          · refine (Decidable.em (p0 = 3201)).elim (fun h15 => ?_) (fun h15 => ?_)
                            · refine lv_lookup (tgt := 219) (off := 188) hx hb xd_K_tell_31 (by decide +kernel) (by rw [h15]; decide +kernel) rfl ?_
                              refine lv_aload_n hx hb xd_K_tell_219 rfl (lv_at hl 0 rfl) ?_
                              refine xget_K_time (v := (xg_K_time u)) hx hb htg hown hK hP (htg _ xw_117) rfl xd_K_tell_220 ?_
                              refine lv_bipush (v := 32) hx hb xd_K_tell_223 (by decide) ?_
                              refine lv_lushr (v := (xul (xg_K_time u) (32 : Int32))) hx hb xd_K_tell_225 rfl ?_
                              refine lv_l2i (v := (Int64.toInt32 (xul (xg_K_time u) (32 : Int32)))) hx hb xd_K_tell_226 rfl ?_
                              exact hret _ (u, g) H locs ls _ ⟨(by unfold xf_K_tell; exact (xlt_e hr1 (xit h2 (xif h3 (xif h4 (xif h5 (xif h6 (xif h7 (xif h8 (xif h9 (xif h10 (xif h11 (xif h12 (xif h13 (xif h14 (xit h15 rfl)))))))))))))))), rfl, hg⟩ hP hD hS xd_K_tell_227
                            · refine lv_lookup (tgt := 228) (off := 197) hx hb xd_K_tell_31 (by decide +kernel) (by first | (rw [lv_osw h3 (by decide), lv_osw h4 (by decide), lv_osw h5 (by decide), lv_osw h6 (by decide), lv_osw h7 (by decide), lv_osw h8 (by decide), lv_osw h9 (by decide), lv_osw h10 (by decide), lv_osw h11 (by decide), lv_osw h12 (by decide), lv_osw h13 (by decide), lv_osw h14 (by decide), lv_osw h15 (by decide)]; rfl) | (simp only [lv_osw h3 (by decide), lv_osw h4 (by decide), lv_osw h5 (by decide), lv_osw h6 (by decide), lv_osw h7 (by decide), lv_osw h8 (by decide), lv_osw h9 (by decide), lv_osw h10 (by decide), lv_osw h11 (by decide), lv_osw h12 (by decide), lv_osw h13 (by decide), lv_osw h14 (by decide), lv_osw h15 (by decide)]; rfl)) rfl ?_
                              refine lv_aload_n hx hb xd_K_tell_228 rfl (lv_at hl 0 rfl) ?_
                              refine xget_K_vs hx hb htg hown hK hP (htg _ xw_103) xd_K_tell_229 ?_
                              refine lv_iload_n hx hb xd_K_tell_232 rfl (lv_at hl 1 rfl) ?_
                              refine lv_sipush (v := 256) hx hb xd_K_tell_233 (by decide) ?_
                              refine lv_isub hx hb xd_K_tell_236 ?_
                              refine xcr_V_i (b0 := (xg_V u)) rfl (fun _ _ h => h.2) (va_runV (As := [.int ((p0 - (256 : Int32)))]) (rest := []) ⟨hx, hb, hml, hown, htg⟩ (c_B_tell l D (xTy k) z H.size (a 6) (xg_V u) (p0 - (256 : Int32))) (cwV 1 htg (xg_V0 xkin_B_tell xw_373 xw_374 xsel_B_tell xw_6) rfl rfl rfl (by decide +kernel) ⟨Nat.le_of_ble_eq_true rfl, Nat.le_of_ble_eq_true rfl⟩) ⟨xB_blind, xrecv_V hK hP, fun U hU hW => xpre_V hP hK hD hE hS hA hU hW⟩ rfl rfl hl.1 rfl (lv_room (Nat.le_of_ble_eq_true rfl)) xd_K_tell_237 ⟨Nat.le_of_ble_eq_true rfl, Nat.le_of_ble_eq_true rfl⟩) hP hD hA hS (fun r u1 H locs hw hP hD hS => ?_)
                              obtain ⟨q16, hq16⟩ : ∃ q, q = xf_B_tell (xg_V u) (p0 - (256 : Int32)) := ⟨_, rfl⟩
                              obtain ⟨e1, -⟩ := hw; rw [← hq16] at e1
                              obtain rfl : q16 = r := e1.symm
                              exact hret _ (u, g) H locs ls _ ⟨(by unfold xf_K_tell; exact (xlt_e hr1 (xit h2 (xif h3 (xif h4 (xif h5 (xif h6 (xif h7 (xif h8 (xif h9 (xif h10 (xif h11 (xif h12 (xif h13 (xif h14 (xif h15 (xlt_e hq16 rfl))))))))))))))))), rfl, hg⟩ hP hD hS xd_K_tell_240
  · refine lv_iload_n hx hb xd_K_tell_7 rfl (lv_at hl 1 rfl) ?_
    refine lv_sipush (v := 324) hx hb xd_K_tell_8 (by decide) ?_
    have hj18 : ∀ (H : Heap) (locs : List Loc) (ls : Array Slot) (g : XG) (v17 : Int32), v17 = (if p0 = 324 then (xlt (xf_K_pendingForS u : Int32) fun q19 => q19) else (xlt (xf_B_tell (xg_S u) p0 : Int32) fun q18 => q18)) → xok k g u → lv_has ls 2 [(0, .ref ((a 4))), (1, .int p0)] → va_P D xCl (xWH k a g u) H → va_D A (xWH k a g u) → va_S A s.heap H locs → W p l e { frames := 1, cells := 0, slots := 0, locals := 21 } s m args below meth c H locs (0) (0) Q (F0 m 29 ls [.int v17]) := by
      intro H locs ls g v17 hv17 hg hl hP hD hS
      exact hret _ (u, g) H locs ls _ ⟨(by unfold xf_K_tell; exact (xlt_e hr1 (xif h2 (xlt_e hv17 rfl)))), rfl, hg⟩ hP hD hS xd_K_tell_29
    refine lv_icmp_ne (tgt := 21) hx hb xd_K_tell_11 rfl (fun h19 => ?_) (fun h19 => ?_)
    · refine lv_aload_n hx hb xd_K_tell_21 rfl (lv_at hl 0 rfl) ?_
      refine xget_K_s hx hb htg hown hK hP (htg _ xw_100) xd_K_tell_22 ?_
      refine lv_iload_n hx hb xd_K_tell_25 rfl (lv_at hl 1 rfl) ?_
      refine xcr_S_i (b0 := (xg_S u)) rfl (fun _ _ h => h.2) (va_runV (As := [.int p0]) (rest := []) ⟨hx, hb, hml, hown, htg⟩ (c_B_tell l D (xTy k) z H.size (a 5) (xg_S u) p0) (cwV 1 htg (xg_V0 xkin_B_tell xw_373 xw_374 xsel_B_tell xw_6) rfl rfl rfl (by decide +kernel) ⟨Nat.le_of_ble_eq_true rfl, Nat.le_of_ble_eq_true rfl⟩) ⟨xB_blind, xrecv_S hK hP, fun U hU hW => xpre_S hP hK hD hE hS hA hU hW⟩ rfl rfl hl.1 rfl (lv_room (Nat.le_of_ble_eq_true rfl)) xd_K_tell_26 ⟨Nat.le_of_ble_eq_true rfl, Nat.le_of_ble_eq_true rfl⟩) hP hD hA hS (fun r u1 H locs hw hP hD hS => ?_)
      obtain ⟨q20, hq20⟩ : ∃ q, q = xf_B_tell (xg_S u) p0 := ⟨_, rfl⟩
      obtain ⟨e1, -⟩ := hw; rw [← hq20] at e1
      obtain rfl : q20 = r := e1.symm
      exact hj18 H locs ls g q20 (xif h19 (xlt_e hq20 rfl)) hg hl hP hD hS
    · refine lv_aload_n hx hb xd_K_tell_14 rfl (lv_at hl 0 rfl) ?_
      refine xcW_i (va_runV (As := []) (rest := []) ⟨hx, hb, hml, hown, htg⟩ (c_K_pendingForS l D z k a g H.size u hg) (cwV 0 htg (xg_V0 xkin_K_pendingForS xw_369 xw_371 xsel_K_pendingForS xw_5) rfl rfl rfl (by decide +kernel) ⟨Nat.le_of_ble_eq_true rfl, Nat.le_of_ble_eq_true rfl⟩) ⟨xB_blind, xrecv_K hK hP, fun U hU hW => xB_mk hP hK hD hE hS (xsubW hD hA hS) hU hW⟩ rfl rfl hl.1 rfl (lv_room (Nat.le_of_ble_eq_true rfl)) xd_K_tell_15 ⟨Nat.le_of_ble_eq_true rfl, Nat.le_of_ble_eq_true rfl⟩) hD hA hS (fun r w1 H locs hw hP hD hS => ?_)
      obtain ⟨u1, g⟩ := w1
      obtain ⟨q21, hq21⟩ : ∃ q, q = xf_K_pendingForS u := ⟨_, rfl⟩
      obtain ⟨e1, e2, hg⟩ := hw
      rw [← hq21] at e1
      obtain rfl : q21 = r := e1.symm
      obtain rfl : u = u1 := e2.symm
      have hP : va_P D xCl (xWH k a g u) H := hP
      have hD : va_D A (xWH k a g u) := hD
      have hg : xok k g u := hg
      refine lv_goto (tgt := 29) hx hb xd_K_tell_18 rfl ?_
      exact hj18 H locs ls g q21 (xit h19 (xlt_e hq21 rfl)) hg hl hP hD hS

noncomputable def xf_K_write (u : XH) (p0 : Int32) (p1 : Int32) : XH :=
  xlt (xf_K_isOfS p0 : Int32) fun r1 =>
  if r1 = 0 then
    xlt (if p0 = 516 then ((xs_K_hie u (((xg_K_hie u) &&& ((xg_K_hideleg u) ^^^ (-1 : Int32))) ||| ((p1 <<< ((1 : Int32) &&& 31)) &&& (xg_K_hideleg u))))) else (if p0 = 580 then (xlt (xf_K_raiseSoft u (p1 <<< ((1 : Int32) &&& 31)) ((4 : Int32) &&& (xg_K_hideleg u)) : XH) fun q5 => q5) else (if p0 = 1536 then ((xs_K_hstatus u (p1 &&& (7340992 : Int32)))) else (if p0 = 1538 then ((xs_K_hedeleg u (p1 &&& (45567 : Int32)))) else (if p0 = 1539 then ((xs_K_hideleg u (p1 &&& (1092 : Int32)))) else (if p0 = 1540 then ((xs_K_hie u (p1 &&& (1092 : Int32)))) else (if p0 = 1603 then ((xs_K_htval u p1)) else (if p0 = 1604 then (xlt (xf_K_raiseSoft u p1 (4 : Int32) : XH) fun q12 => q12) else (if p0 = 1605 then ((xs_K_hvip u (p1 &&& (1092 : Int32)))) else (if p0 = 1610 then ((xs_K_htinst u p1)) else (if p0 = 1664 then ((xs_K_hgatp u (p1 &&& (-2143289348 : Int32)))) else (xlt (xf_B_write (xg_V u) (p0 - (256 : Int32)) p1 : XB) fun q16 => (xs_V u q16)))))))))))) : XH) fun v3 =>
    v3
  else
    xlt (xf_B_write (xg_S u) p0 p1 : XB) fun q19 =>
    (xs_S u q19)
set_option maxHeartbeats 4000000 in
set_option maxRecDepth 100000 in
theorem c_K_write (l : Launch) (D : va_G) (z : (Nat → Nat) × (Nat → Nat)) (k : ClassId × ClassId) (a : Nat → Nat) (g : XG) (sz : Nat) (u : XH) (hg : xok k g u) (p0 : Int32) (p1 : Int32) : Met l xy_K_write (xk_K_write :: lw_g) { frames := 1, cells := 0, slots := 0, locals := 22 } (va_Pc [.ref ((a 4)), .int p0, .int p1] (xB D (xTy k) z sz (xWH k a g u))) (va_Qv (fun q : XH × XG => q.1 = xf_K_write u p0 p1 ∧ xok k q.2 q.1) (fun q t => xQ D (xTy k) (xWH k a q.2 q.1) (va_A (xWH k a g u) sz) t) (va_A (xWH k a g u) sz)) 0 0 (va_A (xWH k a g u) sz) := by
  refine xopen_v (wf := fun q : XH × XG => xWH k a q.2 q.1) (lv := [(0, .ref ((a 4))), (1, .int p0), (2, .int p1)]) (by decide) rfl (Nat.le_of_ble_eq_true rfl) ?_
  intro p e s m args below meth c Q ls A H locs hx hb hml htg hown hin hK hP hD hE hS hA hl hret
  refine lv_iload_n hx hb xd_K_write_0 rfl (lv_at hl 1 rfl) ?_
  refine xc0_i (va_runS (As := [.int p0]) (rest := []) ⟨hx, hb, hml, hown, htg⟩ (c_K_isOfS l D (xTy k) z H.size p0) (va_cwS 1 htg (xg_S0 xkin_K_isOfS xw_337 xw_338 xw_5) rfl rfl rfl (by decide +kernel) ⟨Nat.le_of_ble_eq_true rfl, Nat.le_of_ble_eq_true rfl⟩) ⟨xB_blind, fun U hU hW => xB_mk va_P0 hK va_D0 hE hS (xsub0 hA hS) hU hW⟩ rfl rfl hl.1 rfl (lv_room (Nat.le_of_ble_eq_true rfl)) xd_K_write_1 ⟨Nat.le_of_ble_eq_true rfl, Nat.le_of_ble_eq_true rfl⟩) hP hA hS (fun r1 H locs hr1 hP hS => ?_)
  refine lv_if_eq (tgt := 17) hx hb xd_K_write_4 rfl (fun h2 => ?_) (fun h2 => ?_)
  · refine lv_iload_n hx hb xd_K_write_17 rfl (lv_at hl 1 rfl) ?_
    have hj4 : ∀ (H : Heap) (locs : List Loc) (ls : Array Slot) (g : XG) (v3 : XH), v3 = (if p0 = 516 then ((xs_K_hie u (((xg_K_hie u) &&& ((xg_K_hideleg u) ^^^ (-1 : Int32))) ||| ((p1 <<< ((1 : Int32) &&& 31)) &&& (xg_K_hideleg u))))) else (if p0 = 580 then (xlt (xf_K_raiseSoft u (p1 <<< ((1 : Int32) &&& 31)) ((4 : Int32) &&& (xg_K_hideleg u)) : XH) fun q5 => q5) else (if p0 = 1536 then ((xs_K_hstatus u (p1 &&& (7340992 : Int32)))) else (if p0 = 1538 then ((xs_K_hedeleg u (p1 &&& (45567 : Int32)))) else (if p0 = 1539 then ((xs_K_hideleg u (p1 &&& (1092 : Int32)))) else (if p0 = 1540 then ((xs_K_hie u (p1 &&& (1092 : Int32)))) else (if p0 = 1603 then ((xs_K_htval u p1)) else (if p0 = 1604 then (xlt (xf_K_raiseSoft u p1 (4 : Int32) : XH) fun q12 => q12) else (if p0 = 1605 then ((xs_K_hvip u (p1 &&& (1092 : Int32)))) else (if p0 = 1610 then ((xs_K_htinst u p1)) else (if p0 = 1664 then ((xs_K_hgatp u (p1 &&& (-2143289348 : Int32)))) else (xlt (xf_B_write (xg_V u) (p0 - (256 : Int32)) p1 : XB) fun q16 => (xs_V u q16))))))))))))) → xok k g v3 → lv_has ls 3 [(0, .ref ((a 4))), (1, .int p0), (2, .int p1)] → va_P D xCl (xWH k a g v3) H → va_D A (xWH k a g v3) → va_S A s.heap H locs → W p l e { frames := 1, cells := 0, slots := 0, locals := 22 } s m args below meth c H locs (0) (0) Q (F0 m 266 ls []) := by
      intro H locs ls g v3 hv3 hg hl hP hD hS
      exact hret (v3, g) H locs ls _ ⟨(by unfold xf_K_write; exact (xlt_e hr1 (xit h2 (xlt_e hv3 rfl)))), hg⟩ hP hD hS xd_K_write_266
    refine (Decidable.em (p0 = 516)).elim (fun h5 => ?_) (fun h5 => ?_)
    · refine lv_lookup (tgt := 116) (off := 98) hx hb xd_K_write_18 (by decide +kernel) (by rw [h5]; decide +kernel) rfl ?_
      refine lv_aload_n hx hb xd_K_write_116 rfl (lv_at hl 0 rfl) ?_
      refine lv_aload_n hx hb xd_K_write_117 rfl (lv_at hl 0 rfl) ?_
      refine xget_K_hie (v := (xg_K_hie u)) hx hb htg hown hK hP (htg _ xw_111) rfl xd_K_write_118 ?_
      refine lv_aload_n hx hb xd_K_write_121 rfl (lv_at hl 0 rfl) ?_
      refine xget_K_hideleg (v := (xg_K_hideleg u)) hx hb htg hown hK hP (htg _ xw_110) rfl xd_K_write_122 ?_
      refine lv_iconst (v := (-1)) hx hb xd_K_write_125 (by decide) ?_
      refine lv_ixor hx hb xd_K_write_126 ?_
      refine lv_iand hx hb xd_K_write_127 ?_
      refine lv_iload_n hx hb xd_K_write_128 rfl (lv_at hl 2 rfl) ?_
      refine lv_iconst (v := 1) hx hb xd_K_write_129 (by decide) ?_
      refine lv_ishl hx hb xd_K_write_130 ?_
      refine lv_aload_n hx hb xd_K_write_131 rfl (lv_at hl 0 rfl) ?_
      refine xget_K_hideleg (v := (xg_K_hideleg u)) hx hb htg hown hK hP (htg _ xw_110) rfl xd_K_write_132 ?_
      refine lv_iand hx hb xd_K_write_135 ?_
      refine lv_ior hx hb xd_K_write_136 ?_
      refine xput_K_hie (v := (((xg_K_hie u) &&& ((xg_K_hideleg u) ^^^ (-1 : Int32))) ||| ((p1 <<< ((1 : Int32) &&& 31)) &&& (xg_K_hideleg u)))) hx hb htg hown hK hP hD hS hg (htg _ xw_111) xd_K_write_137 (fun H locs hP hD hS hg => ?_)
      refine lv_goto (tgt := 266) hx hb xd_K_write_140 rfl ?_
      exact hj4 H locs ls g (xs_K_hie u (((xg_K_hie u) &&& ((xg_K_hideleg u) ^^^ (-1 : Int32))) ||| ((p1 <<< ((1 : Int32) &&& 31)) &&& (xg_K_hideleg u)))) (xit h5 rfl) hg hl hP hD hS
    · refine (Decidable.em (p0 = 580)).elim (fun h6 => ?_) (fun h6 => ?_)
      · refine lv_lookup (tgt := 143) (off := 125) hx hb xd_K_write_18 (by decide +kernel) (by rw [h6]; decide +kernel) rfl ?_
        refine lv_aload_n hx hb xd_K_write_143 rfl (lv_at hl 0 rfl) ?_
        refine lv_iload_n hx hb xd_K_write_144 rfl (lv_at hl 2 rfl) ?_
        refine lv_iconst (v := 1) hx hb xd_K_write_145 (by decide) ?_
        refine lv_ishl hx hb xd_K_write_146 ?_
        refine lv_iconst (v := 4) hx hb xd_K_write_147 (by decide) ?_
        refine lv_aload_n hx hb xd_K_write_148 rfl (lv_at hl 0 rfl) ?_
        refine xget_K_hideleg (v := (xg_K_hideleg u)) hx hb htg hown hK hP (htg _ xw_110) rfl xd_K_write_149 ?_
        refine lv_iand hx hb xd_K_write_152 ?_
        refine xcW_v (va_runV (As := [.int ((p1 <<< ((1 : Int32) &&& 31))), .int (((4 : Int32) &&& (xg_K_hideleg u)))]) (rest := []) ⟨hx, hb, hml, hown, htg⟩ (c_K_raiseSoft l D z k a g H.size u hg (p1 <<< ((1 : Int32) &&& 31)) ((4 : Int32) &&& (xg_K_hideleg u))) (cwV 2 htg (xg_V0 xkin_K_raiseSoft xw_354 xw_356 xsel_K_raiseSoft xw_5) rfl rfl rfl (by decide +kernel) ⟨Nat.le_of_ble_eq_true rfl, Nat.le_of_ble_eq_true rfl⟩) ⟨xB_blind, xrecv_K hK hP, fun U hU hW => xB_mk hP hK hD hE hS (xsubW hD hA hS) hU hW⟩ rfl rfl hl.1 rfl (lv_room (Nat.le_of_ble_eq_true rfl)) xd_K_write_153 ⟨Nat.le_of_ble_eq_true rfl, Nat.le_of_ble_eq_true rfl⟩) hD hA hS (fun w1 H locs hw hP hD hS => ?_)
        obtain ⟨u1, g⟩ := w1
        obtain ⟨q7, hq7⟩ : ∃ q, q = xf_K_raiseSoft u (p1 <<< ((1 : Int32) &&& 31)) ((4 : Int32) &&& (xg_K_hideleg u)) := ⟨_, rfl⟩
        obtain ⟨e2, hg⟩ := hw
        rw [← hq7] at e2
        obtain rfl : q7 = u1 := e2.symm
        have hP : va_P D xCl (xWH k a g q7) H := hP
        have hD : va_D A (xWH k a g q7) := hD
        have hg : xok k g q7 := hg
        refine lv_goto (tgt := 266) hx hb xd_K_write_156 rfl ?_
        exact hj4 H locs ls g q7 (xif h5 (xit h6 (xlt_e hq7 rfl))) hg hl hP hD hS
      · refine (Decidable.em (p0 = 1536)).elim (fun h8 => ?_) (fun h8 => ?_)
        · refine lv_lookup (tgt := 159) (off := 141) hx hb xd_K_write_18 (by decide +kernel) (by rw [h8]; decide +kernel) rfl ?_
          refine lv_aload_n hx hb xd_K_write_159 rfl (lv_at hl 0 rfl) ?_
          refine lv_iload_n hx hb xd_K_write_160 rfl (lv_at hl 2 rfl) ?_
          refine lv_ldc (v := 7340992) hx hb hown (htg _ xw_358) xd_K_write_161 ?_
          refine lv_iand hx hb xd_K_write_163 ?_
          refine xput_K_hstatus (v := (p1 &&& (7340992 : Int32))) hx hb htg hown hK hP hD hS hg (htg _ xw_106) xd_K_write_164 (fun H locs hP hD hS hg => ?_)
          refine lv_goto (tgt := 266) hx hb xd_K_write_167 rfl ?_
          exact hj4 H locs ls g (xs_K_hstatus u (p1 &&& (7340992 : Int32))) (xif h5 (xif h6 (xit h8 rfl))) hg hl hP hD hS
        · refine (Decidable.em (p0 = 1538)).elim (fun h9 => ?_) (fun h9 => ?_)
          · refine lv_lookup (tgt := 170) (off := 152) hx hb xd_K_write_18 (by decide +kernel) (by rw [h9]; decide +kernel) rfl ?_
            refine lv_aload_n hx hb xd_K_write_170 rfl (lv_at hl 0 rfl) ?_
            refine lv_iload_n hx hb xd_K_write_171 rfl (lv_at hl 2 rfl) ?_
            refine lv_ldc (v := 45567) hx hb hown (htg _ xw_359) xd_K_write_172 ?_
            refine lv_iand hx hb xd_K_write_174 ?_
            refine xput_K_hedeleg (v := (p1 &&& (45567 : Int32))) hx hb htg hown hK hP hD hS hg (htg _ xw_108) xd_K_write_175 (fun H locs hP hD hS hg => ?_)
            refine lv_goto (tgt := 266) hx hb xd_K_write_178 rfl ?_
            exact hj4 H locs ls g (xs_K_hedeleg u (p1 &&& (45567 : Int32))) (xif h5 (xif h6 (xif h8 (xit h9 rfl)))) hg hl hP hD hS
          · refine (Decidable.em (p0 = 1539)).elim (fun h10 => ?_) (fun h10 => ?_)
            · refine lv_lookup (tgt := 181) (off := 163) hx hb xd_K_write_18 (by decide +kernel) (by rw [h10]; decide +kernel) rfl ?_
              refine lv_aload_n hx hb xd_K_write_181 rfl (lv_at hl 0 rfl) ?_
              refine lv_iload_n hx hb xd_K_write_182 rfl (lv_at hl 2 rfl) ?_
              refine lv_sipush (v := 1092) hx hb xd_K_write_183 (by decide) ?_
              refine lv_iand hx hb xd_K_write_186 ?_
              refine xput_K_hideleg (v := (p1 &&& (1092 : Int32))) hx hb htg hown hK hP hD hS hg (htg _ xw_110) xd_K_write_187 (fun H locs hP hD hS hg => ?_)
              refine lv_goto (tgt := 266) hx hb xd_K_write_190 rfl ?_
              exact hj4 H locs ls g (xs_K_hideleg u (p1 &&& (1092 : Int32))) (xif h5 (xif h6 (xif h8 (xif h9 (xit h10 rfl))))) hg hl hP hD hS
            · refine (Decidable.em (p0 = 1540)).elim (fun h11 => ?_) (fun h11 => ?_)
              · refine lv_lookup (tgt := 193) (off := 175) hx hb xd_K_write_18 (by decide +kernel) (by rw [h11]; decide +kernel) rfl ?_
                refine lv_aload_n hx hb xd_K_write_193 rfl (lv_at hl 0 rfl) ?_
                refine lv_iload_n hx hb xd_K_write_194 rfl (lv_at hl 2 rfl) ?_
                refine lv_sipush (v := 1092) hx hb xd_K_write_195 (by decide) ?_
                refine lv_iand hx hb xd_K_write_198 ?_
                refine xput_K_hie (v := (p1 &&& (1092 : Int32))) hx hb htg hown hK hP hD hS hg (htg _ xw_111) xd_K_write_199 (fun H locs hP hD hS hg => ?_)
                refine lv_goto (tgt := 266) hx hb xd_K_write_202 rfl ?_
                exact hj4 H locs ls g (xs_K_hie u (p1 &&& (1092 : Int32))) (xif h5 (xif h6 (xif h8 (xif h9 (xif h10 (xit h11 rfl)))))) hg hl hP hD hS
              · refine (Decidable.em (p0 = 1603)).elim (fun h12 => ?_) (fun h12 => ?_)
                · refine lv_lookup (tgt := 205) (off := 187) hx hb xd_K_write_18 (by decide +kernel) (by rw [h12]; decide +kernel) rfl ?_
                  refine lv_aload_n hx hb xd_K_write_205 rfl (lv_at hl 0 rfl) ?_
                  refine lv_iload_n hx hb xd_K_write_206 rfl (lv_at hl 2 rfl) ?_
                  refine xput_K_htval (v := p1) hx hb htg hown hK hP hD hS hg (htg _ xw_112) xd_K_write_207 (fun H locs hP hD hS hg => ?_)
                  refine lv_goto (tgt := 266) hx hb xd_K_write_210 rfl ?_
                  exact hj4 H locs ls g (xs_K_htval u p1) (xif h5 (xif h6 (xif h8 (xif h9 (xif h10 (xif h11 (xit h12 rfl))))))) hg hl hP hD hS
                · refine (Decidable.em (p0 = 1604)).elim (fun h13 => ?_) (fun h13 => ?_)
                  · refine lv_lookup (tgt := 213) (off := 195) hx hb xd_K_write_18 (by decide +kernel) (by rw [h13]; decide +kernel) rfl ?_
                    refine lv_aload_n hx hb xd_K_write_213 rfl (lv_at hl 0 rfl) ?_
                    refine lv_iload_n hx hb xd_K_write_214 rfl (lv_at hl 2 rfl) ?_
                    refine lv_iconst (v := 4) hx hb xd_K_write_215 (by decide) ?_
                    refine xcW_v (va_runV (As := [.int p1, .int 4]) (rest := []) ⟨hx, hb, hml, hown, htg⟩ (c_K_raiseSoft l D z k a g H.size u hg p1 (4 : Int32)) (cwV 2 htg (xg_V0 xkin_K_raiseSoft xw_354 xw_356 xsel_K_raiseSoft xw_5) rfl rfl rfl (by decide +kernel) ⟨Nat.le_of_ble_eq_true rfl, Nat.le_of_ble_eq_true rfl⟩) ⟨xB_blind, xrecv_K hK hP, fun U hU hW => xB_mk hP hK hD hE hS (xsubW hD hA hS) hU hW⟩ rfl rfl hl.1 rfl (lv_room (Nat.le_of_ble_eq_true rfl)) xd_K_write_216 ⟨Nat.le_of_ble_eq_true rfl, Nat.le_of_ble_eq_true rfl⟩) hD hA hS (fun w1 H locs hw hP hD hS => ?_)
                    obtain ⟨u1, g⟩ := w1
                    obtain ⟨q14, hq14⟩ : ∃ q, q = xf_K_raiseSoft u p1 (4 : Int32) := ⟨_, rfl⟩
                    obtain ⟨e2, hg⟩ := hw
                    rw [← hq14] at e2
                    obtain rfl : q14 = u1 := e2.symm
                    have hP : va_P D xCl (xWH k a g q14) H := hP
                    have hD : va_D A (xWH k a g q14) := hD
                    have hg : xok k g q14 := hg
                    refine lv_goto (tgt := 266) hx hb xd_K_write_219 rfl ?_
                    exact hj4 H locs ls g q14 (xif h5 (xif h6 (xif h8 (xif h9 (xif h10 (xif h11 (xif h12 (xit h13 (xlt_e hq14 rfl))))))))) hg hl hP hD hS
                  · refine (Decidable.em (p0 = 1605)).elim (fun h15 => ?_) (fun h15 => ?_)
                    · refine lv_lookup (tgt := 222) (off := 204) hx hb xd_K_write_18 (by decide +kernel) (by rw [h15]; decide +kernel) rfl ?_
                      refine lv_aload_n hx hb xd_K_write_222 rfl (lv_at hl 0 rfl) ?_
                      refine lv_iload_n hx hb xd_K_write_223 rfl (lv_at hl 2 rfl) ?_
                      refine lv_sipush (v := 1092) hx hb xd_K_write_224 (by decide) ?_
                      refine lv_iand hx hb xd_K_write_227 ?_
                      refine xput_K_hvip (v := (p1 &&& (1092 : Int32))) hx hb htg hown hK hP hD hS hg (htg _ xw_113) xd_K_write_228 (fun H locs hP hD hS hg => ?_)
                      refine lv_goto (tgt := 266) hx hb xd_K_write_231 rfl ?_
                      exact hj4 H locs ls g (xs_K_hvip u (p1 &&& (1092 : Int32))) (xif h5 (xif h6 (xif h8 (xif h9 (xif h10 (xif h11 (xif h12 (xif h13 (xit h15 rfl))))))))) hg hl hP hD hS
                    · refine (Decidable.em (p0 = 1610)).elim (fun h16 => ?_) (fun h16 => ?_)
                      · refine lv_lookup (tgt := 234) (off := 216) hx hb xd_K_write_18 (by decide +kernel) (by rw [h16]; decide +kernel) rfl ?_
                        refine lv_aload_n hx hb xd_K_write_234 rfl (lv_at hl 0 rfl) ?_
                        refine lv_iload_n hx hb xd_K_write_235 rfl (lv_at hl 2 rfl) ?_
                        refine xput_K_htinst (v := p1) hx hb htg hown hK hP hD hS hg (htg _ xw_114) xd_K_write_236 (fun H locs hP hD hS hg => ?_)
                        refine lv_goto (tgt := 266) hx hb xd_K_write_239 rfl ?_
                        exact hj4 H locs ls g (xs_K_htinst u p1) (xif h5 (xif h6 (xif h8 (xif h9 (xif h10 (xif h11 (xif h12 (xif h13 (xif h15 (xit h16 rfl)))))))))) hg hl hP hD hS
                      · refine (Decidable.em (p0 = 1664)).elim (fun h17 => ?_) (fun h17 => ?_)
                        · refine lv_lookup (tgt := 242) (off := 224) hx hb xd_K_write_18 (by decide +kernel) (by rw [h17]; decide +kernel) rfl ?_
                          refine lv_aload_n hx hb xd_K_write_242 rfl (lv_at hl 0 rfl) ?_
                          refine lv_iload_n hx hb xd_K_write_243 rfl (lv_at hl 2 rfl) ?_
                          refine lv_ldc (v := (-2143289348)) hx hb hown (htg _ xw_360) xd_K_write_244 ?_
                          refine lv_iand hx hb xd_K_write_246 ?_
                          refine xput_K_hgatp (v := (p1 &&& (-2143289348 : Int32))) hx hb htg hown hK hP hD hS hg (htg _ xw_115) xd_K_write_247 (fun H locs hP hD hS hg => ?_)
                          refine lv_goto (tgt := 266) hx hb xd_K_write_250 rfl ?_
                          exact hj4 H locs ls g (xs_K_hgatp u (p1 &&& (-2143289348 : Int32))) (xif h5 (xif h6 (xif h8 (xif h9 (xif h10 (xif h11 (xif h12 (xif h13 (xif h15 (xif h16 (xit h17 rfl))))))))))) hg hl hP hD hS
                        · refine lv_lookup (tgt := 253) (off := 235) hx hb xd_K_write_18 (by decide +kernel) (by first | (rw [lv_osw h5 (by decide), lv_osw h6 (by decide), lv_osw h8 (by decide), lv_osw h9 (by decide), lv_osw h10 (by decide), lv_osw h11 (by decide), lv_osw h12 (by decide), lv_osw h13 (by decide), lv_osw h15 (by decide), lv_osw h16 (by decide), lv_osw h17 (by decide)]; rfl) | (simp only [lv_osw h5 (by decide), lv_osw h6 (by decide), lv_osw h8 (by decide), lv_osw h9 (by decide), lv_osw h10 (by decide), lv_osw h11 (by decide), lv_osw h12 (by decide), lv_osw h13 (by decide), lv_osw h15 (by decide), lv_osw h16 (by decide), lv_osw h17 (by decide)]; rfl)) rfl ?_
                          refine lv_aload_n hx hb xd_K_write_253 rfl (lv_at hl 0 rfl) ?_
                          refine xget_K_vs hx hb htg hown hK hP (htg _ xw_103) xd_K_write_254 ?_
                          refine lv_iload_n hx hb xd_K_write_257 rfl (lv_at hl 1 rfl) ?_
                          refine lv_sipush (v := 256) hx hb xd_K_write_258 (by decide) ?_
                          refine lv_isub hx hb xd_K_write_261 ?_
                          refine lv_iload_n hx hb xd_K_write_262 rfl (lv_at hl 2 rfl) ?_
                          refine xcb_V_v (b0 := (xg_V u)) rfl (va_runV (As := [.int ((p0 - (256 : Int32))), .int p1]) (rest := []) ⟨hx, hb, hml, hown, htg⟩ (c_B_write l D (xTy k) z H.size (a 6) (xg_V u) (p0 - (256 : Int32)) p1) (cwV 2 htg (xg_V0 xkin_B_write xw_348 xw_349 xsel_B_write xw_6) rfl rfl rfl (by decide +kernel) ⟨Nat.le_of_ble_eq_true rfl, Nat.le_of_ble_eq_true rfl⟩) ⟨xB_blind, xrecv_V hK hP, fun U hU hW => xpre_V hP hK hD hE hS hA hU hW⟩ rfl rfl hl.1 rfl (lv_room (Nat.le_of_ble_eq_true rfl)) xd_K_write_263 ⟨Nat.le_of_ble_eq_true rfl, Nat.le_of_ble_eq_true rfl⟩) hP hD hA hS (fun u1 H locs hw hP hD hS => ?_)
                          obtain ⟨q18, hq18⟩ : ∃ q, q = xf_B_write (xg_V u) (p0 - (256 : Int32)) p1 := ⟨_, rfl⟩
                          rw [← hq18] at hw
                          obtain rfl : q18 = u1 := hw.symm
                          have hg := xok_V (b := q18) hg
                          exact hj4 H locs ls g (xs_V u q18) (xif h5 (xif h6 (xif h8 (xif h9 (xif h10 (xif h11 (xif h12 (xif h13 (xif h15 (xif h16 (xif h17 (xlt_e hq18 rfl)))))))))))) hg hl hP hD hS
  · refine lv_aload_n hx hb xd_K_write_7 rfl (lv_at hl 0 rfl) ?_
    refine xget_K_s hx hb htg hown hK hP (htg _ xw_100) xd_K_write_8 ?_
    refine lv_iload_n hx hb xd_K_write_11 rfl (lv_at hl 1 rfl) ?_
    refine lv_iload_n hx hb xd_K_write_12 rfl (lv_at hl 2 rfl) ?_
    refine xcb_S_v (b0 := (xg_S u)) rfl (va_runV (As := [.int p0, .int p1]) (rest := []) ⟨hx, hb, hml, hown, htg⟩ (c_B_write l D (xTy k) z H.size (a 5) (xg_S u) p0 p1) (cwV 2 htg (xg_V0 xkin_B_write xw_348 xw_349 xsel_B_write xw_6) rfl rfl rfl (by decide +kernel) ⟨Nat.le_of_ble_eq_true rfl, Nat.le_of_ble_eq_true rfl⟩) ⟨xB_blind, xrecv_S hK hP, fun U hU hW => xpre_S hP hK hD hE hS hA hU hW⟩ rfl rfl hl.1 rfl (lv_room (Nat.le_of_ble_eq_true rfl)) xd_K_write_13 ⟨Nat.le_of_ble_eq_true rfl, Nat.le_of_ble_eq_true rfl⟩) hP hD hA hS (fun u1 H locs hw hP hD hS => ?_)
    obtain ⟨q19, hq19⟩ : ∃ q, q = xf_B_write (xg_S u) p0 p1 := ⟨_, rfl⟩
    rw [← hq19] at hw
    obtain rfl : q19 = u1 := hw.symm
    have hg := xok_S (b := q19) hg
    exact hret ((xs_S u q19), g) H locs ls _ ⟨(by unfold xf_K_write; exact (xlt_e hr1 (xif h2 (xlt_e hq19 rfl)))), hg⟩ hP hD hS xd_K_write_16
