noncomputable def xf_C_isSet (u : XH) (p0 : Int32) : Int32 :=
  xlt (if ((xg_K_hstatus u) &&& p0) = 0 then (0) else (1) : Int32) fun v2 =>
  v2
set_option maxHeartbeats 4000000 in
set_option maxRecDepth 100000 in
theorem c_C_isSet (l : Launch) (D : va_G) (z : (Nat → Nat) × (Nat → Nat)) (k : ClassId × ClassId) (a : Nat → Nat) (g : XG) (sz : Nat) (u : XH) (hg : xok k g u) (p0 : Int32) : Met l xy_C_isSet (xk_C_isSet :: lw_g) { frames := 0, cells := 0, slots := 0, locals := 0 } (va_Pc [.ref ((a 1)), .int p0] (xB D (xTy k) z sz (xWH k a g u))) (va_Qi (fun r (q : XH × XG) => r = xf_C_isSet u p0 ∧ q.1 = u ∧ xok k q.2 q.1) (fun q t => xQ D (xTy k) (xWH k a q.2 q.1) (va_A (xWH k a g u) sz) t) (va_A (xWH k a g u) sz)) 0 0 (va_A (xWH k a g u) sz) := by
  refine xopen_z (wf := fun q : XH × XG => xWH k a q.2 q.1) (lv := [(0, .ref ((a 1))), (1, .int p0)]) (by decide) rfl (Nat.le_of_ble_eq_true rfl) ?_
  intro p e s m args below meth c Q ls A H locs hx hb hml htg hown hin hK hP hD hE hS hA hl hret
  refine lv_aload_n hx hb xd_C_isSet_0 rfl (lv_at hl 0 rfl) ?_
  refine xget_C_controls hx hb htg hown hK hP (htg _ xw_206) xd_C_isSet_1 ?_
  refine xget_K_hstatus (v := (xg_K_hstatus u)) hx hb htg hown hK hP (htg _ xw_107) rfl xd_C_isSet_4 ?_
  refine lv_iload_n hx hb xd_C_isSet_7 rfl (lv_at hl 1 rfl) ?_
  refine lv_iand hx hb xd_C_isSet_8 ?_
  have hj3 : ∀ (H : Heap) (locs : List Loc) (ls : Array Slot) (g : XG) (v2 : Int32), v2 = (if ((xg_K_hstatus u) &&& p0) = 0 then (0) else (1)) → xok k g u → lv_has ls 2 [(0, .ref ((a 1))), (1, .int p0)] → va_P D xCl (xWH k a g u) H → va_D A (xWH k a g u) → va_S A s.heap H locs → W p l e { frames := 0, cells := 0, slots := 0, locals := 0 } s m args below meth c H locs (0) (0) Q (F0 m 17 ls [.int v2]) := by
    intro H locs ls g v2 hv2 hg hl hP hD hS
    exact hret _ (u, g) H locs ls _ (xnar (X01_of hv2 (xit_01 (Or.inl rfl) (Or.inr rfl)))) ⟨(by unfold xf_C_isSet; exact (xlt_e hv2 rfl)), rfl, hg⟩ hP hD hS xd_C_isSet_17
  refine lv_if_eq (tgt := 16) hx hb xd_C_isSet_9 rfl (fun h4 => ?_) (fun h4 => ?_)
  · refine lv_iconst (v := 0) hx hb xd_C_isSet_16 (by decide) ?_
    exact hj3 H locs ls g (0 : Int32) (xit h4 rfl) hg hl hP hD hS
  · refine lv_iconst (v := 1) hx hb xd_C_isSet_12 (by decide) ?_
    refine lv_goto (tgt := 17) hx hb xd_C_isSet_13 rfl ?_
    exact hj3 H locs ls g (1 : Int32) (xif h4 rfl) hg hl hP hD hS
theorem xt01_C_isSet (u : XH) (p0 : Int32) : X01 (xf_C_isSet u p0) := by unfold xf_C_isSet; exact (xlt_01 (fun v2 hv2 => (X01_of hv2 (xit_01 (Or.inl rfl) (Or.inr rfl)))))

noncomputable def xf_C_mayDo (u : XH) (p0 : Int32) : Int32 × XH :=
  if (xg_C_mode u) = 1 then
    (1, u)
  else
    if (xg_C_mode u) = 3 then
      if p0 = 0 then
        (1, u)
      else
        xlt (if (xg_C_mode u) = 0 then (2) else (22) : Int32) fun v10 =>
        xlt (xf_C_refuse u v10 : XH) fun q12 =>
        (0, q12)
    else
      xlt (if (xg_C_mode u) = 0 then (2) else (22) : Int32) fun v4 =>
      xlt (xf_C_refuse u v4 : XH) fun q6 =>
      (0, q6)
set_option maxHeartbeats 4000000 in
set_option maxRecDepth 100000 in
theorem c_C_mayDo (l : Launch) (D : va_G) (z : (Nat → Nat) × (Nat → Nat)) (k : ClassId × ClassId) (a : Nat → Nat) (g : XG) (sz : Nat) (u : XH) (hg : xok k g u) (p0 : Int32) : Met l xy_C_mayDo (xk_C_mayDo :: lw_g) { frames := 2, cells := 0, slots := 0, locals := 43 } (va_Pc [.ref ((a 1)), .int p0] (xB D (xTy k) z sz (xWH k a g u))) (va_Qi (fun r (q : XH × XG) => (r, q.1) = xf_C_mayDo u p0 ∧ xok k q.2 q.1) (fun q t => xQ D (xTy k) (xWH k a q.2 q.1) (va_A (xWH k a g u) sz) t) (va_A (xWH k a g u) sz)) 0 0 (va_A (xWH k a g u) sz) := by
  refine xopen_z (wf := fun q : XH × XG => xWH k a q.2 q.1) (lv := [(0, .ref ((a 1))), (1, .int p0)]) (by decide) rfl (Nat.le_of_ble_eq_true rfl) ?_
  intro p e s m args below meth c Q ls A H locs hx hb hml htg hown hin hK hP hD hE hS hA hl hret
  refine lv_aload_n hx hb xd_C_mayDo_0 rfl (lv_at hl 0 rfl) ?_
  refine xget_C_mode (v := (xg_C_mode u)) hx hb htg hown hK hP (htg _ xw_213) rfl xd_C_mayDo_1 ?_
  refine lv_iconst (v := 1) hx hb xd_C_mayDo_4 (by decide) ?_
  refine lv_icmp_eq (tgt := 20) hx hb xd_C_mayDo_5 rfl (fun h1 => ?_) (fun h1 => ?_)
  · refine lv_iconst (v := 1) hx hb xd_C_mayDo_20 (by decide) ?_
    exact hret _ (u, g) H locs ls _ rfl ⟨(by unfold xf_C_mayDo; exact (xit h1 rfl)), hg⟩ hP hD hS xd_C_mayDo_21
  · refine lv_aload_n hx hb xd_C_mayDo_8 rfl (lv_at hl 0 rfl) ?_
    refine xget_C_mode (v := (xg_C_mode u)) hx hb htg hown hK hP (htg _ xw_213) rfl xd_C_mayDo_9 ?_
    refine lv_iconst (v := 3) hx hb xd_C_mayDo_12 (by decide) ?_
    refine lv_icmp_ne (tgt := 22) hx hb xd_C_mayDo_13 rfl (fun h2 => ?_) (fun h2 => ?_)
    · refine lv_aload_n hx hb xd_C_mayDo_22 rfl (lv_at hl 0 rfl) ?_
      refine lv_aload_n hx hb xd_C_mayDo_23 rfl (lv_at hl 0 rfl) ?_
      refine xget_C_mode (v := (xg_C_mode u)) hx hb htg hown hK hP (htg _ xw_213) rfl xd_C_mayDo_24 ?_
      have hj5 : ∀ (H : Heap) (locs : List Loc) (ls : Array Slot) (g : XG) (v4 : Int32), v4 = (if (xg_C_mode u) = 0 then (2) else (22)) → xok k g u → lv_has ls 2 [(0, .ref ((a 1))), (1, .int p0)] → va_P D xCl (xWH k a g u) H → va_D A (xWH k a g u) → va_S A s.heap H locs → W p l e { frames := 2, cells := 0, slots := 0, locals := 43 } s m args below meth c H locs (0) (0) Q (F0 m 36 ls [.int v4, .ref ((a 1))]) := by
        intro H locs ls g v4 hv4 hg hl hP hD hS
        refine xcW_v (va_runV (As := [.int v4]) (rest := []) ⟨hx, hb, hml, hown, htg⟩ (c_C_refuse l D z k a g H.size u hg v4) (cwV 1 htg (xg_V0 xkin_C_refuse xw_509 xw_511 xsel_C_refuse xw_2) rfl rfl rfl (by decide +kernel) ⟨Nat.le_of_ble_eq_true rfl, Nat.le_of_ble_eq_true rfl⟩) ⟨xB_blind, xrecv_C hK hP, fun U hU hW => xB_mk hP hK hD hE hS (xsubW hD hA hS) hU hW⟩ rfl rfl hl.1 rfl (lv_room (Nat.le_of_ble_eq_true rfl)) xd_C_mayDo_36 ⟨Nat.le_of_ble_eq_true rfl, Nat.le_of_ble_eq_true rfl⟩) hD hA hS (fun w1 H locs hw hP hD hS => ?_)
        obtain ⟨u1, g⟩ := w1
        obtain ⟨q6, hq6⟩ : ∃ q, q = xf_C_refuse u v4 := ⟨_, rfl⟩
        obtain ⟨e2, hg⟩ := hw
        rw [← hq6] at e2
        obtain rfl : q6 = u1 := e2.symm
        have hP : va_P D xCl (xWH k a g q6) H := hP
        have hD : va_D A (xWH k a g q6) := hD
        have hg : xok k g q6 := hg
        refine lv_iconst (v := 0) hx hb xd_C_mayDo_39 (by decide) ?_
        exact hret _ (q6, g) H locs ls _ rfl ⟨(by unfold xf_C_mayDo; exact (xif h1 (xif h2 (xlt_e hv4 (xlt_e hq6 rfl))))), hg⟩ hP hD hS xd_C_mayDo_40
      refine lv_if_ne (tgt := 34) hx hb xd_C_mayDo_27 rfl (fun h7 => ?_) (fun h7 => ?_)
      · refine lv_bipush (v := 22) hx hb xd_C_mayDo_34 (by decide) ?_
        exact hj5 H locs ls g (22 : Int32) (xif h7 rfl) hg hl hP hD hS
      · refine lv_iconst (v := 2) hx hb xd_C_mayDo_30 (by decide) ?_
        refine lv_goto (tgt := 36) hx hb xd_C_mayDo_31 rfl ?_
        exact hj5 H locs ls g (2 : Int32) (xit h7 rfl) hg hl hP hD hS
    · refine lv_iload_n hx hb xd_C_mayDo_16 rfl (lv_at hl 1 rfl) ?_
      refine lv_if_ne (tgt := 22) hx hb xd_C_mayDo_17 rfl (fun h8 => ?_) (fun h8 => ?_)
      · refine lv_aload_n hx hb xd_C_mayDo_22 rfl (lv_at hl 0 rfl) ?_
        refine lv_aload_n hx hb xd_C_mayDo_23 rfl (lv_at hl 0 rfl) ?_
        refine xget_C_mode (v := (xg_C_mode u)) hx hb htg hown hK hP (htg _ xw_213) rfl xd_C_mayDo_24 ?_
        have hj11 : ∀ (H : Heap) (locs : List Loc) (ls : Array Slot) (g : XG) (v10 : Int32), v10 = (if (xg_C_mode u) = 0 then (2) else (22)) → xok k g u → lv_has ls 2 [(0, .ref ((a 1))), (1, .int p0)] → va_P D xCl (xWH k a g u) H → va_D A (xWH k a g u) → va_S A s.heap H locs → W p l e { frames := 2, cells := 0, slots := 0, locals := 43 } s m args below meth c H locs (0) (0) Q (F0 m 36 ls [.int v10, .ref ((a 1))]) := by
          intro H locs ls g v10 hv10 hg hl hP hD hS
          refine xcW_v (va_runV (As := [.int v10]) (rest := []) ⟨hx, hb, hml, hown, htg⟩ (c_C_refuse l D z k a g H.size u hg v10) (cwV 1 htg (xg_V0 xkin_C_refuse xw_509 xw_511 xsel_C_refuse xw_2) rfl rfl rfl (by decide +kernel) ⟨Nat.le_of_ble_eq_true rfl, Nat.le_of_ble_eq_true rfl⟩) ⟨xB_blind, xrecv_C hK hP, fun U hU hW => xB_mk hP hK hD hE hS (xsubW hD hA hS) hU hW⟩ rfl rfl hl.1 rfl (lv_room (Nat.le_of_ble_eq_true rfl)) xd_C_mayDo_36 ⟨Nat.le_of_ble_eq_true rfl, Nat.le_of_ble_eq_true rfl⟩) hD hA hS (fun w1 H locs hw hP hD hS => ?_)
          obtain ⟨u1, g⟩ := w1
          obtain ⟨q12, hq12⟩ : ∃ q, q = xf_C_refuse u v10 := ⟨_, rfl⟩
          obtain ⟨e2, hg⟩ := hw
          rw [← hq12] at e2
          obtain rfl : q12 = u1 := e2.symm
          have hP : va_P D xCl (xWH k a g q12) H := hP
          have hD : va_D A (xWH k a g q12) := hD
          have hg : xok k g q12 := hg
          refine lv_iconst (v := 0) hx hb xd_C_mayDo_39 (by decide) ?_
          exact hret _ (q12, g) H locs ls _ rfl ⟨(by unfold xf_C_mayDo; exact (xif h1 (xit h2 (xif h8 (xlt_e hv10 (xlt_e hq12 rfl)))))), hg⟩ hP hD hS xd_C_mayDo_40
        refine lv_if_ne (tgt := 34) hx hb xd_C_mayDo_27 rfl (fun h13 => ?_) (fun h13 => ?_)
        · refine lv_bipush (v := 22) hx hb xd_C_mayDo_34 (by decide) ?_
          exact hj11 H locs ls g (22 : Int32) (xif h13 rfl) hg hl hP hD hS
        · refine lv_iconst (v := 2) hx hb xd_C_mayDo_30 (by decide) ?_
          refine lv_goto (tgt := 36) hx hb xd_C_mayDo_31 rfl ?_
          exact hj11 H locs ls g (2 : Int32) (xit h13 rfl) hg hl hP hD hS
      · refine lv_iconst (v := 1) hx hb xd_C_mayDo_20 (by decide) ?_
        exact hret _ (u, g) H locs ls _ rfl ⟨(by unfold xf_C_mayDo; exact (xif h1 (xit h2 (xit h8 rfl)))), hg⟩ hP hD hS xd_C_mayDo_21
theorem xm_C_mayDo (u : XH) (p0 : Int32) : XE (xcH u) (xf_C_mayDo u p0) := by unfold xf_C_mayDo; exact (xit_E rfl (xit_E (xit_E rfl (xlt_E (fun v10 hv10 => (xlt_E (fun q12 hq12 => ((XEs_of hq12 (xm_C_refuse u v10)).trans rfl)))))) (xlt_E (fun v4 hv4 => (xlt_E (fun q6 hq6 => ((XEs_of hq6 (xm_C_refuse u v4)).trans rfl)))))))
theorem xt01_C_mayDo (u : XH) (p0 : Int32) : X01p (xf_C_mayDo u p0) := by unfold xf_C_mayDo; exact (xit_01p (Or.inr rfl) (xit_01p (xit_01p (Or.inr rfl) (xlt_01p (fun v10 hv10 => (xlt_01p (fun q12 hq12 => (Or.inl rfl)))))) (xlt_01p (fun v4 hv4 => (xlt_01p (fun q6 hq6 => (Or.inl rfl)))))))

noncomputable def xf_C_setAlarm (u : XH) (p0 : Int32) (p1 : Int32) : XH :=
  xlt (if 0 ≤ (lg_cmp (((Int32.toInt64 p0) <<< (Int32.toInt64 (32 : Int32) &&& 63)) ||| ((Int32.toInt64 p1) &&& (4294967295 : Int64))) (0 : Int64)) then ((((Int32.toInt64 p0) <<< (Int32.toInt64 (32 : Int32) &&& 63)) ||| ((Int32.toInt64 p1) &&& (4294967295 : Int64)))) else (9223372036854775807) : Int64) fun v2 =>
  (xs_K_alarm u v2)
set_option maxHeartbeats 4000000 in
set_option maxRecDepth 100000 in
theorem c_C_setAlarm (l : Launch) (D : va_G) (z : (Nat → Nat) × (Nat → Nat)) (k : ClassId × ClassId) (a : Nat → Nat) (g : XG) (sz : Nat) (u : XH) (hg : xok k g u) (p0 : Int32) (p1 : Int32) : Met l xy_C_setAlarm (xk_C_setAlarm :: lw_g) { frames := 0, cells := 0, slots := 0, locals := 0 } (va_Pc [.ref ((a 1)), .int p0, .int p1] (xB D (xTy k) z sz (xWH k a g u))) (va_Qv (fun q : XH × XG => q.1 = xf_C_setAlarm u p0 p1 ∧ xok k q.2 q.1) (fun q t => xQ D (xTy k) (xWH k a q.2 q.1) (va_A (xWH k a g u) sz) t) (va_A (xWH k a g u) sz)) 0 0 (va_A (xWH k a g u) sz) := by
  refine xopen_v (wf := fun q : XH × XG => xWH k a q.2 q.1) (lv := [(0, .ref ((a 1))), (1, .int p0), (2, .int p1)]) (by decide) rfl (Nat.le_of_ble_eq_true rfl) ?_
  intro p e s m args below meth c Q ls A H locs hx hb hml htg hown hin hK hP hD hE hS hA hl hret
  refine lv_iload_n hx hb xd_C_setAlarm_0 rfl (lv_at hl 1 rfl) ?_
  refine lv_i2l (v := (Int32.toInt64 p0)) hx hb xd_C_setAlarm_1 rfl ?_
  refine lv_bipush (v := 32) hx hb xd_C_setAlarm_2 (by decide) ?_
  refine lv_lshl (v := ((Int32.toInt64 p0) <<< (Int32.toInt64 (32 : Int32) &&& 63))) hx hb xd_C_setAlarm_4 rfl ?_
  refine lv_iload_n hx hb xd_C_setAlarm_5 rfl (lv_at hl 2 rfl) ?_
  refine lv_i2l (v := (Int32.toInt64 p1)) hx hb xd_C_setAlarm_6 rfl ?_
  refine lv_ldc2 (v := 4294967295) hx hb hown (htg _ xw_634) xd_C_setAlarm_7 ?_
  refine lv_land hx hb xd_C_setAlarm_10 ?_
  refine lv_lor hx hb xd_C_setAlarm_11 ?_
  refine lv_lstore_n (lv' := [(3, .long ((((Int32.toInt64 p0) <<< (Int32.toInt64 (32 : Int32) &&& 63)) ||| ((Int32.toInt64 p1) &&& (4294967295 : Int64))))), (0, .ref ((a 1))), (1, .int p0), (2, .int p1)]) hx hb xd_C_setAlarm_12 rfl hl (by decide) rfl (fun ls hl => ?_)
  refine lv_aload_n hx hb xd_C_setAlarm_13 rfl (lv_at hl 1 rfl) ?_
  refine xget_C_controls hx hb htg hown hK hP (htg _ xw_206) xd_C_setAlarm_14 ?_
  refine lv_lload_n hx hb xd_C_setAlarm_17 rfl (lv_at hl 0 rfl) ?_
  refine lv_lconst (v := 0) hx hb xd_C_setAlarm_18 (by decide) ?_
  refine W.lcmp hx hb xd_C_setAlarm_19 ?_
  have hj3 : ∀ (H : Heap) (locs : List Loc) (ls : Array Slot) (g : XG) (v2 : Int64), v2 = (if 0 ≤ (lg_cmp (((Int32.toInt64 p0) <<< (Int32.toInt64 (32 : Int32) &&& 63)) ||| ((Int32.toInt64 p1) &&& (4294967295 : Int64))) (0 : Int64)) then ((((Int32.toInt64 p0) <<< (Int32.toInt64 (32 : Int32) &&& 63)) ||| ((Int32.toInt64 p1) &&& (4294967295 : Int64)))) else (9223372036854775807)) → xok k g u → lv_has ls 5 [(3, .long ((((Int32.toInt64 p0) <<< (Int32.toInt64 (32 : Int32) &&& 63)) ||| ((Int32.toInt64 p1) &&& (4294967295 : Int64))))), (0, .ref ((a 1))), (1, .int p0), (2, .int p1)] → va_P D xCl (xWH k a g u) H → va_D A (xWH k a g u) → va_S A s.heap H locs → W p l e { frames := 0, cells := 0, slots := 0, locals := 0 } s m args below meth c H locs (0) (0) Q (F0 m 30 ls [.long v2, .ref ((a 4))]) := by
    intro H locs ls g v2 hv2 hg hl hP hD hS
    refine xput_K_alarm (v := v2) hx hb htg hown hK hP hD hS hg (htg _ xw_122) xd_C_setAlarm_30 (fun H locs hP hD hS hg => ?_)
    exact hret ((xs_K_alarm u v2), g) H locs ls _ ⟨(by unfold xf_C_setAlarm; exact (xlt_e hv2 rfl)), hg⟩ hP hD hS xd_C_setAlarm_33
  refine lv_if_ge (tgt := 29) hx hb xd_C_setAlarm_20 rfl (fun h4 => ?_) (fun h4 => ?_)
  · refine lv_lload_n hx hb xd_C_setAlarm_29 rfl (lv_at hl 0 rfl) ?_
    exact hj3 H locs ls g (((Int32.toInt64 p0) <<< (Int32.toInt64 (32 : Int32) &&& 63)) ||| ((Int32.toInt64 p1) &&& (4294967295 : Int64))) (xit h4 rfl) hg hl hP hD hS
  · refine lv_ldc2 (v := 9223372036854775807) hx hb hown (htg _ xw_635) xd_C_setAlarm_23 ?_
    refine lv_goto (tgt := 30) hx hb xd_C_setAlarm_26 rfl ?_
    exact hj3 H locs ls g (9223372036854775807 : Int64) (xif h4 rfl) hg hl hP hD hS
theorem xm_C_setAlarm (u : XH) (p0 : Int32) (p1 : Int32) : XEs (xcH u) (xf_C_setAlarm u p0 p1) := by unfold xf_C_setAlarm; exact (xlt_Es (fun v2 hv2 => (xcH_K_alarm.trans rfl)))

noncomputable def xf_C_print (u : XH) (p0 : Int32) : XH :=
  if 4096 ≤ (xg_C_consoleSize u) then
    u
  else
    xlt (xf_M_write 1 (xg_M u).2 (xg_C_consoleSize u) (0 : Int32) p0 : XM1) fun q3 =>
    (xs_C_consoleSize (xs_M2 u q3) ((xg_C_consoleSize (xs_M2 u q3)) + (1 : Int32)))
set_option maxHeartbeats 4000000 in
set_option maxRecDepth 100000 in
theorem c_C_print (l : Launch) (D : va_G) (z : (Nat → Nat) × (Nat → Nat)) (k : ClassId × ClassId) (a : Nat → Nat) (g : XG) (sz : Nat) (u : XH) (hg : xok k g u) (p0 : Int32) (kk : Nat) (hk : XN (xcH u + kk) (xf_C_print u p0)) : Met l xy_C_print (xk_C_print :: lw_g) { frames := 4, cells := 2 * kk, slots := 1025 * kk, locals := 89 } (va_Pc [.ref ((a 1)), .int p0] (xB D (xTy k) z sz (xWH k a g u))) (va_Qv (fun q : XH × XG => q.1 = xf_C_print u p0 ∧ xok k q.2 q.1) (fun q t => xQ D (xTy k) (xWH k a q.2 q.1) (va_A (xWH k a g u) sz) t) (va_A (xWH k a g u) sz)) (2 * kk) (1025 * kk) (va_A (xWH k a g u) sz) := by
  refine xopen_v (wf := fun q : XH × XG => xWH k a q.2 q.1) (lv := [(0, .ref ((a 1))), (1, .int p0)]) (by decide) rfl (Nat.le_of_ble_eq_true rfl) ?_
  intro p e s m args below meth c Q ls A H locs hx hb hml htg hown hin hK hP hD hE hS hA hl hret
  refine lv_aload_n hx hb xd_C_print_0 rfl (lv_at hl 0 rfl) ?_
  refine xget_C_consoleSize (v := (xg_C_consoleSize u)) hx hb htg hown hK hP (htg _ xw_209) rfl xd_C_print_1 ?_
  refine lv_sipush (v := 4096) hx hb xd_C_print_4 (by decide) ?_
  refine lv_icmp_ge (tgt := 33) hx hb xd_C_print_7 rfl (fun h1 => ?_) (fun h1 => ?_)
  · exact W.widen (by omega) (by omega) (hret (u, g) H locs ls _ ⟨(by unfold xf_C_print; exact (xit h1 rfl)), hg⟩ hP hD hS xd_C_print_33)
  · refine lv_aload_n hx hb xd_C_print_10 rfl (lv_at hl 0 rfl) ?_
    refine xget_C_console hx hb htg hown hK hP (htg _ xw_201) xd_C_print_11 ?_
    refine lv_aload_n hx hb xd_C_print_14 rfl (lv_at hl 0 rfl) ?_
    refine xget_C_consoleSize (v := (xg_C_consoleSize u)) hx hb htg hown hK hP (htg _ xw_209) rfl xd_C_print_15 ?_
    refine lv_iconst (v := 0) hx hb xd_C_print_18 (by decide) ?_
    refine lv_iload_n hx hb xd_C_print_19 rfl (lv_at hl 1 rfl) ?_
    obtain ⟨q3, hq3⟩ : ∃ q, q = xf_M_write 1 (xg_M u).2 (xg_C_consoleSize u) (0 : Int32) p0 := ⟨_, rfl⟩
    refine xcN_v hq3 (va_runV (As := [.int ((xg_C_consoleSize u)), .int 0, .int p0]) (rest := []) ⟨hx, hb, hml, hown, htg⟩ (c_M_write l D z k H.size (a 9) (a 11) 1 (by decide) g.2 (xg_M u).2 hg.2 (xg_C_consoleSize u) (0 : Int32) p0 kk (by unfold xf_C_print at hk; have hk0 := xif_k h1 hk; exact xkM2 (u := u) rfl (fun _ => xcH_C_consoleSize) hk0)) (cwV 3 htg (xg_V0 xkin_M_write xw_572 xw_573 xsel_M_write xw_3) rfl rfl rfl (by decide +kernel) ⟨Nat.le_of_ble_eq_true rfl, Nat.le_of_ble_eq_true rfl⟩) ⟨xB_blind, xrecv_N hK hP, fun U hU hW => xpre_N hP hK hD hE hS hA hU hW⟩ rfl rfl hl.1 rfl (lv_room (Nat.le_of_ble_eq_true rfl)) xd_C_print_20 ⟨by show 0 + 2 * kk ≤ 2 * kk; omega, by show 0 + 1025 * kk ≤ 1025 * kk; omega⟩) hP hD hA hS hg (fun g H locs hP hD hS hg => ?_)
    refine lv_aload_n hx hb xd_C_print_23 rfl (lv_at hl 0 rfl) ?_
    refine lv_dup hx hb xd_C_print_24 rfl ?_
    refine xget_C_consoleSize (v := (xg_C_consoleSize (xs_M2 u q3))) hx hb htg hown hK hP (htg _ xw_209) rfl xd_C_print_25 ?_
    refine lv_iconst (v := 1) hx hb xd_C_print_28 (by decide) ?_
    refine lv_iadd hx hb xd_C_print_29 ?_
    refine xput_C_consoleSize (v := ((xg_C_consoleSize (xs_M2 u q3)) + (1 : Int32))) hx hb htg hown hK hP hD hS hg (htg _ xw_209) xd_C_print_30 (fun H locs hP hD hS hg => ?_)
    exact W.widen (by omega) (by omega) (hret ((xs_C_consoleSize (xs_M2 u q3) ((xg_C_consoleSize (xs_M2 u q3)) + (1 : Int32))), g) H locs ls _ ⟨(by unfold xf_C_print; exact (xif h1 (xlt_e hq3 rfl))), hg⟩ hP hD hS xd_C_print_33)

noncomputable def xf_C_returnFromTrap (u : XH) : XH :=
  xlt (xf_C_isSet u (4194304 : Int32) : Int32) fun q1 =>
  xlt (xf_C_mayDo u q1 : Int32 × XH) fun q2 =>
  if q2.1 = 0 then
    q2.2
  else
    xlt (if (xg_C_mode q2.2) = 3 then (1) else (xlt (xf_C_isSet q2.2 (128 : Int32) : Int32) fun q5 => if q5 = 0 then (0) else (1)) : Int32) fun v7 =>
    if (xg_C_mode q2.2) = 3 then
      xlt (if (xg_C_mode q2.2) = 1 then ((xs_K_hstatus q2.2 ((xg_K_hstatus q2.2) &&& (-129 : Int32)))) else (q2.2) : XH) fun v25 =>
      xlt (xf_B_leave (xg_V v25) : Int32 × XB) fun q27 =>
      xlt (if v7 = 0 then (0) else (2) : Int32) fun v29 =>
      xlt (if q27.1 = 0 then (0) else (1) : Int32) fun v32 =>
      (xs_C_mode (xs_C_next (xs_V v25 q27.2) (xg_V_epc (xs_V v25 q27.2))) (v29 + v32))
    else
      xlt (if (xg_C_mode q2.2) = 1 then ((xs_K_hstatus q2.2 ((xg_K_hstatus q2.2) &&& (-129 : Int32)))) else (q2.2) : XH) fun v12 =>
      xlt (xf_B_leave (xg_S v12) : Int32 × XB) fun q14 =>
      xlt (if v7 = 0 then (0) else (2) : Int32) fun v16 =>
      xlt (if q14.1 = 0 then (0) else (1) : Int32) fun v19 =>
      (xs_C_mode (xs_C_next (xs_S v12 q14.2) (xg_S_epc (xs_S v12 q14.2))) (v16 + v19))
set_option maxHeartbeats 4000000 in
set_option maxRecDepth 100000 in
theorem c_C_returnFromTrap (l : Launch) (D : va_G) (z : (Nat → Nat) × (Nat → Nat)) (k : ClassId × ClassId) (a : Nat → Nat) (g : XG) (sz : Nat) (u : XH) (hg : xok k g u) : Met l xy_C_returnFromTrap (xk_C_returnFromTrap :: lw_g) { frames := 3, cells := 0, slots := 0, locals := 64 } (va_Pc [.ref ((a 1))] (xB D (xTy k) z sz (xWH k a g u))) (va_Qv (fun q : XH × XG => q.1 = xf_C_returnFromTrap u ∧ xok k q.2 q.1) (fun q t => xQ D (xTy k) (xWH k a q.2 q.1) (va_A (xWH k a g u) sz) t) (va_A (xWH k a g u) sz)) 0 0 (va_A (xWH k a g u) sz) := by
  refine xopen_v (wf := fun q : XH × XG => xWH k a q.2 q.1) (lv := [(0, .ref ((a 1)))]) (by decide) rfl (Nat.le_of_ble_eq_true rfl) ?_
  intro p e s m args below meth c Q ls A H locs hx hb hml htg hown hin hK hP hD hE hS hA hl hret
  refine lv_aload_n hx hb xd_C_returnFromTrap_0 rfl (lv_at hl 0 rfl) ?_
  refine lv_aload_n hx hb xd_C_returnFromTrap_1 rfl (lv_at hl 0 rfl) ?_
  refine lv_ldcw (v := 4194304) hx hb hown (htg _ xw_644) xd_C_returnFromTrap_2 ?_
  refine xcW_i (va_runV (As := [.int 4194304]) (rest := [.ref ((a 1))]) ⟨hx, hb, hml, hown, htg⟩ (c_C_isSet l D z k a g H.size u hg (4194304 : Int32)) (cwV 1 htg (xg_V0 xkin_C_isSet xw_618 xw_620 xsel_C_isSet xw_2) rfl rfl rfl (by decide +kernel) ⟨Nat.le_of_ble_eq_true rfl, Nat.le_of_ble_eq_true rfl⟩) ⟨xB_blind, xrecv_C hK hP, fun U hU hW => xB_mk hP hK hD hE hS (xsubW hD hA hS) hU hW⟩ rfl rfl hl.1 rfl (lv_room (Nat.le_of_ble_eq_true rfl)) xd_C_returnFromTrap_5 ⟨Nat.le_of_ble_eq_true rfl, Nat.le_of_ble_eq_true rfl⟩) hD hA hS (fun r w1 H locs hw hP hD hS => ?_)
  obtain ⟨u1, g⟩ := w1
  obtain ⟨q1, hq1⟩ : ∃ q, q = xf_C_isSet u (4194304 : Int32) := ⟨_, rfl⟩
  obtain ⟨e1, e2, hg⟩ := hw
  rw [← hq1] at e1
  obtain rfl : q1 = r := e1.symm
  obtain rfl : u = u1 := e2.symm
  have hP : va_P D xCl (xWH k a g u) H := hP
  have hD : va_D A (xWH k a g u) := hD
  have hg : xok k g u := hg
  refine xcW_i (va_runV (As := [.int q1]) (rest := []) ⟨hx, hb, hml, hown, htg⟩ (c_C_mayDo l D z k a g H.size u hg q1) (cwV 1 htg (xg_V0 xkin_C_mayDo xw_622 xw_624 xsel_C_mayDo xw_2) rfl rfl rfl (by decide +kernel) ⟨Nat.le_of_ble_eq_true rfl, Nat.le_of_ble_eq_true rfl⟩) ⟨xB_blind, xrecv_C hK hP, fun U hU hW => xB_mk hP hK hD hE hS (xsubW hD hA hS) hU hW⟩ rfl rfl hl.1 rfl (lv_room (Nat.le_of_ble_eq_true rfl)) xd_C_returnFromTrap_8 ⟨Nat.le_of_ble_eq_true rfl, Nat.le_of_ble_eq_true rfl⟩) hD hA hS (fun r w1 H locs hw hP hD hS => ?_)
  obtain ⟨u1, g⟩ := w1
  obtain ⟨q2, hq2⟩ : ∃ q, q = xf_C_mayDo u q1 := ⟨_, rfl⟩
  obtain ⟨e1, hg⟩ := hw
  rw [← hq2] at e1
  obtain rfl : r = q2.1 := congrArg Prod.fst e1
  obtain rfl : u1 = q2.2 := congrArg Prod.snd e1
  have hP : va_P D xCl (xWH k a g q2.2) H := hP
  have hD : va_D A (xWH k a g q2.2) := hD
  have hg : xok k g q2.2 := hg
  refine lv_if_ne (tgt := 15) hx hb xd_C_returnFromTrap_11 rfl (fun h3 => ?_) (fun h3 => ?_)
  · refine lv_aload_n hx hb xd_C_returnFromTrap_15 rfl (lv_at hl 0 rfl) ?_
    refine xget_C_mode (v := (xg_C_mode q2.2)) hx hb htg hown hK hP (htg _ xw_213) rfl xd_C_returnFromTrap_16 ?_
    refine lv_iconst (v := 3) hx hb xd_C_returnFromTrap_19 (by decide) ?_
    have hj8 : ∀ (H : Heap) (locs : List Loc) (ls : Array Slot) (g : XG) (v7 : Int32), v7 = (if (xg_C_mode q2.2) = 3 then (1) else (xlt (xf_C_isSet q2.2 (128 : Int32) : Int32) fun q5 => if q5 = 0 then (0) else (1))) → xok k g q2.2 → lv_has ls 4 [(0, .ref ((a 1)))] → va_P D xCl (xWH k a g q2.2) H → va_D A (xWH k a g q2.2) → va_S A s.heap H locs → W p l e { frames := 3, cells := 0, slots := 0, locals := 64 } s m args below meth c H locs (0) (0) Q (F0 m 38 ls [.int v7]) := by
      intro H locs ls g v7 hv7 hg hl hP hD hS
      refine lv_istore_n (lv' := [(1, .int v7), (0, .ref ((a 1)))]) hx hb xd_C_returnFromTrap_38 rfl hl (by decide) rfl (fun ls hl => ?_)
      refine lv_aload_n hx hb xd_C_returnFromTrap_39 rfl (lv_at hl 1 rfl) ?_
      refine xget_C_mode (v := (xg_C_mode q2.2)) hx hb htg hown hK hP (htg _ xw_213) rfl xd_C_returnFromTrap_40 ?_
      refine lv_iconst (v := 3) hx hb xd_C_returnFromTrap_43 (by decide) ?_
      refine lv_icmp_ne (tgt := 57) hx hb xd_C_returnFromTrap_44 rfl (fun h10 => ?_) (fun h10 => ?_)
      · refine lv_aload_n hx hb xd_C_returnFromTrap_57 rfl (lv_at hl 1 rfl) ?_
        refine xget_C_controls hx hb htg hown hK hP (htg _ xw_206) xd_C_returnFromTrap_58 ?_
        refine xget_K_s hx hb htg hown hK hP (htg _ xw_102) xd_C_returnFromTrap_61 ?_
        refine lv_astore_n (lv' := [(2, .ref ((a 5))), (1, .int v7), (0, .ref ((a 1)))]) hx hb xd_C_returnFromTrap_64 rfl hl (by decide) rfl (fun ls hl => ?_)
        refine lv_aload_n hx hb xd_C_returnFromTrap_65 rfl (lv_at hl 2 rfl) ?_
        refine xget_C_mode (v := (xg_C_mode q2.2)) hx hb htg hown hK hP (htg _ xw_213) rfl xd_C_returnFromTrap_66 ?_
        refine lv_iconst (v := 1) hx hb xd_C_returnFromTrap_69 (by decide) ?_
        have hj13 : ∀ (H : Heap) (locs : List Loc) (ls : Array Slot) (g : XG) (v12 : XH), v12 = (if (xg_C_mode q2.2) = 1 then ((xs_K_hstatus q2.2 ((xg_K_hstatus q2.2) &&& (-129 : Int32)))) else (q2.2)) → xok k g v12 → lv_has ls 4 [(2, .ref ((a 5))), (1, .int v7), (0, .ref ((a 1)))] → va_P D xCl (xWH k a g v12) H → va_D A (xWH k a g v12) → va_S A s.heap H locs → W p l e { frames := 3, cells := 0, slots := 0, locals := 64 } s m args below meth c H locs (0) (0) Q (F0 m 88 ls []) := by
          intro H locs ls g v12 hv12 hg hl hP hD hS
          refine lv_aload_n hx hb xd_C_returnFromTrap_88 rfl (lv_at hl 0 rfl) ?_
          refine xcb_S_i (b0 := (xg_S v12)) rfl (va_runV (As := []) (rest := []) ⟨hx, hb, hml, hown, htg⟩ (c_B_leave l D (xTy k) z H.size (a 5) (xg_S v12)) (cwV 0 htg (xg_V0 xkin_B_leave xw_645 xw_646 xsel_B_leave xw_6) rfl rfl rfl (by decide +kernel) ⟨Nat.le_of_ble_eq_true rfl, Nat.le_of_ble_eq_true rfl⟩) ⟨xB_blind, xrecv_S hK hP, fun U hU hW => xpre_S hP hK hD hE hS hA hU hW⟩ rfl rfl hl.1 rfl (lv_room (Nat.le_of_ble_eq_true rfl)) xd_C_returnFromTrap_89 ⟨Nat.le_of_ble_eq_true rfl, Nat.le_of_ble_eq_true rfl⟩) hP hD hA hS (fun r u1 H locs hw hP hD hS => ?_)
          obtain ⟨q14, hq14⟩ : ∃ q, q = xf_B_leave (xg_S v12) := ⟨_, rfl⟩
          rw [← hq14] at hw
          obtain rfl : r = q14.1 := congrArg Prod.fst hw
          obtain rfl : u1 = q14.2 := congrArg Prod.snd hw
          have hg := xok_S (b := q14.2) hg
          refine lv_istore_n (lv' := [(3, .int (q14.1)), (2, .ref ((a 5))), (1, .int v7), (0, .ref ((a 1)))]) hx hb xd_C_returnFromTrap_92 rfl hl (by decide) rfl (fun ls hl => ?_)
          refine lv_aload_n hx hb xd_C_returnFromTrap_93 rfl (lv_at hl 3 rfl) ?_
          refine lv_aload_n hx hb xd_C_returnFromTrap_94 rfl (lv_at hl 1 rfl) ?_
          refine xget_S_epc (v := (xg_S_epc (xs_S v12 q14.2))) hx hb htg hown hK hP (htg _ xw_74) rfl xd_C_returnFromTrap_95 ?_
          refine xput_C_next (v := (xg_S_epc (xs_S v12 q14.2))) hx hb htg hown hK hP hD hS hg (htg _ xw_223) xd_C_returnFromTrap_98 (fun H locs hP hD hS hg => ?_)
          refine lv_aload_n hx hb xd_C_returnFromTrap_101 rfl (lv_at hl 3 rfl) ?_
          refine lv_iload_n hx hb xd_C_returnFromTrap_102 rfl (lv_at hl 2 rfl) ?_
          have hj17 : ∀ (H : Heap) (locs : List Loc) (ls : Array Slot) (g : XG) (v16 : Int32), v16 = (if v7 = 0 then (0) else (2)) → xok k g (xs_C_next (xs_S v12 q14.2) (xg_S_epc (xs_S v12 q14.2))) → lv_has ls 4 [(3, .int (q14.1)), (2, .ref ((a 5))), (1, .int v7), (0, .ref ((a 1)))] → va_P D xCl (xWH k a g (xs_C_next (xs_S v12 q14.2) (xg_S_epc (xs_S v12 q14.2)))) H → va_D A (xWH k a g (xs_C_next (xs_S v12 q14.2) (xg_S_epc (xs_S v12 q14.2)))) → va_S A s.heap H locs → W p l e { frames := 3, cells := 0, slots := 0, locals := 64 } s m args below meth c H locs (0) (0) Q (F0 m 111 ls [.int v16, .ref ((a 1))]) := by
            intro H locs ls g v16 hv16 hg hl hP hD hS
            refine lv_iload_n hx hb xd_C_returnFromTrap_111 rfl (lv_at hl 0 rfl) ?_
            have hj20 : ∀ (H : Heap) (locs : List Loc) (ls : Array Slot) (g : XG) (v19 : Int32), v19 = (if q14.1 = 0 then (0) else (1)) → xok k g (xs_C_next (xs_S v12 q14.2) (xg_S_epc (xs_S v12 q14.2))) → lv_has ls 4 [(3, .int (q14.1)), (2, .ref ((a 5))), (1, .int v7), (0, .ref ((a 1)))] → va_P D xCl (xWH k a g (xs_C_next (xs_S v12 q14.2) (xg_S_epc (xs_S v12 q14.2)))) H → va_D A (xWH k a g (xs_C_next (xs_S v12 q14.2) (xg_S_epc (xs_S v12 q14.2)))) → va_S A s.heap H locs → W p l e { frames := 3, cells := 0, slots := 0, locals := 64 } s m args below meth c H locs (0) (0) Q (F0 m 120 ls [.int v19, .int v16, .ref ((a 1))]) := by
              intro H locs ls g v19 hv19 hg hl hP hD hS
              refine lv_iadd hx hb xd_C_returnFromTrap_120 ?_
              refine xput_C_mode (v := (v16 + v19)) hx hb htg hown hK hP hD hS hg (htg _ xw_213) xd_C_returnFromTrap_121 (fun H locs hP hD hS hg => ?_)
              exact hret ((xs_C_mode (xs_C_next (xs_S v12 q14.2) (xg_S_epc (xs_S v12 q14.2))) (v16 + v19)), g) H locs ls _ ⟨(by unfold xf_C_returnFromTrap; exact (xlt_e hq1 (xlt_e hq2 (xif h3 (xlt_e hv7 (xif h10 (xlt_e hv12 (xlt_e hq14 (xlt_e hv16 (xlt_e hv19 rfl)))))))))), hg⟩ hP hD hS xd_C_returnFromTrap_124
            refine lv_if_eq (tgt := 119) hx hb xd_C_returnFromTrap_112 rfl (fun h21 => ?_) (fun h21 => ?_)
            · refine lv_iconst (v := 0) hx hb xd_C_returnFromTrap_119 (by decide) ?_
              exact hj20 H locs ls g (0 : Int32) (xit h21 rfl) hg hl hP hD hS
            · refine lv_iconst (v := 1) hx hb xd_C_returnFromTrap_115 (by decide) ?_
              refine lv_goto (tgt := 120) hx hb xd_C_returnFromTrap_116 rfl ?_
              exact hj20 H locs ls g (1 : Int32) (xif h21 rfl) hg hl hP hD hS
          refine lv_if_eq (tgt := 110) hx hb xd_C_returnFromTrap_103 rfl (fun h22 => ?_) (fun h22 => ?_)
          · refine lv_iconst (v := 0) hx hb xd_C_returnFromTrap_110 (by decide) ?_
            exact hj17 H locs ls g (0 : Int32) (xit h22 rfl) hg hl hP hD hS
          · refine lv_iconst (v := 2) hx hb xd_C_returnFromTrap_106 (by decide) ?_
            refine lv_goto (tgt := 111) hx hb xd_C_returnFromTrap_107 rfl ?_
            exact hj17 H locs ls g (2 : Int32) (xif h22 rfl) hg hl hP hD hS
        refine lv_icmp_ne (tgt := 88) hx hb xd_C_returnFromTrap_70 rfl (fun h23 => ?_) (fun h23 => ?_)
        · exact hj13 H locs ls g q2.2 (xif h23 rfl) hg hl hP hD hS
        · refine lv_aload_n hx hb xd_C_returnFromTrap_73 rfl (lv_at hl 2 rfl) ?_
          refine xget_C_controls hx hb htg hown hK hP (htg _ xw_206) xd_C_returnFromTrap_74 ?_
          refine lv_dup hx hb xd_C_returnFromTrap_77 rfl ?_
          refine xget_K_hstatus (v := (xg_K_hstatus q2.2)) hx hb htg hown hK hP (htg _ xw_107) rfl xd_C_returnFromTrap_78 ?_
          refine lv_sipush (v := (-129)) hx hb xd_C_returnFromTrap_81 (by decide) ?_
          refine lv_iand hx hb xd_C_returnFromTrap_84 ?_
          refine xput_K_hstatus (v := ((xg_K_hstatus q2.2) &&& (-129 : Int32))) hx hb htg hown hK hP hD hS hg (htg _ xw_107) xd_C_returnFromTrap_85 (fun H locs hP hD hS hg => ?_)
          exact hj13 H locs ls g (xs_K_hstatus q2.2 ((xg_K_hstatus q2.2) &&& (-129 : Int32))) (xit h23 rfl) hg hl hP hD hS
      · refine lv_aload_n hx hb xd_C_returnFromTrap_47 rfl (lv_at hl 1 rfl) ?_
        refine xget_C_controls hx hb htg hown hK hP (htg _ xw_206) xd_C_returnFromTrap_48 ?_
        refine xget_K_vs hx hb htg hown hK hP (htg _ xw_105) xd_C_returnFromTrap_51 ?_
        refine lv_goto (tgt := 64) hx hb xd_C_returnFromTrap_54 rfl ?_
        refine lv_astore_n (lv' := [(2, .ref ((a 6))), (1, .int v7), (0, .ref ((a 1)))]) hx hb xd_C_returnFromTrap_64 rfl hl (by decide) rfl (fun ls hl => ?_)
        refine lv_aload_n hx hb xd_C_returnFromTrap_65 rfl (lv_at hl 2 rfl) ?_
        refine xget_C_mode (v := (xg_C_mode q2.2)) hx hb htg hown hK hP (htg _ xw_213) rfl xd_C_returnFromTrap_66 ?_
        refine lv_iconst (v := 1) hx hb xd_C_returnFromTrap_69 (by decide) ?_
        have hj26 : ∀ (H : Heap) (locs : List Loc) (ls : Array Slot) (g : XG) (v25 : XH), v25 = (if (xg_C_mode q2.2) = 1 then ((xs_K_hstatus q2.2 ((xg_K_hstatus q2.2) &&& (-129 : Int32)))) else (q2.2)) → xok k g v25 → lv_has ls 4 [(2, .ref ((a 6))), (1, .int v7), (0, .ref ((a 1)))] → va_P D xCl (xWH k a g v25) H → va_D A (xWH k a g v25) → va_S A s.heap H locs → W p l e { frames := 3, cells := 0, slots := 0, locals := 64 } s m args below meth c H locs (0) (0) Q (F0 m 88 ls []) := by
          intro H locs ls g v25 hv25 hg hl hP hD hS
          refine lv_aload_n hx hb xd_C_returnFromTrap_88 rfl (lv_at hl 0 rfl) ?_
          refine xcb_V_i (b0 := (xg_V v25)) rfl (va_runV (As := []) (rest := []) ⟨hx, hb, hml, hown, htg⟩ (c_B_leave l D (xTy k) z H.size (a 6) (xg_V v25)) (cwV 0 htg (xg_V0 xkin_B_leave xw_645 xw_646 xsel_B_leave xw_6) rfl rfl rfl (by decide +kernel) ⟨Nat.le_of_ble_eq_true rfl, Nat.le_of_ble_eq_true rfl⟩) ⟨xB_blind, xrecv_V hK hP, fun U hU hW => xpre_V hP hK hD hE hS hA hU hW⟩ rfl rfl hl.1 rfl (lv_room (Nat.le_of_ble_eq_true rfl)) xd_C_returnFromTrap_89 ⟨Nat.le_of_ble_eq_true rfl, Nat.le_of_ble_eq_true rfl⟩) hP hD hA hS (fun r u1 H locs hw hP hD hS => ?_)
          obtain ⟨q27, hq27⟩ : ∃ q, q = xf_B_leave (xg_V v25) := ⟨_, rfl⟩
          rw [← hq27] at hw
          obtain rfl : r = q27.1 := congrArg Prod.fst hw
          obtain rfl : u1 = q27.2 := congrArg Prod.snd hw
          have hg := xok_V (b := q27.2) hg
          refine lv_istore_n (lv' := [(3, .int (q27.1)), (2, .ref ((a 6))), (1, .int v7), (0, .ref ((a 1)))]) hx hb xd_C_returnFromTrap_92 rfl hl (by decide) rfl (fun ls hl => ?_)
          refine lv_aload_n hx hb xd_C_returnFromTrap_93 rfl (lv_at hl 3 rfl) ?_
          refine lv_aload_n hx hb xd_C_returnFromTrap_94 rfl (lv_at hl 1 rfl) ?_
          refine xget_V_epc (v := (xg_V_epc (xs_V v25 q27.2))) hx hb htg hown hK hP (htg _ xw_74) rfl xd_C_returnFromTrap_95 ?_
          refine xput_C_next (v := (xg_V_epc (xs_V v25 q27.2))) hx hb htg hown hK hP hD hS hg (htg _ xw_223) xd_C_returnFromTrap_98 (fun H locs hP hD hS hg => ?_)
          refine lv_aload_n hx hb xd_C_returnFromTrap_101 rfl (lv_at hl 3 rfl) ?_
          refine lv_iload_n hx hb xd_C_returnFromTrap_102 rfl (lv_at hl 2 rfl) ?_
          have hj30 : ∀ (H : Heap) (locs : List Loc) (ls : Array Slot) (g : XG) (v29 : Int32), v29 = (if v7 = 0 then (0) else (2)) → xok k g (xs_C_next (xs_V v25 q27.2) (xg_V_epc (xs_V v25 q27.2))) → lv_has ls 4 [(3, .int (q27.1)), (2, .ref ((a 6))), (1, .int v7), (0, .ref ((a 1)))] → va_P D xCl (xWH k a g (xs_C_next (xs_V v25 q27.2) (xg_V_epc (xs_V v25 q27.2)))) H → va_D A (xWH k a g (xs_C_next (xs_V v25 q27.2) (xg_V_epc (xs_V v25 q27.2)))) → va_S A s.heap H locs → W p l e { frames := 3, cells := 0, slots := 0, locals := 64 } s m args below meth c H locs (0) (0) Q (F0 m 111 ls [.int v29, .ref ((a 1))]) := by
            intro H locs ls g v29 hv29 hg hl hP hD hS
            refine lv_iload_n hx hb xd_C_returnFromTrap_111 rfl (lv_at hl 0 rfl) ?_
            have hj33 : ∀ (H : Heap) (locs : List Loc) (ls : Array Slot) (g : XG) (v32 : Int32), v32 = (if q27.1 = 0 then (0) else (1)) → xok k g (xs_C_next (xs_V v25 q27.2) (xg_V_epc (xs_V v25 q27.2))) → lv_has ls 4 [(3, .int (q27.1)), (2, .ref ((a 6))), (1, .int v7), (0, .ref ((a 1)))] → va_P D xCl (xWH k a g (xs_C_next (xs_V v25 q27.2) (xg_V_epc (xs_V v25 q27.2)))) H → va_D A (xWH k a g (xs_C_next (xs_V v25 q27.2) (xg_V_epc (xs_V v25 q27.2)))) → va_S A s.heap H locs → W p l e { frames := 3, cells := 0, slots := 0, locals := 64 } s m args below meth c H locs (0) (0) Q (F0 m 120 ls [.int v32, .int v29, .ref ((a 1))]) := by
              intro H locs ls g v32 hv32 hg hl hP hD hS
              refine lv_iadd hx hb xd_C_returnFromTrap_120 ?_
              refine xput_C_mode (v := (v29 + v32)) hx hb htg hown hK hP hD hS hg (htg _ xw_213) xd_C_returnFromTrap_121 (fun H locs hP hD hS hg => ?_)
              exact hret ((xs_C_mode (xs_C_next (xs_V v25 q27.2) (xg_V_epc (xs_V v25 q27.2))) (v29 + v32)), g) H locs ls _ ⟨(by unfold xf_C_returnFromTrap; exact (xlt_e hq1 (xlt_e hq2 (xif h3 (xlt_e hv7 (xit h10 (xlt_e hv25 (xlt_e hq27 (xlt_e hv29 (xlt_e hv32 rfl)))))))))), hg⟩ hP hD hS xd_C_returnFromTrap_124
            refine lv_if_eq (tgt := 119) hx hb xd_C_returnFromTrap_112 rfl (fun h34 => ?_) (fun h34 => ?_)
            · refine lv_iconst (v := 0) hx hb xd_C_returnFromTrap_119 (by decide) ?_
              exact hj33 H locs ls g (0 : Int32) (xit h34 rfl) hg hl hP hD hS
            · refine lv_iconst (v := 1) hx hb xd_C_returnFromTrap_115 (by decide) ?_
              refine lv_goto (tgt := 120) hx hb xd_C_returnFromTrap_116 rfl ?_
              exact hj33 H locs ls g (1 : Int32) (xif h34 rfl) hg hl hP hD hS
          refine lv_if_eq (tgt := 110) hx hb xd_C_returnFromTrap_103 rfl (fun h35 => ?_) (fun h35 => ?_)
          · refine lv_iconst (v := 0) hx hb xd_C_returnFromTrap_110 (by decide) ?_
            exact hj30 H locs ls g (0 : Int32) (xit h35 rfl) hg hl hP hD hS
          · refine lv_iconst (v := 2) hx hb xd_C_returnFromTrap_106 (by decide) ?_
            refine lv_goto (tgt := 111) hx hb xd_C_returnFromTrap_107 rfl ?_
            exact hj30 H locs ls g (2 : Int32) (xif h35 rfl) hg hl hP hD hS
        refine lv_icmp_ne (tgt := 88) hx hb xd_C_returnFromTrap_70 rfl (fun h36 => ?_) (fun h36 => ?_)
        · exact hj26 H locs ls g q2.2 (xif h36 rfl) hg hl hP hD hS
        · refine lv_aload_n hx hb xd_C_returnFromTrap_73 rfl (lv_at hl 2 rfl) ?_
          refine xget_C_controls hx hb htg hown hK hP (htg _ xw_206) xd_C_returnFromTrap_74 ?_
          refine lv_dup hx hb xd_C_returnFromTrap_77 rfl ?_
          refine xget_K_hstatus (v := (xg_K_hstatus q2.2)) hx hb htg hown hK hP (htg _ xw_107) rfl xd_C_returnFromTrap_78 ?_
          refine lv_sipush (v := (-129)) hx hb xd_C_returnFromTrap_81 (by decide) ?_
          refine lv_iand hx hb xd_C_returnFromTrap_84 ?_
          refine xput_K_hstatus (v := ((xg_K_hstatus q2.2) &&& (-129 : Int32))) hx hb htg hown hK hP hD hS hg (htg _ xw_107) xd_C_returnFromTrap_85 (fun H locs hP hD hS hg => ?_)
          exact hj26 H locs ls g (xs_K_hstatus q2.2 ((xg_K_hstatus q2.2) &&& (-129 : Int32))) (xit h36 rfl) hg hl hP hD hS
    refine lv_icmp_eq (tgt := 33) hx hb xd_C_returnFromTrap_20 rfl (fun h37 => ?_) (fun h37 => ?_)
    · refine lv_iconst (v := 1) hx hb xd_C_returnFromTrap_33 (by decide) ?_
      refine lv_goto (tgt := 38) hx hb xd_C_returnFromTrap_34 rfl ?_
      exact hj8 H locs ls g (1 : Int32) (xit h37 rfl) hg hl hP hD hS
    · refine lv_aload_n hx hb xd_C_returnFromTrap_23 rfl (lv_at hl 0 rfl) ?_
      refine lv_sipush (v := 128) hx hb xd_C_returnFromTrap_24 (by decide) ?_
      refine xcW_i (va_runV (As := [.int 128]) (rest := []) ⟨hx, hb, hml, hown, htg⟩ (c_C_isSet l D z k a g H.size q2.2 hg (128 : Int32)) (cwV 1 htg (xg_V0 xkin_C_isSet xw_618 xw_620 xsel_C_isSet xw_2) rfl rfl rfl (by decide +kernel) ⟨Nat.le_of_ble_eq_true rfl, Nat.le_of_ble_eq_true rfl⟩) ⟨xB_blind, xrecv_C hK hP, fun U hU hW => xB_mk hP hK hD hE hS (xsubW hD hA hS) hU hW⟩ rfl rfl hl.1 rfl (lv_room (Nat.le_of_ble_eq_true rfl)) xd_C_returnFromTrap_27 ⟨Nat.le_of_ble_eq_true rfl, Nat.le_of_ble_eq_true rfl⟩) hD hA hS (fun r w1 H locs hw hP hD hS => ?_)
      obtain ⟨u1, g⟩ := w1
      obtain ⟨q38, hq38⟩ : ∃ q, q = xf_C_isSet q2.2 (128 : Int32) := ⟨_, rfl⟩
      obtain ⟨e1, e2, hg⟩ := hw
      rw [← hq38] at e1
      obtain rfl : q38 = r := e1.symm
      obtain rfl : q2.2 = u1 := e2.symm
      have hP : va_P D xCl (xWH k a g q2.2) H := hP
      have hD : va_D A (xWH k a g q2.2) := hD
      have hg : xok k g q2.2 := hg
      refine lv_if_eq (tgt := 37) hx hb xd_C_returnFromTrap_30 rfl (fun h39 => ?_) (fun h39 => ?_)
      · refine lv_iconst (v := 0) hx hb xd_C_returnFromTrap_37 (by decide) ?_
        exact hj8 H locs ls g (0 : Int32) (xif h37 (xlt_e hq38 (xit h39 rfl))) hg hl hP hD hS
      · refine lv_iconst (v := 1) hx hb xd_C_returnFromTrap_33 (by decide) ?_
        refine lv_goto (tgt := 38) hx hb xd_C_returnFromTrap_34 rfl ?_
        exact hj8 H locs ls g (1 : Int32) (xif h37 (xlt_e hq38 (xif h39 rfl))) hg hl hP hD hS
  · exact hret (q2.2, g) H locs ls _ ⟨(by unfold xf_C_returnFromTrap; exact (xlt_e hq1 (xlt_e hq2 (xit h3 rfl)))), hg⟩ hP hD hS xd_C_returnFromTrap_14
theorem xm_C_returnFromTrap (u : XH) : XEs (xcH u) (xf_C_returnFromTrap u) := by unfold xf_C_returnFromTrap; exact (xlt_Es (fun q1 hq1 => (xlt_Es (fun q2 hq2 => (xit_Es ((XE_of hq2 (xm_C_mayDo u q1)).trans rfl) (xlt_Es (fun v7 hv7 => (xit_Es (xlt_Es (fun v25 hv25 => (xlt_Es (fun q27 hq27 => (xlt_Es (fun v29 hv29 => (xlt_Es (fun v32 hv32 => (xcH_C_mode.trans (xcH_C_next.trans (xcH_V.trans (XEs_of hv25 (xit_Es (xcH_K_hstatus.trans ((XE_of hq2 (xm_C_mayDo u q1)).trans rfl)) ((XE_of hq2 (xm_C_mayDo u q1)).trans rfl)))))))))))))) (xlt_Es (fun v12 hv12 => (xlt_Es (fun q14 hq14 => (xlt_Es (fun v16 hv16 => (xlt_Es (fun v19 hv19 => (xcH_C_mode.trans (xcH_C_next.trans (xcH_S.trans (XEs_of hv12 (xit_Es (xcH_K_hstatus.trans ((XE_of hq2 (xm_C_mayDo u q1)).trans rfl)) ((XE_of hq2 (xm_C_mayDo u q1)).trans rfl))))))))))))))))))))))

noncomputable def xf_H_begin (u : XH) : XH :=
  xlt (xf_C_reset u : XH) fun q1 =>
  q1
set_option maxHeartbeats 4000000 in
set_option maxRecDepth 100000 in
theorem c_H_begin (l : Launch) (D : va_G) (z : (Nat → Nat) × (Nat → Nat)) (k : ClassId × ClassId) (a : Nat → Nat) (g : XG) (sz : Nat) (u : XH) (hg : xok k g u) : Met l xy_H_begin (xk_H_begin :: lw_g) { frames := 3, cells := 0, slots := 0, locals := 65 } (va_Pc [.ref ((a 0))] (xB D (xTy k) z sz (xWH k a g u))) (va_Qv (fun q : XH × XG => q.1 = xf_H_begin u ∧ xok k q.2 q.1) (fun q t => xQ D (xTy k) (xWH k a q.2 q.1) (va_A (xWH k a g u) sz) t) (va_A (xWH k a g u) sz)) 0 0 (va_A (xWH k a g u) sz) := by
  refine xopen_v (wf := fun q : XH × XG => xWH k a q.2 q.1) (lv := [(0, .ref ((a 0)))]) (by decide) rfl (Nat.le_of_ble_eq_true rfl) ?_
  intro p e s m args below meth c Q ls A H locs hx hb hml htg hown hin hK hP hD hE hS hA hl hret
  refine lv_aload_n hx hb xd_H_begin_0 rfl (lv_at hl 0 rfl) ?_
  refine xget_H_core hx hb htg hown hK hP (htg _ xw_277) xd_H_begin_1 ?_
  refine xcW_v (va_runV (As := []) (rest := []) ⟨hx, hb, hml, hown, htg⟩ (c_C_reset l D z k a g H.size u hg) (cwV 0 htg (xg_V0 xkin_C_reset xw_256 xw_257 xsel_C_reset xw_2) rfl rfl rfl (by decide +kernel) ⟨Nat.le_of_ble_eq_true rfl, Nat.le_of_ble_eq_true rfl⟩) ⟨xB_blind, xrecv_C hK hP, fun U hU hW => xB_mk hP hK hD hE hS (xsubW hD hA hS) hU hW⟩ rfl rfl hl.1 rfl (lv_room (Nat.le_of_ble_eq_true rfl)) xd_H_begin_4 ⟨Nat.le_of_ble_eq_true rfl, Nat.le_of_ble_eq_true rfl⟩) hD hA hS (fun w1 H locs hw hP hD hS => ?_)
  obtain ⟨u1, g⟩ := w1
  obtain ⟨q1, hq1⟩ : ∃ q, q = xf_C_reset u := ⟨_, rfl⟩
  obtain ⟨e2, hg⟩ := hw
  rw [← hq1] at e2
  obtain rfl : q1 = u1 := e2.symm
  have hP : va_P D xCl (xWH k a g q1) H := hP
  have hD : va_D A (xWH k a g q1) := hD
  have hg : xok k g q1 := hg
  exact hret (q1, g) H locs ls _ ⟨(by unfold xf_H_begin; exact (xlt_e hq1 rfl)), hg⟩ hP hD hS xd_H_begin_7

noncomputable def xf_H_word (u : XH) (p0 : Int32) : Int32 × XH :=
  if p0 < 0 then
    (0, u)
  else
    if 262144 ≤ p0 then
      (0, u)
    else
      if (p0 &&& (3 : Int32)) = 0 then
        xlt (xf_M_readWord 64 (xg_M u).1 p0 : Int32 × XM1) fun q5 =>
        (q5.1, (xs_M1 u q5.2))
      else
        (0, u)
set_option maxHeartbeats 4000000 in
set_option maxRecDepth 100000 in
theorem c_H_word (l : Launch) (D : va_G) (z : (Nat → Nat) × (Nat → Nat)) (k : ClassId × ClassId) (a : Nat → Nat) (g : XG) (sz : Nat) (u : XH) (hg : xok k g u) (p0 : Int32) : Met l xy_H_word (xk_H_word :: lw_g) { frames := 1, cells := 0, slots := 0, locals := 23 } (va_Pc [.ref ((a 0)), .int p0] (xB D (xTy k) z sz (xWH k a g u))) (va_Qi (fun r (q : XH × XG) => (r, q.1) = xf_H_word u p0 ∧ xok k q.2 q.1) (fun q t => xQ D (xTy k) (xWH k a q.2 q.1) (va_A (xWH k a g u) sz) t) (va_A (xWH k a g u) sz)) 0 0 (va_A (xWH k a g u) sz) := by
  refine xopen_i (wf := fun q : XH × XG => xWH k a q.2 q.1) (lv := [(0, .ref ((a 0))), (1, .int p0)]) (by decide) rfl (Nat.le_of_ble_eq_true rfl) ?_
  intro p e s m args below meth c Q ls A H locs hx hb hml htg hown hin hK hP hD hE hS hA hl hret
  refine lv_iload_n hx hb xd_H_word_0 rfl (lv_at hl 1 rfl) ?_
  refine lv_if_lt (tgt := 16) hx hb xd_H_word_1 rfl (fun h1 => ?_) (fun h1 => ?_)
  · refine lv_iconst (v := 0) hx hb xd_H_word_16 (by decide) ?_
    exact hret _ (u, g) H locs ls _ ⟨(by unfold xf_H_word; exact (xit h1 rfl)), hg⟩ hP hD hS xd_H_word_17
  · refine lv_iload_n hx hb xd_H_word_4 rfl (lv_at hl 1 rfl) ?_
    refine lv_ldc (v := 262144) hx hb hown (htg _ xw_308) xd_H_word_5 ?_
    refine lv_icmp_ge (tgt := 16) hx hb xd_H_word_7 rfl (fun h2 => ?_) (fun h2 => ?_)
    · refine lv_iconst (v := 0) hx hb xd_H_word_16 (by decide) ?_
      exact hret _ (u, g) H locs ls _ ⟨(by unfold xf_H_word; exact (xif h1 (xit h2 rfl))), hg⟩ hP hD hS xd_H_word_17
    · refine lv_iload_n hx hb xd_H_word_10 rfl (lv_at hl 1 rfl) ?_
      refine lv_iconst (v := 3) hx hb xd_H_word_11 (by decide) ?_
      refine lv_iand hx hb xd_H_word_12 ?_
      refine lv_if_eq (tgt := 18) hx hb xd_H_word_13 rfl (fun h3 => ?_) (fun h3 => ?_)
      · refine lv_aload_n hx hb xd_H_word_18 rfl (lv_at hl 0 rfl) ?_
        refine xget_H_core hx hb htg hown hK hP (htg _ xw_277) xd_H_word_19 ?_
        refine xget_C_memory hx hb htg hown hK hP (htg _ xw_205) xd_H_word_22 ?_
        refine lv_iload_n hx hb xd_H_word_25 rfl (lv_at hl 1 rfl) ?_
        obtain ⟨q5, hq5⟩ : ∃ q, q = xf_M_readWord 64 (xg_M u).1 p0 := ⟨_, rfl⟩
        refine xcM_i hq5 (va_runV (As := [.int p0]) (rest := []) ⟨hx, hb, hml, hown, htg⟩ (c_M_readWord l D z k H.size (a 8) (a 10) 64 (by decide) g.1 (xg_M u).1 hg.1 p0) (cwV 1 htg (xg_V0 xkin_M_readWord xw_309 xw_310 xsel_M_readWord xw_3) rfl rfl rfl (by decide +kernel) ⟨Nat.le_of_ble_eq_true rfl, Nat.le_of_ble_eq_true rfl⟩) ⟨xB_blind, xrecv_M hK hP, fun U hU hW => xpre_M hP hK hD hE hS hA hU hW⟩ rfl rfl hl.1 rfl (lv_room (Nat.le_of_ble_eq_true rfl)) xd_H_word_26 ⟨Nat.le_of_ble_eq_true rfl, Nat.le_of_ble_eq_true rfl⟩) hP hD hA hS hg (fun g H locs hP hD hS hg => ?_)
        exact hret _ ((xs_M1 u q5.2), g) H locs ls _ ⟨(by unfold xf_H_word; exact (xif h1 (xif h2 (xit h3 (xlt_e hq5 rfl))))), hg⟩ hP hD hS xd_H_word_29
      · refine lv_iconst (v := 0) hx hb xd_H_word_16 (by decide) ?_
        exact hret _ (u, g) H locs ls _ ⟨(by unfold xf_H_word; exact (xif h1 (xif h2 (xif h3 rfl)))), hg⟩ hP hD hS xd_H_word_17
theorem xm_H_word (u : XH) (p0 : Int32) : XE (xcH u) (xf_H_word u p0) := by unfold xf_H_word; exact (xit_E rfl (xit_E rfl (xit_E (xlt_E (fun q5 hq5 => ((xcH_rd hq5).trans rfl))) rfl)))

noncomputable def xf_H_setRegister (u : XH) (p0 : Int32) (p1 : Int32) : Int32 × XH :=
  if p0 < 0 then
    (0, u)
  else
    if p0 < 32 then
      xlt (xf_C_put u p0 p1 : XH) fun q3 =>
      (((xg_x u) p0.toNatClampNeg), q3)
    else
      (0, u)
set_option maxHeartbeats 4000000 in
set_option maxRecDepth 100000 in
theorem c_H_setRegister (l : Launch) (D : va_G) (z : (Nat → Nat) × (Nat → Nat)) (k : ClassId × ClassId) (a : Nat → Nat) (g : XG) (sz : Nat) (u : XH) (hg : xok k g u) (p0 : Int32) (p1 : Int32) : Met l xy_H_setRegister (xk_H_setRegister :: lw_g) { frames := 1, cells := 0, slots := 0, locals := 22 } (va_Pc [.ref ((a 0)), .int p0, .int p1] (xB D (xTy k) z sz (xWH k a g u))) (va_Qi (fun r (q : XH × XG) => (r, q.1) = xf_H_setRegister u p0 p1 ∧ xok k q.2 q.1) (fun q t => xQ D (xTy k) (xWH k a q.2 q.1) (va_A (xWH k a g u) sz) t) (va_A (xWH k a g u) sz)) 0 0 (va_A (xWH k a g u) sz) := by
  refine xopen_i (wf := fun q : XH × XG => xWH k a q.2 q.1) (lv := [(0, .ref ((a 0))), (1, .int p0), (2, .int p1)]) (by decide) rfl (Nat.le_of_ble_eq_true rfl) ?_
  intro p e s m args below meth c Q ls A H locs hx hb hml htg hown hin hK hP hD hE hS hA hl hret
  refine lv_iload_n hx hb xd_H_setRegister_0 rfl (lv_at hl 1 rfl) ?_
  refine lv_if_lt (tgt := 10) hx hb xd_H_setRegister_1 rfl (fun h1 => ?_) (fun h1 => ?_)
  · refine lv_iconst (v := 0) hx hb xd_H_setRegister_10 (by decide) ?_
    exact hret _ (u, g) H locs ls _ ⟨(by unfold xf_H_setRegister; exact (xit h1 rfl)), hg⟩ hP hD hS xd_H_setRegister_11
  · refine lv_iload_n hx hb xd_H_setRegister_4 rfl (lv_at hl 1 rfl) ?_
    refine lv_bipush (v := 32) hx hb xd_H_setRegister_5 (by decide) ?_
    refine lv_icmp_lt (tgt := 12) hx hb xd_H_setRegister_7 rfl (fun h2 => ?_) (fun h2 => ?_)
    · refine lv_aload_n hx hb xd_H_setRegister_12 rfl (lv_at hl 0 rfl) ?_
      refine xget_H_core hx hb htg hown hK hP (htg _ xw_277) xd_H_setRegister_13 ?_
      refine xget_C_x hx hb htg hown hK hP (htg _ xw_200) xd_H_setRegister_16 ?_
      refine lv_iload_n hx hb xd_H_setRegister_19 rfl (lv_at hl 1 rfl) ?_
      refine xald_x (f := (xg_x u)) hx hb hK hP (xin_lt2 h1 h2) rfl xd_H_setRegister_20 ?_
      refine lv_istore_n (lv' := [(3, .int (((xg_x u) p0.toNatClampNeg))), (0, .ref ((a 0))), (1, .int p0), (2, .int p1)]) hx hb xd_H_setRegister_21 rfl hl (by decide) rfl (fun ls hl => ?_)
      refine lv_aload_n hx hb xd_H_setRegister_22 rfl (lv_at hl 1 rfl) ?_
      refine xget_H_core hx hb htg hown hK hP (htg _ xw_277) xd_H_setRegister_23 ?_
      refine lv_iload_n hx hb xd_H_setRegister_26 rfl (lv_at hl 2 rfl) ?_
      refine lv_iload_n hx hb xd_H_setRegister_27 rfl (lv_at hl 3 rfl) ?_
      refine xcW_v (va_runV (As := [.int p0, .int p1]) (rest := []) ⟨hx, hb, hml, hown, htg⟩ (c_C_put l D z k a g H.size u hg p0 p1 (xin_lt2 h1 h2)) (cwV 2 htg (xg_V0 xkin_C_put xw_321 xw_322 xsel_C_put xw_2) rfl rfl rfl (by decide +kernel) ⟨Nat.le_of_ble_eq_true rfl, Nat.le_of_ble_eq_true rfl⟩) ⟨xB_blind, xrecv_C hK hP, fun U hU hW => xB_mk hP hK hD hE hS (xsubW hD hA hS) hU hW⟩ rfl rfl hl.1 rfl (lv_room (Nat.le_of_ble_eq_true rfl)) xd_H_setRegister_28 ⟨Nat.le_of_ble_eq_true rfl, Nat.le_of_ble_eq_true rfl⟩) hD hA hS (fun w1 H locs hw hP hD hS => ?_)
      obtain ⟨u1, g⟩ := w1
      obtain ⟨q3, hq3⟩ : ∃ q, q = xf_C_put u p0 p1 := ⟨_, rfl⟩
      obtain ⟨e2, hg⟩ := hw
      rw [← hq3] at e2
      obtain rfl : q3 = u1 := e2.symm
      have hP : va_P D xCl (xWH k a g q3) H := hP
      have hD : va_D A (xWH k a g q3) := hD
      have hg : xok k g q3 := hg
      refine lv_iload_n hx hb xd_H_setRegister_31 rfl (lv_at hl 0 rfl) ?_
      exact hret _ (q3, g) H locs ls _ ⟨(by unfold xf_H_setRegister; exact (xif h1 (xit h2 (xlt_e hq3 rfl)))), hg⟩ hP hD hS xd_H_setRegister_32
    · refine lv_iconst (v := 0) hx hb xd_H_setRegister_10 (by decide) ?_
      exact hret _ (u, g) H locs ls _ ⟨(by unfold xf_H_setRegister; exact (xif h1 (xif h2 rfl))), hg⟩ hP hD hS xd_H_setRegister_11
theorem xm_H_setRegister (u : XH) (p0 : Int32) (p1 : Int32) : XE (xcH u) (xf_H_setRegister u p0 p1) := by unfold xf_H_setRegister; exact (xit_E rfl (xit_E (xlt_E (fun q3 hq3 => ((XEs_of hq3 (xm_C_put u p0 p1)).trans rfl))) rfl))

noncomputable def xf_H_register (u : XH) (p0 : Int32) : Int32 :=
  xlt (if p0 < 0 then (0) else (if p0 < 32 then (((xg_x u) p0.toNatClampNeg)) else (0)) : Int32) fun v3 =>
  v3
set_option maxHeartbeats 4000000 in
set_option maxRecDepth 100000 in
theorem c_H_register (l : Launch) (D : va_G) (z : (Nat → Nat) × (Nat → Nat)) (k : ClassId × ClassId) (a : Nat → Nat) (g : XG) (sz : Nat) (u : XH) (hg : xok k g u) (p0 : Int32) : Met l xy_H_register (xk_H_register :: lw_g) { frames := 0, cells := 0, slots := 0, locals := 0 } (va_Pc [.ref ((a 0)), .int p0] (xB D (xTy k) z sz (xWH k a g u))) (va_Qi (fun r (q : XH × XG) => r = xf_H_register u p0 ∧ q.1 = u ∧ xok k q.2 q.1) (fun q t => xQ D (xTy k) (xWH k a q.2 q.1) (va_A (xWH k a g u) sz) t) (va_A (xWH k a g u) sz)) 0 0 (va_A (xWH k a g u) sz) := by
  refine xopen_i (wf := fun q : XH × XG => xWH k a q.2 q.1) (lv := [(0, .ref ((a 0))), (1, .int p0)]) (by decide) rfl (Nat.le_of_ble_eq_true rfl) ?_
  intro p e s m args below meth c Q ls A H locs hx hb hml htg hown hin hK hP hD hE hS hA hl hret
  refine lv_iload_n hx hb xd_H_register_0 rfl (lv_at hl 1 rfl) ?_
  have hj4 : ∀ (H : Heap) (locs : List Loc) (ls : Array Slot) (g : XG) (v3 : Int32), v3 = (if p0 < 0 then (0) else (if p0 < 32 then (((xg_x u) p0.toNatClampNeg)) else (0))) → xok k g u → lv_has ls 2 [(0, .ref ((a 0))), (1, .int p0)] → va_P D xCl (xWH k a g u) H → va_D A (xWH k a g u) → va_S A s.heap H locs → W p l e { frames := 0, cells := 0, slots := 0, locals := 0 } s m args below meth c H locs (0) (0) Q (F0 m 23 ls [.int v3]) := by
    intro H locs ls g v3 hv3 hg hl hP hD hS
    exact hret _ (u, g) H locs ls _ ⟨(by unfold xf_H_register; exact (xlt_e hv3 rfl)), rfl, hg⟩ hP hD hS xd_H_register_23
  refine lv_if_lt (tgt := 10) hx hb xd_H_register_1 rfl (fun h5 => ?_) (fun h5 => ?_)
  · refine lv_iconst (v := 0) hx hb xd_H_register_10 (by decide) ?_
    refine lv_goto (tgt := 23) hx hb xd_H_register_11 rfl ?_
    exact hj4 H locs ls g (0 : Int32) (xit h5 rfl) hg hl hP hD hS
  · refine lv_iload_n hx hb xd_H_register_4 rfl (lv_at hl 1 rfl) ?_
    refine lv_bipush (v := 32) hx hb xd_H_register_5 (by decide) ?_
    refine lv_icmp_lt (tgt := 14) hx hb xd_H_register_7 rfl (fun h6 => ?_) (fun h6 => ?_)
    · refine lv_aload_n hx hb xd_H_register_14 rfl (lv_at hl 0 rfl) ?_
      refine xget_H_core hx hb htg hown hK hP (htg _ xw_277) xd_H_register_15 ?_
      refine xget_C_x hx hb htg hown hK hP (htg _ xw_200) xd_H_register_18 ?_
      refine lv_iload_n hx hb xd_H_register_21 rfl (lv_at hl 1 rfl) ?_
      refine xald_x (f := (xg_x u)) hx hb hK hP (xin_lt2 h5 h6) rfl xd_H_register_22 ?_
      exact hj4 H locs ls g ((xg_x u) p0.toNatClampNeg) (xif h5 (xit h6 rfl)) hg hl hP hD hS
    · refine lv_iconst (v := 0) hx hb xd_H_register_10 (by decide) ?_
      refine lv_goto (tgt := 23) hx hb xd_H_register_11 rfl ?_
      exact hj4 H locs ls g (0 : Int32) (xif h5 (xif h6 rfl)) hg hl hP hD hS

noncomputable def xf_H_place (u : XH) (p0 : Int32) (p1 : Int32) : Int32 × XH :=
  if (p0 &&& (3 : Int32)) = 0 then
    if p1 < 0 then
      ((-1), u)
    else
      if p1 ≤ 3 then
        ((xg_C_mode u), (xs_C_mode (xs_C_pc u p0) p1))
      else
        ((-1), u)
  else
    ((-1), u)
set_option maxHeartbeats 4000000 in
set_option maxRecDepth 100000 in
theorem c_H_place (l : Launch) (D : va_G) (z : (Nat → Nat) × (Nat → Nat)) (k : ClassId × ClassId) (a : Nat → Nat) (g : XG) (sz : Nat) (u : XH) (hg : xok k g u) (p0 : Int32) (p1 : Int32) : Met l xy_H_place (xk_H_place :: lw_g) { frames := 0, cells := 0, slots := 0, locals := 0 } (va_Pc [.ref ((a 0)), .int p0, .int p1] (xB D (xTy k) z sz (xWH k a g u))) (va_Qi (fun r (q : XH × XG) => (r, q.1) = xf_H_place u p0 p1 ∧ xok k q.2 q.1) (fun q t => xQ D (xTy k) (xWH k a q.2 q.1) (va_A (xWH k a g u) sz) t) (va_A (xWH k a g u) sz)) 0 0 (va_A (xWH k a g u) sz) := by
  refine xopen_i (wf := fun q : XH × XG => xWH k a q.2 q.1) (lv := [(0, .ref ((a 0))), (1, .int p0), (2, .int p1)]) (by decide) rfl (Nat.le_of_ble_eq_true rfl) ?_
  intro p e s m args below meth c Q ls A H locs hx hb hml htg hown hin hK hP hD hE hS hA hl hret
  refine lv_iload_n hx hb xd_H_place_0 rfl (lv_at hl 1 rfl) ?_
  refine lv_iconst (v := 3) hx hb xd_H_place_1 (by decide) ?_
  refine lv_iand hx hb xd_H_place_2 ?_
  refine lv_if_ne (tgt := 15) hx hb xd_H_place_3 rfl (fun h1 => ?_) (fun h1 => ?_)
  · refine lv_iconst (v := (-1)) hx hb xd_H_place_15 (by decide) ?_
    exact hret _ (u, g) H locs ls _ ⟨(by unfold xf_H_place; exact (xif h1 rfl)), hg⟩ hP hD hS xd_H_place_16
  · refine lv_iload_n hx hb xd_H_place_6 rfl (lv_at hl 2 rfl) ?_
    refine lv_if_lt (tgt := 15) hx hb xd_H_place_7 rfl (fun h2 => ?_) (fun h2 => ?_)
    · refine lv_iconst (v := (-1)) hx hb xd_H_place_15 (by decide) ?_
      exact hret _ (u, g) H locs ls _ ⟨(by unfold xf_H_place; exact (xit h1 (xit h2 rfl))), hg⟩ hP hD hS xd_H_place_16
    · refine lv_iload_n hx hb xd_H_place_10 rfl (lv_at hl 2 rfl) ?_
      refine lv_iconst (v := 3) hx hb xd_H_place_11 (by decide) ?_
      refine lv_icmp_le (tgt := 17) hx hb xd_H_place_12 rfl (fun h3 => ?_) (fun h3 => ?_)
      · refine lv_aload_n hx hb xd_H_place_17 rfl (lv_at hl 0 rfl) ?_
        refine xget_H_core hx hb htg hown hK hP (htg _ xw_277) xd_H_place_18 ?_
        refine xget_C_mode (v := (xg_C_mode u)) hx hb htg hown hK hP (htg _ xw_214) rfl xd_H_place_21 ?_
        refine lv_istore_n (lv' := [(3, .int ((xg_C_mode u))), (0, .ref ((a 0))), (1, .int p0), (2, .int p1)]) hx hb xd_H_place_24 rfl hl (by decide) rfl (fun ls hl => ?_)
        refine lv_aload_n hx hb xd_H_place_25 rfl (lv_at hl 1 rfl) ?_
        refine xget_H_core hx hb htg hown hK hP (htg _ xw_277) xd_H_place_26 ?_
        refine lv_iload_n hx hb xd_H_place_29 rfl (lv_at hl 2 rfl) ?_
        refine xput_C_pc (v := p0) hx hb htg hown hK hP hD hS hg (htg _ xw_212) xd_H_place_30 (fun H locs hP hD hS hg => ?_)
        refine lv_aload_n hx hb xd_H_place_33 rfl (lv_at hl 1 rfl) ?_
        refine xget_H_core hx hb htg hown hK hP (htg _ xw_277) xd_H_place_34 ?_
        refine lv_iload_n hx hb xd_H_place_37 rfl (lv_at hl 3 rfl) ?_
        refine xput_C_mode (v := p1) hx hb htg hown hK hP hD hS hg (htg _ xw_214) xd_H_place_38 (fun H locs hP hD hS hg => ?_)
        refine lv_iload_n hx hb xd_H_place_41 rfl (lv_at hl 0 rfl) ?_
        exact hret _ ((xs_C_mode (xs_C_pc u p0) p1), g) H locs ls _ ⟨(by unfold xf_H_place; exact (xit h1 (xif h2 (xit h3 rfl)))), hg⟩ hP hD hS xd_H_place_42
      · refine lv_iconst (v := (-1)) hx hb xd_H_place_15 (by decide) ?_
        exact hret _ (u, g) H locs ls _ ⟨(by unfold xf_H_place; exact (xit h1 (xif h2 (xif h3 rfl)))), hg⟩ hP hD hS xd_H_place_16
theorem xm_H_place (u : XH) (p0 : Int32) (p1 : Int32) : XE (xcH u) (xf_H_place u p0 p1) := by unfold xf_H_place; exact (xit_E (xit_E rfl (xit_E (xcH_C_mode.trans (xcH_C_pc.trans rfl)) rfl)) rfl)

noncomputable def xf_H_line (u : XH) (p0 : Bool) : Int32 × XH :=
  ((xz (xg_K_lineOn u)), (xs_K_lineOn u p0))
set_option maxHeartbeats 4000000 in
set_option maxRecDepth 100000 in
theorem c_H_line (l : Launch) (D : va_G) (z : (Nat → Nat) × (Nat → Nat)) (k : ClassId × ClassId) (a : Nat → Nat) (g : XG) (sz : Nat) (u : XH) (hg : xok k g u) (p0 : Bool) : Met l xy_H_line (xk_H_line :: lw_g) { frames := 0, cells := 0, slots := 0, locals := 0 } (va_Pc [.ref ((a 0)), .int ((xz p0))] (xB D (xTy k) z sz (xWH k a g u))) (va_Qi (fun r (q : XH × XG) => (r, q.1) = xf_H_line u p0 ∧ xok k q.2 q.1) (fun q t => xQ D (xTy k) (xWH k a q.2 q.1) (va_A (xWH k a g u) sz) t) (va_A (xWH k a g u) sz)) 0 0 (va_A (xWH k a g u) sz) := by
  refine xopen_z (wf := fun q : XH × XG => xWH k a q.2 q.1) (lv := [(0, .ref ((a 0))), (1, .int ((xz p0)))]) (by decide) rfl (Nat.le_of_ble_eq_true rfl) ?_
  intro p e s m args below meth c Q ls A H locs hx hb hml htg hown hin hK hP hD hE hS hA hl hret
  refine lv_aload_n hx hb xd_H_line_0 rfl (lv_at hl 0 rfl) ?_
  refine xget_H_core hx hb htg hown hK hP (htg _ xw_277) xd_H_line_1 ?_
  refine xget_C_controls hx hb htg hown hK hP (htg _ xw_207) xd_H_line_4 ?_
  refine xget_K_lineOn (v := (xg_K_lineOn u)) hx hb htg hown hK hP (htg _ xw_124) rfl xd_H_line_7 ?_
  refine lv_istore_n (lv' := [(2, .int ((xz (xg_K_lineOn u)))), (0, .ref ((a 0))), (1, .int ((xz p0)))]) hx hb xd_H_line_10 rfl hl (by decide) rfl (fun ls hl => ?_)
  refine lv_aload_n hx hb xd_H_line_11 rfl (lv_at hl 1 rfl) ?_
  refine xget_H_core hx hb htg hown hK hP (htg _ xw_277) xd_H_line_12 ?_
  refine xget_C_controls hx hb htg hown hK hP (htg _ xw_207) xd_H_line_15 ?_
  refine lv_iload_n hx hb xd_H_line_18 rfl (lv_at hl 2 rfl) ?_
  refine xput_K_lineOn (v := p0) hx hb htg hown hK hP hD hS hg (htg _ xw_124) xd_H_line_19 (fun H locs hP hD hS hg => ?_)
  refine lv_iload_n hx hb xd_H_line_22 rfl (lv_at hl 0 rfl) ?_
  exact hret _ ((xs_K_lineOn u p0), g) H locs ls _ (xz_n _) ⟨(by unfold xf_H_line; exact rfl), hg⟩ hP hD hS xd_H_line_23
theorem xm_H_line (u : XH) (p0 : Bool) : XE (xcH u) (xf_H_line u p0) := by unfold xf_H_line; exact (xcH_K_lineOn.trans rfl)
theorem xt01_H_line (u : XH) (p0 : Bool) : X01p (xf_H_line u p0) := by unfold xf_H_line; exact (xz01 _)

noncomputable def xf_H_count (u : XH) (p0 : Int32) : Int32 :=
  if p0 = 0 then
    (xg_C_mode u)
  else
    if p0 = 1 then
      (xg_C_pc u)
    else
      if p0 = 2 then
        (Int64.toInt32 (xg_K_time u))
      else
        if p0 = 3 then
          (Int64.toInt32 (xul (xg_K_time u) (32 : Int32)))
        else
          if p0 = 4 then
            (xg_C_trapsToS u)
          else
            if p0 = 5 then
              (xg_C_trapsToVs u)
            else
              if p0 = 6 then
                (xg_C_interrupts u)
              else
                if p0 = 7 then
                  (xg_C_consoleSize u)
                else
                  if p0 = 8 then
                    xlt (if (xz (xg_C_off u)) = 0 then (0) else (1) : Int32) fun v11 =>
                    v11
                  else
                    if p0 = 9 then
                      (Int64.toInt32 (xg_K_alarm u))
                    else
                      if p0 = 10 then
                        (Int64.toInt32 (xul (xg_K_alarm u) (32 : Int32)))
                      else
                        (-1)
set_option maxHeartbeats 4000000 in
set_option maxRecDepth 100000 in
theorem c_H_count (l : Launch) (D : va_G) (z : (Nat → Nat) × (Nat → Nat)) (k : ClassId × ClassId) (a : Nat → Nat) (g : XG) (sz : Nat) (u : XH) (hg : xok k g u) (p0 : Int32) : Met l xy_H_count (xk_H_count :: lw_g) { frames := 0, cells := 0, slots := 0, locals := 0 } (va_Pc [.ref ((a 0)), .int p0] (xB D (xTy k) z sz (xWH k a g u))) (va_Qi (fun r (q : XH × XG) => r = xf_H_count u p0 ∧ q.1 = u ∧ xok k q.2 q.1) (fun q t => xQ D (xTy k) (xWH k a q.2 q.1) (va_A (xWH k a g u) sz) t) (va_A (xWH k a g u) sz)) 0 0 (va_A (xWH k a g u) sz) := by
  refine xopen_i (wf := fun q : XH × XG => xWH k a q.2 q.1) (lv := [(0, .ref ((a 0))), (1, .int p0)]) (by decide) rfl (Nat.le_of_ble_eq_true rfl) ?_
  intro p e s m args below meth c Q ls A H locs hx hb hml htg hown hin hK hP hD hE hS hA hl hret
  refine lv_iload_n hx hb xd_H_count_0 rfl (lv_at hl 1 rfl) ?_
  refine (Decidable.em (p0 = 0)).elim (fun h1 => ?_) (fun h1 => ?_)
  · refine lv_tableIn (tgt := 60) (off := 59) hx hb xd_H_count_1 (by rw [h1]; decide) (by rw [h1]; decide) (by rw [h1]; decide +kernel) rfl ?_
    refine lv_aload_n hx hb xd_H_count_60 rfl (lv_at hl 0 rfl) ?_
    refine xget_H_core hx hb htg hown hK hP (htg _ xw_277) xd_H_count_61 ?_
    refine xget_C_mode (v := (xg_C_mode u)) hx hb htg hown hK hP (htg _ xw_214) rfl xd_H_count_64 ?_
    exact hret _ (u, g) H locs ls _ ⟨(by unfold xf_H_count; exact (xit h1 rfl)), rfl, hg⟩ hP hD hS xd_H_count_67
  · refine (Decidable.em (p0 = 1)).elim (fun h2 => ?_) (fun h2 => ?_)
    · refine lv_tableIn (tgt := 68) (off := 67) hx hb xd_H_count_1 (by rw [h2]; decide) (by rw [h2]; decide) (by rw [h2]; decide +kernel) rfl ?_
      refine lv_aload_n hx hb xd_H_count_68 rfl (lv_at hl 0 rfl) ?_
      refine xget_H_core hx hb htg hown hK hP (htg _ xw_277) xd_H_count_69 ?_
      refine xget_C_pc (v := (xg_C_pc u)) hx hb htg hown hK hP (htg _ xw_212) rfl xd_H_count_72 ?_
      exact hret _ (u, g) H locs ls _ ⟨(by unfold xf_H_count; exact (xif h1 (xit h2 rfl))), rfl, hg⟩ hP hD hS xd_H_count_75
    · refine (Decidable.em (p0 = 2)).elim (fun h3 => ?_) (fun h3 => ?_)
      · refine lv_tableIn (tgt := 76) (off := 75) hx hb xd_H_count_1 (by rw [h3]; decide) (by rw [h3]; decide) (by rw [h3]; decide +kernel) rfl ?_
        refine lv_aload_n hx hb xd_H_count_76 rfl (lv_at hl 0 rfl) ?_
        refine xget_H_core hx hb htg hown hK hP (htg _ xw_277) xd_H_count_77 ?_
        refine xget_C_controls hx hb htg hown hK hP (htg _ xw_207) xd_H_count_80 ?_
        refine xget_K_time (v := (xg_K_time u)) hx hb htg hown hK hP (htg _ xw_119) rfl xd_H_count_83 ?_
        refine lv_l2i (v := (Int64.toInt32 (xg_K_time u))) hx hb xd_H_count_86 rfl ?_
        exact hret _ (u, g) H locs ls _ ⟨(by unfold xf_H_count; exact (xif h1 (xif h2 (xit h3 rfl)))), rfl, hg⟩ hP hD hS xd_H_count_87
      · refine (Decidable.em (p0 = 3)).elim (fun h4 => ?_) (fun h4 => ?_)
        · refine lv_tableIn (tgt := 88) (off := 87) hx hb xd_H_count_1 (by rw [h4]; decide) (by rw [h4]; decide) (by rw [h4]; decide +kernel) rfl ?_
          refine lv_aload_n hx hb xd_H_count_88 rfl (lv_at hl 0 rfl) ?_
          refine xget_H_core hx hb htg hown hK hP (htg _ xw_277) xd_H_count_89 ?_
          refine xget_C_controls hx hb htg hown hK hP (htg _ xw_207) xd_H_count_92 ?_
          refine xget_K_time (v := (xg_K_time u)) hx hb htg hown hK hP (htg _ xw_119) rfl xd_H_count_95 ?_
          refine lv_bipush (v := 32) hx hb xd_H_count_98 (by decide) ?_
          refine lv_lushr (v := (xul (xg_K_time u) (32 : Int32))) hx hb xd_H_count_100 rfl ?_
          refine lv_l2i (v := (Int64.toInt32 (xul (xg_K_time u) (32 : Int32)))) hx hb xd_H_count_101 rfl ?_
          exact hret _ (u, g) H locs ls _ ⟨(by unfold xf_H_count; exact (xif h1 (xif h2 (xif h3 (xit h4 rfl))))), rfl, hg⟩ hP hD hS xd_H_count_102
        · refine (Decidable.em (p0 = 4)).elim (fun h5 => ?_) (fun h5 => ?_)
          · refine lv_tableIn (tgt := 103) (off := 102) hx hb xd_H_count_1 (by rw [h5]; decide) (by rw [h5]; decide) (by rw [h5]; decide +kernel) rfl ?_
            refine lv_aload_n hx hb xd_H_count_103 rfl (lv_at hl 0 rfl) ?_
            refine xget_H_core hx hb htg hown hK hP (htg _ xw_277) xd_H_count_104 ?_
            refine xget_C_trapsToS (v := (xg_C_trapsToS u)) hx hb htg hown hK hP (htg _ xw_218) rfl xd_H_count_107 ?_
            exact hret _ (u, g) H locs ls _ ⟨(by unfold xf_H_count; exact (xif h1 (xif h2 (xif h3 (xif h4 (xit h5 rfl)))))), rfl, hg⟩ hP hD hS xd_H_count_110
          · refine (Decidable.em (p0 = 5)).elim (fun h6 => ?_) (fun h6 => ?_)
            · refine lv_tableIn (tgt := 111) (off := 110) hx hb xd_H_count_1 (by rw [h6]; decide) (by rw [h6]; decide) (by rw [h6]; decide +kernel) rfl ?_
              refine lv_aload_n hx hb xd_H_count_111 rfl (lv_at hl 0 rfl) ?_
              refine xget_H_core hx hb htg hown hK hP (htg _ xw_277) xd_H_count_112 ?_
              refine xget_C_trapsToVs (v := (xg_C_trapsToVs u)) hx hb htg hown hK hP (htg _ xw_220) rfl xd_H_count_115 ?_
              exact hret _ (u, g) H locs ls _ ⟨(by unfold xf_H_count; exact (xif h1 (xif h2 (xif h3 (xif h4 (xif h5 (xit h6 rfl))))))), rfl, hg⟩ hP hD hS xd_H_count_118
            · refine (Decidable.em (p0 = 6)).elim (fun h7 => ?_) (fun h7 => ?_)
              · refine lv_tableIn (tgt := 119) (off := 118) hx hb xd_H_count_1 (by rw [h7]; decide) (by rw [h7]; decide) (by rw [h7]; decide +kernel) rfl ?_
                refine lv_aload_n hx hb xd_H_count_119 rfl (lv_at hl 0 rfl) ?_
                refine xget_H_core hx hb htg hown hK hP (htg _ xw_277) xd_H_count_120 ?_
                refine xget_C_interrupts (v := (xg_C_interrupts u)) hx hb htg hown hK hP (htg _ xw_222) rfl xd_H_count_123 ?_
                exact hret _ (u, g) H locs ls _ ⟨(by unfold xf_H_count; exact (xif h1 (xif h2 (xif h3 (xif h4 (xif h5 (xif h6 (xit h7 rfl)))))))), rfl, hg⟩ hP hD hS xd_H_count_126
              · refine (Decidable.em (p0 = 7)).elim (fun h8 => ?_) (fun h8 => ?_)
                · refine lv_tableIn (tgt := 127) (off := 126) hx hb xd_H_count_1 (by rw [h8]; decide) (by rw [h8]; decide) (by rw [h8]; decide +kernel) rfl ?_
                  refine lv_aload_n hx hb xd_H_count_127 rfl (lv_at hl 0 rfl) ?_
                  refine xget_H_core hx hb htg hown hK hP (htg _ xw_277) xd_H_count_128 ?_
                  refine xget_C_consoleSize (v := (xg_C_consoleSize u)) hx hb htg hown hK hP (htg _ xw_210) rfl xd_H_count_131 ?_
                  exact hret _ (u, g) H locs ls _ ⟨(by unfold xf_H_count; exact (xif h1 (xif h2 (xif h3 (xif h4 (xif h5 (xif h6 (xif h7 (xit h8 rfl))))))))), rfl, hg⟩ hP hD hS xd_H_count_134
                · refine (Decidable.em (p0 = 8)).elim (fun h9 => ?_) (fun h9 => ?_)
                  · refine lv_tableIn (tgt := 135) (off := 134) hx hb xd_H_count_1 (by rw [h9]; decide) (by rw [h9]; decide) (by rw [h9]; decide +kernel) rfl ?_
                    refine lv_aload_n hx hb xd_H_count_135 rfl (lv_at hl 0 rfl) ?_
                    refine xget_H_core hx hb htg hown hK hP (htg _ xw_277) xd_H_count_136 ?_
                    refine xget_C_off (v := (xg_C_off u)) hx hb htg hown hK hP (htg _ xw_216) rfl xd_H_count_139 ?_
                    have hj12 : ∀ (H : Heap) (locs : List Loc) (ls : Array Slot) (g : XG) (v11 : Int32), v11 = (if (xz (xg_C_off u)) = 0 then (0) else (1)) → xok k g u → lv_has ls 2 [(0, .ref ((a 0))), (1, .int p0)] → va_P D xCl (xWH k a g u) H → va_D A (xWH k a g u) → va_S A s.heap H locs → W p l e { frames := 0, cells := 0, slots := 0, locals := 0 } s m args below meth c H locs (0) (0) Q (F0 m 150 ls [.int v11]) := by
                      intro H locs ls g v11 hv11 hg hl hP hD hS
                      exact hret _ (u, g) H locs ls _ ⟨(by unfold xf_H_count; exact (xif h1 (xif h2 (xif h3 (xif h4 (xif h5 (xif h6 (xif h7 (xif h8 (xit h9 (xlt_e hv11 rfl))))))))))), rfl, hg⟩ hP hD hS xd_H_count_150
                    refine lv_if_eq (tgt := 149) hx hb xd_H_count_142 rfl (fun h13 => ?_) (fun h13 => ?_)
                    · refine lv_iconst (v := 0) hx hb xd_H_count_149 (by decide) ?_
                      exact hj12 H locs ls g (0 : Int32) (xit h13 rfl) hg hl hP hD hS
                    · refine lv_iconst (v := 1) hx hb xd_H_count_145 (by decide) ?_
                      refine lv_goto (tgt := 150) hx hb xd_H_count_146 rfl ?_
                      exact hj12 H locs ls g (1 : Int32) (xif h13 rfl) hg hl hP hD hS
                  · refine (Decidable.em (p0 = 9)).elim (fun h14 => ?_) (fun h14 => ?_)
                    · refine lv_tableIn (tgt := 151) (off := 150) hx hb xd_H_count_1 (by rw [h14]; decide) (by rw [h14]; decide) (by rw [h14]; decide +kernel) rfl ?_
                      refine lv_aload_n hx hb xd_H_count_151 rfl (lv_at hl 0 rfl) ?_
                      refine xget_H_core hx hb htg hown hK hP (htg _ xw_277) xd_H_count_152 ?_
                      refine xget_C_controls hx hb htg hown hK hP (htg _ xw_207) xd_H_count_155 ?_
                      refine xget_K_alarm (v := (xg_K_alarm u)) hx hb htg hown hK hP (htg _ xw_121) rfl xd_H_count_158 ?_
                      refine lv_l2i (v := (Int64.toInt32 (xg_K_alarm u))) hx hb xd_H_count_161 rfl ?_
                      exact hret _ (u, g) H locs ls _ ⟨(by unfold xf_H_count; exact (xif h1 (xif h2 (xif h3 (xif h4 (xif h5 (xif h6 (xif h7 (xif h8 (xif h9 (xit h14 rfl))))))))))), rfl, hg⟩ hP hD hS xd_H_count_162
                    · refine (Decidable.em (p0 = 10)).elim (fun h15 => ?_) (fun h15 => ?_)
                      · refine lv_tableIn (tgt := 163) (off := 162) hx hb xd_H_count_1 (by rw [h15]; decide) (by rw [h15]; decide) (by rw [h15]; decide +kernel) rfl ?_
                        refine lv_aload_n hx hb xd_H_count_163 rfl (lv_at hl 0 rfl) ?_
                        refine xget_H_core hx hb htg hown hK hP (htg _ xw_277) xd_H_count_164 ?_
                        refine xget_C_controls hx hb htg hown hK hP (htg _ xw_207) xd_H_count_167 ?_
                        refine xget_K_alarm (v := (xg_K_alarm u)) hx hb htg hown hK hP (htg _ xw_121) rfl xd_H_count_170 ?_
                        refine lv_bipush (v := 32) hx hb xd_H_count_173 (by decide) ?_
                        refine lv_lushr (v := (xul (xg_K_alarm u) (32 : Int32))) hx hb xd_H_count_175 rfl ?_
                        refine lv_l2i (v := (Int64.toInt32 (xul (xg_K_alarm u) (32 : Int32)))) hx hb xd_H_count_176 rfl ?_
                        exact hret _ (u, g) H locs ls _ ⟨(by unfold xf_H_count; exact (xif h1 (xif h2 (xif h3 (xif h4 (xif h5 (xif h6 (xif h7 (xif h8 (xif h9 (xif h14 (xit h15 rfl)))))))))))), rfl, hg⟩ hP hD hS xd_H_count_177
                      · refine lv_tableOut (tgt := 178) hx hb xd_H_count_1 (xsw_out [0, 1, 2, 3, 4, 5, 6, 7, 8, 9, 10] (by decide) (by simp only [List.forall_mem_cons, List.not_mem_nil, false_imp_iff, implies_true, and_true]; exact ⟨h1, h2, h3, h4, h5, h6, h7, h8, h9, h14, h15⟩)) rfl ?_
                        refine lv_iconst (v := (-1)) hx hb xd_H_count_178 (by decide) ?_
                        exact hret _ (u, g) H locs ls _ ⟨(by unfold xf_H_count; exact (xif h1 (xif h2 (xif h3 (xif h4 (xif h5 (xif h6 (xif h7 (xif h8 (xif h9 (xif h14 (xif h15 rfl)))))))))))), rfl, hg⟩ hP hD hS xd_H_count_179
