noncomputable def xf_Z_back_256 (u : XZ) : Int32 × XZ :=
  xlt (xf_Z_bit u (256 : Int32) (8 : Int32) : Int32) fun q1 =>
  xlt (xf_Z_bit u (1536 : Int32) (7 : Int32) : Int32) fun q3 =>
  xlt (if q3 = 0 then (0) else (1) : Int32) fun v6 =>
  xlt (xf_Z_value u ((256 : Int32) + (65 : Int32)) : Int32) fun q8 =>
  xlt (xf_Z_bit (xs_Z_next u q8) (256 : Int32) (5 : Int32) : Int32) fun q10 =>
  xlt (xf_Z_setBit (xs_Z_next u q8) (256 : Int32) (1 : Int32) q10 : XZ) fun q12 =>
  xlt (xf_Z_setBit q12 (256 : Int32) (5 : Int32) (1 : Int32) : XZ) fun q14 =>
  xlt (xf_Z_setBit q14 (256 : Int32) (8 : Int32) (0 : Int32) : XZ) fun q16 =>
  xlt (xf_Z_setBit q16 (1536 : Int32) (7 : Int32) (0 : Int32) : XZ) fun q18 =>
  xlt (if v6 = 0 then (if q1 = 0 then (0) else (1)) else (if q1 = 0 then (2) else (3)) : Int32) fun v23 =>
  (1, (xs_Z_mode q18 v23))
def xv_Z_back_256 (u : XZ) : Prop := XVc (
  (xv_Z_bit u (256 : Int32) (8 : Int32)) ∧
  xlt (xf_Z_bit u (256 : Int32) (8 : Int32) : Int32) fun q1 =>
  (xv_Z_bit u (1536 : Int32) (7 : Int32)) ∧
  xlt (xf_Z_bit u (1536 : Int32) (7 : Int32) : Int32) fun q3 =>
  xlt (if q3 = 0 then (0) else (1) : Int32) fun v6 =>
  (xv_Z_value u ((256 : Int32) + (65 : Int32))) ∧
  xlt (xf_Z_value u ((256 : Int32) + (65 : Int32)) : Int32) fun q8 =>
  (xv_Z_bit (xs_Z_next u q8) (256 : Int32) (5 : Int32)) ∧
  xlt (xf_Z_bit (xs_Z_next u q8) (256 : Int32) (5 : Int32) : Int32) fun q10 =>
  (xv_Z_setBit (xs_Z_next u q8) (256 : Int32) (1 : Int32) q10) ∧
  xlt (xf_Z_setBit (xs_Z_next u q8) (256 : Int32) (1 : Int32) q10 : XZ) fun q12 =>
  (xv_Z_setBit q12 (256 : Int32) (5 : Int32) (1 : Int32)) ∧
  xlt (xf_Z_setBit q12 (256 : Int32) (5 : Int32) (1 : Int32) : XZ) fun q14 =>
  (xv_Z_setBit q14 (256 : Int32) (8 : Int32) (0 : Int32)) ∧
  xlt (xf_Z_setBit q14 (256 : Int32) (8 : Int32) (0 : Int32) : XZ) fun q16 =>
  (xv_Z_setBit q16 (1536 : Int32) (7 : Int32) (0 : Int32)) ∧
  xlt (xf_Z_setBit q16 (1536 : Int32) (7 : Int32) (0 : Int32) : XZ) fun q18 =>
  xlt (if v6 = 0 then (if q1 = 0 then (0) else (1)) else (if q1 = 0 then (2) else (3)) : Int32) fun v23 =>
  True)
set_option maxHeartbeats 4000000 in
set_option maxRecDepth 100000 in
theorem c_Z_back_256 (l : Launch) (D : va_G) (z : (Nat → Nat) × (Nat → Nat)) (k : ClassId × ClassId) (b : Nat → Nat) (sz : Nat) (u : XZ) (hv : xv_Z_back_256 u) : Met l xy_Z_back (xk_Z_back :: lw_g) { frames := 3, cells := 0, slots := 0, locals := 66 } (va_Pc [.ref ((b 0)), .int 256] (xB D (xTy k) z sz (xWZ k b u))) (va_Qi (fun r (q : XZ) => (r, q) = xf_Z_back_256 u) (fun q t => xQ D (xTy k) (xWZ k b q) (va_A (xWZ k b u) sz) t) (va_A (xWZ k b u) sz)) 0 0 (va_A (xWZ k b u) sz) := by
  refine xopen_z (wf := fun q : XZ => xWZ k b q) (lv := [(0, .ref ((b 0))), (1, .int 256)]) (by decide) rfl (Nat.le_of_ble_eq_true rfl) ?_
  intro p e s m args below meth c Q ls A H locs hx hb hml htg hown hin hK hP hD hE hS hA hl hret
  unfold xv_Z_back_256 at hv
  refine lv_aload_n hx hb xd_Z_back_0 rfl (lv_at hl 0 rfl) ?_
  refine lv_iload_n hx hb xd_Z_back_1 rfl (lv_at hl 1 rfl) ?_
  refine lv_bipush (v := 8) hx hb xd_Z_back_2 (by decide) ?_
  obtain ⟨hn2, hv⟩ := xan_v hv
  refine xcW_i (va_runV (As := [.int 256, .int 8]) (rest := []) ⟨hx, hb, hml, hown, htg⟩ (c_Z_bit l D z k b H.size u (256 : Int32) (8 : Int32) hn2) (cwV 2 htg (xg_V0 xkin_Z_bit xw_867 xw_869 xsel_Z_bit xw_9) rfl rfl rfl (by decide +kernel) ⟨Nat.le_of_ble_eq_true rfl, Nat.le_of_ble_eq_true rfl⟩) ⟨xB_blind, xrecv_Z hK hP, fun U hU hW => xB_mk hP hK hD hE hS (xsubW hD hA hS) hU hW⟩ rfl rfl hl.1 rfl (lv_room (Nat.le_of_ble_eq_true rfl)) xd_Z_back_4 ⟨Nat.le_of_ble_eq_true rfl, Nat.le_of_ble_eq_true rfl⟩) hD hA hS (fun r u1 H locs hw hP hD hS => ?_)
  obtain ⟨q1, hq1⟩ : ∃ q, q = xf_Z_bit u (256 : Int32) (8 : Int32) := ⟨_, rfl⟩
  obtain ⟨e1, e2⟩ := hw
  rw [← hq1] at e1
  obtain rfl : q1 = r := e1.symm
  obtain rfl : u = u1 := e2.symm
  have hP : va_P D xCl (xWZ k b u) H := hP
  have hD : va_D A (xWZ k b u) := hD
  have hv := xlt_v hq1 hv
  refine lv_istore_n (lv' := [(2, .int q1), (0, .ref ((b 0))), (1, .int 256)]) hx hb xd_Z_back_7 rfl hl (by decide) rfl (fun ls hl => ?_)
  refine lv_iload_n hx hb xd_Z_back_8 rfl (lv_at hl 2 rfl) ?_
  refine lv_sipush (v := 512) hx hb xd_Z_back_9 (by decide) ?_
  refine lv_icmp_eq (tgt := 27) hx hb xd_Z_back_12 rfl (fun h => absurd h (by decide)) (fun _ => ?_)
  refine lv_aload_n hx hb xd_Z_back_15 rfl (lv_at hl 1 rfl) ?_
  refine lv_sipush (v := 1536) hx hb xd_Z_back_16 (by decide) ?_
  refine lv_bipush (v := 7) hx hb xd_Z_back_19 (by decide) ?_
  obtain ⟨hn4, hv⟩ := xan_v hv
  refine xcW_i (va_runV (As := [.int 1536, .int 7]) (rest := []) ⟨hx, hb, hml, hown, htg⟩ (c_Z_bit l D z k b H.size u (1536 : Int32) (7 : Int32) hn4) (cwV 2 htg (xg_V0 xkin_Z_bit xw_867 xw_869 xsel_Z_bit xw_9) rfl rfl rfl (by decide +kernel) ⟨Nat.le_of_ble_eq_true rfl, Nat.le_of_ble_eq_true rfl⟩) ⟨xB_blind, xrecv_Z hK hP, fun U hU hW => xB_mk hP hK hD hE hS (xsubW hD hA hS) hU hW⟩ rfl rfl hl.1 rfl (lv_room (Nat.le_of_ble_eq_true rfl)) xd_Z_back_21 ⟨Nat.le_of_ble_eq_true rfl, Nat.le_of_ble_eq_true rfl⟩) hD hA hS (fun r u1 H locs hw hP hD hS => ?_)
  obtain ⟨q3, hq3⟩ : ∃ q, q = xf_Z_bit u (1536 : Int32) (7 : Int32) := ⟨_, rfl⟩
  obtain ⟨e1, e2⟩ := hw
  rw [← hq3] at e1
  obtain rfl : q3 = r := e1.symm
  obtain rfl : u = u1 := e2.symm
  have hP : va_P D xCl (xWZ k b u) H := hP
  have hD : va_D A (xWZ k b u) := hD
  have hv := xlt_v hq3 hv
  have hj7 : ∀ (H : Heap) (locs : List Loc) (ls : Array Slot) (v6 : Int32), v6 = (if q3 = 0 then (0) else (1)) → lv_has ls 4 [(2, .int q1), (0, .ref ((b 0))), (1, .int 256)] → va_P D xCl (xWZ k b u) H → va_D A (xWZ k b u) → va_S A s.heap H locs → W p l e { frames := 3, cells := 0, slots := 0, locals := 66 } s m args below meth c H locs (0) (0) Q (F0 m 32 ls [.int v6]) := by
    intro H locs ls v6 hv6 hl hP hD hS
    have hv := xlt_v hv6 hv
    refine lv_istore_n (lv' := [(3, .int v6), (2, .int q1), (0, .ref ((b 0))), (1, .int 256)]) hx hb xd_Z_back_32 rfl hl (by decide) rfl (fun ls hl => ?_)
    refine lv_aload_n hx hb xd_Z_back_33 rfl (lv_at hl 2 rfl) ?_
    refine lv_aload_n hx hb xd_Z_back_34 rfl (lv_at hl 2 rfl) ?_
    refine lv_iload_n hx hb xd_Z_back_35 rfl (lv_at hl 3 rfl) ?_
    refine lv_bipush (v := 65) hx hb xd_Z_back_36 (by decide) ?_
    refine lv_iadd hx hb xd_Z_back_38 ?_
    obtain ⟨hn9, hv⟩ := xan_v hv
    refine xcW_i (va_runV (As := [.int (((256 : Int32) + (65 : Int32)))]) (rest := [.ref ((b 0))]) ⟨hx, hb, hml, hown, htg⟩ (c_Z_value l D z k b H.size u ((256 : Int32) + (65 : Int32)) hn9) (cwV 1 htg (xg_V0 xkin_Z_value xw_859 xw_861 xsel_Z_value xw_9) rfl rfl rfl (by decide +kernel) ⟨Nat.le_of_ble_eq_true rfl, Nat.le_of_ble_eq_true rfl⟩) ⟨xB_blind, xrecv_Z hK hP, fun U hU hW => xB_mk hP hK hD hE hS (xsubW hD hA hS) hU hW⟩ rfl rfl hl.1 rfl (lv_room (Nat.le_of_ble_eq_true rfl)) xd_Z_back_39 ⟨Nat.le_of_ble_eq_true rfl, Nat.le_of_ble_eq_true rfl⟩) hD hA hS (fun r u1 H locs hw hP hD hS => ?_)
    obtain ⟨q8, hq8⟩ : ∃ q, q = xf_Z_value u ((256 : Int32) + (65 : Int32)) := ⟨_, rfl⟩
    obtain ⟨e1, e2⟩ := hw
    rw [← hq8] at e1
    obtain rfl : q8 = r := e1.symm
    obtain rfl : u = u1 := e2.symm
    have hP : va_P D xCl (xWZ k b u) H := hP
    have hD : va_D A (xWZ k b u) := hD
    have hv := xlt_v hq8 hv
    refine xput_Z_next (v := q8) hx hb htg hown hK hP hD hS (htg _ xw_753) xd_Z_back_42 (fun H locs hP hD hS => ?_)
    refine lv_aload_n hx hb xd_Z_back_45 rfl (lv_at hl 2 rfl) ?_
    refine lv_iload_n hx hb xd_Z_back_46 rfl (lv_at hl 3 rfl) ?_
    refine lv_iconst (v := 1) hx hb xd_Z_back_47 (by decide) ?_
    refine lv_aload_n hx hb xd_Z_back_48 rfl (lv_at hl 2 rfl) ?_
    refine lv_iload_n hx hb xd_Z_back_49 rfl (lv_at hl 3 rfl) ?_
    refine lv_iconst (v := 5) hx hb xd_Z_back_50 (by decide) ?_
    obtain ⟨hn11, hv⟩ := xan_v hv
    refine xcW_i (va_runV (As := [.int 256, .int 5]) (rest := [.int 1, .int 256, .ref ((b 0))]) ⟨hx, hb, hml, hown, htg⟩ (c_Z_bit l D z k b H.size (xs_Z_next u q8) (256 : Int32) (5 : Int32) hn11) (cwV 2 htg (xg_V0 xkin_Z_bit xw_867 xw_869 xsel_Z_bit xw_9) rfl rfl rfl (by decide +kernel) ⟨Nat.le_of_ble_eq_true rfl, Nat.le_of_ble_eq_true rfl⟩) ⟨xB_blind, xrecv_Z hK hP, fun U hU hW => xB_mk hP hK hD hE hS (xsubW hD hA hS) hU hW⟩ rfl rfl hl.1 rfl (lv_room (Nat.le_of_ble_eq_true rfl)) xd_Z_back_51 ⟨Nat.le_of_ble_eq_true rfl, Nat.le_of_ble_eq_true rfl⟩) hD hA hS (fun r u1 H locs hw hP hD hS => ?_)
    obtain ⟨q10, hq10⟩ : ∃ q, q = xf_Z_bit (xs_Z_next u q8) (256 : Int32) (5 : Int32) := ⟨_, rfl⟩
    obtain ⟨e1, e2⟩ := hw
    rw [← hq10] at e1
    obtain rfl : q10 = r := e1.symm
    obtain rfl : (xs_Z_next u q8) = u1 := e2.symm
    have hP : va_P D xCl (xWZ k b (xs_Z_next u q8)) H := hP
    have hD : va_D A (xWZ k b (xs_Z_next u q8)) := hD
    have hv := xlt_v hq10 hv
    obtain ⟨hn13, hv⟩ := xan_v hv
    refine xcW_v (va_runV (As := [.int 256, .int 1, .int q10]) (rest := []) ⟨hx, hb, hml, hown, htg⟩ (c_Z_setBit l D z k b H.size (xs_Z_next u q8) (256 : Int32) (1 : Int32) q10 hn13) (cwV 3 htg (xg_V0 xkin_Z_setBit xw_855 xw_857 xsel_Z_setBit xw_9) rfl rfl rfl (by decide +kernel) ⟨Nat.le_of_ble_eq_true rfl, Nat.le_of_ble_eq_true rfl⟩) ⟨xB_blind, xrecv_Z hK hP, fun U hU hW => xB_mk hP hK hD hE hS (xsubW hD hA hS) hU hW⟩ rfl rfl hl.1 rfl (lv_room (Nat.le_of_ble_eq_true rfl)) xd_Z_back_54 ⟨Nat.le_of_ble_eq_true rfl, Nat.le_of_ble_eq_true rfl⟩) hD hA hS (fun u1 H locs hw hP hD hS => ?_)
    obtain ⟨q12, hq12⟩ : ∃ q, q = xf_Z_setBit (xs_Z_next u q8) (256 : Int32) (1 : Int32) q10 := ⟨_, rfl⟩
    rw [← hq12] at hw
    obtain rfl : q12 = u1 := hw.symm
    have hP : va_P D xCl (xWZ k b q12) H := hP
    have hD : va_D A (xWZ k b q12) := hD
    have hv := xlt_v hq12 hv
    refine lv_aload_n hx hb xd_Z_back_57 rfl (lv_at hl 2 rfl) ?_
    refine lv_iload_n hx hb xd_Z_back_58 rfl (lv_at hl 3 rfl) ?_
    refine lv_iconst (v := 5) hx hb xd_Z_back_59 (by decide) ?_
    refine lv_iconst (v := 1) hx hb xd_Z_back_60 (by decide) ?_
    obtain ⟨hn15, hv⟩ := xan_v hv
    refine xcW_v (va_runV (As := [.int 256, .int 5, .int 1]) (rest := []) ⟨hx, hb, hml, hown, htg⟩ (c_Z_setBit l D z k b H.size q12 (256 : Int32) (5 : Int32) (1 : Int32) hn15) (cwV 3 htg (xg_V0 xkin_Z_setBit xw_855 xw_857 xsel_Z_setBit xw_9) rfl rfl rfl (by decide +kernel) ⟨Nat.le_of_ble_eq_true rfl, Nat.le_of_ble_eq_true rfl⟩) ⟨xB_blind, xrecv_Z hK hP, fun U hU hW => xB_mk hP hK hD hE hS (xsubW hD hA hS) hU hW⟩ rfl rfl hl.1 rfl (lv_room (Nat.le_of_ble_eq_true rfl)) xd_Z_back_61 ⟨Nat.le_of_ble_eq_true rfl, Nat.le_of_ble_eq_true rfl⟩) hD hA hS (fun u1 H locs hw hP hD hS => ?_)
    obtain ⟨q14, hq14⟩ : ∃ q, q = xf_Z_setBit q12 (256 : Int32) (5 : Int32) (1 : Int32) := ⟨_, rfl⟩
    rw [← hq14] at hw
    obtain rfl : q14 = u1 := hw.symm
    have hP : va_P D xCl (xWZ k b q14) H := hP
    have hD : va_D A (xWZ k b q14) := hD
    have hv := xlt_v hq14 hv
    refine lv_aload_n hx hb xd_Z_back_64 rfl (lv_at hl 2 rfl) ?_
    refine lv_iload_n hx hb xd_Z_back_65 rfl (lv_at hl 3 rfl) ?_
    refine lv_bipush (v := 8) hx hb xd_Z_back_66 (by decide) ?_
    refine lv_iconst (v := 0) hx hb xd_Z_back_68 (by decide) ?_
    obtain ⟨hn17, hv⟩ := xan_v hv
    refine xcW_v (va_runV (As := [.int 256, .int 8, .int 0]) (rest := []) ⟨hx, hb, hml, hown, htg⟩ (c_Z_setBit l D z k b H.size q14 (256 : Int32) (8 : Int32) (0 : Int32) hn17) (cwV 3 htg (xg_V0 xkin_Z_setBit xw_855 xw_857 xsel_Z_setBit xw_9) rfl rfl rfl (by decide +kernel) ⟨Nat.le_of_ble_eq_true rfl, Nat.le_of_ble_eq_true rfl⟩) ⟨xB_blind, xrecv_Z hK hP, fun U hU hW => xB_mk hP hK hD hE hS (xsubW hD hA hS) hU hW⟩ rfl rfl hl.1 rfl (lv_room (Nat.le_of_ble_eq_true rfl)) xd_Z_back_69 ⟨Nat.le_of_ble_eq_true rfl, Nat.le_of_ble_eq_true rfl⟩) hD hA hS (fun u1 H locs hw hP hD hS => ?_)
    obtain ⟨q16, hq16⟩ : ∃ q, q = xf_Z_setBit q14 (256 : Int32) (8 : Int32) (0 : Int32) := ⟨_, rfl⟩
    rw [← hq16] at hw
    obtain rfl : q16 = u1 := hw.symm
    have hP : va_P D xCl (xWZ k b q16) H := hP
    have hD : va_D A (xWZ k b q16) := hD
    have hv := xlt_v hq16 hv
    refine lv_iload_n hx hb xd_Z_back_72 rfl (lv_at hl 3 rfl) ?_
    refine lv_sipush (v := 256) hx hb xd_Z_back_73 (by decide) ?_
    refine lv_icmp_ne (tgt := 89) hx hb xd_Z_back_76 rfl (fun h => absurd h (by decide)) (fun _ => ?_)
    refine lv_aload_n hx hb xd_Z_back_79 rfl (lv_at hl 2 rfl) ?_
    refine lv_sipush (v := 1536) hx hb xd_Z_back_80 (by decide) ?_
    refine lv_bipush (v := 7) hx hb xd_Z_back_83 (by decide) ?_
    refine lv_iconst (v := 0) hx hb xd_Z_back_85 (by decide) ?_
    obtain ⟨hn19, hv⟩ := xan_v hv
    refine xcW_v (va_runV (As := [.int 1536, .int 7, .int 0]) (rest := []) ⟨hx, hb, hml, hown, htg⟩ (c_Z_setBit l D z k b H.size q16 (1536 : Int32) (7 : Int32) (0 : Int32) hn19) (cwV 3 htg (xg_V0 xkin_Z_setBit xw_855 xw_857 xsel_Z_setBit xw_9) rfl rfl rfl (by decide +kernel) ⟨Nat.le_of_ble_eq_true rfl, Nat.le_of_ble_eq_true rfl⟩) ⟨xB_blind, xrecv_Z hK hP, fun U hU hW => xB_mk hP hK hD hE hS (xsubW hD hA hS) hU hW⟩ rfl rfl hl.1 rfl (lv_room (Nat.le_of_ble_eq_true rfl)) xd_Z_back_86 ⟨Nat.le_of_ble_eq_true rfl, Nat.le_of_ble_eq_true rfl⟩) hD hA hS (fun u1 H locs hw hP hD hS => ?_)
    obtain ⟨q18, hq18⟩ : ∃ q, q = xf_Z_setBit q16 (1536 : Int32) (7 : Int32) (0 : Int32) := ⟨_, rfl⟩
    rw [← hq18] at hw
    obtain rfl : q18 = u1 := hw.symm
    have hP : va_P D xCl (xWZ k b q18) H := hP
    have hD : va_D A (xWZ k b q18) := hD
    have hv := xlt_v hq18 hv
    refine lv_aload_n hx hb xd_Z_back_89 rfl (lv_at hl 2 rfl) ?_
    refine lv_iload_n hx hb xd_Z_back_90 rfl (lv_at hl 0 rfl) ?_
    have hj24 : ∀ (H : Heap) (locs : List Loc) (ls : Array Slot) (v23 : Int32), v23 = (if v6 = 0 then (if q1 = 0 then (0) else (1)) else (if q1 = 0 then (2) else (3))) → lv_has ls 4 [(3, .int v6), (2, .int q1), (0, .ref ((b 0))), (1, .int 256)] → va_P D xCl (xWZ k b q18) H → va_D A (xWZ k b q18) → va_S A s.heap H locs → W p l e { frames := 3, cells := 0, slots := 0, locals := 66 } s m args below meth c H locs (0) (0) Q (F0 m 115 ls [.int v23, .ref ((b 0))]) := by
      intro H locs ls v23 hv23 hl hP hD hS
      have hv := xlt_v hv23 hv
      refine xput_Z_mode (v := v23) hx hb htg hown hK hP hD hS (htg _ xw_731) xd_Z_back_115 (fun H locs hP hD hS => ?_)
      refine lv_iconst (v := 1) hx hb xd_Z_back_118 (by decide) ?_
      exact hret _ (xs_Z_mode q18 v23) H locs ls _ rfl (by unfold xf_Z_back_256; exact (xlt_e hq1 (xlt_e hq3 (xlt_e hv6 (xlt_e hq8 (xlt_e hq10 (xlt_e hq12 (xlt_e hq14 (xlt_e hq16 (xlt_e hq18 (xlt_e hv23 rfl))))))))))) hP hD hS xd_Z_back_119
    refine lv_if_eq (tgt := 106) hx hb xd_Z_back_91 rfl (fun h25 => ?_) (fun h25 => ?_)
    · refine lv_iload_n hx hb xd_Z_back_106 rfl (lv_at hl 1 rfl) ?_
      refine lv_if_eq (tgt := 114) hx hb xd_Z_back_107 rfl (fun h26 => ?_) (fun h26 => ?_)
      · refine lv_iconst (v := 0) hx hb xd_Z_back_114 (by decide) ?_
        exact hj24 H locs ls (0 : Int32) (xit h25 (xit h26 rfl)) hl hP hD hS
      · refine lv_iconst (v := 1) hx hb xd_Z_back_110 (by decide) ?_
        refine lv_goto (tgt := 115) hx hb xd_Z_back_111 rfl ?_
        exact hj24 H locs ls (1 : Int32) (xit h25 (xif h26 rfl)) hl hP hD hS
    · refine lv_iload_n hx hb xd_Z_back_94 rfl (lv_at hl 1 rfl) ?_
      refine lv_if_eq (tgt := 102) hx hb xd_Z_back_95 rfl (fun h27 => ?_) (fun h27 => ?_)
      · refine lv_iconst (v := 2) hx hb xd_Z_back_102 (by decide) ?_
        refine lv_goto (tgt := 115) hx hb xd_Z_back_103 rfl ?_
        exact hj24 H locs ls (2 : Int32) (xif h25 (xit h27 rfl)) hl hP hD hS
      · refine lv_iconst (v := 3) hx hb xd_Z_back_98 (by decide) ?_
        refine lv_goto (tgt := 115) hx hb xd_Z_back_99 rfl ?_
        exact hj24 H locs ls (3 : Int32) (xif h25 (xif h27 rfl)) hl hP hD hS
  refine lv_if_eq (tgt := 31) hx hb xd_Z_back_24 rfl (fun h28 => ?_) (fun h28 => ?_)
  · refine lv_iconst (v := 0) hx hb xd_Z_back_31 (by decide) ?_
    exact hj7 H locs ls (0 : Int32) (xit h28 rfl) hl hP hD hS
  · refine lv_iconst (v := 1) hx hb xd_Z_back_27 (by decide) ?_
    refine lv_goto (tgt := 32) hx hb xd_Z_back_28 rfl ?_
    exact hj7 H locs ls (1 : Int32) (xif h28 rfl) hl hP hD hS
theorem xt01_Z_back_256 (u : XZ) : X01p (xf_Z_back_256 u) := by unfold xf_Z_back_256; exact (xlt_01p (fun q1 hq1 => (xlt_01p (fun q3 hq3 => (xlt_01p (fun v6 hv6 => (xlt_01p (fun q8 hq8 => (xlt_01p (fun q10 hq10 => (xlt_01p (fun q12 hq12 => (xlt_01p (fun q14 hq14 => (xlt_01p (fun q16 hq16 => (xlt_01p (fun q18 hq18 => (xlt_01p (fun v23 hv23 => (Or.inr rfl)))))))))))))))))))))

noncomputable def xf_Z_second (u : XZ) (p0 : Int64) (p1 : Int32) : Int64 × XZ :=
  xlt (xf_Z_bit u (1664 : Int32) (31 : Int32) : Int32) fun q1 =>
  xlt (if q1 = 0 then (xlt (xf_Z_inMemory u p0 : Int64 × XZ) fun q4 => q4.1) else (xlt (xf_Z_value u (1664 : Int32) : Int32) fun q6 => xlt (xf_Z_walk_2 u (((Int32.toInt64 q6) &&& (4194300 : Int64)) * (4096 : Int64)) p0 p1 : Int64 × XZ) fun q8 => q8.1) : Int64) fun v10 =>
  xlt (if q1 = 0 then (xlt (xf_Z_inMemory u p0 : Int64 × XZ) fun q4 => q4.2) else (xlt (xf_Z_value u (1664 : Int32) : Int32) fun q6 => xlt (xf_Z_walk_2 u (((Int32.toInt64 q6) &&& (4194300 : Int64)) * (4096 : Int64)) p0 p1 : Int64 × XZ) fun q8 => q8.2) : XZ) fun v11 =>
  (v10, v11)
def xv_Z_second (u : XZ) (p0 : Int64) (p1 : Int32) : Prop := XVc (
  (xv_Z_bit u (1664 : Int32) (31 : Int32)) ∧
  xlt (xf_Z_bit u (1664 : Int32) (31 : Int32) : Int32) fun q1 =>
  (if q1 = 0 then ((xv_Z_inMemory u p0) ∧ (xlt (xf_Z_inMemory u p0 : Int64 × XZ) fun q4 => True)) else ((xv_Z_value u (1664 : Int32)) ∧ (xlt (xf_Z_value u (1664 : Int32) : Int32) fun q6 => (xv_Z_walk_2 u (((Int32.toInt64 q6) &&& (4194300 : Int64)) * (4096 : Int64)) p0 p1) ∧ (xlt (xf_Z_walk_2 u (((Int32.toInt64 q6) &&& (4194300 : Int64)) * (4096 : Int64)) p0 p1 : Int64 × XZ) fun q8 => True)))) ∧
  xlt (if q1 = 0 then (xlt (xf_Z_inMemory u p0 : Int64 × XZ) fun q4 => q4.1) else (xlt (xf_Z_value u (1664 : Int32) : Int32) fun q6 => xlt (xf_Z_walk_2 u (((Int32.toInt64 q6) &&& (4194300 : Int64)) * (4096 : Int64)) p0 p1 : Int64 × XZ) fun q8 => q8.1) : Int64) fun v10 =>
  xlt (if q1 = 0 then (xlt (xf_Z_inMemory u p0 : Int64 × XZ) fun q4 => q4.2) else (xlt (xf_Z_value u (1664 : Int32) : Int32) fun q6 => xlt (xf_Z_walk_2 u (((Int32.toInt64 q6) &&& (4194300 : Int64)) * (4096 : Int64)) p0 p1 : Int64 × XZ) fun q8 => q8.2) : XZ) fun v11 =>
  True)
set_option maxHeartbeats 4000000 in
set_option maxRecDepth 100000 in
theorem c_Z_second (l : Launch) (D : va_G) (z : (Nat → Nat) × (Nat → Nat)) (k : ClassId × ClassId) (b : Nat → Nat) (sz : Nat) (u : XZ) (p0 : Int64) (p1 : Int32) (hv : xv_Z_second u p0 p1) : Met l xy_Z_second (xk_Z_second :: lw_g) { frames := 5, cells := 0, slots := 0, locals := 134 } (va_Pc [.ref ((b 0)), .long p0, .int p1] (xB D (xTy k) z sz (xWZ k b u))) (va_Ql (fun r (q : XZ) => (r, q) = xf_Z_second u p0 p1) (fun q t => xQ D (xTy k) (xWZ k b q) (va_A (xWZ k b u) sz) t) (va_A (xWZ k b u) sz)) 0 0 (va_A (xWZ k b u) sz) := by
  refine xopen_l (wf := fun q : XZ => xWZ k b q) (lv := [(0, .ref ((b 0))), (1, .long p0), (3, .int p1)]) (by decide) rfl (Nat.le_of_ble_eq_true rfl) ?_
  intro p e s m args below meth c Q ls A H locs hx hb hml htg hown hin hK hP hD hE hS hA hl hret
  unfold xv_Z_second at hv
  refine lv_aload_n hx hb xd_Z_second_0 rfl (lv_at hl 0 rfl) ?_
  refine lv_sipush (v := 1664) hx hb xd_Z_second_1 (by decide) ?_
  refine lv_bipush (v := 31) hx hb xd_Z_second_4 (by decide) ?_
  obtain ⟨hn2, hv⟩ := xan_v hv
  refine xcW_i (va_runV (As := [.int 1664, .int 31]) (rest := []) ⟨hx, hb, hml, hown, htg⟩ (c_Z_bit l D z k b H.size u (1664 : Int32) (31 : Int32) hn2) (cwV 2 htg (xg_V0 xkin_Z_bit xw_867 xw_869 xsel_Z_bit xw_9) rfl rfl rfl (by decide +kernel) ⟨Nat.le_of_ble_eq_true rfl, Nat.le_of_ble_eq_true rfl⟩) ⟨xB_blind, xrecv_Z hK hP, fun U hU hW => xB_mk hP hK hD hE hS (xsubW hD hA hS) hU hW⟩ rfl rfl hl.1 rfl (lv_room (Nat.le_of_ble_eq_true rfl)) xd_Z_second_6 ⟨Nat.le_of_ble_eq_true rfl, Nat.le_of_ble_eq_true rfl⟩) hD hA hS (fun r u1 H locs hw hP hD hS => ?_)
  obtain ⟨q1, hq1⟩ : ∃ q, q = xf_Z_bit u (1664 : Int32) (31 : Int32) := ⟨_, rfl⟩
  obtain ⟨e1, e2⟩ := hw
  rw [← hq1] at e1
  obtain rfl : q1 = r := e1.symm
  obtain rfl : u = u1 := e2.symm
  have hP : va_P D xCl (xWZ k b u) H := hP
  have hD : va_D A (xWZ k b u) := hD
  have hv := xlt_v hq1 hv
  obtain ⟨hva, hv⟩ := xan_v2 hv
  have hj12 : ∀ (H : Heap) (locs : List Loc) (ls : Array Slot) (v10 : Int64) (v11 : XZ), v10 = (if q1 = 0 then (xlt (xf_Z_inMemory u p0 : Int64 × XZ) fun q4 => q4.1) else (xlt (xf_Z_value u (1664 : Int32) : Int32) fun q6 => xlt (xf_Z_walk_2 u (((Int32.toInt64 q6) &&& (4194300 : Int64)) * (4096 : Int64)) p0 p1 : Int64 × XZ) fun q8 => q8.1)) → v11 = (if q1 = 0 then (xlt (xf_Z_inMemory u p0 : Int64 × XZ) fun q4 => q4.2) else (xlt (xf_Z_value u (1664 : Int32) : Int32) fun q6 => xlt (xf_Z_walk_2 u (((Int32.toInt64 q6) &&& (4194300 : Int64)) * (4096 : Int64)) p0 p1 : Int64 × XZ) fun q8 => q8.2)) → lv_has ls 4 [(0, .ref ((b 0))), (1, .long p0), (3, .int p1)] → va_P D xCl (xWZ k b v11) H → va_D A (xWZ k b v11) → va_S A s.heap H locs → W p l e { frames := 5, cells := 0, slots := 0, locals := 134 } s m args below meth c H locs (0) (0) Q (F0 m 43 ls [.long v10]) := by
    intro H locs ls v10 v11 hv10 hv11 hl hP hD hS
    have hv := xlt_v hv10 hv
    have hv := xlt_v hv11 hv
    exact hret _ v11 H locs ls _ (by unfold xf_Z_second; exact (xlt_e hq1 (xlt_e hv10 (xlt_e hv11 rfl)))) hP hD hS xd_Z_second_43
  have hv := hva
  refine lv_if_eq (tgt := 38) hx hb xd_Z_second_9 rfl (fun h13 => ?_) (fun h13 => ?_)
  · have hv := xit_v h13 hv
    refine lv_aload_n hx hb xd_Z_second_38 rfl (lv_at hl 0 rfl) ?_
    refine lv_lload_n hx hb xd_Z_second_39 rfl (lv_at hl 1 rfl) ?_
    obtain ⟨hn15, hv⟩ := xan_v hv
    refine xcW_l (va_runV (As := [.long p0]) (rest := []) ⟨hx, hb, hml, hown, htg⟩ (c_Z_inMemory l D z k b H.size u p0 hn15) (cwV 1 htg (xg_V0 xkin_Z_inMemory xw_954 xw_956 xsel_Z_inMemory xw_9) rfl rfl rfl (by decide +kernel) ⟨Nat.le_of_ble_eq_true rfl, Nat.le_of_ble_eq_true rfl⟩) ⟨xB_blind, xrecv_Z hK hP, fun U hU hW => xB_mk hP hK hD hE hS (xsubW hD hA hS) hU hW⟩ rfl rfl hl.1 rfl (lv_room (Nat.le_of_ble_eq_true rfl)) xd_Z_second_40 ⟨Nat.le_of_ble_eq_true rfl, Nat.le_of_ble_eq_true rfl⟩) hD hA hS (fun r u1 H locs hw hP hD hS => ?_)
    obtain ⟨q14, hq14⟩ : ∃ q, q = xf_Z_inMemory u p0 := ⟨_, rfl⟩
    rw [← hq14] at hw
    obtain rfl : r = q14.1 := congrArg Prod.fst hw
    obtain rfl : u1 = q14.2 := congrArg Prod.snd hw
    have hP : va_P D xCl (xWZ k b q14.2) H := hP
    have hD : va_D A (xWZ k b q14.2) := hD
    have hv := xlt_v hq14 hv
    exact hj12 H locs ls q14.1 q14.2 (xit h13 (xlt_e hq14 rfl)) (xit h13 (xlt_e hq14 rfl)) hl hP hD hS
  · have hv := xif_v h13 hv
    refine lv_aload_n hx hb xd_Z_second_12 rfl (lv_at hl 0 rfl) ?_
    refine lv_iconst (v := 2) hx hb xd_Z_second_13 (by decide) ?_
    refine lv_aload_n hx hb xd_Z_second_14 rfl (lv_at hl 0 rfl) ?_
    refine lv_sipush (v := 1664) hx hb xd_Z_second_15 (by decide) ?_
    obtain ⟨hn17, hv⟩ := xan_v hv
    refine xcW_i (va_runV (As := [.int 1664]) (rest := [.int 2, .ref ((b 0))]) ⟨hx, hb, hml, hown, htg⟩ (c_Z_value l D z k b H.size u (1664 : Int32) hn17) (cwV 1 htg (xg_V0 xkin_Z_value xw_859 xw_861 xsel_Z_value xw_9) rfl rfl rfl (by decide +kernel) ⟨Nat.le_of_ble_eq_true rfl, Nat.le_of_ble_eq_true rfl⟩) ⟨xB_blind, xrecv_Z hK hP, fun U hU hW => xB_mk hP hK hD hE hS (xsubW hD hA hS) hU hW⟩ rfl rfl hl.1 rfl (lv_room (Nat.le_of_ble_eq_true rfl)) xd_Z_second_18 ⟨Nat.le_of_ble_eq_true rfl, Nat.le_of_ble_eq_true rfl⟩) hD hA hS (fun r u1 H locs hw hP hD hS => ?_)
    obtain ⟨q16, hq16⟩ : ∃ q, q = xf_Z_value u (1664 : Int32) := ⟨_, rfl⟩
    obtain ⟨e1, e2⟩ := hw
    rw [← hq16] at e1
    obtain rfl : q16 = r := e1.symm
    obtain rfl : u = u1 := e2.symm
    have hP : va_P D xCl (xWZ k b u) H := hP
    have hD : va_D A (xWZ k b u) := hD
    have hv := xlt_v hq16 hv
    refine lv_i2l (v := (Int32.toInt64 q16)) hx hb xd_Z_second_21 rfl ?_
    refine lv_ldc2 (v := 4194300) hx hb hown (htg _ xw_953) xd_Z_second_22 ?_
    refine lv_land hx hb xd_Z_second_25 ?_
    refine lv_ldc2 (v := 4096) hx hb hown (htg _ xw_939) xd_Z_second_26 ?_
    refine lv_lmul hx hb xd_Z_second_29 ?_
    refine lv_lload_n hx hb xd_Z_second_30 rfl (lv_at hl 1 rfl) ?_
    refine lv_iload_n hx hb xd_Z_second_31 rfl (lv_at hl 2 rfl) ?_
    obtain ⟨hn19, hv⟩ := xan_v hv
    refine xcW_l (va_runV (As := [.int 2, .long ((((Int32.toInt64 q16) &&& (4194300 : Int64)) * (4096 : Int64))), .long p0, .int p1]) (rest := []) ⟨hx, hb, hml, hown, htg⟩ (c_Z_walk_2 l D z k b H.size u (((Int32.toInt64 q16) &&& (4194300 : Int64)) * (4096 : Int64)) p0 p1 hn19) (cwV 4 htg (xg_V0 xkin_Z_walk xw_940 xw_942 xsel_Z_walk xw_9) rfl rfl rfl (by decide +kernel) ⟨Nat.le_of_ble_eq_true rfl, Nat.le_of_ble_eq_true rfl⟩) ⟨xB_blind, xrecv_Z hK hP, fun U hU hW => xB_mk hP hK hD hE hS (xsubW hD hA hS) hU hW⟩ rfl rfl hl.1 rfl (lv_room (Nat.le_of_ble_eq_true rfl)) xd_Z_second_32 ⟨Nat.le_of_ble_eq_true rfl, Nat.le_of_ble_eq_true rfl⟩) hD hA hS (fun r u1 H locs hw hP hD hS => ?_)
    obtain ⟨q18, hq18⟩ : ∃ q, q = xf_Z_walk_2 u (((Int32.toInt64 q16) &&& (4194300 : Int64)) * (4096 : Int64)) p0 p1 := ⟨_, rfl⟩
    rw [← hq18] at hw
    obtain rfl : r = q18.1 := congrArg Prod.fst hw
    obtain rfl : u1 = q18.2 := congrArg Prod.snd hw
    have hP : va_P D xCl (xWZ k b q18.2) H := hP
    have hD : va_D A (xWZ k b q18.2) := hD
    have hv := xlt_v hq18 hv
    refine lv_goto (tgt := 43) hx hb xd_Z_second_35 rfl ?_
    exact hj12 H locs ls q18.1 q18.2 (xif h13 (xlt_e hq16 (xlt_e hq18 rfl))) (xif h13 (xlt_e hq16 (xlt_e hq18 rfl))) hl hP hD hS

noncomputable def xf_Z_entryAt_1 (u : XZ) (p1 : Int64) : Int64 × XZ :=
  xlt (xf_Z_second u p1 (1 : Int32) : Int64 × XZ) fun q1 =>
  xlt (if 0 ≤ (lg_cmp q1.1 (0 : Int64)) then (xlt (xf_Z_word q1.2 q1.1 : Int32) fun q4 => ((Int32.toInt64 q4) &&& (4294967295 : Int64))) else ((-1)) : Int64) fun v6 =>
  (v6, q1.2)
def xv_Z_entryAt_1 (u : XZ) (p1 : Int64) : Prop := XVc (
  (xv_Z_second u p1 (1 : Int32)) ∧
  xlt (xf_Z_second u p1 (1 : Int32) : Int64 × XZ) fun q1 =>
  (if 0 ≤ (lg_cmp q1.1 (0 : Int64)) then ((xv_Z_word q1.2 q1.1) ∧ (xlt (xf_Z_word q1.2 q1.1 : Int32) fun q4 => True)) else (True)) ∧
  xlt (if 0 ≤ (lg_cmp q1.1 (0 : Int64)) then (xlt (xf_Z_word q1.2 q1.1 : Int32) fun q4 => ((Int32.toInt64 q4) &&& (4294967295 : Int64))) else ((-1)) : Int64) fun v6 =>
  True)
set_option maxHeartbeats 4000000 in
set_option maxRecDepth 100000 in
theorem c_Z_entryAt_1 (l : Launch) (D : va_G) (z : (Nat → Nat) × (Nat → Nat)) (k : ClassId × ClassId) (b : Nat → Nat) (sz : Nat) (u : XZ) (p1 : Int64) (hv : xv_Z_entryAt_1 u p1) : Met l xy_Z_entryAt (xk_Z_entryAt :: lw_g) { frames := 6, cells := 0, slots := 0, locals := 157 } (va_Pc [.ref ((b 0)), .int 1, .long p1] (xB D (xTy k) z sz (xWZ k b u))) (va_Ql (fun r (q : XZ) => (r, q) = xf_Z_entryAt_1 u p1) (fun q t => xQ D (xTy k) (xWZ k b q) (va_A (xWZ k b u) sz) t) (va_A (xWZ k b u) sz)) 0 0 (va_A (xWZ k b u) sz) := by
  refine xopen_l (wf := fun q : XZ => xWZ k b q) (lv := [(0, .ref ((b 0))), (1, .int 1), (2, .long p1)]) (by decide) rfl (Nat.le_of_ble_eq_true rfl) ?_
  intro p e s m args below meth c Q ls A H locs hx hb hml htg hown hin hK hP hD hE hS hA hl hret
  unfold xv_Z_entryAt_1 at hv
  refine lv_iload_n hx hb xd_Z_entryAt_0 rfl (lv_at hl 1 rfl) ?_
  refine lv_iconst (v := 1) hx hb xd_Z_entryAt_1 (by decide) ?_
  refine lv_icmp_ne (tgt := 14) hx hb xd_Z_entryAt_2 rfl (fun h => absurd h (by decide)) (fun _ => ?_)
  refine lv_aload_n hx hb xd_Z_entryAt_5 rfl (lv_at hl 0 rfl) ?_
  refine lv_lload_n hx hb xd_Z_entryAt_6 rfl (lv_at hl 2 rfl) ?_
  refine lv_iconst (v := 1) hx hb xd_Z_entryAt_7 (by decide) ?_
  obtain ⟨hn2, hv⟩ := xan_v hv
  refine xcW_l (va_runV (As := [.long p1, .int 1]) (rest := []) ⟨hx, hb, hml, hown, htg⟩ (c_Z_second l D z k b H.size u p1 (1 : Int32) hn2) (cwV 2 htg (xg_V0 xkin_Z_second xw_949 xw_951 xsel_Z_second xw_9) rfl rfl rfl (by decide +kernel) ⟨Nat.le_of_ble_eq_true rfl, Nat.le_of_ble_eq_true rfl⟩) ⟨xB_blind, xrecv_Z hK hP, fun U hU hW => xB_mk hP hK hD hE hS (xsubW hD hA hS) hU hW⟩ rfl rfl hl.1 rfl (lv_room (Nat.le_of_ble_eq_true rfl)) xd_Z_entryAt_8 ⟨Nat.le_of_ble_eq_true rfl, Nat.le_of_ble_eq_true rfl⟩) hD hA hS (fun r u1 H locs hw hP hD hS => ?_)
  obtain ⟨q1, hq1⟩ : ∃ q, q = xf_Z_second u p1 (1 : Int32) := ⟨_, rfl⟩
  rw [← hq1] at hw
  obtain rfl : r = q1.1 := congrArg Prod.fst hw
  obtain rfl : u1 = q1.2 := congrArg Prod.snd hw
  have hP : va_P D xCl (xWZ k b q1.2) H := hP
  have hD : va_D A (xWZ k b q1.2) := hD
  have hv := xlt_v hq1 hv
  refine lv_goto (tgt := 19) hx hb xd_Z_entryAt_11 rfl ?_
  refine lv_lstore (lv' := [(4, .long (q1.1)), (0, .ref ((b 0))), (1, .int 1), (2, .long p1)]) hx hb xd_Z_entryAt_19 hl (by decide) rfl (fun ls hl => ?_)
  refine lv_lload hx hb xd_Z_entryAt_21 (lv_at hl 0 rfl) ?_
  refine lv_lconst (v := 0) hx hb xd_Z_entryAt_23 (by decide) ?_
  refine W.lcmp hx hb xd_Z_entryAt_24 ?_
  obtain ⟨hva, hv⟩ := xan_v2 hv
  have hj7 : ∀ (H : Heap) (locs : List Loc) (ls : Array Slot) (v6 : Int64), v6 = (if 0 ≤ (lg_cmp q1.1 (0 : Int64)) then (xlt (xf_Z_word q1.2 q1.1 : Int32) fun q4 => ((Int32.toInt64 q4) &&& (4294967295 : Int64))) else ((-1))) → lv_has ls 6 [(4, .long (q1.1)), (0, .ref ((b 0))), (1, .int 1), (2, .long p1)] → va_P D xCl (xWZ k b q1.2) H → va_D A (xWZ k b q1.2) → va_S A s.heap H locs → W p l e { frames := 6, cells := 0, slots := 0, locals := 157 } s m args below meth c H locs (0) (0) Q (F0 m 45 ls [.long v6]) := by
    intro H locs ls v6 hv6 hl hP hD hS
    have hv := xlt_v hv6 hv
    exact hret _ q1.2 H locs ls _ (by unfold xf_Z_entryAt_1; exact (xlt_e hq1 (xlt_e hv6 rfl))) hP hD hS xd_Z_entryAt_45
  have hv := hva
  refine lv_if_ge (tgt := 34) hx hb xd_Z_entryAt_25 rfl (fun h8 => ?_) (fun h8 => ?_)
  · have hv := xit_v h8 hv
    refine lv_aload_n hx hb xd_Z_entryAt_34 rfl (lv_at hl 1 rfl) ?_
    refine lv_lload hx hb xd_Z_entryAt_35 (lv_at hl 0 rfl) ?_
    obtain ⟨hn10, hv⟩ := xan_v hv
    refine xcW_i (va_runV (As := [.long (q1.1)]) (rest := []) ⟨hx, hb, hml, hown, htg⟩ (c_Z_word l D z k b H.size q1.2 q1.1 hn10) (cwV 1 htg (xg_V0 xkin_Z_word xw_959 xw_961 xsel_Z_word xw_9) rfl rfl rfl (by decide +kernel) ⟨Nat.le_of_ble_eq_true rfl, Nat.le_of_ble_eq_true rfl⟩) ⟨xB_blind, xrecv_Z hK hP, fun U hU hW => xB_mk hP hK hD hE hS (xsubW hD hA hS) hU hW⟩ rfl rfl hl.1 rfl (lv_room (Nat.le_of_ble_eq_true rfl)) xd_Z_entryAt_37 ⟨Nat.le_of_ble_eq_true rfl, Nat.le_of_ble_eq_true rfl⟩) hD hA hS (fun r u1 H locs hw hP hD hS => ?_)
    obtain ⟨q9, hq9⟩ : ∃ q, q = xf_Z_word q1.2 q1.1 := ⟨_, rfl⟩
    obtain ⟨e1, e2⟩ := hw
    rw [← hq9] at e1
    obtain rfl : q9 = r := e1.symm
    obtain rfl : q1.2 = u1 := e2.symm
    have hP : va_P D xCl (xWZ k b q1.2) H := hP
    have hD : va_D A (xWZ k b q1.2) := hD
    have hv := xlt_v hq9 hv
    refine lv_i2l (v := (Int32.toInt64 q9)) hx hb xd_Z_entryAt_40 rfl ?_
    refine lv_ldc2 (v := 4294967295) hx hb hown (htg _ xw_887) xd_Z_entryAt_41 ?_
    refine lv_land hx hb xd_Z_entryAt_44 ?_
    exact hj7 H locs ls ((Int32.toInt64 q9) &&& (4294967295 : Int64)) (xit h8 (xlt_e hq9 rfl)) hl hP hD hS
  · have hv := xif_v h8 hv
    refine lv_ldc2 (v := (-1)) hx hb hown (htg _ xw_937) xd_Z_entryAt_28 ?_
    refine lv_goto (tgt := 45) hx hb xd_Z_entryAt_31 rfl ?_
    exact hj7 H locs ls (-1 : Int64) (xif h8 rfl) hl hP hD hS

noncomputable def xf_Z_enter_512 (u : XZ) (p1 : Int32) (p2 : Int32) (p3 : Int32) : XZ :=
  xlt (xf_Z_become u ((512 : Int32) + (65 : Int32)) (xg_Z_pc u) : XZ) fun q1 =>
  xlt (xf_Z_become q1 ((512 : Int32) + (66 : Int32)) p1 : XZ) fun q3 =>
  xlt (xf_Z_become q3 ((512 : Int32) + (67 : Int32)) p2 : XZ) fun q5 =>
  xlt (xf_Z_bit q5 (512 : Int32) (1 : Int32) : Int32) fun q7 =>
  xlt (xf_Z_setBit q5 (512 : Int32) (5 : Int32) q7 : XZ) fun q9 =>
  xlt (xf_Z_setBit q9 (512 : Int32) (1 : Int32) (0 : Int32) : XZ) fun q11 =>
  xlt (if (xg_Z_mode q11) = 1 then (1) else (if (xg_Z_mode q11) = 3 then (1) else (0)) : Int32) fun v15 =>
  xlt (xf_Z_setBit q11 (512 : Int32) (8 : Int32) v15 : XZ) fun q17 =>
  xlt (xf_Z_value (xs_Z_mode q17 p3) ((512 : Int32) + (5 : Int32)) : Int32) fun q19 =>
  xlt (if 0 ≤ p1 then (0) else (if (q19 &&& (1 : Int32)) = 1 then (((4 : Int32) * (p1 &&& (31 : Int32)))) else (0)) : Int32) fun v23 =>
  (xs_Z_pc (xs_Z_mode q17 p3) ((q19 &&& (-4 : Int32)) + v23))
def xv_Z_enter_512 (u : XZ) (p1 : Int32) (p2 : Int32) (p3 : Int32) : Prop := XVc (
  (xv_Z_become u ((512 : Int32) + (65 : Int32)) (xg_Z_pc u)) ∧
  xlt (xf_Z_become u ((512 : Int32) + (65 : Int32)) (xg_Z_pc u) : XZ) fun q1 =>
  (xv_Z_become q1 ((512 : Int32) + (66 : Int32)) p1) ∧
  xlt (xf_Z_become q1 ((512 : Int32) + (66 : Int32)) p1 : XZ) fun q3 =>
  (xv_Z_become q3 ((512 : Int32) + (67 : Int32)) p2) ∧
  xlt (xf_Z_become q3 ((512 : Int32) + (67 : Int32)) p2 : XZ) fun q5 =>
  (xv_Z_bit q5 (512 : Int32) (1 : Int32)) ∧
  xlt (xf_Z_bit q5 (512 : Int32) (1 : Int32) : Int32) fun q7 =>
  (xv_Z_setBit q5 (512 : Int32) (5 : Int32) q7) ∧
  xlt (xf_Z_setBit q5 (512 : Int32) (5 : Int32) q7 : XZ) fun q9 =>
  (xv_Z_setBit q9 (512 : Int32) (1 : Int32) (0 : Int32)) ∧
  xlt (xf_Z_setBit q9 (512 : Int32) (1 : Int32) (0 : Int32) : XZ) fun q11 =>
  xlt (if (xg_Z_mode q11) = 1 then (1) else (if (xg_Z_mode q11) = 3 then (1) else (0)) : Int32) fun v15 =>
  (xv_Z_setBit q11 (512 : Int32) (8 : Int32) v15) ∧
  xlt (xf_Z_setBit q11 (512 : Int32) (8 : Int32) v15 : XZ) fun q17 =>
  (xv_Z_value (xs_Z_mode q17 p3) ((512 : Int32) + (5 : Int32))) ∧
  xlt (xf_Z_value (xs_Z_mode q17 p3) ((512 : Int32) + (5 : Int32)) : Int32) fun q19 =>
  xlt (if 0 ≤ p1 then (0) else (if (q19 &&& (1 : Int32)) = 1 then (((4 : Int32) * (p1 &&& (31 : Int32)))) else (0)) : Int32) fun v23 =>
  True)
set_option maxHeartbeats 4000000 in
set_option maxRecDepth 100000 in
theorem c_Z_enter_512 (l : Launch) (D : va_G) (z : (Nat → Nat) × (Nat → Nat)) (k : ClassId × ClassId) (b : Nat → Nat) (sz : Nat) (u : XZ) (p1 : Int32) (p2 : Int32) (p3 : Int32) (hv : xv_Z_enter_512 u p1 p2 p3) : Met l xy_Z_enter (xk_Z_enter :: lw_g) { frames := 3, cells := 0, slots := 0, locals := 66 } (va_Pc [.ref ((b 0)), .int 512, .int p1, .int p2, .int p3] (xB D (xTy k) z sz (xWZ k b u))) (va_Qv (fun q : XZ => q = xf_Z_enter_512 u p1 p2 p3) (fun q t => xQ D (xTy k) (xWZ k b q) (va_A (xWZ k b u) sz) t) (va_A (xWZ k b u) sz)) 0 0 (va_A (xWZ k b u) sz) := by
  refine xopen_v (wf := fun q : XZ => xWZ k b q) (lv := [(0, .ref ((b 0))), (1, .int 512), (2, .int p1), (3, .int p2), (4, .int p3)]) (by decide) rfl (Nat.le_of_ble_eq_true rfl) ?_
  intro p e s m args below meth c Q ls A H locs hx hb hml htg hown hin hK hP hD hE hS hA hl hret
  unfold xv_Z_enter_512 at hv
  refine lv_aload_n hx hb xd_Z_enter_0 rfl (lv_at hl 0 rfl) ?_
  refine lv_iload_n hx hb xd_Z_enter_1 rfl (lv_at hl 1 rfl) ?_
  refine lv_bipush (v := 65) hx hb xd_Z_enter_2 (by decide) ?_
  refine lv_iadd hx hb xd_Z_enter_4 ?_
  refine lv_aload_n hx hb xd_Z_enter_5 rfl (lv_at hl 0 rfl) ?_
  refine xget_Z_pc (v := (xg_Z_pc u)) hx hb htg hown hK hP (htg _ xw_730) rfl xd_Z_enter_6 ?_
  obtain ⟨hn2, hv⟩ := xan_v hv
  refine xcW_v (va_runV (As := [.int (((512 : Int32) + (65 : Int32))), .int ((xg_Z_pc u))]) (rest := []) ⟨hx, hb, hml, hown, htg⟩ (c_Z_become l D z k b H.size u ((512 : Int32) + (65 : Int32)) (xg_Z_pc u) hn2) (cwV 2 htg (xg_V0 xkin_Z_become xw_863 xw_865 xsel_Z_become xw_9) rfl rfl rfl (by decide +kernel) ⟨Nat.le_of_ble_eq_true rfl, Nat.le_of_ble_eq_true rfl⟩) ⟨xB_blind, xrecv_Z hK hP, fun U hU hW => xB_mk hP hK hD hE hS (xsubW hD hA hS) hU hW⟩ rfl rfl hl.1 rfl (lv_room (Nat.le_of_ble_eq_true rfl)) xd_Z_enter_9 ⟨Nat.le_of_ble_eq_true rfl, Nat.le_of_ble_eq_true rfl⟩) hD hA hS (fun u1 H locs hw hP hD hS => ?_)
  obtain ⟨q1, hq1⟩ : ∃ q, q = xf_Z_become u ((512 : Int32) + (65 : Int32)) (xg_Z_pc u) := ⟨_, rfl⟩
  rw [← hq1] at hw
  obtain rfl : q1 = u1 := hw.symm
  have hP : va_P D xCl (xWZ k b q1) H := hP
  have hD : va_D A (xWZ k b q1) := hD
  have hv := xlt_v hq1 hv
  refine lv_aload_n hx hb xd_Z_enter_12 rfl (lv_at hl 0 rfl) ?_
  refine lv_iload_n hx hb xd_Z_enter_13 rfl (lv_at hl 1 rfl) ?_
  refine lv_bipush (v := 66) hx hb xd_Z_enter_14 (by decide) ?_
  refine lv_iadd hx hb xd_Z_enter_16 ?_
  refine lv_iload_n hx hb xd_Z_enter_17 rfl (lv_at hl 2 rfl) ?_
  obtain ⟨hn4, hv⟩ := xan_v hv
  refine xcW_v (va_runV (As := [.int (((512 : Int32) + (66 : Int32))), .int p1]) (rest := []) ⟨hx, hb, hml, hown, htg⟩ (c_Z_become l D z k b H.size q1 ((512 : Int32) + (66 : Int32)) p1 hn4) (cwV 2 htg (xg_V0 xkin_Z_become xw_863 xw_865 xsel_Z_become xw_9) rfl rfl rfl (by decide +kernel) ⟨Nat.le_of_ble_eq_true rfl, Nat.le_of_ble_eq_true rfl⟩) ⟨xB_blind, xrecv_Z hK hP, fun U hU hW => xB_mk hP hK hD hE hS (xsubW hD hA hS) hU hW⟩ rfl rfl hl.1 rfl (lv_room (Nat.le_of_ble_eq_true rfl)) xd_Z_enter_18 ⟨Nat.le_of_ble_eq_true rfl, Nat.le_of_ble_eq_true rfl⟩) hD hA hS (fun u1 H locs hw hP hD hS => ?_)
  obtain ⟨q3, hq3⟩ : ∃ q, q = xf_Z_become q1 ((512 : Int32) + (66 : Int32)) p1 := ⟨_, rfl⟩
  rw [← hq3] at hw
  obtain rfl : q3 = u1 := hw.symm
  have hP : va_P D xCl (xWZ k b q3) H := hP
  have hD : va_D A (xWZ k b q3) := hD
  have hv := xlt_v hq3 hv
  refine lv_aload_n hx hb xd_Z_enter_21 rfl (lv_at hl 0 rfl) ?_
  refine lv_iload_n hx hb xd_Z_enter_22 rfl (lv_at hl 1 rfl) ?_
  refine lv_bipush (v := 67) hx hb xd_Z_enter_23 (by decide) ?_
  refine lv_iadd hx hb xd_Z_enter_25 ?_
  refine lv_iload_n hx hb xd_Z_enter_26 rfl (lv_at hl 3 rfl) ?_
  obtain ⟨hn6, hv⟩ := xan_v hv
  refine xcW_v (va_runV (As := [.int (((512 : Int32) + (67 : Int32))), .int p2]) (rest := []) ⟨hx, hb, hml, hown, htg⟩ (c_Z_become l D z k b H.size q3 ((512 : Int32) + (67 : Int32)) p2 hn6) (cwV 2 htg (xg_V0 xkin_Z_become xw_863 xw_865 xsel_Z_become xw_9) rfl rfl rfl (by decide +kernel) ⟨Nat.le_of_ble_eq_true rfl, Nat.le_of_ble_eq_true rfl⟩) ⟨xB_blind, xrecv_Z hK hP, fun U hU hW => xB_mk hP hK hD hE hS (xsubW hD hA hS) hU hW⟩ rfl rfl hl.1 rfl (lv_room (Nat.le_of_ble_eq_true rfl)) xd_Z_enter_27 ⟨Nat.le_of_ble_eq_true rfl, Nat.le_of_ble_eq_true rfl⟩) hD hA hS (fun u1 H locs hw hP hD hS => ?_)
  obtain ⟨q5, hq5⟩ : ∃ q, q = xf_Z_become q3 ((512 : Int32) + (67 : Int32)) p2 := ⟨_, rfl⟩
  rw [← hq5] at hw
  obtain rfl : q5 = u1 := hw.symm
  have hP : va_P D xCl (xWZ k b q5) H := hP
  have hD : va_D A (xWZ k b q5) := hD
  have hv := xlt_v hq5 hv
  refine lv_aload_n hx hb xd_Z_enter_30 rfl (lv_at hl 0 rfl) ?_
  refine lv_iload_n hx hb xd_Z_enter_31 rfl (lv_at hl 1 rfl) ?_
  refine lv_iconst (v := 5) hx hb xd_Z_enter_32 (by decide) ?_
  refine lv_aload_n hx hb xd_Z_enter_33 rfl (lv_at hl 0 rfl) ?_
  refine lv_iload_n hx hb xd_Z_enter_34 rfl (lv_at hl 1 rfl) ?_
  refine lv_iconst (v := 1) hx hb xd_Z_enter_35 (by decide) ?_
  obtain ⟨hn8, hv⟩ := xan_v hv
  refine xcW_i (va_runV (As := [.int 512, .int 1]) (rest := [.int 5, .int 512, .ref ((b 0))]) ⟨hx, hb, hml, hown, htg⟩ (c_Z_bit l D z k b H.size q5 (512 : Int32) (1 : Int32) hn8) (cwV 2 htg (xg_V0 xkin_Z_bit xw_867 xw_869 xsel_Z_bit xw_9) rfl rfl rfl (by decide +kernel) ⟨Nat.le_of_ble_eq_true rfl, Nat.le_of_ble_eq_true rfl⟩) ⟨xB_blind, xrecv_Z hK hP, fun U hU hW => xB_mk hP hK hD hE hS (xsubW hD hA hS) hU hW⟩ rfl rfl hl.1 rfl (lv_room (Nat.le_of_ble_eq_true rfl)) xd_Z_enter_36 ⟨Nat.le_of_ble_eq_true rfl, Nat.le_of_ble_eq_true rfl⟩) hD hA hS (fun r u1 H locs hw hP hD hS => ?_)
  obtain ⟨q7, hq7⟩ : ∃ q, q = xf_Z_bit q5 (512 : Int32) (1 : Int32) := ⟨_, rfl⟩
  obtain ⟨e1, e2⟩ := hw
  rw [← hq7] at e1
  obtain rfl : q7 = r := e1.symm
  obtain rfl : q5 = u1 := e2.symm
  have hP : va_P D xCl (xWZ k b q5) H := hP
  have hD : va_D A (xWZ k b q5) := hD
  have hv := xlt_v hq7 hv
  obtain ⟨hn10, hv⟩ := xan_v hv
  refine xcW_v (va_runV (As := [.int 512, .int 5, .int q7]) (rest := []) ⟨hx, hb, hml, hown, htg⟩ (c_Z_setBit l D z k b H.size q5 (512 : Int32) (5 : Int32) q7 hn10) (cwV 3 htg (xg_V0 xkin_Z_setBit xw_855 xw_857 xsel_Z_setBit xw_9) rfl rfl rfl (by decide +kernel) ⟨Nat.le_of_ble_eq_true rfl, Nat.le_of_ble_eq_true rfl⟩) ⟨xB_blind, xrecv_Z hK hP, fun U hU hW => xB_mk hP hK hD hE hS (xsubW hD hA hS) hU hW⟩ rfl rfl hl.1 rfl (lv_room (Nat.le_of_ble_eq_true rfl)) xd_Z_enter_39 ⟨Nat.le_of_ble_eq_true rfl, Nat.le_of_ble_eq_true rfl⟩) hD hA hS (fun u1 H locs hw hP hD hS => ?_)
  obtain ⟨q9, hq9⟩ : ∃ q, q = xf_Z_setBit q5 (512 : Int32) (5 : Int32) q7 := ⟨_, rfl⟩
  rw [← hq9] at hw
  obtain rfl : q9 = u1 := hw.symm
  have hP : va_P D xCl (xWZ k b q9) H := hP
  have hD : va_D A (xWZ k b q9) := hD
  have hv := xlt_v hq9 hv
  refine lv_aload_n hx hb xd_Z_enter_42 rfl (lv_at hl 0 rfl) ?_
  refine lv_iload_n hx hb xd_Z_enter_43 rfl (lv_at hl 1 rfl) ?_
  refine lv_iconst (v := 1) hx hb xd_Z_enter_44 (by decide) ?_
  refine lv_iconst (v := 0) hx hb xd_Z_enter_45 (by decide) ?_
  obtain ⟨hn12, hv⟩ := xan_v hv
  refine xcW_v (va_runV (As := [.int 512, .int 1, .int 0]) (rest := []) ⟨hx, hb, hml, hown, htg⟩ (c_Z_setBit l D z k b H.size q9 (512 : Int32) (1 : Int32) (0 : Int32) hn12) (cwV 3 htg (xg_V0 xkin_Z_setBit xw_855 xw_857 xsel_Z_setBit xw_9) rfl rfl rfl (by decide +kernel) ⟨Nat.le_of_ble_eq_true rfl, Nat.le_of_ble_eq_true rfl⟩) ⟨xB_blind, xrecv_Z hK hP, fun U hU hW => xB_mk hP hK hD hE hS (xsubW hD hA hS) hU hW⟩ rfl rfl hl.1 rfl (lv_room (Nat.le_of_ble_eq_true rfl)) xd_Z_enter_46 ⟨Nat.le_of_ble_eq_true rfl, Nat.le_of_ble_eq_true rfl⟩) hD hA hS (fun u1 H locs hw hP hD hS => ?_)
  obtain ⟨q11, hq11⟩ : ∃ q, q = xf_Z_setBit q9 (512 : Int32) (1 : Int32) (0 : Int32) := ⟨_, rfl⟩
  rw [← hq11] at hw
  obtain rfl : q11 = u1 := hw.symm
  have hP : va_P D xCl (xWZ k b q11) H := hP
  have hD : va_D A (xWZ k b q11) := hD
  have hv := xlt_v hq11 hv
  refine lv_aload_n hx hb xd_Z_enter_49 rfl (lv_at hl 0 rfl) ?_
  refine lv_iload_n hx hb xd_Z_enter_50 rfl (lv_at hl 1 rfl) ?_
  refine lv_bipush (v := 8) hx hb xd_Z_enter_51 (by decide) ?_
  refine lv_aload_n hx hb xd_Z_enter_53 rfl (lv_at hl 0 rfl) ?_
  refine xget_Z_mode (v := (xg_Z_mode q11)) hx hb htg hown hK hP (htg _ xw_731) rfl xd_Z_enter_54 ?_
  refine lv_iconst (v := 1) hx hb xd_Z_enter_57 (by decide) ?_
  have hj16 : ∀ (H : Heap) (locs : List Loc) (ls : Array Slot) (v15 : Int32), v15 = (if (xg_Z_mode q11) = 1 then (1) else (if (xg_Z_mode q11) = 3 then (1) else (0))) → lv_has ls 6 [(0, .ref ((b 0))), (1, .int 512), (2, .int p1), (3, .int p2), (4, .int p3)] → va_P D xCl (xWZ k b q11) H → va_D A (xWZ k b q11) → va_S A s.heap H locs → W p l e { frames := 3, cells := 0, slots := 0, locals := 66 } s m args below meth c H locs (0) (0) Q (F0 m 74 ls [.int v15, .int 8, .int 512, .ref ((b 0))]) := by
    intro H locs ls v15 hv15 hl hP hD hS
    have hv := xlt_v hv15 hv
    obtain ⟨hn18, hv⟩ := xan_v hv
    refine xcW_v (va_runV (As := [.int 512, .int 8, .int v15]) (rest := []) ⟨hx, hb, hml, hown, htg⟩ (c_Z_setBit l D z k b H.size q11 (512 : Int32) (8 : Int32) v15 hn18) (cwV 3 htg (xg_V0 xkin_Z_setBit xw_855 xw_857 xsel_Z_setBit xw_9) rfl rfl rfl (by decide +kernel) ⟨Nat.le_of_ble_eq_true rfl, Nat.le_of_ble_eq_true rfl⟩) ⟨xB_blind, xrecv_Z hK hP, fun U hU hW => xB_mk hP hK hD hE hS (xsubW hD hA hS) hU hW⟩ rfl rfl hl.1 rfl (lv_room (Nat.le_of_ble_eq_true rfl)) xd_Z_enter_74 ⟨Nat.le_of_ble_eq_true rfl, Nat.le_of_ble_eq_true rfl⟩) hD hA hS (fun u1 H locs hw hP hD hS => ?_)
    obtain ⟨q17, hq17⟩ : ∃ q, q = xf_Z_setBit q11 (512 : Int32) (8 : Int32) v15 := ⟨_, rfl⟩
    rw [← hq17] at hw
    obtain rfl : q17 = u1 := hw.symm
    have hP : va_P D xCl (xWZ k b q17) H := hP
    have hD : va_D A (xWZ k b q17) := hD
    have hv := xlt_v hq17 hv
    refine lv_aload_n hx hb xd_Z_enter_77 rfl (lv_at hl 0 rfl) ?_
    refine lv_iload hx hb xd_Z_enter_78 (lv_at hl 4 rfl) ?_
    refine xput_Z_mode (v := p3) hx hb htg hown hK hP hD hS (htg _ xw_731) xd_Z_enter_80 (fun H locs hP hD hS => ?_)
    refine lv_aload_n hx hb xd_Z_enter_83 rfl (lv_at hl 0 rfl) ?_
    refine lv_iload_n hx hb xd_Z_enter_84 rfl (lv_at hl 1 rfl) ?_
    refine lv_iconst (v := 5) hx hb xd_Z_enter_85 (by decide) ?_
    refine lv_iadd hx hb xd_Z_enter_86 ?_
    obtain ⟨hn20, hv⟩ := xan_v hv
    refine xcW_i (va_runV (As := [.int (((512 : Int32) + (5 : Int32)))]) (rest := []) ⟨hx, hb, hml, hown, htg⟩ (c_Z_value l D z k b H.size (xs_Z_mode q17 p3) ((512 : Int32) + (5 : Int32)) hn20) (cwV 1 htg (xg_V0 xkin_Z_value xw_859 xw_861 xsel_Z_value xw_9) rfl rfl rfl (by decide +kernel) ⟨Nat.le_of_ble_eq_true rfl, Nat.le_of_ble_eq_true rfl⟩) ⟨xB_blind, xrecv_Z hK hP, fun U hU hW => xB_mk hP hK hD hE hS (xsubW hD hA hS) hU hW⟩ rfl rfl hl.1 rfl (lv_room (Nat.le_of_ble_eq_true rfl)) xd_Z_enter_87 ⟨Nat.le_of_ble_eq_true rfl, Nat.le_of_ble_eq_true rfl⟩) hD hA hS (fun r u1 H locs hw hP hD hS => ?_)
    obtain ⟨q19, hq19⟩ : ∃ q, q = xf_Z_value (xs_Z_mode q17 p3) ((512 : Int32) + (5 : Int32)) := ⟨_, rfl⟩
    obtain ⟨e1, e2⟩ := hw
    rw [← hq19] at e1
    obtain rfl : q19 = r := e1.symm
    obtain rfl : (xs_Z_mode q17 p3) = u1 := e2.symm
    have hP : va_P D xCl (xWZ k b (xs_Z_mode q17 p3)) H := hP
    have hD : va_D A (xWZ k b (xs_Z_mode q17 p3)) := hD
    have hv := xlt_v hq19 hv
    refine lv_istore (lv' := [(5, .int q19), (0, .ref ((b 0))), (1, .int 512), (2, .int p1), (3, .int p2), (4, .int p3)]) hx hb xd_Z_enter_90 hl (by decide) rfl (fun ls hl => ?_)
    refine lv_aload_n hx hb xd_Z_enter_92 rfl (lv_at hl 1 rfl) ?_
    refine lv_iload hx hb xd_Z_enter_93 (lv_at hl 0 rfl) ?_
    refine lv_bipush (v := (-4)) hx hb xd_Z_enter_95 (by decide) ?_
    refine lv_iand hx hb xd_Z_enter_97 ?_
    refine lv_iload_n hx hb xd_Z_enter_98 rfl (lv_at hl 3 rfl) ?_
    have hj24 : ∀ (H : Heap) (locs : List Loc) (ls : Array Slot) (v23 : Int32), v23 = (if 0 ≤ p1 then (0) else (if (q19 &&& (1 : Int32)) = 1 then (((4 : Int32) * (p1 &&& (31 : Int32)))) else (0))) → lv_has ls 6 [(5, .int q19), (0, .ref ((b 0))), (1, .int 512), (2, .int p1), (3, .int p2), (4, .int p3)] → va_P D xCl (xWZ k b (xs_Z_mode q17 p3)) H → va_D A (xWZ k b (xs_Z_mode q17 p3)) → va_S A s.heap H locs → W p l e { frames := 3, cells := 0, slots := 0, locals := 66 } s m args below meth c H locs (0) (0) Q (F0 m 120 ls [.int v23, .int ((q19 &&& (-4 : Int32))), .ref ((b 0))]) := by
      intro H locs ls v23 hv23 hl hP hD hS
      have hv := xlt_v hv23 hv
      refine lv_iadd hx hb xd_Z_enter_120 ?_
      refine xput_Z_pc (v := ((q19 &&& (-4 : Int32)) + v23)) hx hb htg hown hK hP hD hS (htg _ xw_730) xd_Z_enter_121 (fun H locs hP hD hS => ?_)
      exact hret (xs_Z_pc (xs_Z_mode q17 p3) ((q19 &&& (-4 : Int32)) + v23)) H locs ls _ (by unfold xf_Z_enter_512; exact (xlt_e hq1 (xlt_e hq3 (xlt_e hq5 (xlt_e hq7 (xlt_e hq9 (xlt_e hq11 (xlt_e hv15 (xlt_e hq17 (xlt_e hq19 (xlt_e hv23 rfl))))))))))) hP hD hS xd_Z_enter_124
    refine lv_if_ge (tgt := 119) hx hb xd_Z_enter_99 rfl (fun h25 => ?_) (fun h25 => ?_)
    · refine lv_iconst (v := 0) hx hb xd_Z_enter_119 (by decide) ?_
      exact hj24 H locs ls (0 : Int32) (xit h25 rfl) hl hP hD hS
    · refine lv_iload hx hb xd_Z_enter_102 (lv_at hl 0 rfl) ?_
      refine lv_iconst (v := 1) hx hb xd_Z_enter_104 (by decide) ?_
      refine lv_iand hx hb xd_Z_enter_105 ?_
      refine lv_iconst (v := 1) hx hb xd_Z_enter_106 (by decide) ?_
      refine lv_icmp_ne (tgt := 119) hx hb xd_Z_enter_107 rfl (fun h26 => ?_) (fun h26 => ?_)
      · refine lv_iconst (v := 0) hx hb xd_Z_enter_119 (by decide) ?_
        exact hj24 H locs ls (0 : Int32) (xif h25 (xif h26 rfl)) hl hP hD hS
      · refine lv_iconst (v := 4) hx hb xd_Z_enter_110 (by decide) ?_
        refine lv_iload_n hx hb xd_Z_enter_111 rfl (lv_at hl 3 rfl) ?_
        refine lv_bipush (v := 31) hx hb xd_Z_enter_112 (by decide) ?_
        refine lv_iand hx hb xd_Z_enter_114 ?_
        refine lv_imul hx hb xd_Z_enter_115 ?_
        refine lv_goto (tgt := 120) hx hb xd_Z_enter_116 rfl ?_
        exact hj24 H locs ls ((4 : Int32) * (p1 &&& (31 : Int32))) (xif h25 (xit h26 rfl)) hl hP hD hS
  refine lv_icmp_eq (tgt := 69) hx hb xd_Z_enter_58 rfl (fun h27 => ?_) (fun h27 => ?_)
  · refine lv_iconst (v := 1) hx hb xd_Z_enter_69 (by decide) ?_
    refine lv_goto (tgt := 74) hx hb xd_Z_enter_70 rfl ?_
    exact hj16 H locs ls (1 : Int32) (xit h27 rfl) hl hP hD hS
  · refine lv_aload_n hx hb xd_Z_enter_61 rfl (lv_at hl 0 rfl) ?_
    refine xget_Z_mode (v := (xg_Z_mode q11)) hx hb htg hown hK hP (htg _ xw_731) rfl xd_Z_enter_62 ?_
    refine lv_iconst (v := 3) hx hb xd_Z_enter_65 (by decide) ?_
    refine lv_icmp_ne (tgt := 73) hx hb xd_Z_enter_66 rfl (fun h28 => ?_) (fun h28 => ?_)
    · refine lv_iconst (v := 0) hx hb xd_Z_enter_73 (by decide) ?_
      exact hj16 H locs ls (0 : Int32) (xif h27 (xif h28 rfl)) hl hP hD hS
    · refine lv_iconst (v := 1) hx hb xd_Z_enter_69 (by decide) ?_
      refine lv_goto (tgt := 74) hx hb xd_Z_enter_70 rfl ?_
      exact hj16 H locs ls (1 : Int32) (xif h27 (xit h28 rfl)) hl hP hD hS

noncomputable def xf_Z_trap (u : XZ) : XZ :=
  xlt (xf_Z_isVirtual u : Int32) fun q1 =>
  if q1 = 0 then
    xlt (xf_Z_enterS u (xg_Z_cause u) (xg_Z_wrong u) (xz (xg_Z_ofGuest u)) : XZ) fun q3 =>
    xlt (xf_Z_become q3 (1603 : Int32) (Int64.toInt32 ((xg_Z_far q3) / (4 : Int64))) : XZ) fun q5 =>
    xlt (if (xz (xg_Z_ofEntry q5)) = 0 then (0) else (8192) : Int32) fun v8 =>
    xlt (xf_Z_become q5 (1610 : Int32) v8 : XZ) fun q10 =>
    q10
  else
    xlt (xf_Z_value u (1538 : Int32) : Int32) fun q13 =>
    if ((q13 >>> ((xg_Z_cause u) &&& 31)) &&& (1 : Int32)) = 1 then
      xlt (xf_Z_enter_512 u (xg_Z_cause u) (xg_Z_wrong u) (3 : Int32) : XZ) fun q26 =>
      (xs_Z_toVs q26 ((xg_Z_toVs q26) + (1 : Int32)))
    else
      xlt (xf_Z_enterS u (xg_Z_cause u) (xg_Z_wrong u) (xz (xg_Z_ofGuest u)) : XZ) fun q16 =>
      xlt (xf_Z_become q16 (1603 : Int32) (Int64.toInt32 ((xg_Z_far q16) / (4 : Int64))) : XZ) fun q18 =>
      xlt (if (xz (xg_Z_ofEntry q18)) = 0 then (0) else (8192) : Int32) fun v21 =>
      xlt (xf_Z_become q18 (1610 : Int32) v21 : XZ) fun q23 =>
      q23
def xv_Z_trap (u : XZ) : Prop := XVc (
  xlt (xf_Z_isVirtual u : Int32) fun q1 =>
  if q1 = 0 then
    (xv_Z_enterS u (xg_Z_cause u) (xg_Z_wrong u) (xz (xg_Z_ofGuest u))) ∧
    xlt (xf_Z_enterS u (xg_Z_cause u) (xg_Z_wrong u) (xz (xg_Z_ofGuest u)) : XZ) fun q3 =>
    (xv_Z_become q3 (1603 : Int32) (Int64.toInt32 ((xg_Z_far q3) / (4 : Int64)))) ∧
    xlt (xf_Z_become q3 (1603 : Int32) (Int64.toInt32 ((xg_Z_far q3) / (4 : Int64))) : XZ) fun q5 =>
    xlt (if (xz (xg_Z_ofEntry q5)) = 0 then (0) else (8192) : Int32) fun v8 =>
    (xv_Z_become q5 (1610 : Int32) v8) ∧
    xlt (xf_Z_become q5 (1610 : Int32) v8 : XZ) fun q10 =>
    True
  else
    (xv_Z_value u (1538 : Int32)) ∧
    xlt (xf_Z_value u (1538 : Int32) : Int32) fun q13 =>
    if ((q13 >>> ((xg_Z_cause u) &&& 31)) &&& (1 : Int32)) = 1 then
      (xv_Z_enter_512 u (xg_Z_cause u) (xg_Z_wrong u) (3 : Int32)) ∧
      xlt (xf_Z_enter_512 u (xg_Z_cause u) (xg_Z_wrong u) (3 : Int32) : XZ) fun q26 =>
      True
    else
      (xv_Z_enterS u (xg_Z_cause u) (xg_Z_wrong u) (xz (xg_Z_ofGuest u))) ∧
      xlt (xf_Z_enterS u (xg_Z_cause u) (xg_Z_wrong u) (xz (xg_Z_ofGuest u)) : XZ) fun q16 =>
      (xv_Z_become q16 (1603 : Int32) (Int64.toInt32 ((xg_Z_far q16) / (4 : Int64)))) ∧
      xlt (xf_Z_become q16 (1603 : Int32) (Int64.toInt32 ((xg_Z_far q16) / (4 : Int64))) : XZ) fun q18 =>
      xlt (if (xz (xg_Z_ofEntry q18)) = 0 then (0) else (8192) : Int32) fun v21 =>
      (xv_Z_become q18 (1610 : Int32) v21) ∧
      xlt (xf_Z_become q18 (1610 : Int32) v21 : XZ) fun q23 =>
      True)
set_option maxHeartbeats 4000000 in
set_option maxRecDepth 100000 in
theorem c_Z_trap (l : Launch) (D : va_G) (z : (Nat → Nat) × (Nat → Nat)) (k : ClassId × ClassId) (b : Nat → Nat) (sz : Nat) (u : XZ) (hv : xv_Z_trap u) : Met l xy_Z_trap (xk_Z_trap :: lw_g) { frames := 5, cells := 0, slots := 0, locals := 114 } (va_Pc [.ref ((b 0))] (xB D (xTy k) z sz (xWZ k b u))) (va_Qv (fun q : XZ => q = xf_Z_trap u) (fun q t => xQ D (xTy k) (xWZ k b q) (va_A (xWZ k b u) sz) t) (va_A (xWZ k b u) sz)) 0 0 (va_A (xWZ k b u) sz) := by
  refine xopen_v (wf := fun q : XZ => xWZ k b q) (lv := [(0, .ref ((b 0)))]) (by decide) rfl (Nat.le_of_ble_eq_true rfl) ?_
  intro p e s m args below meth c Q ls A H locs hx hb hml htg hown hin hK hP hD hE hS hA hl hret
  unfold xv_Z_trap at hv
  refine lv_aload_n hx hb xd_Z_trap_0 rfl (lv_at hl 0 rfl) ?_
  refine xcW_i (va_runV (As := []) (rest := []) ⟨hx, hb, hml, hown, htg⟩ (c_Z_isVirtual l D z k b H.size u) (cwV 0 htg (xg_V0 xkin_Z_isVirtual xw_917 xw_919 xsel_Z_isVirtual xw_9) rfl rfl rfl (by decide +kernel) ⟨Nat.le_of_ble_eq_true rfl, Nat.le_of_ble_eq_true rfl⟩) ⟨xB_blind, xrecv_Z hK hP, fun U hU hW => xB_mk hP hK hD hE hS (xsubW hD hA hS) hU hW⟩ rfl rfl hl.1 rfl (lv_room (Nat.le_of_ble_eq_true rfl)) xd_Z_trap_1 ⟨Nat.le_of_ble_eq_true rfl, Nat.le_of_ble_eq_true rfl⟩) hD hA hS (fun r u1 H locs hw hP hD hS => ?_)
  obtain ⟨q1, hq1⟩ : ∃ q, q = xf_Z_isVirtual u := ⟨_, rfl⟩
  obtain ⟨e1, e2⟩ := hw
  rw [← hq1] at e1
  obtain rfl : q1 = r := e1.symm
  obtain rfl : u = u1 := e2.symm
  have hP : va_P D xCl (xWZ k b u) H := hP
  have hD : va_D A (xWZ k b u) := hD
  have hv := xlt_v hq1 hv
  refine lv_if_eq (tgt := 52) hx hb xd_Z_trap_4 rfl (fun h2 => ?_) (fun h2 => ?_)
  · have hv := xit_v h2 hv
    refine lv_aload_n hx hb xd_Z_trap_52 rfl (lv_at hl 0 rfl) ?_
    refine lv_aload_n hx hb xd_Z_trap_53 rfl (lv_at hl 0 rfl) ?_
    refine xget_Z_cause (v := (xg_Z_cause u)) hx hb htg hown hK hP (htg _ xw_742) rfl xd_Z_trap_54 ?_
    refine lv_aload_n hx hb xd_Z_trap_57 rfl (lv_at hl 0 rfl) ?_
    refine xget_Z_wrong (v := (xg_Z_wrong u)) hx hb htg hown hK hP (htg _ xw_743) rfl xd_Z_trap_58 ?_
    refine lv_aload_n hx hb xd_Z_trap_61 rfl (lv_at hl 0 rfl) ?_
    refine xget_Z_ofGuest (v := (xg_Z_ofGuest u)) hx hb htg hown hK hP (htg _ xw_744) rfl xd_Z_trap_62 ?_
    obtain ⟨hn4, hv⟩ := xan_v hv
    refine xcW_v (va_runV (As := [.int ((xg_Z_cause u)), .int ((xg_Z_wrong u)), .int ((xz (xg_Z_ofGuest u)))]) (rest := []) ⟨hx, hb, hml, hown, htg⟩ (c_Z_enterS l D z k b H.size u (xg_Z_cause u) (xg_Z_wrong u) (xz (xg_Z_ofGuest u)) hn4) (cwV 3 htg (xg_V0 xkin_Z_enterS xw_913 xw_915 xsel_Z_enterS xw_9) rfl rfl rfl (by decide +kernel) ⟨Nat.le_of_ble_eq_true rfl, Nat.le_of_ble_eq_true rfl⟩) ⟨xB_blind, xrecv_Z hK hP, fun U hU hW => xB_mk hP hK hD hE hS (xsubW hD hA hS) hU hW⟩ rfl rfl hl.1 rfl (lv_room (Nat.le_of_ble_eq_true rfl)) xd_Z_trap_65 ⟨Nat.le_of_ble_eq_true rfl, Nat.le_of_ble_eq_true rfl⟩) hD hA hS (fun u1 H locs hw hP hD hS => ?_)
    obtain ⟨q3, hq3⟩ : ∃ q, q = xf_Z_enterS u (xg_Z_cause u) (xg_Z_wrong u) (xz (xg_Z_ofGuest u)) := ⟨_, rfl⟩
    rw [← hq3] at hw
    obtain rfl : q3 = u1 := hw.symm
    have hP : va_P D xCl (xWZ k b q3) H := hP
    have hD : va_D A (xWZ k b q3) := hD
    have hv := xlt_v hq3 hv
    refine lv_aload_n hx hb xd_Z_trap_68 rfl (lv_at hl 0 rfl) ?_
    refine lv_sipush (v := 1603) hx hb xd_Z_trap_69 (by decide) ?_
    refine lv_aload_n hx hb xd_Z_trap_72 rfl (lv_at hl 0 rfl) ?_
    refine xget_Z_far (v := (xg_Z_far q3)) hx hb htg hown hK hP (htg _ xw_745) rfl xd_Z_trap_73 ?_
    refine lv_ldc2 (v := 4) hx hb hown (htg _ xw_944) xd_Z_trap_76 ?_
    refine lv_ldiv hx hb xd_Z_trap_79 (by decide) ?_
    refine lv_l2i (v := (Int64.toInt32 ((xg_Z_far q3) / (4 : Int64)))) hx hb xd_Z_trap_80 rfl ?_
    obtain ⟨hn6, hv⟩ := xan_v hv
    refine xcW_v (va_runV (As := [.int 1603, .int ((Int64.toInt32 ((xg_Z_far q3) / (4 : Int64))))]) (rest := []) ⟨hx, hb, hml, hown, htg⟩ (c_Z_become l D z k b H.size q3 (1603 : Int32) (Int64.toInt32 ((xg_Z_far q3) / (4 : Int64))) hn6) (cwV 2 htg (xg_V0 xkin_Z_become xw_863 xw_865 xsel_Z_become xw_9) rfl rfl rfl (by decide +kernel) ⟨Nat.le_of_ble_eq_true rfl, Nat.le_of_ble_eq_true rfl⟩) ⟨xB_blind, xrecv_Z hK hP, fun U hU hW => xB_mk hP hK hD hE hS (xsubW hD hA hS) hU hW⟩ rfl rfl hl.1 rfl (lv_room (Nat.le_of_ble_eq_true rfl)) xd_Z_trap_81 ⟨Nat.le_of_ble_eq_true rfl, Nat.le_of_ble_eq_true rfl⟩) hD hA hS (fun u1 H locs hw hP hD hS => ?_)
    obtain ⟨q5, hq5⟩ : ∃ q, q = xf_Z_become q3 (1603 : Int32) (Int64.toInt32 ((xg_Z_far q3) / (4 : Int64))) := ⟨_, rfl⟩
    rw [← hq5] at hw
    obtain rfl : q5 = u1 := hw.symm
    have hP : va_P D xCl (xWZ k b q5) H := hP
    have hD : va_D A (xWZ k b q5) := hD
    have hv := xlt_v hq5 hv
    refine lv_aload_n hx hb xd_Z_trap_84 rfl (lv_at hl 0 rfl) ?_
    refine lv_sipush (v := 1610) hx hb xd_Z_trap_85 (by decide) ?_
    refine lv_aload_n hx hb xd_Z_trap_88 rfl (lv_at hl 0 rfl) ?_
    refine xget_Z_ofEntry (v := (xg_Z_ofEntry q5)) hx hb htg hown hK hP (htg _ xw_746) rfl xd_Z_trap_89 ?_
    have hj9 : ∀ (H : Heap) (locs : List Loc) (ls : Array Slot) (v8 : Int32), v8 = (if (xz (xg_Z_ofEntry q5)) = 0 then (0) else (8192)) → lv_has ls 1 [(0, .ref ((b 0)))] → va_P D xCl (xWZ k b q5) H → va_D A (xWZ k b q5) → va_S A s.heap H locs → W p l e { frames := 5, cells := 0, slots := 0, locals := 114 } s m args below meth c H locs (0) (0) Q (F0 m 102 ls [.int v8, .int 1610, .ref ((b 0))]) := by
      intro H locs ls v8 hv8 hl hP hD hS
      have hv := xlt_v hv8 hv
      obtain ⟨hn11, hv⟩ := xan_v hv
      refine xcW_v (va_runV (As := [.int 1610, .int v8]) (rest := []) ⟨hx, hb, hml, hown, htg⟩ (c_Z_become l D z k b H.size q5 (1610 : Int32) v8 hn11) (cwV 2 htg (xg_V0 xkin_Z_become xw_863 xw_865 xsel_Z_become xw_9) rfl rfl rfl (by decide +kernel) ⟨Nat.le_of_ble_eq_true rfl, Nat.le_of_ble_eq_true rfl⟩) ⟨xB_blind, xrecv_Z hK hP, fun U hU hW => xB_mk hP hK hD hE hS (xsubW hD hA hS) hU hW⟩ rfl rfl hl.1 rfl (lv_room (Nat.le_of_ble_eq_true rfl)) xd_Z_trap_102 ⟨Nat.le_of_ble_eq_true rfl, Nat.le_of_ble_eq_true rfl⟩) hD hA hS (fun u1 H locs hw hP hD hS => ?_)
      obtain ⟨q10, hq10⟩ : ∃ q, q = xf_Z_become q5 (1610 : Int32) v8 := ⟨_, rfl⟩
      rw [← hq10] at hw
      obtain rfl : q10 = u1 := hw.symm
      have hP : va_P D xCl (xWZ k b q10) H := hP
      have hD : va_D A (xWZ k b q10) := hD
      have hv := xlt_v hq10 hv
      exact hret q10 H locs ls _ (by unfold xf_Z_trap; exact (xlt_e hq1 (xit h2 (xlt_e hq3 (xlt_e hq5 (xlt_e hv8 (xlt_e hq10 rfl))))))) hP hD hS xd_Z_trap_105
    refine lv_if_eq (tgt := 101) hx hb xd_Z_trap_92 rfl (fun h12 => ?_) (fun h12 => ?_)
    · refine lv_iconst (v := 0) hx hb xd_Z_trap_101 (by decide) ?_
      exact hj9 H locs ls (0 : Int32) (xit h12 rfl) hl hP hD hS
    · refine lv_sipush (v := 8192) hx hb xd_Z_trap_95 (by decide) ?_
      refine lv_goto (tgt := 102) hx hb xd_Z_trap_98 rfl ?_
      exact hj9 H locs ls (8192 : Int32) (xif h12 rfl) hl hP hD hS
  · have hv := xif_v h2 hv
    refine lv_aload_n hx hb xd_Z_trap_7 rfl (lv_at hl 0 rfl) ?_
    refine lv_sipush (v := 1538) hx hb xd_Z_trap_8 (by decide) ?_
    obtain ⟨hn14, hv⟩ := xan_v hv
    refine xcW_i (va_runV (As := [.int 1538]) (rest := []) ⟨hx, hb, hml, hown, htg⟩ (c_Z_value l D z k b H.size u (1538 : Int32) hn14) (cwV 1 htg (xg_V0 xkin_Z_value xw_859 xw_861 xsel_Z_value xw_9) rfl rfl rfl (by decide +kernel) ⟨Nat.le_of_ble_eq_true rfl, Nat.le_of_ble_eq_true rfl⟩) ⟨xB_blind, xrecv_Z hK hP, fun U hU hW => xB_mk hP hK hD hE hS (xsubW hD hA hS) hU hW⟩ rfl rfl hl.1 rfl (lv_room (Nat.le_of_ble_eq_true rfl)) xd_Z_trap_11 ⟨Nat.le_of_ble_eq_true rfl, Nat.le_of_ble_eq_true rfl⟩) hD hA hS (fun r u1 H locs hw hP hD hS => ?_)
    obtain ⟨q13, hq13⟩ : ∃ q, q = xf_Z_value u (1538 : Int32) := ⟨_, rfl⟩
    obtain ⟨e1, e2⟩ := hw
    rw [← hq13] at e1
    obtain rfl : q13 = r := e1.symm
    obtain rfl : u = u1 := e2.symm
    have hP : va_P D xCl (xWZ k b u) H := hP
    have hD : va_D A (xWZ k b u) := hD
    have hv := xlt_v hq13 hv
    refine lv_aload_n hx hb xd_Z_trap_14 rfl (lv_at hl 0 rfl) ?_
    refine xget_Z_cause (v := (xg_Z_cause u)) hx hb htg hown hK hP (htg _ xw_742) rfl xd_Z_trap_15 ?_
    refine lv_ishr hx hb xd_Z_trap_18 ?_
    refine lv_iconst (v := 1) hx hb xd_Z_trap_19 (by decide) ?_
    refine lv_iand hx hb xd_Z_trap_20 ?_
    refine lv_iconst (v := 1) hx hb xd_Z_trap_21 (by decide) ?_
    refine lv_icmp_ne (tgt := 52) hx hb xd_Z_trap_22 rfl (fun h15 => ?_) (fun h15 => ?_)
    · have hv := xif_v h15 hv
      refine lv_aload_n hx hb xd_Z_trap_52 rfl (lv_at hl 0 rfl) ?_
      refine lv_aload_n hx hb xd_Z_trap_53 rfl (lv_at hl 0 rfl) ?_
      refine xget_Z_cause (v := (xg_Z_cause u)) hx hb htg hown hK hP (htg _ xw_742) rfl xd_Z_trap_54 ?_
      refine lv_aload_n hx hb xd_Z_trap_57 rfl (lv_at hl 0 rfl) ?_
      refine xget_Z_wrong (v := (xg_Z_wrong u)) hx hb htg hown hK hP (htg _ xw_743) rfl xd_Z_trap_58 ?_
      refine lv_aload_n hx hb xd_Z_trap_61 rfl (lv_at hl 0 rfl) ?_
      refine xget_Z_ofGuest (v := (xg_Z_ofGuest u)) hx hb htg hown hK hP (htg _ xw_744) rfl xd_Z_trap_62 ?_
      obtain ⟨hn17, hv⟩ := xan_v hv
      refine xcW_v (va_runV (As := [.int ((xg_Z_cause u)), .int ((xg_Z_wrong u)), .int ((xz (xg_Z_ofGuest u)))]) (rest := []) ⟨hx, hb, hml, hown, htg⟩ (c_Z_enterS l D z k b H.size u (xg_Z_cause u) (xg_Z_wrong u) (xz (xg_Z_ofGuest u)) hn17) (cwV 3 htg (xg_V0 xkin_Z_enterS xw_913 xw_915 xsel_Z_enterS xw_9) rfl rfl rfl (by decide +kernel) ⟨Nat.le_of_ble_eq_true rfl, Nat.le_of_ble_eq_true rfl⟩) ⟨xB_blind, xrecv_Z hK hP, fun U hU hW => xB_mk hP hK hD hE hS (xsubW hD hA hS) hU hW⟩ rfl rfl hl.1 rfl (lv_room (Nat.le_of_ble_eq_true rfl)) xd_Z_trap_65 ⟨Nat.le_of_ble_eq_true rfl, Nat.le_of_ble_eq_true rfl⟩) hD hA hS (fun u1 H locs hw hP hD hS => ?_)
      obtain ⟨q16, hq16⟩ : ∃ q, q = xf_Z_enterS u (xg_Z_cause u) (xg_Z_wrong u) (xz (xg_Z_ofGuest u)) := ⟨_, rfl⟩
      rw [← hq16] at hw
      obtain rfl : q16 = u1 := hw.symm
      have hP : va_P D xCl (xWZ k b q16) H := hP
      have hD : va_D A (xWZ k b q16) := hD
      have hv := xlt_v hq16 hv
      refine lv_aload_n hx hb xd_Z_trap_68 rfl (lv_at hl 0 rfl) ?_
      refine lv_sipush (v := 1603) hx hb xd_Z_trap_69 (by decide) ?_
      refine lv_aload_n hx hb xd_Z_trap_72 rfl (lv_at hl 0 rfl) ?_
      refine xget_Z_far (v := (xg_Z_far q16)) hx hb htg hown hK hP (htg _ xw_745) rfl xd_Z_trap_73 ?_
      refine lv_ldc2 (v := 4) hx hb hown (htg _ xw_944) xd_Z_trap_76 ?_
      refine lv_ldiv hx hb xd_Z_trap_79 (by decide) ?_
      refine lv_l2i (v := (Int64.toInt32 ((xg_Z_far q16) / (4 : Int64)))) hx hb xd_Z_trap_80 rfl ?_
      obtain ⟨hn19, hv⟩ := xan_v hv
      refine xcW_v (va_runV (As := [.int 1603, .int ((Int64.toInt32 ((xg_Z_far q16) / (4 : Int64))))]) (rest := []) ⟨hx, hb, hml, hown, htg⟩ (c_Z_become l D z k b H.size q16 (1603 : Int32) (Int64.toInt32 ((xg_Z_far q16) / (4 : Int64))) hn19) (cwV 2 htg (xg_V0 xkin_Z_become xw_863 xw_865 xsel_Z_become xw_9) rfl rfl rfl (by decide +kernel) ⟨Nat.le_of_ble_eq_true rfl, Nat.le_of_ble_eq_true rfl⟩) ⟨xB_blind, xrecv_Z hK hP, fun U hU hW => xB_mk hP hK hD hE hS (xsubW hD hA hS) hU hW⟩ rfl rfl hl.1 rfl (lv_room (Nat.le_of_ble_eq_true rfl)) xd_Z_trap_81 ⟨Nat.le_of_ble_eq_true rfl, Nat.le_of_ble_eq_true rfl⟩) hD hA hS (fun u1 H locs hw hP hD hS => ?_)
      obtain ⟨q18, hq18⟩ : ∃ q, q = xf_Z_become q16 (1603 : Int32) (Int64.toInt32 ((xg_Z_far q16) / (4 : Int64))) := ⟨_, rfl⟩
      rw [← hq18] at hw
      obtain rfl : q18 = u1 := hw.symm
      have hP : va_P D xCl (xWZ k b q18) H := hP
      have hD : va_D A (xWZ k b q18) := hD
      have hv := xlt_v hq18 hv
      refine lv_aload_n hx hb xd_Z_trap_84 rfl (lv_at hl 0 rfl) ?_
      refine lv_sipush (v := 1610) hx hb xd_Z_trap_85 (by decide) ?_
      refine lv_aload_n hx hb xd_Z_trap_88 rfl (lv_at hl 0 rfl) ?_
      refine xget_Z_ofEntry (v := (xg_Z_ofEntry q18)) hx hb htg hown hK hP (htg _ xw_746) rfl xd_Z_trap_89 ?_
      have hj22 : ∀ (H : Heap) (locs : List Loc) (ls : Array Slot) (v21 : Int32), v21 = (if (xz (xg_Z_ofEntry q18)) = 0 then (0) else (8192)) → lv_has ls 1 [(0, .ref ((b 0)))] → va_P D xCl (xWZ k b q18) H → va_D A (xWZ k b q18) → va_S A s.heap H locs → W p l e { frames := 5, cells := 0, slots := 0, locals := 114 } s m args below meth c H locs (0) (0) Q (F0 m 102 ls [.int v21, .int 1610, .ref ((b 0))]) := by
        intro H locs ls v21 hv21 hl hP hD hS
        have hv := xlt_v hv21 hv
        obtain ⟨hn24, hv⟩ := xan_v hv
        refine xcW_v (va_runV (As := [.int 1610, .int v21]) (rest := []) ⟨hx, hb, hml, hown, htg⟩ (c_Z_become l D z k b H.size q18 (1610 : Int32) v21 hn24) (cwV 2 htg (xg_V0 xkin_Z_become xw_863 xw_865 xsel_Z_become xw_9) rfl rfl rfl (by decide +kernel) ⟨Nat.le_of_ble_eq_true rfl, Nat.le_of_ble_eq_true rfl⟩) ⟨xB_blind, xrecv_Z hK hP, fun U hU hW => xB_mk hP hK hD hE hS (xsubW hD hA hS) hU hW⟩ rfl rfl hl.1 rfl (lv_room (Nat.le_of_ble_eq_true rfl)) xd_Z_trap_102 ⟨Nat.le_of_ble_eq_true rfl, Nat.le_of_ble_eq_true rfl⟩) hD hA hS (fun u1 H locs hw hP hD hS => ?_)
        obtain ⟨q23, hq23⟩ : ∃ q, q = xf_Z_become q18 (1610 : Int32) v21 := ⟨_, rfl⟩
        rw [← hq23] at hw
        obtain rfl : q23 = u1 := hw.symm
        have hP : va_P D xCl (xWZ k b q23) H := hP
        have hD : va_D A (xWZ k b q23) := hD
        have hv := xlt_v hq23 hv
        exact hret q23 H locs ls _ (by unfold xf_Z_trap; exact (xlt_e hq1 (xif h2 (xlt_e hq13 (xif h15 (xlt_e hq16 (xlt_e hq18 (xlt_e hv21 (xlt_e hq23 rfl))))))))) hP hD hS xd_Z_trap_105
      refine lv_if_eq (tgt := 101) hx hb xd_Z_trap_92 rfl (fun h25 => ?_) (fun h25 => ?_)
      · refine lv_iconst (v := 0) hx hb xd_Z_trap_101 (by decide) ?_
        exact hj22 H locs ls (0 : Int32) (xit h25 rfl) hl hP hD hS
      · refine lv_sipush (v := 8192) hx hb xd_Z_trap_95 (by decide) ?_
        refine lv_goto (tgt := 102) hx hb xd_Z_trap_98 rfl ?_
        exact hj22 H locs ls (8192 : Int32) (xif h25 rfl) hl hP hD hS
    · have hv := xit_v h15 hv
      refine lv_aload_n hx hb xd_Z_trap_25 rfl (lv_at hl 0 rfl) ?_
      refine lv_sipush (v := 512) hx hb xd_Z_trap_26 (by decide) ?_
      refine lv_aload_n hx hb xd_Z_trap_29 rfl (lv_at hl 0 rfl) ?_
      refine xget_Z_cause (v := (xg_Z_cause u)) hx hb htg hown hK hP (htg _ xw_742) rfl xd_Z_trap_30 ?_
      refine lv_aload_n hx hb xd_Z_trap_33 rfl (lv_at hl 0 rfl) ?_
      refine xget_Z_wrong (v := (xg_Z_wrong u)) hx hb htg hown hK hP (htg _ xw_743) rfl xd_Z_trap_34 ?_
      refine lv_iconst (v := 3) hx hb xd_Z_trap_37 (by decide) ?_
      obtain ⟨hn27, hv⟩ := xan_v hv
      refine xcW_v (va_runV (As := [.int 512, .int ((xg_Z_cause u)), .int ((xg_Z_wrong u)), .int 3]) (rest := []) ⟨hx, hb, hml, hown, htg⟩ (c_Z_enter_512 l D z k b H.size u (xg_Z_cause u) (xg_Z_wrong u) (3 : Int32) hn27) (cwV 4 htg (xg_V0 xkin_Z_enter xw_909 xw_911 xsel_Z_enter xw_9) rfl rfl rfl (by decide +kernel) ⟨Nat.le_of_ble_eq_true rfl, Nat.le_of_ble_eq_true rfl⟩) ⟨xB_blind, xrecv_Z hK hP, fun U hU hW => xB_mk hP hK hD hE hS (xsubW hD hA hS) hU hW⟩ rfl rfl hl.1 rfl (lv_room (Nat.le_of_ble_eq_true rfl)) xd_Z_trap_38 ⟨Nat.le_of_ble_eq_true rfl, Nat.le_of_ble_eq_true rfl⟩) hD hA hS (fun u1 H locs hw hP hD hS => ?_)
      obtain ⟨q26, hq26⟩ : ∃ q, q = xf_Z_enter_512 u (xg_Z_cause u) (xg_Z_wrong u) (3 : Int32) := ⟨_, rfl⟩
      rw [← hq26] at hw
      obtain rfl : q26 = u1 := hw.symm
      have hP : va_P D xCl (xWZ k b q26) H := hP
      have hD : va_D A (xWZ k b q26) := hD
      have hv := xlt_v hq26 hv
      refine lv_aload_n hx hb xd_Z_trap_41 rfl (lv_at hl 0 rfl) ?_
      refine lv_dup hx hb xd_Z_trap_42 rfl ?_
      refine xget_Z_toVs (v := (xg_Z_toVs q26)) hx hb htg hown hK hP (htg _ xw_740) rfl xd_Z_trap_43 ?_
      refine lv_iconst (v := 1) hx hb xd_Z_trap_46 (by decide) ?_
      refine lv_iadd hx hb xd_Z_trap_47 ?_
      refine xput_Z_toVs (v := ((xg_Z_toVs q26) + (1 : Int32))) hx hb htg hown hK hP hD hS (htg _ xw_740) xd_Z_trap_48 (fun H locs hP hD hS => ?_)
      exact hret (xs_Z_toVs q26 ((xg_Z_toVs q26) + (1 : Int32))) H locs ls _ (by unfold xf_Z_trap; exact (xlt_e hq1 (xif h2 (xlt_e hq13 (xit h15 (xlt_e hq26 rfl)))))) hP hD hS xd_Z_trap_51

noncomputable def xf_Z_walk_1 (u : XZ) (p1 : Int64) (p2 : Int64) (p3 : Int32) : Int64 × XZ :=
  xlt (xf_Z_entryAt_1 u (p1 + ((4 : Int64) * (p2 >>> (Int32.toInt64 (22 : Int32) &&& 63)))) : Int64 × XZ) fun q1 =>
  if 0 ≤ (lg_cmp q1.1 (0 : Int64)) then
    xlt (if (lg_cmp (q1.1 &&& (14 : Int64)) (0 : Int64)) = 0 then (0) else (1) : Int32) fun v5 =>
    if v5 = 0 then
      if (lg_cmp (q1.1 &&& (1 : Int64)) (0 : Int64)) = 0 then
        xlt (xf_Z_stageFault q1.2 (1 : Int32) p2 p3 : Int64 × XZ) fun q26 =>
        (q26.1, q26.2)
      else
        if (lg_cmp (q1.1 &&& (208 : Int64)) (0 : Int64)) = 0 then
          xlt (xf_Z_entryAt_1 q1.2 (((q1.1 / (1024 : Int64)) * (4096 : Int64)) + ((4 : Int64) * ((p2 >>> (Int32.toInt64 (12 : Int32) &&& 63)) &&& (1023 : Int64)))) : Int64 × XZ) fun q29 =>
          if 0 ≤ (lg_cmp q29.1 (0 : Int64)) then
            xlt (xf_Z_isAllowed q29.2 (1 : Int32) (Int64.toInt32 q29.1) p3 : Int32) fun q32 =>
            if q32 = 0 then
              xlt (xf_Z_stageFault q29.2 (1 : Int32) p2 p3 : Int64 × XZ) fun q35 =>
              (q35.1, q35.2)
            else
              if v5 = 0 then
                xlt (if v5 = 0 then ((((q29.1 / (1024 : Int64)) * (4096 : Int64)) + (p2 &&& (4095 : Int64)))) else (((((q29.1 / (1024 : Int64)) / (1024 : Int64)) <<< (Int32.toInt64 (22 : Int32) &&& 63)) + (p2 &&& (4194303 : Int64)))) : Int64) fun v39 =>
                (v39, q29.2)
              else
                if (lg_cmp ((q29.1 >>> (Int32.toInt64 (10 : Int32) &&& 63)) &&& (1023 : Int64)) (0 : Int64)) = 0 then
                  xlt (if v5 = 0 then ((((q29.1 / (1024 : Int64)) * (4096 : Int64)) + (p2 &&& (4095 : Int64)))) else (((((q29.1 / (1024 : Int64)) / (1024 : Int64)) <<< (Int32.toInt64 (22 : Int32) &&& 63)) + (p2 &&& (4194303 : Int64)))) : Int64) fun v44 =>
                  (v44, q29.2)
                else
                  xlt (xf_Z_stageFault q29.2 (1 : Int32) p2 p3 : Int64 × XZ) fun q47 =>
                  (q47.1, q47.2)
          else
            ((-1), q29.2)
        else
          xlt (xf_Z_stageFault q1.2 (1 : Int32) p2 p3 : Int64 × XZ) fun q49 =>
          (q49.1, q49.2)
    else
      xlt (xf_Z_isAllowed q1.2 (1 : Int32) (Int64.toInt32 q1.1) p3 : Int32) fun q8 =>
      if q8 = 0 then
        xlt (xf_Z_stageFault q1.2 (1 : Int32) p2 p3 : Int64 × XZ) fun q11 =>
        (q11.1, q11.2)
      else
        if v5 = 0 then
          xlt (if v5 = 0 then ((((q1.1 / (1024 : Int64)) * (4096 : Int64)) + (p2 &&& (4095 : Int64)))) else (((((q1.1 / (1024 : Int64)) / (1024 : Int64)) <<< (Int32.toInt64 (22 : Int32) &&& 63)) + (p2 &&& (4194303 : Int64)))) : Int64) fun v15 =>
          (v15, q1.2)
        else
          if (lg_cmp ((q1.1 >>> (Int32.toInt64 (10 : Int32) &&& 63)) &&& (1023 : Int64)) (0 : Int64)) = 0 then
            xlt (if v5 = 0 then ((((q1.1 / (1024 : Int64)) * (4096 : Int64)) + (p2 &&& (4095 : Int64)))) else (((((q1.1 / (1024 : Int64)) / (1024 : Int64)) <<< (Int32.toInt64 (22 : Int32) &&& 63)) + (p2 &&& (4194303 : Int64)))) : Int64) fun v20 =>
            (v20, q1.2)
          else
            xlt (xf_Z_stageFault q1.2 (1 : Int32) p2 p3 : Int64 × XZ) fun q23 =>
            (q23.1, q23.2)
  else
    ((-1), q1.2)
def xv_Z_walk_1 (u : XZ) (p1 : Int64) (p2 : Int64) (p3 : Int32) : Prop := XVc (
  (xv_Z_entryAt_1 u (p1 + ((4 : Int64) * (p2 >>> (Int32.toInt64 (22 : Int32) &&& 63))))) ∧
  xlt (xf_Z_entryAt_1 u (p1 + ((4 : Int64) * (p2 >>> (Int32.toInt64 (22 : Int32) &&& 63)))) : Int64 × XZ) fun q1 =>
  if 0 ≤ (lg_cmp q1.1 (0 : Int64)) then
    xlt (if (lg_cmp (q1.1 &&& (14 : Int64)) (0 : Int64)) = 0 then (0) else (1) : Int32) fun v5 =>
    if v5 = 0 then
      if (lg_cmp (q1.1 &&& (1 : Int64)) (0 : Int64)) = 0 then
        (xv_Z_stageFault q1.2 (1 : Int32) p2 p3) ∧
        xlt (xf_Z_stageFault q1.2 (1 : Int32) p2 p3 : Int64 × XZ) fun q26 =>
        True
      else
        if (lg_cmp (q1.1 &&& (208 : Int64)) (0 : Int64)) = 0 then
          (xv_Z_entryAt_1 q1.2 (((q1.1 / (1024 : Int64)) * (4096 : Int64)) + ((4 : Int64) * ((p2 >>> (Int32.toInt64 (12 : Int32) &&& 63)) &&& (1023 : Int64))))) ∧
          xlt (xf_Z_entryAt_1 q1.2 (((q1.1 / (1024 : Int64)) * (4096 : Int64)) + ((4 : Int64) * ((p2 >>> (Int32.toInt64 (12 : Int32) &&& 63)) &&& (1023 : Int64)))) : Int64 × XZ) fun q29 =>
          if 0 ≤ (lg_cmp q29.1 (0 : Int64)) then
            (xv_Z_isAllowed q29.2 (1 : Int32) (Int64.toInt32 q29.1) p3) ∧
            xlt (xf_Z_isAllowed q29.2 (1 : Int32) (Int64.toInt32 q29.1) p3 : Int32) fun q32 =>
            if q32 = 0 then
              (xv_Z_stageFault q29.2 (1 : Int32) p2 p3) ∧
              xlt (xf_Z_stageFault q29.2 (1 : Int32) p2 p3 : Int64 × XZ) fun q35 =>
              True
            else
              if v5 = 0 then
                xlt (if v5 = 0 then ((((q29.1 / (1024 : Int64)) * (4096 : Int64)) + (p2 &&& (4095 : Int64)))) else (((((q29.1 / (1024 : Int64)) / (1024 : Int64)) <<< (Int32.toInt64 (22 : Int32) &&& 63)) + (p2 &&& (4194303 : Int64)))) : Int64) fun v39 =>
                True
              else
                if (lg_cmp ((q29.1 >>> (Int32.toInt64 (10 : Int32) &&& 63)) &&& (1023 : Int64)) (0 : Int64)) = 0 then
                  xlt (if v5 = 0 then ((((q29.1 / (1024 : Int64)) * (4096 : Int64)) + (p2 &&& (4095 : Int64)))) else (((((q29.1 / (1024 : Int64)) / (1024 : Int64)) <<< (Int32.toInt64 (22 : Int32) &&& 63)) + (p2 &&& (4194303 : Int64)))) : Int64) fun v44 =>
                  True
                else
                  (xv_Z_stageFault q29.2 (1 : Int32) p2 p3) ∧
                  xlt (xf_Z_stageFault q29.2 (1 : Int32) p2 p3 : Int64 × XZ) fun q47 =>
                  True
          else
            True
        else
          (xv_Z_stageFault q1.2 (1 : Int32) p2 p3) ∧
          xlt (xf_Z_stageFault q1.2 (1 : Int32) p2 p3 : Int64 × XZ) fun q49 =>
          True
    else
      (xv_Z_isAllowed q1.2 (1 : Int32) (Int64.toInt32 q1.1) p3) ∧
      xlt (xf_Z_isAllowed q1.2 (1 : Int32) (Int64.toInt32 q1.1) p3 : Int32) fun q8 =>
      if q8 = 0 then
        (xv_Z_stageFault q1.2 (1 : Int32) p2 p3) ∧
        xlt (xf_Z_stageFault q1.2 (1 : Int32) p2 p3 : Int64 × XZ) fun q11 =>
        True
      else
        if v5 = 0 then
          xlt (if v5 = 0 then ((((q1.1 / (1024 : Int64)) * (4096 : Int64)) + (p2 &&& (4095 : Int64)))) else (((((q1.1 / (1024 : Int64)) / (1024 : Int64)) <<< (Int32.toInt64 (22 : Int32) &&& 63)) + (p2 &&& (4194303 : Int64)))) : Int64) fun v15 =>
          True
        else
          if (lg_cmp ((q1.1 >>> (Int32.toInt64 (10 : Int32) &&& 63)) &&& (1023 : Int64)) (0 : Int64)) = 0 then
            xlt (if v5 = 0 then ((((q1.1 / (1024 : Int64)) * (4096 : Int64)) + (p2 &&& (4095 : Int64)))) else (((((q1.1 / (1024 : Int64)) / (1024 : Int64)) <<< (Int32.toInt64 (22 : Int32) &&& 63)) + (p2 &&& (4194303 : Int64)))) : Int64) fun v20 =>
            True
          else
            (xv_Z_stageFault q1.2 (1 : Int32) p2 p3) ∧
            xlt (xf_Z_stageFault q1.2 (1 : Int32) p2 p3 : Int64 × XZ) fun q23 =>
            True
  else
    True)
set_option maxHeartbeats 4000000 in
set_option maxRecDepth 100000 in
theorem c_Z_walk_1 (l : Launch) (D : va_G) (z : (Nat → Nat) × (Nat → Nat)) (k : ClassId × ClassId) (b : Nat → Nat) (sz : Nat) (u : XZ) (p1 : Int64) (p2 : Int64) (p3 : Int32) (hv : xv_Z_walk_1 u p1 p2 p3) : Met l xy_Z_walk (xk_Z_walk :: lw_g) { frames := 7, cells := 0, slots := 0, locals := 182 } (va_Pc [.ref ((b 0)), .int 1, .long p1, .long p2, .int p3] (xB D (xTy k) z sz (xWZ k b u))) (va_Ql (fun r (q : XZ) => (r, q) = xf_Z_walk_1 u p1 p2 p3) (fun q t => xQ D (xTy k) (xWZ k b q) (va_A (xWZ k b u) sz) t) (va_A (xWZ k b u) sz)) 0 0 (va_A (xWZ k b u) sz) := by
  refine xopen_l (wf := fun q : XZ => xWZ k b q) (lv := [(0, .ref ((b 0))), (1, .int 1), (2, .long p1), (4, .long p2), (6, .int p3)]) (by decide) rfl (Nat.le_of_ble_eq_true rfl) ?_
  intro p e s m args below meth c Q ls A H locs hx hb hml htg hown hin hK hP hD hE hS hA hl hret
  unfold xv_Z_walk_1 at hv
  refine lv_lload hx hb xd_Z_walk_0 (lv_at hl 3 rfl) ?_
  refine lv_bipush (v := 22) hx hb xd_Z_walk_2 (by decide) ?_
  refine lv_lshr (v := (p2 >>> (Int32.toInt64 (22 : Int32) &&& 63))) hx hb xd_Z_walk_4 rfl ?_
  refine lv_lstore (lv' := [(7, .long ((p2 >>> (Int32.toInt64 (22 : Int32) &&& 63)))), (0, .ref ((b 0))), (1, .int 1), (2, .long p1), (4, .long p2), (6, .int p3)]) hx hb xd_Z_walk_5 hl (by decide) rfl (fun ls hl => ?_)
  refine lv_aload_n hx hb xd_Z_walk_7 rfl (lv_at hl 1 rfl) ?_
  refine lv_iload_n hx hb xd_Z_walk_8 rfl (lv_at hl 2 rfl) ?_
  refine lv_lload_n hx hb xd_Z_walk_9 rfl (lv_at hl 3 rfl) ?_
  refine lv_ldc2 (v := 4) hx hb hown (htg _ xw_944) xd_Z_walk_10 ?_
  refine lv_lload hx hb xd_Z_walk_13 (lv_at hl 0 rfl) ?_
  refine lv_lmul hx hb xd_Z_walk_15 ?_
  refine lv_ladd hx hb xd_Z_walk_16 ?_
  obtain ⟨hn2, hv⟩ := xan_v hv
  refine xcW_l (va_runV (As := [.int 1, .long ((p1 + ((4 : Int64) * (p2 >>> (Int32.toInt64 (22 : Int32) &&& 63)))))]) (rest := []) ⟨hx, hb, hml, hown, htg⟩ (c_Z_entryAt_1 l D z k b H.size u (p1 + ((4 : Int64) * (p2 >>> (Int32.toInt64 (22 : Int32) &&& 63)))) hn2) (cwV 2 htg (xg_V0 xkin_Z_entryAt xw_945 xw_947 xsel_Z_entryAt xw_9) rfl rfl rfl (by decide +kernel) ⟨Nat.le_of_ble_eq_true rfl, Nat.le_of_ble_eq_true rfl⟩) ⟨xB_blind, xrecv_Z hK hP, fun U hU hW => xB_mk hP hK hD hE hS (xsubW hD hA hS) hU hW⟩ rfl rfl hl.1 rfl (lv_room (Nat.le_of_ble_eq_true rfl)) xd_Z_walk_17 ⟨Nat.le_of_ble_eq_true rfl, Nat.le_of_ble_eq_true rfl⟩) hD hA hS (fun r u1 H locs hw hP hD hS => ?_)
  obtain ⟨q1, hq1⟩ : ∃ q, q = xf_Z_entryAt_1 u (p1 + ((4 : Int64) * (p2 >>> (Int32.toInt64 (22 : Int32) &&& 63)))) := ⟨_, rfl⟩
  rw [← hq1] at hw
  obtain rfl : r = q1.1 := congrArg Prod.fst hw
  obtain rfl : u1 = q1.2 := congrArg Prod.snd hw
  have hP : va_P D xCl (xWZ k b q1.2) H := hP
  have hD : va_D A (xWZ k b q1.2) := hD
  have hv := xlt_v hq1 hv
  refine lv_lstore (lv' := [(9, .long (q1.1)), (7, .long ((p2 >>> (Int32.toInt64 (22 : Int32) &&& 63)))), (0, .ref ((b 0))), (1, .int 1), (2, .long p1), (4, .long p2), (6, .int p3)]) hx hb xd_Z_walk_20 hl (by decide) rfl (fun ls hl => ?_)
  refine lv_lload hx hb xd_Z_walk_22 (lv_at hl 0 rfl) ?_
  refine lv_lconst (v := 0) hx hb xd_Z_walk_24 (by decide) ?_
  refine W.lcmp hx hb xd_Z_walk_25 ?_
  refine lv_if_ge (tgt := 33) hx hb xd_Z_walk_26 rfl (fun h3 => ?_) (fun h3 => ?_)
  · have hv := xit_v h3 hv
    refine lv_lload hx hb xd_Z_walk_33 (lv_at hl 0 rfl) ?_
    refine lv_ldc2 (v := 14) hx hb hown (htg _ xw_963) xd_Z_walk_35 ?_
    refine lv_land hx hb xd_Z_walk_38 ?_
    refine lv_lconst (v := 0) hx hb xd_Z_walk_39 (by decide) ?_
    refine W.lcmp hx hb xd_Z_walk_40 ?_
    have hj6 : ∀ (H : Heap) (locs : List Loc) (ls : Array Slot) (v5 : Int32), v5 = (if (lg_cmp (q1.1 &&& (14 : Int64)) (0 : Int64)) = 0 then (0) else (1)) → lv_has ls 16 [(9, .long (q1.1)), (7, .long ((p2 >>> (Int32.toInt64 (22 : Int32) &&& 63)))), (0, .ref ((b 0))), (1, .int 1), (2, .long p1), (4, .long p2), (6, .int p3)] → va_P D xCl (xWZ k b q1.2) H → va_D A (xWZ k b q1.2) → va_S A s.heap H locs → W p l e { frames := 7, cells := 0, slots := 0, locals := 182 } s m args below meth c H locs (0) (0) Q (F0 m 49 ls [.int v5]) := by
      intro H locs ls v5 hv5 hl hP hD hS
      have hv := xlt_v hv5 hv
      refine lv_istore (lv' := [(11, .int v5), (9, .long (q1.1)), (7, .long ((p2 >>> (Int32.toInt64 (22 : Int32) &&& 63)))), (0, .ref ((b 0))), (1, .int 1), (2, .long p1), (4, .long p2), (6, .int p3)]) hx hb xd_Z_walk_49 hl (by decide) rfl (fun ls hl => ?_)
      refine lv_iload hx hb xd_Z_walk_51 (lv_at hl 0 rfl) ?_
      refine lv_if_ne (tgt := 128) hx hb xd_Z_walk_53 rfl (fun h7 => ?_) (fun h7 => ?_)
      · have hv := xif_v h7 hv
        refine lv_aload_n hx hb xd_Z_walk_128 rfl (lv_at hl 3 rfl) ?_
        refine lv_iload_n hx hb xd_Z_walk_129 rfl (lv_at hl 4 rfl) ?_
        refine lv_lload hx hb xd_Z_walk_130 (lv_at hl 1 rfl) ?_
        refine lv_l2i (v := (Int64.toInt32 q1.1)) hx hb xd_Z_walk_132 rfl ?_
        refine lv_iload hx hb xd_Z_walk_133 (lv_at hl 7 rfl) ?_
        obtain ⟨hn9, hv⟩ := xan_v hv
        refine xcW_i (va_runV (As := [.int 1, .int ((Int64.toInt32 q1.1)), .int p3]) (rest := []) ⟨hx, hb, hml, hown, htg⟩ (c_Z_isAllowed l D z k b H.size q1.2 (1 : Int32) (Int64.toInt32 q1.1) p3 hn9) (cwV 3 htg (xg_V0 xkin_Z_isAllowed xw_971 xw_973 xsel_Z_isAllowed xw_9) rfl rfl rfl (by decide +kernel) ⟨Nat.le_of_ble_eq_true rfl, Nat.le_of_ble_eq_true rfl⟩) ⟨xB_blind, xrecv_Z hK hP, fun U hU hW => xB_mk hP hK hD hE hS (xsubW hD hA hS) hU hW⟩ rfl rfl hl.1 rfl (lv_room (Nat.le_of_ble_eq_true rfl)) xd_Z_walk_135 ⟨Nat.le_of_ble_eq_true rfl, Nat.le_of_ble_eq_true rfl⟩) hD hA hS (fun r u1 H locs hw hP hD hS => ?_)
        obtain ⟨q8, hq8⟩ : ∃ q, q = xf_Z_isAllowed q1.2 (1 : Int32) (Int64.toInt32 q1.1) p3 := ⟨_, rfl⟩
        obtain ⟨e1, e2⟩ := hw
        rw [← hq8] at e1
        obtain rfl : q8 = r := e1.symm
        obtain rfl : q1.2 = u1 := e2.symm
        have hP : va_P D xCl (xWZ k b q1.2) H := hP
        have hD : va_D A (xWZ k b q1.2) := hD
        have hv := xlt_v hq8 hv
        refine lv_if_eq (tgt := 160) hx hb xd_Z_walk_138 rfl (fun h10 => ?_) (fun h10 => ?_)
        · have hv := xit_v h10 hv
          refine lv_aload_n hx hb xd_Z_walk_160 rfl (lv_at hl 3 rfl) ?_
          refine lv_iload_n hx hb xd_Z_walk_161 rfl (lv_at hl 4 rfl) ?_
          refine lv_lload hx hb xd_Z_walk_162 (lv_at hl 6 rfl) ?_
          refine lv_iload hx hb xd_Z_walk_164 (lv_at hl 7 rfl) ?_
          obtain ⟨hn12, hv⟩ := xan_v hv
          refine xcW_l (va_runV (As := [.int 1, .long p2, .int p3]) (rest := []) ⟨hx, hb, hml, hown, htg⟩ (c_Z_stageFault l D z k b H.size q1.2 (1 : Int32) p2 p3 hn12) (cwV 3 htg (xg_V0 xkin_Z_stageFault xw_965 xw_967 xsel_Z_stageFault xw_9) rfl rfl rfl (by decide +kernel) ⟨Nat.le_of_ble_eq_true rfl, Nat.le_of_ble_eq_true rfl⟩) ⟨xB_blind, xrecv_Z hK hP, fun U hU hW => xB_mk hP hK hD hE hS (xsubW hD hA hS) hU hW⟩ rfl rfl hl.1 rfl (lv_room (Nat.le_of_ble_eq_true rfl)) xd_Z_walk_166 ⟨Nat.le_of_ble_eq_true rfl, Nat.le_of_ble_eq_true rfl⟩) hD hA hS (fun r u1 H locs hw hP hD hS => ?_)
          obtain ⟨q11, hq11⟩ : ∃ q, q = xf_Z_stageFault q1.2 (1 : Int32) p2 p3 := ⟨_, rfl⟩
          rw [← hq11] at hw
          obtain rfl : r = q11.1 := congrArg Prod.fst hw
          obtain rfl : u1 = q11.2 := congrArg Prod.snd hw
          have hP : va_P D xCl (xWZ k b q11.2) H := hP
          have hD : va_D A (xWZ k b q11.2) := hD
          have hv := xlt_v hq11 hv
          exact hret _ q11.2 H locs ls _ (by unfold xf_Z_walk_1; exact (xlt_e hq1 (xit h3 (xlt_e hv5 (xif h7 (xlt_e hq8 (xit h10 (xlt_e hq11 rfl)))))))) hP hD hS xd_Z_walk_169
        · have hv := xif_v h10 hv
          refine lv_iload hx hb xd_Z_walk_141 (lv_at hl 0 rfl) ?_
          refine lv_if_eq (tgt := 170) hx hb xd_Z_walk_143 rfl (fun h13 => ?_) (fun h13 => ?_)
          · have hv := xit_v h13 hv
            refine lv_lload hx hb xd_Z_walk_170 (lv_at hl 1 rfl) ?_
            refine lv_ldc2 (v := 1024) hx hb hown (htg _ xw_969) xd_Z_walk_172 ?_
            refine lv_ldiv hx hb xd_Z_walk_175 (by decide) ?_
            refine lv_lstore (lv' := [(12, .long ((q1.1 / (1024 : Int64)))), (11, .int v5), (9, .long (q1.1)), (7, .long ((p2 >>> (Int32.toInt64 (22 : Int32) &&& 63)))), (0, .ref ((b 0))), (1, .int 1), (2, .long p1), (4, .long p2), (6, .int p3)]) hx hb xd_Z_walk_176 hl (by decide) rfl (fun ls hl => ?_)
            refine lv_iload hx hb xd_Z_walk_178 (lv_at hl 1 rfl) ?_
            have hj16 : ∀ (H : Heap) (locs : List Loc) (ls : Array Slot) (v15 : Int64), v15 = (if v5 = 0 then ((((q1.1 / (1024 : Int64)) * (4096 : Int64)) + (p2 &&& (4095 : Int64)))) else (((((q1.1 / (1024 : Int64)) / (1024 : Int64)) <<< (Int32.toInt64 (22 : Int32) &&& 63)) + (p2 &&& (4194303 : Int64))))) → lv_has ls 16 [(12, .long ((q1.1 / (1024 : Int64)))), (11, .int v5), (9, .long (q1.1)), (7, .long ((p2 >>> (Int32.toInt64 (22 : Int32) &&& 63)))), (0, .ref ((b 0))), (1, .int 1), (2, .long p1), (4, .long p2), (6, .int p3)] → va_P D xCl (xWZ k b q1.2) H → va_D A (xWZ k b q1.2) → va_S A s.heap H locs → W p l e { frames := 7, cells := 0, slots := 0, locals := 182 } s m args below meth c H locs (0) (0) Q (F0 m 215 ls [.long v15]) := by
              intro H locs ls v15 hv15 hl hP hD hS
              have hv := xlt_v hv15 hv
              refine lv_lstore (lv' := [(14, .long v15), (12, .long ((q1.1 / (1024 : Int64)))), (11, .int v5), (9, .long (q1.1)), (7, .long ((p2 >>> (Int32.toInt64 (22 : Int32) &&& 63)))), (0, .ref ((b 0))), (1, .int 1), (2, .long p1), (4, .long p2), (6, .int p3)]) hx hb xd_Z_walk_215 hl (by decide) rfl (fun ls hl => ?_)
              refine lv_iload_n hx hb xd_Z_walk_217 rfl (lv_at hl 6 rfl) ?_
              refine lv_iconst (v := 1) hx hb xd_Z_walk_218 (by decide) ?_
              refine lv_icmp_ne (tgt := 227) hx hb xd_Z_walk_219 rfl (fun h => absurd h (by decide)) (fun _ => ?_)
              refine lv_lload hx hb xd_Z_walk_222 (lv_at hl 0 rfl) ?_
              refine lv_goto (tgt := 233) hx hb xd_Z_walk_224 rfl ?_
              exact hret _ q1.2 H locs ls _ (by unfold xf_Z_walk_1; exact (xlt_e hq1 (xit h3 (xlt_e hv5 (xif h7 (xlt_e hq8 (xif h10 (xit h13 (xlt_e hv15 rfl))))))))) hP hD hS xd_Z_walk_233
            refine lv_if_eq (tgt := 202) hx hb xd_Z_walk_180 rfl (fun h17 => ?_) (fun h17 => ?_)
            · refine lv_lload hx hb xd_Z_walk_202 (lv_at hl 0 rfl) ?_
              refine lv_ldc2 (v := 4096) hx hb hown (htg _ xw_939) xd_Z_walk_204 ?_
              refine lv_lmul hx hb xd_Z_walk_207 ?_
              refine lv_lload hx hb xd_Z_walk_208 (lv_at hl 7 rfl) ?_
              refine lv_ldc2 (v := 4095) hx hb hown (htg _ xw_975) xd_Z_walk_210 ?_
              refine lv_land hx hb xd_Z_walk_213 ?_
              refine lv_ladd hx hb xd_Z_walk_214 ?_
              exact hj16 H locs ls (((q1.1 / (1024 : Int64)) * (4096 : Int64)) + (p2 &&& (4095 : Int64))) (xit h17 rfl) hl hP hD hS
            · refine lv_lload hx hb xd_Z_walk_183 (lv_at hl 0 rfl) ?_
              refine lv_ldc2 (v := 1024) hx hb hown (htg _ xw_969) xd_Z_walk_185 ?_
              refine lv_ldiv hx hb xd_Z_walk_188 (by decide) ?_
              refine lv_bipush (v := 22) hx hb xd_Z_walk_189 (by decide) ?_
              refine lv_lshl (v := (((q1.1 / (1024 : Int64)) / (1024 : Int64)) <<< (Int32.toInt64 (22 : Int32) &&& 63))) hx hb xd_Z_walk_191 rfl ?_
              refine lv_lload hx hb xd_Z_walk_192 (lv_at hl 7 rfl) ?_
              refine lv_ldc2 (v := 4194303) hx hb hown (htg _ xw_938) xd_Z_walk_194 ?_
              refine lv_land hx hb xd_Z_walk_197 ?_
              refine lv_ladd hx hb xd_Z_walk_198 ?_
              refine lv_goto (tgt := 215) hx hb xd_Z_walk_199 rfl ?_
              exact hj16 H locs ls ((((q1.1 / (1024 : Int64)) / (1024 : Int64)) <<< (Int32.toInt64 (22 : Int32) &&& 63)) + (p2 &&& (4194303 : Int64))) (xif h17 rfl) hl hP hD hS
          · have hv := xif_v h13 hv
            refine lv_lload hx hb xd_Z_walk_146 (lv_at hl 1 rfl) ?_
            refine lv_bipush (v := 10) hx hb xd_Z_walk_148 (by decide) ?_
            refine lv_lshr (v := (q1.1 >>> (Int32.toInt64 (10 : Int32) &&& 63))) hx hb xd_Z_walk_150 rfl ?_
            refine lv_ldc2 (v := 1023) hx hb hown (htg _ xw_970) xd_Z_walk_151 ?_
            refine lv_land hx hb xd_Z_walk_154 ?_
            refine lv_lconst (v := 0) hx hb xd_Z_walk_155 (by decide) ?_
            refine W.lcmp hx hb xd_Z_walk_156 ?_
            refine lv_if_eq (tgt := 170) hx hb xd_Z_walk_157 rfl (fun h18 => ?_) (fun h18 => ?_)
            · have hv := xit_v h18 hv
              refine lv_lload hx hb xd_Z_walk_170 (lv_at hl 1 rfl) ?_
              refine lv_ldc2 (v := 1024) hx hb hown (htg _ xw_969) xd_Z_walk_172 ?_
              refine lv_ldiv hx hb xd_Z_walk_175 (by decide) ?_
              refine lv_lstore (lv' := [(12, .long ((q1.1 / (1024 : Int64)))), (11, .int v5), (9, .long (q1.1)), (7, .long ((p2 >>> (Int32.toInt64 (22 : Int32) &&& 63)))), (0, .ref ((b 0))), (1, .int 1), (2, .long p1), (4, .long p2), (6, .int p3)]) hx hb xd_Z_walk_176 hl (by decide) rfl (fun ls hl => ?_)
              refine lv_iload hx hb xd_Z_walk_178 (lv_at hl 1 rfl) ?_
              have hj21 : ∀ (H : Heap) (locs : List Loc) (ls : Array Slot) (v20 : Int64), v20 = (if v5 = 0 then ((((q1.1 / (1024 : Int64)) * (4096 : Int64)) + (p2 &&& (4095 : Int64)))) else (((((q1.1 / (1024 : Int64)) / (1024 : Int64)) <<< (Int32.toInt64 (22 : Int32) &&& 63)) + (p2 &&& (4194303 : Int64))))) → lv_has ls 16 [(12, .long ((q1.1 / (1024 : Int64)))), (11, .int v5), (9, .long (q1.1)), (7, .long ((p2 >>> (Int32.toInt64 (22 : Int32) &&& 63)))), (0, .ref ((b 0))), (1, .int 1), (2, .long p1), (4, .long p2), (6, .int p3)] → va_P D xCl (xWZ k b q1.2) H → va_D A (xWZ k b q1.2) → va_S A s.heap H locs → W p l e { frames := 7, cells := 0, slots := 0, locals := 182 } s m args below meth c H locs (0) (0) Q (F0 m 215 ls [.long v20]) := by
                intro H locs ls v20 hv20 hl hP hD hS
                have hv := xlt_v hv20 hv
                refine lv_lstore (lv' := [(14, .long v20), (12, .long ((q1.1 / (1024 : Int64)))), (11, .int v5), (9, .long (q1.1)), (7, .long ((p2 >>> (Int32.toInt64 (22 : Int32) &&& 63)))), (0, .ref ((b 0))), (1, .int 1), (2, .long p1), (4, .long p2), (6, .int p3)]) hx hb xd_Z_walk_215 hl (by decide) rfl (fun ls hl => ?_)
                refine lv_iload_n hx hb xd_Z_walk_217 rfl (lv_at hl 6 rfl) ?_
                refine lv_iconst (v := 1) hx hb xd_Z_walk_218 (by decide) ?_
                refine lv_icmp_ne (tgt := 227) hx hb xd_Z_walk_219 rfl (fun h => absurd h (by decide)) (fun _ => ?_)
                refine lv_lload hx hb xd_Z_walk_222 (lv_at hl 0 rfl) ?_
                refine lv_goto (tgt := 233) hx hb xd_Z_walk_224 rfl ?_
                exact hret _ q1.2 H locs ls _ (by unfold xf_Z_walk_1; exact (xlt_e hq1 (xit h3 (xlt_e hv5 (xif h7 (xlt_e hq8 (xif h10 (xif h13 (xit h18 (xlt_e hv20 rfl)))))))))) hP hD hS xd_Z_walk_233
              refine lv_if_eq (tgt := 202) hx hb xd_Z_walk_180 rfl (fun h22 => ?_) (fun h22 => ?_)
              · refine lv_lload hx hb xd_Z_walk_202 (lv_at hl 0 rfl) ?_
                refine lv_ldc2 (v := 4096) hx hb hown (htg _ xw_939) xd_Z_walk_204 ?_
                refine lv_lmul hx hb xd_Z_walk_207 ?_
                refine lv_lload hx hb xd_Z_walk_208 (lv_at hl 7 rfl) ?_
                refine lv_ldc2 (v := 4095) hx hb hown (htg _ xw_975) xd_Z_walk_210 ?_
                refine lv_land hx hb xd_Z_walk_213 ?_
                refine lv_ladd hx hb xd_Z_walk_214 ?_
                exact hj21 H locs ls (((q1.1 / (1024 : Int64)) * (4096 : Int64)) + (p2 &&& (4095 : Int64))) (xit h22 rfl) hl hP hD hS
              · refine lv_lload hx hb xd_Z_walk_183 (lv_at hl 0 rfl) ?_
                refine lv_ldc2 (v := 1024) hx hb hown (htg _ xw_969) xd_Z_walk_185 ?_
                refine lv_ldiv hx hb xd_Z_walk_188 (by decide) ?_
                refine lv_bipush (v := 22) hx hb xd_Z_walk_189 (by decide) ?_
                refine lv_lshl (v := (((q1.1 / (1024 : Int64)) / (1024 : Int64)) <<< (Int32.toInt64 (22 : Int32) &&& 63))) hx hb xd_Z_walk_191 rfl ?_
                refine lv_lload hx hb xd_Z_walk_192 (lv_at hl 7 rfl) ?_
                refine lv_ldc2 (v := 4194303) hx hb hown (htg _ xw_938) xd_Z_walk_194 ?_
                refine lv_land hx hb xd_Z_walk_197 ?_
                refine lv_ladd hx hb xd_Z_walk_198 ?_
                refine lv_goto (tgt := 215) hx hb xd_Z_walk_199 rfl ?_
                exact hj21 H locs ls ((((q1.1 / (1024 : Int64)) / (1024 : Int64)) <<< (Int32.toInt64 (22 : Int32) &&& 63)) + (p2 &&& (4194303 : Int64))) (xif h22 rfl) hl hP hD hS
            · have hv := xif_v h18 hv
              refine lv_aload_n hx hb xd_Z_walk_160 rfl (lv_at hl 3 rfl) ?_
              refine lv_iload_n hx hb xd_Z_walk_161 rfl (lv_at hl 4 rfl) ?_
              refine lv_lload hx hb xd_Z_walk_162 (lv_at hl 6 rfl) ?_
              refine lv_iload hx hb xd_Z_walk_164 (lv_at hl 7 rfl) ?_
              obtain ⟨hn24, hv⟩ := xan_v hv
              refine xcW_l (va_runV (As := [.int 1, .long p2, .int p3]) (rest := []) ⟨hx, hb, hml, hown, htg⟩ (c_Z_stageFault l D z k b H.size q1.2 (1 : Int32) p2 p3 hn24) (cwV 3 htg (xg_V0 xkin_Z_stageFault xw_965 xw_967 xsel_Z_stageFault xw_9) rfl rfl rfl (by decide +kernel) ⟨Nat.le_of_ble_eq_true rfl, Nat.le_of_ble_eq_true rfl⟩) ⟨xB_blind, xrecv_Z hK hP, fun U hU hW => xB_mk hP hK hD hE hS (xsubW hD hA hS) hU hW⟩ rfl rfl hl.1 rfl (lv_room (Nat.le_of_ble_eq_true rfl)) xd_Z_walk_166 ⟨Nat.le_of_ble_eq_true rfl, Nat.le_of_ble_eq_true rfl⟩) hD hA hS (fun r u1 H locs hw hP hD hS => ?_)
              obtain ⟨q23, hq23⟩ : ∃ q, q = xf_Z_stageFault q1.2 (1 : Int32) p2 p3 := ⟨_, rfl⟩
              rw [← hq23] at hw
              obtain rfl : r = q23.1 := congrArg Prod.fst hw
              obtain rfl : u1 = q23.2 := congrArg Prod.snd hw
              have hP : va_P D xCl (xWZ k b q23.2) H := hP
              have hD : va_D A (xWZ k b q23.2) := hD
              have hv := xlt_v hq23 hv
              exact hret _ q23.2 H locs ls _ (by unfold xf_Z_walk_1; exact (xlt_e hq1 (xit h3 (xlt_e hv5 (xif h7 (xlt_e hq8 (xif h10 (xif h13 (xif h18 (xlt_e hq23 rfl)))))))))) hP hD hS xd_Z_walk_169
      · have hv := xit_v h7 hv
        refine lv_lload hx hb xd_Z_walk_56 (lv_at hl 1 rfl) ?_
        refine lv_lconst (v := 1) hx hb xd_Z_walk_58 (by decide) ?_
        refine lv_land hx hb xd_Z_walk_59 ?_
        refine lv_lconst (v := 0) hx hb xd_Z_walk_60 (by decide) ?_
        refine W.lcmp hx hb xd_Z_walk_61 ?_
        refine lv_if_eq (tgt := 76) hx hb xd_Z_walk_62 rfl (fun h25 => ?_) (fun h25 => ?_)
        · have hv := xit_v h25 hv
          refine lv_aload_n hx hb xd_Z_walk_76 rfl (lv_at hl 3 rfl) ?_
          refine lv_iload_n hx hb xd_Z_walk_77 rfl (lv_at hl 4 rfl) ?_
          refine lv_lload hx hb xd_Z_walk_78 (lv_at hl 6 rfl) ?_
          refine lv_iload hx hb xd_Z_walk_80 (lv_at hl 7 rfl) ?_
          obtain ⟨hn27, hv⟩ := xan_v hv
          refine xcW_l (va_runV (As := [.int 1, .long p2, .int p3]) (rest := []) ⟨hx, hb, hml, hown, htg⟩ (c_Z_stageFault l D z k b H.size q1.2 (1 : Int32) p2 p3 hn27) (cwV 3 htg (xg_V0 xkin_Z_stageFault xw_965 xw_967 xsel_Z_stageFault xw_9) rfl rfl rfl (by decide +kernel) ⟨Nat.le_of_ble_eq_true rfl, Nat.le_of_ble_eq_true rfl⟩) ⟨xB_blind, xrecv_Z hK hP, fun U hU hW => xB_mk hP hK hD hE hS (xsubW hD hA hS) hU hW⟩ rfl rfl hl.1 rfl (lv_room (Nat.le_of_ble_eq_true rfl)) xd_Z_walk_82 ⟨Nat.le_of_ble_eq_true rfl, Nat.le_of_ble_eq_true rfl⟩) hD hA hS (fun r u1 H locs hw hP hD hS => ?_)
          obtain ⟨q26, hq26⟩ : ∃ q, q = xf_Z_stageFault q1.2 (1 : Int32) p2 p3 := ⟨_, rfl⟩
          rw [← hq26] at hw
          obtain rfl : r = q26.1 := congrArg Prod.fst hw
          obtain rfl : u1 = q26.2 := congrArg Prod.snd hw
          have hP : va_P D xCl (xWZ k b q26.2) H := hP
          have hD : va_D A (xWZ k b q26.2) := hD
          have hv := xlt_v hq26 hv
          exact hret _ q26.2 H locs ls _ (by unfold xf_Z_walk_1; exact (xlt_e hq1 (xit h3 (xlt_e hv5 (xit h7 (xit h25 (xlt_e hq26 rfl))))))) hP hD hS xd_Z_walk_85
        · have hv := xif_v h25 hv
          refine lv_lload hx hb xd_Z_walk_65 (lv_at hl 1 rfl) ?_
          refine lv_ldc2 (v := 208) hx hb hown (htg _ xw_964) xd_Z_walk_67 ?_
          refine lv_land hx hb xd_Z_walk_70 ?_
          refine lv_lconst (v := 0) hx hb xd_Z_walk_71 (by decide) ?_
          refine W.lcmp hx hb xd_Z_walk_72 ?_
          refine lv_if_eq (tgt := 86) hx hb xd_Z_walk_73 rfl (fun h28 => ?_) (fun h28 => ?_)
          · have hv := xit_v h28 hv
            refine lv_aload_n hx hb xd_Z_walk_86 rfl (lv_at hl 3 rfl) ?_
            refine lv_iload_n hx hb xd_Z_walk_87 rfl (lv_at hl 4 rfl) ?_
            refine lv_lload hx hb xd_Z_walk_88 (lv_at hl 1 rfl) ?_
            refine lv_ldc2 (v := 1024) hx hb hown (htg _ xw_969) xd_Z_walk_90 ?_
            refine lv_ldiv hx hb xd_Z_walk_93 (by decide) ?_
            refine lv_ldc2 (v := 4096) hx hb hown (htg _ xw_939) xd_Z_walk_94 ?_
            refine lv_lmul hx hb xd_Z_walk_97 ?_
            refine lv_ldc2 (v := 4) hx hb hown (htg _ xw_944) xd_Z_walk_98 ?_
            refine lv_lload hx hb xd_Z_walk_101 (lv_at hl 6 rfl) ?_
            refine lv_bipush (v := 12) hx hb xd_Z_walk_103 (by decide) ?_
            refine lv_lshr (v := (p2 >>> (Int32.toInt64 (12 : Int32) &&& 63))) hx hb xd_Z_walk_105 rfl ?_
            refine lv_ldc2 (v := 1023) hx hb hown (htg _ xw_970) xd_Z_walk_106 ?_
            refine lv_land hx hb xd_Z_walk_109 ?_
            refine lv_lmul hx hb xd_Z_walk_110 ?_
            refine lv_ladd hx hb xd_Z_walk_111 ?_
            obtain ⟨hn30, hv⟩ := xan_v hv
            refine xcW_l (va_runV (As := [.int 1, .long ((((q1.1 / (1024 : Int64)) * (4096 : Int64)) + ((4 : Int64) * ((p2 >>> (Int32.toInt64 (12 : Int32) &&& 63)) &&& (1023 : Int64)))))]) (rest := []) ⟨hx, hb, hml, hown, htg⟩ (c_Z_entryAt_1 l D z k b H.size q1.2 (((q1.1 / (1024 : Int64)) * (4096 : Int64)) + ((4 : Int64) * ((p2 >>> (Int32.toInt64 (12 : Int32) &&& 63)) &&& (1023 : Int64)))) hn30) (cwV 2 htg (xg_V0 xkin_Z_entryAt xw_945 xw_947 xsel_Z_entryAt xw_9) rfl rfl rfl (by decide +kernel) ⟨Nat.le_of_ble_eq_true rfl, Nat.le_of_ble_eq_true rfl⟩) ⟨xB_blind, xrecv_Z hK hP, fun U hU hW => xB_mk hP hK hD hE hS (xsubW hD hA hS) hU hW⟩ rfl rfl hl.1 rfl (lv_room (Nat.le_of_ble_eq_true rfl)) xd_Z_walk_112 ⟨Nat.le_of_ble_eq_true rfl, Nat.le_of_ble_eq_true rfl⟩) hD hA hS (fun r u1 H locs hw hP hD hS => ?_)
            obtain ⟨q29, hq29⟩ : ∃ q, q = xf_Z_entryAt_1 q1.2 (((q1.1 / (1024 : Int64)) * (4096 : Int64)) + ((4 : Int64) * ((p2 >>> (Int32.toInt64 (12 : Int32) &&& 63)) &&& (1023 : Int64)))) := ⟨_, rfl⟩
            rw [← hq29] at hw
            obtain rfl : r = q29.1 := congrArg Prod.fst hw
            obtain rfl : u1 = q29.2 := congrArg Prod.snd hw
            have hP : va_P D xCl (xWZ k b q29.2) H := hP
            have hD : va_D A (xWZ k b q29.2) := hD
            have hv := xlt_v hq29 hv
            refine lv_lstore (lv' := [(9, .long (q29.1)), (11, .int v5), (7, .long ((p2 >>> (Int32.toInt64 (22 : Int32) &&& 63)))), (0, .ref ((b 0))), (1, .int 1), (2, .long p1), (4, .long p2), (6, .int p3)]) hx hb xd_Z_walk_115 hl (by decide) rfl (fun ls hl => ?_)
            refine lv_lload hx hb xd_Z_walk_117 (lv_at hl 0 rfl) ?_
            refine lv_lconst (v := 0) hx hb xd_Z_walk_119 (by decide) ?_
            refine W.lcmp hx hb xd_Z_walk_120 ?_
            refine lv_if_ge (tgt := 128) hx hb xd_Z_walk_121 rfl (fun h31 => ?_) (fun h31 => ?_)
            · have hv := xit_v h31 hv
              refine lv_aload_n hx hb xd_Z_walk_128 rfl (lv_at hl 3 rfl) ?_
              refine lv_iload_n hx hb xd_Z_walk_129 rfl (lv_at hl 4 rfl) ?_
              refine lv_lload hx hb xd_Z_walk_130 (lv_at hl 0 rfl) ?_
              refine lv_l2i (v := (Int64.toInt32 q29.1)) hx hb xd_Z_walk_132 rfl ?_
              refine lv_iload hx hb xd_Z_walk_133 (lv_at hl 7 rfl) ?_
              obtain ⟨hn33, hv⟩ := xan_v hv
              refine xcW_i (va_runV (As := [.int 1, .int ((Int64.toInt32 q29.1)), .int p3]) (rest := []) ⟨hx, hb, hml, hown, htg⟩ (c_Z_isAllowed l D z k b H.size q29.2 (1 : Int32) (Int64.toInt32 q29.1) p3 hn33) (cwV 3 htg (xg_V0 xkin_Z_isAllowed xw_971 xw_973 xsel_Z_isAllowed xw_9) rfl rfl rfl (by decide +kernel) ⟨Nat.le_of_ble_eq_true rfl, Nat.le_of_ble_eq_true rfl⟩) ⟨xB_blind, xrecv_Z hK hP, fun U hU hW => xB_mk hP hK hD hE hS (xsubW hD hA hS) hU hW⟩ rfl rfl hl.1 rfl (lv_room (Nat.le_of_ble_eq_true rfl)) xd_Z_walk_135 ⟨Nat.le_of_ble_eq_true rfl, Nat.le_of_ble_eq_true rfl⟩) hD hA hS (fun r u1 H locs hw hP hD hS => ?_)
              obtain ⟨q32, hq32⟩ : ∃ q, q = xf_Z_isAllowed q29.2 (1 : Int32) (Int64.toInt32 q29.1) p3 := ⟨_, rfl⟩
              obtain ⟨e1, e2⟩ := hw
              rw [← hq32] at e1
              obtain rfl : q32 = r := e1.symm
              obtain rfl : q29.2 = u1 := e2.symm
              have hP : va_P D xCl (xWZ k b q29.2) H := hP
              have hD : va_D A (xWZ k b q29.2) := hD
              have hv := xlt_v hq32 hv
              refine lv_if_eq (tgt := 160) hx hb xd_Z_walk_138 rfl (fun h34 => ?_) (fun h34 => ?_)
              · have hv := xit_v h34 hv
                refine lv_aload_n hx hb xd_Z_walk_160 rfl (lv_at hl 3 rfl) ?_
                refine lv_iload_n hx hb xd_Z_walk_161 rfl (lv_at hl 4 rfl) ?_
                refine lv_lload hx hb xd_Z_walk_162 (lv_at hl 6 rfl) ?_
                refine lv_iload hx hb xd_Z_walk_164 (lv_at hl 7 rfl) ?_
                obtain ⟨hn36, hv⟩ := xan_v hv
                refine xcW_l (va_runV (As := [.int 1, .long p2, .int p3]) (rest := []) ⟨hx, hb, hml, hown, htg⟩ (c_Z_stageFault l D z k b H.size q29.2 (1 : Int32) p2 p3 hn36) (cwV 3 htg (xg_V0 xkin_Z_stageFault xw_965 xw_967 xsel_Z_stageFault xw_9) rfl rfl rfl (by decide +kernel) ⟨Nat.le_of_ble_eq_true rfl, Nat.le_of_ble_eq_true rfl⟩) ⟨xB_blind, xrecv_Z hK hP, fun U hU hW => xB_mk hP hK hD hE hS (xsubW hD hA hS) hU hW⟩ rfl rfl hl.1 rfl (lv_room (Nat.le_of_ble_eq_true rfl)) xd_Z_walk_166 ⟨Nat.le_of_ble_eq_true rfl, Nat.le_of_ble_eq_true rfl⟩) hD hA hS (fun r u1 H locs hw hP hD hS => ?_)
                obtain ⟨q35, hq35⟩ : ∃ q, q = xf_Z_stageFault q29.2 (1 : Int32) p2 p3 := ⟨_, rfl⟩
                rw [← hq35] at hw
                obtain rfl : r = q35.1 := congrArg Prod.fst hw
                obtain rfl : u1 = q35.2 := congrArg Prod.snd hw
                have hP : va_P D xCl (xWZ k b q35.2) H := hP
                have hD : va_D A (xWZ k b q35.2) := hD
                have hv := xlt_v hq35 hv
                exact hret _ q35.2 H locs ls _ (by unfold xf_Z_walk_1; exact (xlt_e hq1 (xit h3 (xlt_e hv5 (xit h7 (xif h25 (xit h28 (xlt_e hq29 (xit h31 (xlt_e hq32 (xit h34 (xlt_e hq35 rfl)))))))))))) hP hD hS xd_Z_walk_169
              · have hv := xif_v h34 hv
                refine lv_iload hx hb xd_Z_walk_141 (lv_at hl 1 rfl) ?_
                refine lv_if_eq (tgt := 170) hx hb xd_Z_walk_143 rfl (fun h37 => ?_) (fun h37 => ?_)
                · have hv := xit_v h37 hv
                  refine lv_lload hx hb xd_Z_walk_170 (lv_at hl 0 rfl) ?_
                  refine lv_ldc2 (v := 1024) hx hb hown (htg _ xw_969) xd_Z_walk_172 ?_
                  refine lv_ldiv hx hb xd_Z_walk_175 (by decide) ?_
                  refine lv_lstore (lv' := [(12, .long ((q29.1 / (1024 : Int64)))), (9, .long (q29.1)), (11, .int v5), (7, .long ((p2 >>> (Int32.toInt64 (22 : Int32) &&& 63)))), (0, .ref ((b 0))), (1, .int 1), (2, .long p1), (4, .long p2), (6, .int p3)]) hx hb xd_Z_walk_176 hl (by decide) rfl (fun ls hl => ?_)
                  refine lv_iload hx hb xd_Z_walk_178 (lv_at hl 2 rfl) ?_
                  have hj40 : ∀ (H : Heap) (locs : List Loc) (ls : Array Slot) (v39 : Int64), v39 = (if v5 = 0 then ((((q29.1 / (1024 : Int64)) * (4096 : Int64)) + (p2 &&& (4095 : Int64)))) else (((((q29.1 / (1024 : Int64)) / (1024 : Int64)) <<< (Int32.toInt64 (22 : Int32) &&& 63)) + (p2 &&& (4194303 : Int64))))) → lv_has ls 16 [(12, .long ((q29.1 / (1024 : Int64)))), (9, .long (q29.1)), (11, .int v5), (7, .long ((p2 >>> (Int32.toInt64 (22 : Int32) &&& 63)))), (0, .ref ((b 0))), (1, .int 1), (2, .long p1), (4, .long p2), (6, .int p3)] → va_P D xCl (xWZ k b q29.2) H → va_D A (xWZ k b q29.2) → va_S A s.heap H locs → W p l e { frames := 7, cells := 0, slots := 0, locals := 182 } s m args below meth c H locs (0) (0) Q (F0 m 215 ls [.long v39]) := by
                    intro H locs ls v39 hv39 hl hP hD hS
                    have hv := xlt_v hv39 hv
                    refine lv_lstore (lv' := [(14, .long v39), (12, .long ((q29.1 / (1024 : Int64)))), (9, .long (q29.1)), (11, .int v5), (7, .long ((p2 >>> (Int32.toInt64 (22 : Int32) &&& 63)))), (0, .ref ((b 0))), (1, .int 1), (2, .long p1), (4, .long p2), (6, .int p3)]) hx hb xd_Z_walk_215 hl (by decide) rfl (fun ls hl => ?_)
                    refine lv_iload_n hx hb xd_Z_walk_217 rfl (lv_at hl 6 rfl) ?_
                    refine lv_iconst (v := 1) hx hb xd_Z_walk_218 (by decide) ?_
                    refine lv_icmp_ne (tgt := 227) hx hb xd_Z_walk_219 rfl (fun h => absurd h (by decide)) (fun _ => ?_)
                    refine lv_lload hx hb xd_Z_walk_222 (lv_at hl 0 rfl) ?_
                    refine lv_goto (tgt := 233) hx hb xd_Z_walk_224 rfl ?_
                    exact hret _ q29.2 H locs ls _ (by unfold xf_Z_walk_1; exact (xlt_e hq1 (xit h3 (xlt_e hv5 (xit h7 (xif h25 (xit h28 (xlt_e hq29 (xit h31 (xlt_e hq32 (xif h34 (xit h37 (xlt_e hv39 rfl))))))))))))) hP hD hS xd_Z_walk_233
                  refine lv_if_eq (tgt := 202) hx hb xd_Z_walk_180 rfl (fun h41 => ?_) (fun h41 => ?_)
                  · refine lv_lload hx hb xd_Z_walk_202 (lv_at hl 0 rfl) ?_
                    refine lv_ldc2 (v := 4096) hx hb hown (htg _ xw_939) xd_Z_walk_204 ?_
                    refine lv_lmul hx hb xd_Z_walk_207 ?_
                    refine lv_lload hx hb xd_Z_walk_208 (lv_at hl 7 rfl) ?_
                    refine lv_ldc2 (v := 4095) hx hb hown (htg _ xw_975) xd_Z_walk_210 ?_
                    refine lv_land hx hb xd_Z_walk_213 ?_
                    refine lv_ladd hx hb xd_Z_walk_214 ?_
                    exact hj40 H locs ls (((q29.1 / (1024 : Int64)) * (4096 : Int64)) + (p2 &&& (4095 : Int64))) (xit h41 rfl) hl hP hD hS
                  · refine lv_lload hx hb xd_Z_walk_183 (lv_at hl 0 rfl) ?_
                    refine lv_ldc2 (v := 1024) hx hb hown (htg _ xw_969) xd_Z_walk_185 ?_
                    refine lv_ldiv hx hb xd_Z_walk_188 (by decide) ?_
                    refine lv_bipush (v := 22) hx hb xd_Z_walk_189 (by decide) ?_
                    refine lv_lshl (v := (((q29.1 / (1024 : Int64)) / (1024 : Int64)) <<< (Int32.toInt64 (22 : Int32) &&& 63))) hx hb xd_Z_walk_191 rfl ?_
                    refine lv_lload hx hb xd_Z_walk_192 (lv_at hl 7 rfl) ?_
                    refine lv_ldc2 (v := 4194303) hx hb hown (htg _ xw_938) xd_Z_walk_194 ?_
                    refine lv_land hx hb xd_Z_walk_197 ?_
                    refine lv_ladd hx hb xd_Z_walk_198 ?_
                    refine lv_goto (tgt := 215) hx hb xd_Z_walk_199 rfl ?_
                    exact hj40 H locs ls ((((q29.1 / (1024 : Int64)) / (1024 : Int64)) <<< (Int32.toInt64 (22 : Int32) &&& 63)) + (p2 &&& (4194303 : Int64))) (xif h41 rfl) hl hP hD hS
                · have hv := xif_v h37 hv
                  refine lv_lload hx hb xd_Z_walk_146 (lv_at hl 0 rfl) ?_
                  refine lv_bipush (v := 10) hx hb xd_Z_walk_148 (by decide) ?_
                  refine lv_lshr (v := (q29.1 >>> (Int32.toInt64 (10 : Int32) &&& 63))) hx hb xd_Z_walk_150 rfl ?_
                  refine lv_ldc2 (v := 1023) hx hb hown (htg _ xw_970) xd_Z_walk_151 ?_
                  refine lv_land hx hb xd_Z_walk_154 ?_
                  refine lv_lconst (v := 0) hx hb xd_Z_walk_155 (by decide) ?_
                  refine W.lcmp hx hb xd_Z_walk_156 ?_
                  refine lv_if_eq (tgt := 170) hx hb xd_Z_walk_157 rfl (fun h42 => ?_) (fun h42 => ?_)
                  · have hv := xit_v h42 hv
                    refine lv_lload hx hb xd_Z_walk_170 (lv_at hl 0 rfl) ?_
                    refine lv_ldc2 (v := 1024) hx hb hown (htg _ xw_969) xd_Z_walk_172 ?_
                    refine lv_ldiv hx hb xd_Z_walk_175 (by decide) ?_
                    refine lv_lstore (lv' := [(12, .long ((q29.1 / (1024 : Int64)))), (9, .long (q29.1)), (11, .int v5), (7, .long ((p2 >>> (Int32.toInt64 (22 : Int32) &&& 63)))), (0, .ref ((b 0))), (1, .int 1), (2, .long p1), (4, .long p2), (6, .int p3)]) hx hb xd_Z_walk_176 hl (by decide) rfl (fun ls hl => ?_)
                    refine lv_iload hx hb xd_Z_walk_178 (lv_at hl 2 rfl) ?_
                    have hj45 : ∀ (H : Heap) (locs : List Loc) (ls : Array Slot) (v44 : Int64), v44 = (if v5 = 0 then ((((q29.1 / (1024 : Int64)) * (4096 : Int64)) + (p2 &&& (4095 : Int64)))) else (((((q29.1 / (1024 : Int64)) / (1024 : Int64)) <<< (Int32.toInt64 (22 : Int32) &&& 63)) + (p2 &&& (4194303 : Int64))))) → lv_has ls 16 [(12, .long ((q29.1 / (1024 : Int64)))), (9, .long (q29.1)), (11, .int v5), (7, .long ((p2 >>> (Int32.toInt64 (22 : Int32) &&& 63)))), (0, .ref ((b 0))), (1, .int 1), (2, .long p1), (4, .long p2), (6, .int p3)] → va_P D xCl (xWZ k b q29.2) H → va_D A (xWZ k b q29.2) → va_S A s.heap H locs → W p l e { frames := 7, cells := 0, slots := 0, locals := 182 } s m args below meth c H locs (0) (0) Q (F0 m 215 ls [.long v44]) := by
                      intro H locs ls v44 hv44 hl hP hD hS
                      have hv := xlt_v hv44 hv
                      refine lv_lstore (lv' := [(14, .long v44), (12, .long ((q29.1 / (1024 : Int64)))), (9, .long (q29.1)), (11, .int v5), (7, .long ((p2 >>> (Int32.toInt64 (22 : Int32) &&& 63)))), (0, .ref ((b 0))), (1, .int 1), (2, .long p1), (4, .long p2), (6, .int p3)]) hx hb xd_Z_walk_215 hl (by decide) rfl (fun ls hl => ?_)
                      refine lv_iload_n hx hb xd_Z_walk_217 rfl (lv_at hl 6 rfl) ?_
                      refine lv_iconst (v := 1) hx hb xd_Z_walk_218 (by decide) ?_
                      refine lv_icmp_ne (tgt := 227) hx hb xd_Z_walk_219 rfl (fun h => absurd h (by decide)) (fun _ => ?_)
                      refine lv_lload hx hb xd_Z_walk_222 (lv_at hl 0 rfl) ?_
                      refine lv_goto (tgt := 233) hx hb xd_Z_walk_224 rfl ?_
                      exact hret _ q29.2 H locs ls _ (by unfold xf_Z_walk_1; exact (xlt_e hq1 (xit h3 (xlt_e hv5 (xit h7 (xif h25 (xit h28 (xlt_e hq29 (xit h31 (xlt_e hq32 (xif h34 (xif h37 (xit h42 (xlt_e hv44 rfl)))))))))))))) hP hD hS xd_Z_walk_233
                    refine lv_if_eq (tgt := 202) hx hb xd_Z_walk_180 rfl (fun h46 => ?_) (fun h46 => ?_)
                    · refine lv_lload hx hb xd_Z_walk_202 (lv_at hl 0 rfl) ?_
                      refine lv_ldc2 (v := 4096) hx hb hown (htg _ xw_939) xd_Z_walk_204 ?_
                      refine lv_lmul hx hb xd_Z_walk_207 ?_
                      refine lv_lload hx hb xd_Z_walk_208 (lv_at hl 7 rfl) ?_
                      refine lv_ldc2 (v := 4095) hx hb hown (htg _ xw_975) xd_Z_walk_210 ?_
                      refine lv_land hx hb xd_Z_walk_213 ?_
                      refine lv_ladd hx hb xd_Z_walk_214 ?_
                      exact hj45 H locs ls (((q29.1 / (1024 : Int64)) * (4096 : Int64)) + (p2 &&& (4095 : Int64))) (xit h46 rfl) hl hP hD hS
                    · refine lv_lload hx hb xd_Z_walk_183 (lv_at hl 0 rfl) ?_
                      refine lv_ldc2 (v := 1024) hx hb hown (htg _ xw_969) xd_Z_walk_185 ?_
                      refine lv_ldiv hx hb xd_Z_walk_188 (by decide) ?_
                      refine lv_bipush (v := 22) hx hb xd_Z_walk_189 (by decide) ?_
                      refine lv_lshl (v := (((q29.1 / (1024 : Int64)) / (1024 : Int64)) <<< (Int32.toInt64 (22 : Int32) &&& 63))) hx hb xd_Z_walk_191 rfl ?_
                      refine lv_lload hx hb xd_Z_walk_192 (lv_at hl 7 rfl) ?_
                      refine lv_ldc2 (v := 4194303) hx hb hown (htg _ xw_938) xd_Z_walk_194 ?_
                      refine lv_land hx hb xd_Z_walk_197 ?_
                      refine lv_ladd hx hb xd_Z_walk_198 ?_
                      refine lv_goto (tgt := 215) hx hb xd_Z_walk_199 rfl ?_
                      exact hj45 H locs ls ((((q29.1 / (1024 : Int64)) / (1024 : Int64)) <<< (Int32.toInt64 (22 : Int32) &&& 63)) + (p2 &&& (4194303 : Int64))) (xif h46 rfl) hl hP hD hS
                  · have hv := xif_v h42 hv
                    refine lv_aload_n hx hb xd_Z_walk_160 rfl (lv_at hl 3 rfl) ?_
                    refine lv_iload_n hx hb xd_Z_walk_161 rfl (lv_at hl 4 rfl) ?_
                    refine lv_lload hx hb xd_Z_walk_162 (lv_at hl 6 rfl) ?_
                    refine lv_iload hx hb xd_Z_walk_164 (lv_at hl 7 rfl) ?_
                    obtain ⟨hn48, hv⟩ := xan_v hv
                    refine xcW_l (va_runV (As := [.int 1, .long p2, .int p3]) (rest := []) ⟨hx, hb, hml, hown, htg⟩ (c_Z_stageFault l D z k b H.size q29.2 (1 : Int32) p2 p3 hn48) (cwV 3 htg (xg_V0 xkin_Z_stageFault xw_965 xw_967 xsel_Z_stageFault xw_9) rfl rfl rfl (by decide +kernel) ⟨Nat.le_of_ble_eq_true rfl, Nat.le_of_ble_eq_true rfl⟩) ⟨xB_blind, xrecv_Z hK hP, fun U hU hW => xB_mk hP hK hD hE hS (xsubW hD hA hS) hU hW⟩ rfl rfl hl.1 rfl (lv_room (Nat.le_of_ble_eq_true rfl)) xd_Z_walk_166 ⟨Nat.le_of_ble_eq_true rfl, Nat.le_of_ble_eq_true rfl⟩) hD hA hS (fun r u1 H locs hw hP hD hS => ?_)
                    obtain ⟨q47, hq47⟩ : ∃ q, q = xf_Z_stageFault q29.2 (1 : Int32) p2 p3 := ⟨_, rfl⟩
                    rw [← hq47] at hw
                    obtain rfl : r = q47.1 := congrArg Prod.fst hw
                    obtain rfl : u1 = q47.2 := congrArg Prod.snd hw
                    have hP : va_P D xCl (xWZ k b q47.2) H := hP
                    have hD : va_D A (xWZ k b q47.2) := hD
                    have hv := xlt_v hq47 hv
                    exact hret _ q47.2 H locs ls _ (by unfold xf_Z_walk_1; exact (xlt_e hq1 (xit h3 (xlt_e hv5 (xit h7 (xif h25 (xit h28 (xlt_e hq29 (xit h31 (xlt_e hq32 (xif h34 (xif h37 (xif h42 (xlt_e hq47 rfl)))))))))))))) hP hD hS xd_Z_walk_169
            · have hv := xif_v h31 hv
              refine lv_ldc2 (v := (-1)) hx hb hown (htg _ xw_937) xd_Z_walk_124 ?_
              exact hret _ q29.2 H locs ls _ (by unfold xf_Z_walk_1; exact (xlt_e hq1 (xit h3 (xlt_e hv5 (xit h7 (xif h25 (xit h28 (xlt_e hq29 (xif h31 rfl))))))))) hP hD hS xd_Z_walk_127
          · have hv := xif_v h28 hv
            refine lv_aload_n hx hb xd_Z_walk_76 rfl (lv_at hl 3 rfl) ?_
            refine lv_iload_n hx hb xd_Z_walk_77 rfl (lv_at hl 4 rfl) ?_
            refine lv_lload hx hb xd_Z_walk_78 (lv_at hl 6 rfl) ?_
            refine lv_iload hx hb xd_Z_walk_80 (lv_at hl 7 rfl) ?_
            obtain ⟨hn50, hv⟩ := xan_v hv
            refine xcW_l (va_runV (As := [.int 1, .long p2, .int p3]) (rest := []) ⟨hx, hb, hml, hown, htg⟩ (c_Z_stageFault l D z k b H.size q1.2 (1 : Int32) p2 p3 hn50) (cwV 3 htg (xg_V0 xkin_Z_stageFault xw_965 xw_967 xsel_Z_stageFault xw_9) rfl rfl rfl (by decide +kernel) ⟨Nat.le_of_ble_eq_true rfl, Nat.le_of_ble_eq_true rfl⟩) ⟨xB_blind, xrecv_Z hK hP, fun U hU hW => xB_mk hP hK hD hE hS (xsubW hD hA hS) hU hW⟩ rfl rfl hl.1 rfl (lv_room (Nat.le_of_ble_eq_true rfl)) xd_Z_walk_82 ⟨Nat.le_of_ble_eq_true rfl, Nat.le_of_ble_eq_true rfl⟩) hD hA hS (fun r u1 H locs hw hP hD hS => ?_)
            obtain ⟨q49, hq49⟩ : ∃ q, q = xf_Z_stageFault q1.2 (1 : Int32) p2 p3 := ⟨_, rfl⟩
            rw [← hq49] at hw
            obtain rfl : r = q49.1 := congrArg Prod.fst hw
            obtain rfl : u1 = q49.2 := congrArg Prod.snd hw
            have hP : va_P D xCl (xWZ k b q49.2) H := hP
            have hD : va_D A (xWZ k b q49.2) := hD
            have hv := xlt_v hq49 hv
            exact hret _ q49.2 H locs ls _ (by unfold xf_Z_walk_1; exact (xlt_e hq1 (xit h3 (xlt_e hv5 (xit h7 (xif h25 (xif h28 (xlt_e hq49 rfl)))))))) hP hD hS xd_Z_walk_85
    refine lv_if_eq (tgt := 48) hx hb xd_Z_walk_41 rfl (fun h51 => ?_) (fun h51 => ?_)
    · refine lv_iconst (v := 0) hx hb xd_Z_walk_48 (by decide) ?_
      exact hj6 H locs ls (0 : Int32) (xit h51 rfl) hl hP hD hS
    · refine lv_iconst (v := 1) hx hb xd_Z_walk_44 (by decide) ?_
      refine lv_goto (tgt := 49) hx hb xd_Z_walk_45 rfl ?_
      exact hj6 H locs ls (1 : Int32) (xif h51 rfl) hl hP hD hS
  · have hv := xif_v h3 hv
    refine lv_ldc2 (v := (-1)) hx hb hown (htg _ xw_937) xd_Z_walk_29 ?_
    exact hret _ q1.2 H locs ls _ (by unfold xf_Z_walk_1; exact (xlt_e hq1 (xif h3 rfl))) hP hD hS xd_Z_walk_32

noncomputable def xf_Z_entryAt_0 (u : XZ) (p1 : Int64) : Int64 × XZ :=
  xlt (xf_Z_inMemory u p1 : Int64 × XZ) fun q1 =>
  xlt (if 0 ≤ (lg_cmp q1.1 (0 : Int64)) then (xlt (xf_Z_word q1.2 q1.1 : Int32) fun q4 => ((Int32.toInt64 q4) &&& (4294967295 : Int64))) else ((-1)) : Int64) fun v6 =>
  (v6, q1.2)
def xv_Z_entryAt_0 (u : XZ) (p1 : Int64) : Prop := XVc (
  (xv_Z_inMemory u p1) ∧
  xlt (xf_Z_inMemory u p1 : Int64 × XZ) fun q1 =>
  (if 0 ≤ (lg_cmp q1.1 (0 : Int64)) then ((xv_Z_word q1.2 q1.1) ∧ (xlt (xf_Z_word q1.2 q1.1 : Int32) fun q4 => True)) else (True)) ∧
  xlt (if 0 ≤ (lg_cmp q1.1 (0 : Int64)) then (xlt (xf_Z_word q1.2 q1.1 : Int32) fun q4 => ((Int32.toInt64 q4) &&& (4294967295 : Int64))) else ((-1)) : Int64) fun v6 =>
  True)
set_option maxHeartbeats 4000000 in
set_option maxRecDepth 100000 in
theorem c_Z_entryAt_0 (l : Launch) (D : va_G) (z : (Nat → Nat) × (Nat → Nat)) (k : ClassId × ClassId) (b : Nat → Nat) (sz : Nat) (u : XZ) (p1 : Int64) (hv : xv_Z_entryAt_0 u p1) : Met l xy_Z_entryAt (xk_Z_entryAt :: lw_g) { frames := 2, cells := 0, slots := 0, locals := 46 } (va_Pc [.ref ((b 0)), .int 0, .long p1] (xB D (xTy k) z sz (xWZ k b u))) (va_Ql (fun r (q : XZ) => (r, q) = xf_Z_entryAt_0 u p1) (fun q t => xQ D (xTy k) (xWZ k b q) (va_A (xWZ k b u) sz) t) (va_A (xWZ k b u) sz)) 0 0 (va_A (xWZ k b u) sz) := by
  refine xopen_l (wf := fun q : XZ => xWZ k b q) (lv := [(0, .ref ((b 0))), (1, .int 0), (2, .long p1)]) (by decide) rfl (Nat.le_of_ble_eq_true rfl) ?_
  intro p e s m args below meth c Q ls A H locs hx hb hml htg hown hin hK hP hD hE hS hA hl hret
  unfold xv_Z_entryAt_0 at hv
  refine lv_iload_n hx hb xd_Z_entryAt_0 rfl (lv_at hl 1 rfl) ?_
  refine lv_iconst (v := 1) hx hb xd_Z_entryAt_1 (by decide) ?_
  refine lv_icmp_ne (tgt := 14) hx hb xd_Z_entryAt_2 rfl (fun _ => ?_) (fun h => absurd h (by decide))
  refine lv_aload_n hx hb xd_Z_entryAt_14 rfl (lv_at hl 0 rfl) ?_
  refine lv_lload_n hx hb xd_Z_entryAt_15 rfl (lv_at hl 2 rfl) ?_
  obtain ⟨hn2, hv⟩ := xan_v hv
  refine xcW_l (va_runV (As := [.long p1]) (rest := []) ⟨hx, hb, hml, hown, htg⟩ (c_Z_inMemory l D z k b H.size u p1 hn2) (cwV 1 htg (xg_V0 xkin_Z_inMemory xw_954 xw_956 xsel_Z_inMemory xw_9) rfl rfl rfl (by decide +kernel) ⟨Nat.le_of_ble_eq_true rfl, Nat.le_of_ble_eq_true rfl⟩) ⟨xB_blind, xrecv_Z hK hP, fun U hU hW => xB_mk hP hK hD hE hS (xsubW hD hA hS) hU hW⟩ rfl rfl hl.1 rfl (lv_room (Nat.le_of_ble_eq_true rfl)) xd_Z_entryAt_16 ⟨Nat.le_of_ble_eq_true rfl, Nat.le_of_ble_eq_true rfl⟩) hD hA hS (fun r u1 H locs hw hP hD hS => ?_)
  obtain ⟨q1, hq1⟩ : ∃ q, q = xf_Z_inMemory u p1 := ⟨_, rfl⟩
  rw [← hq1] at hw
  obtain rfl : r = q1.1 := congrArg Prod.fst hw
  obtain rfl : u1 = q1.2 := congrArg Prod.snd hw
  have hP : va_P D xCl (xWZ k b q1.2) H := hP
  have hD : va_D A (xWZ k b q1.2) := hD
  have hv := xlt_v hq1 hv
  refine lv_lstore (lv' := [(4, .long (q1.1)), (0, .ref ((b 0))), (1, .int 0), (2, .long p1)]) hx hb xd_Z_entryAt_19 hl (by decide) rfl (fun ls hl => ?_)
  refine lv_lload hx hb xd_Z_entryAt_21 (lv_at hl 0 rfl) ?_
  refine lv_lconst (v := 0) hx hb xd_Z_entryAt_23 (by decide) ?_
  refine W.lcmp hx hb xd_Z_entryAt_24 ?_
  obtain ⟨hva, hv⟩ := xan_v2 hv
  have hj7 : ∀ (H : Heap) (locs : List Loc) (ls : Array Slot) (v6 : Int64), v6 = (if 0 ≤ (lg_cmp q1.1 (0 : Int64)) then (xlt (xf_Z_word q1.2 q1.1 : Int32) fun q4 => ((Int32.toInt64 q4) &&& (4294967295 : Int64))) else ((-1))) → lv_has ls 6 [(4, .long (q1.1)), (0, .ref ((b 0))), (1, .int 0), (2, .long p1)] → va_P D xCl (xWZ k b q1.2) H → va_D A (xWZ k b q1.2) → va_S A s.heap H locs → W p l e { frames := 2, cells := 0, slots := 0, locals := 46 } s m args below meth c H locs (0) (0) Q (F0 m 45 ls [.long v6]) := by
    intro H locs ls v6 hv6 hl hP hD hS
    have hv := xlt_v hv6 hv
    exact hret _ q1.2 H locs ls _ (by unfold xf_Z_entryAt_0; exact (xlt_e hq1 (xlt_e hv6 rfl))) hP hD hS xd_Z_entryAt_45
  have hv := hva
  refine lv_if_ge (tgt := 34) hx hb xd_Z_entryAt_25 rfl (fun h8 => ?_) (fun h8 => ?_)
  · have hv := xit_v h8 hv
    refine lv_aload_n hx hb xd_Z_entryAt_34 rfl (lv_at hl 1 rfl) ?_
    refine lv_lload hx hb xd_Z_entryAt_35 (lv_at hl 0 rfl) ?_
    obtain ⟨hn10, hv⟩ := xan_v hv
    refine xcW_i (va_runV (As := [.long (q1.1)]) (rest := []) ⟨hx, hb, hml, hown, htg⟩ (c_Z_word l D z k b H.size q1.2 q1.1 hn10) (cwV 1 htg (xg_V0 xkin_Z_word xw_959 xw_961 xsel_Z_word xw_9) rfl rfl rfl (by decide +kernel) ⟨Nat.le_of_ble_eq_true rfl, Nat.le_of_ble_eq_true rfl⟩) ⟨xB_blind, xrecv_Z hK hP, fun U hU hW => xB_mk hP hK hD hE hS (xsubW hD hA hS) hU hW⟩ rfl rfl hl.1 rfl (lv_room (Nat.le_of_ble_eq_true rfl)) xd_Z_entryAt_37 ⟨Nat.le_of_ble_eq_true rfl, Nat.le_of_ble_eq_true rfl⟩) hD hA hS (fun r u1 H locs hw hP hD hS => ?_)
    obtain ⟨q9, hq9⟩ : ∃ q, q = xf_Z_word q1.2 q1.1 := ⟨_, rfl⟩
    obtain ⟨e1, e2⟩ := hw
    rw [← hq9] at e1
    obtain rfl : q9 = r := e1.symm
    obtain rfl : q1.2 = u1 := e2.symm
    have hP : va_P D xCl (xWZ k b q1.2) H := hP
    have hD : va_D A (xWZ k b q1.2) := hD
    have hv := xlt_v hq9 hv
    refine lv_i2l (v := (Int32.toInt64 q9)) hx hb xd_Z_entryAt_40 rfl ?_
    refine lv_ldc2 (v := 4294967295) hx hb hown (htg _ xw_887) xd_Z_entryAt_41 ?_
    refine lv_land hx hb xd_Z_entryAt_44 ?_
    exact hj7 H locs ls ((Int32.toInt64 q9) &&& (4294967295 : Int64)) (xit h8 (xlt_e hq9 rfl)) hl hP hD hS
  · have hv := xif_v h8 hv
    refine lv_ldc2 (v := (-1)) hx hb hown (htg _ xw_937) xd_Z_entryAt_28 ?_
    refine lv_goto (tgt := 45) hx hb xd_Z_entryAt_31 rfl ?_
    exact hj7 H locs ls (-1 : Int64) (xif h8 rfl) hl hP hD hS

noncomputable def xf_Z_walk_0 (u : XZ) (p1 : Int64) (p2 : Int64) (p3 : Int32) : Int64 × XZ :=
  xlt (xf_Z_entryAt_0 u (p1 + ((4 : Int64) * (p2 >>> (Int32.toInt64 (22 : Int32) &&& 63)))) : Int64 × XZ) fun q1 =>
  if 0 ≤ (lg_cmp q1.1 (0 : Int64)) then
    xlt (if (lg_cmp (q1.1 &&& (14 : Int64)) (0 : Int64)) = 0 then (0) else (1) : Int32) fun v5 =>
    if v5 = 0 then
      if (lg_cmp (q1.1 &&& (1 : Int64)) (0 : Int64)) = 0 then
        xlt (xf_Z_stageFault q1.2 (0 : Int32) p2 p3 : Int64 × XZ) fun q30 =>
        (q30.1, q30.2)
      else
        if (lg_cmp (q1.1 &&& (208 : Int64)) (0 : Int64)) = 0 then
          xlt (xf_Z_entryAt_0 q1.2 (((q1.1 / (1024 : Int64)) * (4096 : Int64)) + ((4 : Int64) * ((p2 >>> (Int32.toInt64 (12 : Int32) &&& 63)) &&& (1023 : Int64)))) : Int64 × XZ) fun q33 =>
          if 0 ≤ (lg_cmp q33.1 (0 : Int64)) then
            xlt (xf_Z_isAllowed q33.2 (0 : Int32) (Int64.toInt32 q33.1) p3 : Int32) fun q36 =>
            if q36 = 0 then
              xlt (xf_Z_stageFault q33.2 (0 : Int32) p2 p3 : Int64 × XZ) fun q39 =>
              (q39.1, q39.2)
            else
              if v5 = 0 then
                xlt (if v5 = 0 then ((((q33.1 / (1024 : Int64)) * (4096 : Int64)) + (p2 &&& (4095 : Int64)))) else (((((q33.1 / (1024 : Int64)) / (1024 : Int64)) <<< (Int32.toInt64 (22 : Int32) &&& 63)) + (p2 &&& (4194303 : Int64)))) : Int64) fun v43 =>
                xlt (xf_Z_inMemory q33.2 v43 : Int64 × XZ) fun q45 =>
                (q45.1, q45.2)
              else
                if (lg_cmp ((q33.1 >>> (Int32.toInt64 (10 : Int32) &&& 63)) &&& (1023 : Int64)) (0 : Int64)) = 0 then
                  xlt (if v5 = 0 then ((((q33.1 / (1024 : Int64)) * (4096 : Int64)) + (p2 &&& (4095 : Int64)))) else (((((q33.1 / (1024 : Int64)) / (1024 : Int64)) <<< (Int32.toInt64 (22 : Int32) &&& 63)) + (p2 &&& (4194303 : Int64)))) : Int64) fun v50 =>
                  xlt (xf_Z_inMemory q33.2 v50 : Int64 × XZ) fun q52 =>
                  (q52.1, q52.2)
                else
                  xlt (xf_Z_stageFault q33.2 (0 : Int32) p2 p3 : Int64 × XZ) fun q55 =>
                  (q55.1, q55.2)
          else
            ((-1), q33.2)
        else
          xlt (xf_Z_stageFault q1.2 (0 : Int32) p2 p3 : Int64 × XZ) fun q57 =>
          (q57.1, q57.2)
    else
      xlt (xf_Z_isAllowed q1.2 (0 : Int32) (Int64.toInt32 q1.1) p3 : Int32) fun q8 =>
      if q8 = 0 then
        xlt (xf_Z_stageFault q1.2 (0 : Int32) p2 p3 : Int64 × XZ) fun q11 =>
        (q11.1, q11.2)
      else
        if v5 = 0 then
          xlt (if v5 = 0 then ((((q1.1 / (1024 : Int64)) * (4096 : Int64)) + (p2 &&& (4095 : Int64)))) else (((((q1.1 / (1024 : Int64)) / (1024 : Int64)) <<< (Int32.toInt64 (22 : Int32) &&& 63)) + (p2 &&& (4194303 : Int64)))) : Int64) fun v15 =>
          xlt (xf_Z_inMemory q1.2 v15 : Int64 × XZ) fun q17 =>
          (q17.1, q17.2)
        else
          if (lg_cmp ((q1.1 >>> (Int32.toInt64 (10 : Int32) &&& 63)) &&& (1023 : Int64)) (0 : Int64)) = 0 then
            xlt (if v5 = 0 then ((((q1.1 / (1024 : Int64)) * (4096 : Int64)) + (p2 &&& (4095 : Int64)))) else (((((q1.1 / (1024 : Int64)) / (1024 : Int64)) <<< (Int32.toInt64 (22 : Int32) &&& 63)) + (p2 &&& (4194303 : Int64)))) : Int64) fun v22 =>
            xlt (xf_Z_inMemory q1.2 v22 : Int64 × XZ) fun q24 =>
            (q24.1, q24.2)
          else
            xlt (xf_Z_stageFault q1.2 (0 : Int32) p2 p3 : Int64 × XZ) fun q27 =>
            (q27.1, q27.2)
  else
    ((-1), q1.2)
def xv_Z_walk_0 (u : XZ) (p1 : Int64) (p2 : Int64) (p3 : Int32) : Prop := XVc (
  (xv_Z_entryAt_0 u (p1 + ((4 : Int64) * (p2 >>> (Int32.toInt64 (22 : Int32) &&& 63))))) ∧
  xlt (xf_Z_entryAt_0 u (p1 + ((4 : Int64) * (p2 >>> (Int32.toInt64 (22 : Int32) &&& 63)))) : Int64 × XZ) fun q1 =>
  if 0 ≤ (lg_cmp q1.1 (0 : Int64)) then
    xlt (if (lg_cmp (q1.1 &&& (14 : Int64)) (0 : Int64)) = 0 then (0) else (1) : Int32) fun v5 =>
    if v5 = 0 then
      if (lg_cmp (q1.1 &&& (1 : Int64)) (0 : Int64)) = 0 then
        (xv_Z_stageFault q1.2 (0 : Int32) p2 p3) ∧
        xlt (xf_Z_stageFault q1.2 (0 : Int32) p2 p3 : Int64 × XZ) fun q30 =>
        True
      else
        if (lg_cmp (q1.1 &&& (208 : Int64)) (0 : Int64)) = 0 then
          (xv_Z_entryAt_0 q1.2 (((q1.1 / (1024 : Int64)) * (4096 : Int64)) + ((4 : Int64) * ((p2 >>> (Int32.toInt64 (12 : Int32) &&& 63)) &&& (1023 : Int64))))) ∧
          xlt (xf_Z_entryAt_0 q1.2 (((q1.1 / (1024 : Int64)) * (4096 : Int64)) + ((4 : Int64) * ((p2 >>> (Int32.toInt64 (12 : Int32) &&& 63)) &&& (1023 : Int64)))) : Int64 × XZ) fun q33 =>
          if 0 ≤ (lg_cmp q33.1 (0 : Int64)) then
            (xv_Z_isAllowed q33.2 (0 : Int32) (Int64.toInt32 q33.1) p3) ∧
            xlt (xf_Z_isAllowed q33.2 (0 : Int32) (Int64.toInt32 q33.1) p3 : Int32) fun q36 =>
            if q36 = 0 then
              (xv_Z_stageFault q33.2 (0 : Int32) p2 p3) ∧
              xlt (xf_Z_stageFault q33.2 (0 : Int32) p2 p3 : Int64 × XZ) fun q39 =>
              True
            else
              if v5 = 0 then
                xlt (if v5 = 0 then ((((q33.1 / (1024 : Int64)) * (4096 : Int64)) + (p2 &&& (4095 : Int64)))) else (((((q33.1 / (1024 : Int64)) / (1024 : Int64)) <<< (Int32.toInt64 (22 : Int32) &&& 63)) + (p2 &&& (4194303 : Int64)))) : Int64) fun v43 =>
                (xv_Z_inMemory q33.2 v43) ∧
                xlt (xf_Z_inMemory q33.2 v43 : Int64 × XZ) fun q45 =>
                True
              else
                if (lg_cmp ((q33.1 >>> (Int32.toInt64 (10 : Int32) &&& 63)) &&& (1023 : Int64)) (0 : Int64)) = 0 then
                  xlt (if v5 = 0 then ((((q33.1 / (1024 : Int64)) * (4096 : Int64)) + (p2 &&& (4095 : Int64)))) else (((((q33.1 / (1024 : Int64)) / (1024 : Int64)) <<< (Int32.toInt64 (22 : Int32) &&& 63)) + (p2 &&& (4194303 : Int64)))) : Int64) fun v50 =>
                  (xv_Z_inMemory q33.2 v50) ∧
                  xlt (xf_Z_inMemory q33.2 v50 : Int64 × XZ) fun q52 =>
                  True
                else
                  (xv_Z_stageFault q33.2 (0 : Int32) p2 p3) ∧
                  xlt (xf_Z_stageFault q33.2 (0 : Int32) p2 p3 : Int64 × XZ) fun q55 =>
                  True
          else
            True
        else
          (xv_Z_stageFault q1.2 (0 : Int32) p2 p3) ∧
          xlt (xf_Z_stageFault q1.2 (0 : Int32) p2 p3 : Int64 × XZ) fun q57 =>
          True
    else
      (xv_Z_isAllowed q1.2 (0 : Int32) (Int64.toInt32 q1.1) p3) ∧
      xlt (xf_Z_isAllowed q1.2 (0 : Int32) (Int64.toInt32 q1.1) p3 : Int32) fun q8 =>
      if q8 = 0 then
        (xv_Z_stageFault q1.2 (0 : Int32) p2 p3) ∧
        xlt (xf_Z_stageFault q1.2 (0 : Int32) p2 p3 : Int64 × XZ) fun q11 =>
        True
      else
        if v5 = 0 then
          xlt (if v5 = 0 then ((((q1.1 / (1024 : Int64)) * (4096 : Int64)) + (p2 &&& (4095 : Int64)))) else (((((q1.1 / (1024 : Int64)) / (1024 : Int64)) <<< (Int32.toInt64 (22 : Int32) &&& 63)) + (p2 &&& (4194303 : Int64)))) : Int64) fun v15 =>
          (xv_Z_inMemory q1.2 v15) ∧
          xlt (xf_Z_inMemory q1.2 v15 : Int64 × XZ) fun q17 =>
          True
        else
          if (lg_cmp ((q1.1 >>> (Int32.toInt64 (10 : Int32) &&& 63)) &&& (1023 : Int64)) (0 : Int64)) = 0 then
            xlt (if v5 = 0 then ((((q1.1 / (1024 : Int64)) * (4096 : Int64)) + (p2 &&& (4095 : Int64)))) else (((((q1.1 / (1024 : Int64)) / (1024 : Int64)) <<< (Int32.toInt64 (22 : Int32) &&& 63)) + (p2 &&& (4194303 : Int64)))) : Int64) fun v22 =>
            (xv_Z_inMemory q1.2 v22) ∧
            xlt (xf_Z_inMemory q1.2 v22 : Int64 × XZ) fun q24 =>
            True
          else
            (xv_Z_stageFault q1.2 (0 : Int32) p2 p3) ∧
            xlt (xf_Z_stageFault q1.2 (0 : Int32) p2 p3 : Int64 × XZ) fun q27 =>
            True
  else
    True)
set_option maxHeartbeats 4000000 in
set_option maxRecDepth 100000 in
theorem c_Z_walk_0 (l : Launch) (D : va_G) (z : (Nat → Nat) × (Nat → Nat)) (k : ClassId × ClassId) (b : Nat → Nat) (sz : Nat) (u : XZ) (p1 : Int64) (p2 : Int64) (p3 : Int32) (hv : xv_Z_walk_0 u p1 p2 p3) : Met l xy_Z_walk (xk_Z_walk :: lw_g) { frames := 4, cells := 0, slots := 0, locals := 99 } (va_Pc [.ref ((b 0)), .int 0, .long p1, .long p2, .int p3] (xB D (xTy k) z sz (xWZ k b u))) (va_Ql (fun r (q : XZ) => (r, q) = xf_Z_walk_0 u p1 p2 p3) (fun q t => xQ D (xTy k) (xWZ k b q) (va_A (xWZ k b u) sz) t) (va_A (xWZ k b u) sz)) 0 0 (va_A (xWZ k b u) sz) := by
  refine xopen_l (wf := fun q : XZ => xWZ k b q) (lv := [(0, .ref ((b 0))), (1, .int 0), (2, .long p1), (4, .long p2), (6, .int p3)]) (by decide) rfl (Nat.le_of_ble_eq_true rfl) ?_
  intro p e s m args below meth c Q ls A H locs hx hb hml htg hown hin hK hP hD hE hS hA hl hret
  unfold xv_Z_walk_0 at hv
  refine lv_lload hx hb xd_Z_walk_0 (lv_at hl 3 rfl) ?_
  refine lv_bipush (v := 22) hx hb xd_Z_walk_2 (by decide) ?_
  refine lv_lshr (v := (p2 >>> (Int32.toInt64 (22 : Int32) &&& 63))) hx hb xd_Z_walk_4 rfl ?_
  refine lv_lstore (lv' := [(7, .long ((p2 >>> (Int32.toInt64 (22 : Int32) &&& 63)))), (0, .ref ((b 0))), (1, .int 0), (2, .long p1), (4, .long p2), (6, .int p3)]) hx hb xd_Z_walk_5 hl (by decide) rfl (fun ls hl => ?_)
  refine lv_aload_n hx hb xd_Z_walk_7 rfl (lv_at hl 1 rfl) ?_
  refine lv_iload_n hx hb xd_Z_walk_8 rfl (lv_at hl 2 rfl) ?_
  refine lv_lload_n hx hb xd_Z_walk_9 rfl (lv_at hl 3 rfl) ?_
  refine lv_ldc2 (v := 4) hx hb hown (htg _ xw_944) xd_Z_walk_10 ?_
  refine lv_lload hx hb xd_Z_walk_13 (lv_at hl 0 rfl) ?_
  refine lv_lmul hx hb xd_Z_walk_15 ?_
  refine lv_ladd hx hb xd_Z_walk_16 ?_
  obtain ⟨hn2, hv⟩ := xan_v hv
  refine xcW_l (va_runV (As := [.int 0, .long ((p1 + ((4 : Int64) * (p2 >>> (Int32.toInt64 (22 : Int32) &&& 63)))))]) (rest := []) ⟨hx, hb, hml, hown, htg⟩ (c_Z_entryAt_0 l D z k b H.size u (p1 + ((4 : Int64) * (p2 >>> (Int32.toInt64 (22 : Int32) &&& 63)))) hn2) (cwV 2 htg (xg_V0 xkin_Z_entryAt xw_945 xw_947 xsel_Z_entryAt xw_9) rfl rfl rfl (by decide +kernel) ⟨Nat.le_of_ble_eq_true rfl, Nat.le_of_ble_eq_true rfl⟩) ⟨xB_blind, xrecv_Z hK hP, fun U hU hW => xB_mk hP hK hD hE hS (xsubW hD hA hS) hU hW⟩ rfl rfl hl.1 rfl (lv_room (Nat.le_of_ble_eq_true rfl)) xd_Z_walk_17 ⟨Nat.le_of_ble_eq_true rfl, Nat.le_of_ble_eq_true rfl⟩) hD hA hS (fun r u1 H locs hw hP hD hS => ?_)
  obtain ⟨q1, hq1⟩ : ∃ q, q = xf_Z_entryAt_0 u (p1 + ((4 : Int64) * (p2 >>> (Int32.toInt64 (22 : Int32) &&& 63)))) := ⟨_, rfl⟩
  rw [← hq1] at hw
  obtain rfl : r = q1.1 := congrArg Prod.fst hw
  obtain rfl : u1 = q1.2 := congrArg Prod.snd hw
  have hP : va_P D xCl (xWZ k b q1.2) H := hP
  have hD : va_D A (xWZ k b q1.2) := hD
  have hv := xlt_v hq1 hv
  refine lv_lstore (lv' := [(9, .long (q1.1)), (7, .long ((p2 >>> (Int32.toInt64 (22 : Int32) &&& 63)))), (0, .ref ((b 0))), (1, .int 0), (2, .long p1), (4, .long p2), (6, .int p3)]) hx hb xd_Z_walk_20 hl (by decide) rfl (fun ls hl => ?_)
  refine lv_lload hx hb xd_Z_walk_22 (lv_at hl 0 rfl) ?_
  refine lv_lconst (v := 0) hx hb xd_Z_walk_24 (by decide) ?_
  refine W.lcmp hx hb xd_Z_walk_25 ?_
  refine lv_if_ge (tgt := 33) hx hb xd_Z_walk_26 rfl (fun h3 => ?_) (fun h3 => ?_)
  · have hv := xit_v h3 hv
    refine lv_lload hx hb xd_Z_walk_33 (lv_at hl 0 rfl) ?_
    refine lv_ldc2 (v := 14) hx hb hown (htg _ xw_963) xd_Z_walk_35 ?_
    refine lv_land hx hb xd_Z_walk_38 ?_
    refine lv_lconst (v := 0) hx hb xd_Z_walk_39 (by decide) ?_
    refine W.lcmp hx hb xd_Z_walk_40 ?_
    have hj6 : ∀ (H : Heap) (locs : List Loc) (ls : Array Slot) (v5 : Int32), v5 = (if (lg_cmp (q1.1 &&& (14 : Int64)) (0 : Int64)) = 0 then (0) else (1)) → lv_has ls 16 [(9, .long (q1.1)), (7, .long ((p2 >>> (Int32.toInt64 (22 : Int32) &&& 63)))), (0, .ref ((b 0))), (1, .int 0), (2, .long p1), (4, .long p2), (6, .int p3)] → va_P D xCl (xWZ k b q1.2) H → va_D A (xWZ k b q1.2) → va_S A s.heap H locs → W p l e { frames := 4, cells := 0, slots := 0, locals := 99 } s m args below meth c H locs (0) (0) Q (F0 m 49 ls [.int v5]) := by
      intro H locs ls v5 hv5 hl hP hD hS
      have hv := xlt_v hv5 hv
      refine lv_istore (lv' := [(11, .int v5), (9, .long (q1.1)), (7, .long ((p2 >>> (Int32.toInt64 (22 : Int32) &&& 63)))), (0, .ref ((b 0))), (1, .int 0), (2, .long p1), (4, .long p2), (6, .int p3)]) hx hb xd_Z_walk_49 hl (by decide) rfl (fun ls hl => ?_)
      refine lv_iload hx hb xd_Z_walk_51 (lv_at hl 0 rfl) ?_
      refine lv_if_ne (tgt := 128) hx hb xd_Z_walk_53 rfl (fun h7 => ?_) (fun h7 => ?_)
      · have hv := xif_v h7 hv
        refine lv_aload_n hx hb xd_Z_walk_128 rfl (lv_at hl 3 rfl) ?_
        refine lv_iload_n hx hb xd_Z_walk_129 rfl (lv_at hl 4 rfl) ?_
        refine lv_lload hx hb xd_Z_walk_130 (lv_at hl 1 rfl) ?_
        refine lv_l2i (v := (Int64.toInt32 q1.1)) hx hb xd_Z_walk_132 rfl ?_
        refine lv_iload hx hb xd_Z_walk_133 (lv_at hl 7 rfl) ?_
        obtain ⟨hn9, hv⟩ := xan_v hv
        refine xcW_i (va_runV (As := [.int 0, .int ((Int64.toInt32 q1.1)), .int p3]) (rest := []) ⟨hx, hb, hml, hown, htg⟩ (c_Z_isAllowed l D z k b H.size q1.2 (0 : Int32) (Int64.toInt32 q1.1) p3 hn9) (cwV 3 htg (xg_V0 xkin_Z_isAllowed xw_971 xw_973 xsel_Z_isAllowed xw_9) rfl rfl rfl (by decide +kernel) ⟨Nat.le_of_ble_eq_true rfl, Nat.le_of_ble_eq_true rfl⟩) ⟨xB_blind, xrecv_Z hK hP, fun U hU hW => xB_mk hP hK hD hE hS (xsubW hD hA hS) hU hW⟩ rfl rfl hl.1 rfl (lv_room (Nat.le_of_ble_eq_true rfl)) xd_Z_walk_135 ⟨Nat.le_of_ble_eq_true rfl, Nat.le_of_ble_eq_true rfl⟩) hD hA hS (fun r u1 H locs hw hP hD hS => ?_)
        obtain ⟨q8, hq8⟩ : ∃ q, q = xf_Z_isAllowed q1.2 (0 : Int32) (Int64.toInt32 q1.1) p3 := ⟨_, rfl⟩
        obtain ⟨e1, e2⟩ := hw
        rw [← hq8] at e1
        obtain rfl : q8 = r := e1.symm
        obtain rfl : q1.2 = u1 := e2.symm
        have hP : va_P D xCl (xWZ k b q1.2) H := hP
        have hD : va_D A (xWZ k b q1.2) := hD
        have hv := xlt_v hq8 hv
        refine lv_if_eq (tgt := 160) hx hb xd_Z_walk_138 rfl (fun h10 => ?_) (fun h10 => ?_)
        · have hv := xit_v h10 hv
          refine lv_aload_n hx hb xd_Z_walk_160 rfl (lv_at hl 3 rfl) ?_
          refine lv_iload_n hx hb xd_Z_walk_161 rfl (lv_at hl 4 rfl) ?_
          refine lv_lload hx hb xd_Z_walk_162 (lv_at hl 6 rfl) ?_
          refine lv_iload hx hb xd_Z_walk_164 (lv_at hl 7 rfl) ?_
          obtain ⟨hn12, hv⟩ := xan_v hv
          refine xcW_l (va_runV (As := [.int 0, .long p2, .int p3]) (rest := []) ⟨hx, hb, hml, hown, htg⟩ (c_Z_stageFault l D z k b H.size q1.2 (0 : Int32) p2 p3 hn12) (cwV 3 htg (xg_V0 xkin_Z_stageFault xw_965 xw_967 xsel_Z_stageFault xw_9) rfl rfl rfl (by decide +kernel) ⟨Nat.le_of_ble_eq_true rfl, Nat.le_of_ble_eq_true rfl⟩) ⟨xB_blind, xrecv_Z hK hP, fun U hU hW => xB_mk hP hK hD hE hS (xsubW hD hA hS) hU hW⟩ rfl rfl hl.1 rfl (lv_room (Nat.le_of_ble_eq_true rfl)) xd_Z_walk_166 ⟨Nat.le_of_ble_eq_true rfl, Nat.le_of_ble_eq_true rfl⟩) hD hA hS (fun r u1 H locs hw hP hD hS => ?_)
          obtain ⟨q11, hq11⟩ : ∃ q, q = xf_Z_stageFault q1.2 (0 : Int32) p2 p3 := ⟨_, rfl⟩
          rw [← hq11] at hw
          obtain rfl : r = q11.1 := congrArg Prod.fst hw
          obtain rfl : u1 = q11.2 := congrArg Prod.snd hw
          have hP : va_P D xCl (xWZ k b q11.2) H := hP
          have hD : va_D A (xWZ k b q11.2) := hD
          have hv := xlt_v hq11 hv
          exact hret _ q11.2 H locs ls _ (by unfold xf_Z_walk_0; exact (xlt_e hq1 (xit h3 (xlt_e hv5 (xif h7 (xlt_e hq8 (xit h10 (xlt_e hq11 rfl)))))))) hP hD hS xd_Z_walk_169
        · have hv := xif_v h10 hv
          refine lv_iload hx hb xd_Z_walk_141 (lv_at hl 0 rfl) ?_
          refine lv_if_eq (tgt := 170) hx hb xd_Z_walk_143 rfl (fun h13 => ?_) (fun h13 => ?_)
          · have hv := xit_v h13 hv
            refine lv_lload hx hb xd_Z_walk_170 (lv_at hl 1 rfl) ?_
            refine lv_ldc2 (v := 1024) hx hb hown (htg _ xw_969) xd_Z_walk_172 ?_
            refine lv_ldiv hx hb xd_Z_walk_175 (by decide) ?_
            refine lv_lstore (lv' := [(12, .long ((q1.1 / (1024 : Int64)))), (11, .int v5), (9, .long (q1.1)), (7, .long ((p2 >>> (Int32.toInt64 (22 : Int32) &&& 63)))), (0, .ref ((b 0))), (1, .int 0), (2, .long p1), (4, .long p2), (6, .int p3)]) hx hb xd_Z_walk_176 hl (by decide) rfl (fun ls hl => ?_)
            refine lv_iload hx hb xd_Z_walk_178 (lv_at hl 1 rfl) ?_
            have hj16 : ∀ (H : Heap) (locs : List Loc) (ls : Array Slot) (v15 : Int64), v15 = (if v5 = 0 then ((((q1.1 / (1024 : Int64)) * (4096 : Int64)) + (p2 &&& (4095 : Int64)))) else (((((q1.1 / (1024 : Int64)) / (1024 : Int64)) <<< (Int32.toInt64 (22 : Int32) &&& 63)) + (p2 &&& (4194303 : Int64))))) → lv_has ls 16 [(12, .long ((q1.1 / (1024 : Int64)))), (11, .int v5), (9, .long (q1.1)), (7, .long ((p2 >>> (Int32.toInt64 (22 : Int32) &&& 63)))), (0, .ref ((b 0))), (1, .int 0), (2, .long p1), (4, .long p2), (6, .int p3)] → va_P D xCl (xWZ k b q1.2) H → va_D A (xWZ k b q1.2) → va_S A s.heap H locs → W p l e { frames := 4, cells := 0, slots := 0, locals := 99 } s m args below meth c H locs (0) (0) Q (F0 m 215 ls [.long v15]) := by
              intro H locs ls v15 hv15 hl hP hD hS
              have hv := xlt_v hv15 hv
              refine lv_lstore (lv' := [(14, .long v15), (12, .long ((q1.1 / (1024 : Int64)))), (11, .int v5), (9, .long (q1.1)), (7, .long ((p2 >>> (Int32.toInt64 (22 : Int32) &&& 63)))), (0, .ref ((b 0))), (1, .int 0), (2, .long p1), (4, .long p2), (6, .int p3)]) hx hb xd_Z_walk_215 hl (by decide) rfl (fun ls hl => ?_)
              refine lv_iload_n hx hb xd_Z_walk_217 rfl (lv_at hl 6 rfl) ?_
              refine lv_iconst (v := 1) hx hb xd_Z_walk_218 (by decide) ?_
              refine lv_icmp_ne (tgt := 227) hx hb xd_Z_walk_219 rfl (fun _ => ?_) (fun h => absurd h (by decide))
              refine lv_aload_n hx hb xd_Z_walk_227 rfl (lv_at hl 5 rfl) ?_
              refine lv_lload hx hb xd_Z_walk_228 (lv_at hl 0 rfl) ?_
              obtain ⟨hn18, hv⟩ := xan_v hv
              refine xcW_l (va_runV (As := [.long v15]) (rest := []) ⟨hx, hb, hml, hown, htg⟩ (c_Z_inMemory l D z k b H.size q1.2 v15 hn18) (cwV 1 htg (xg_V0 xkin_Z_inMemory xw_954 xw_956 xsel_Z_inMemory xw_9) rfl rfl rfl (by decide +kernel) ⟨Nat.le_of_ble_eq_true rfl, Nat.le_of_ble_eq_true rfl⟩) ⟨xB_blind, xrecv_Z hK hP, fun U hU hW => xB_mk hP hK hD hE hS (xsubW hD hA hS) hU hW⟩ rfl rfl hl.1 rfl (lv_room (Nat.le_of_ble_eq_true rfl)) xd_Z_walk_230 ⟨Nat.le_of_ble_eq_true rfl, Nat.le_of_ble_eq_true rfl⟩) hD hA hS (fun r u1 H locs hw hP hD hS => ?_)
              obtain ⟨q17, hq17⟩ : ∃ q, q = xf_Z_inMemory q1.2 v15 := ⟨_, rfl⟩
              rw [← hq17] at hw
              obtain rfl : r = q17.1 := congrArg Prod.fst hw
              obtain rfl : u1 = q17.2 := congrArg Prod.snd hw
              have hP : va_P D xCl (xWZ k b q17.2) H := hP
              have hD : va_D A (xWZ k b q17.2) := hD
              have hv := xlt_v hq17 hv
              exact hret _ q17.2 H locs ls _ (by unfold xf_Z_walk_0; exact (xlt_e hq1 (xit h3 (xlt_e hv5 (xif h7 (xlt_e hq8 (xif h10 (xit h13 (xlt_e hv15 (xlt_e hq17 rfl)))))))))) hP hD hS xd_Z_walk_233
            refine lv_if_eq (tgt := 202) hx hb xd_Z_walk_180 rfl (fun h19 => ?_) (fun h19 => ?_)
            · refine lv_lload hx hb xd_Z_walk_202 (lv_at hl 0 rfl) ?_
              refine lv_ldc2 (v := 4096) hx hb hown (htg _ xw_939) xd_Z_walk_204 ?_
              refine lv_lmul hx hb xd_Z_walk_207 ?_
              refine lv_lload hx hb xd_Z_walk_208 (lv_at hl 7 rfl) ?_
              refine lv_ldc2 (v := 4095) hx hb hown (htg _ xw_975) xd_Z_walk_210 ?_
              refine lv_land hx hb xd_Z_walk_213 ?_
              refine lv_ladd hx hb xd_Z_walk_214 ?_
              exact hj16 H locs ls (((q1.1 / (1024 : Int64)) * (4096 : Int64)) + (p2 &&& (4095 : Int64))) (xit h19 rfl) hl hP hD hS
            · refine lv_lload hx hb xd_Z_walk_183 (lv_at hl 0 rfl) ?_
              refine lv_ldc2 (v := 1024) hx hb hown (htg _ xw_969) xd_Z_walk_185 ?_
              refine lv_ldiv hx hb xd_Z_walk_188 (by decide) ?_
              refine lv_bipush (v := 22) hx hb xd_Z_walk_189 (by decide) ?_
              refine lv_lshl (v := (((q1.1 / (1024 : Int64)) / (1024 : Int64)) <<< (Int32.toInt64 (22 : Int32) &&& 63))) hx hb xd_Z_walk_191 rfl ?_
              refine lv_lload hx hb xd_Z_walk_192 (lv_at hl 7 rfl) ?_
              refine lv_ldc2 (v := 4194303) hx hb hown (htg _ xw_938) xd_Z_walk_194 ?_
              refine lv_land hx hb xd_Z_walk_197 ?_
              refine lv_ladd hx hb xd_Z_walk_198 ?_
              refine lv_goto (tgt := 215) hx hb xd_Z_walk_199 rfl ?_
              exact hj16 H locs ls ((((q1.1 / (1024 : Int64)) / (1024 : Int64)) <<< (Int32.toInt64 (22 : Int32) &&& 63)) + (p2 &&& (4194303 : Int64))) (xif h19 rfl) hl hP hD hS
          · have hv := xif_v h13 hv
            refine lv_lload hx hb xd_Z_walk_146 (lv_at hl 1 rfl) ?_
            refine lv_bipush (v := 10) hx hb xd_Z_walk_148 (by decide) ?_
            refine lv_lshr (v := (q1.1 >>> (Int32.toInt64 (10 : Int32) &&& 63))) hx hb xd_Z_walk_150 rfl ?_
            refine lv_ldc2 (v := 1023) hx hb hown (htg _ xw_970) xd_Z_walk_151 ?_
            refine lv_land hx hb xd_Z_walk_154 ?_
            refine lv_lconst (v := 0) hx hb xd_Z_walk_155 (by decide) ?_
            refine W.lcmp hx hb xd_Z_walk_156 ?_
            refine lv_if_eq (tgt := 170) hx hb xd_Z_walk_157 rfl (fun h20 => ?_) (fun h20 => ?_)
            · have hv := xit_v h20 hv
              refine lv_lload hx hb xd_Z_walk_170 (lv_at hl 1 rfl) ?_
              refine lv_ldc2 (v := 1024) hx hb hown (htg _ xw_969) xd_Z_walk_172 ?_
              refine lv_ldiv hx hb xd_Z_walk_175 (by decide) ?_
              refine lv_lstore (lv' := [(12, .long ((q1.1 / (1024 : Int64)))), (11, .int v5), (9, .long (q1.1)), (7, .long ((p2 >>> (Int32.toInt64 (22 : Int32) &&& 63)))), (0, .ref ((b 0))), (1, .int 0), (2, .long p1), (4, .long p2), (6, .int p3)]) hx hb xd_Z_walk_176 hl (by decide) rfl (fun ls hl => ?_)
              refine lv_iload hx hb xd_Z_walk_178 (lv_at hl 1 rfl) ?_
              have hj23 : ∀ (H : Heap) (locs : List Loc) (ls : Array Slot) (v22 : Int64), v22 = (if v5 = 0 then ((((q1.1 / (1024 : Int64)) * (4096 : Int64)) + (p2 &&& (4095 : Int64)))) else (((((q1.1 / (1024 : Int64)) / (1024 : Int64)) <<< (Int32.toInt64 (22 : Int32) &&& 63)) + (p2 &&& (4194303 : Int64))))) → lv_has ls 16 [(12, .long ((q1.1 / (1024 : Int64)))), (11, .int v5), (9, .long (q1.1)), (7, .long ((p2 >>> (Int32.toInt64 (22 : Int32) &&& 63)))), (0, .ref ((b 0))), (1, .int 0), (2, .long p1), (4, .long p2), (6, .int p3)] → va_P D xCl (xWZ k b q1.2) H → va_D A (xWZ k b q1.2) → va_S A s.heap H locs → W p l e { frames := 4, cells := 0, slots := 0, locals := 99 } s m args below meth c H locs (0) (0) Q (F0 m 215 ls [.long v22]) := by
                intro H locs ls v22 hv22 hl hP hD hS
                have hv := xlt_v hv22 hv
                refine lv_lstore (lv' := [(14, .long v22), (12, .long ((q1.1 / (1024 : Int64)))), (11, .int v5), (9, .long (q1.1)), (7, .long ((p2 >>> (Int32.toInt64 (22 : Int32) &&& 63)))), (0, .ref ((b 0))), (1, .int 0), (2, .long p1), (4, .long p2), (6, .int p3)]) hx hb xd_Z_walk_215 hl (by decide) rfl (fun ls hl => ?_)
                refine lv_iload_n hx hb xd_Z_walk_217 rfl (lv_at hl 6 rfl) ?_
                refine lv_iconst (v := 1) hx hb xd_Z_walk_218 (by decide) ?_
                refine lv_icmp_ne (tgt := 227) hx hb xd_Z_walk_219 rfl (fun _ => ?_) (fun h => absurd h (by decide))
                refine lv_aload_n hx hb xd_Z_walk_227 rfl (lv_at hl 5 rfl) ?_
                refine lv_lload hx hb xd_Z_walk_228 (lv_at hl 0 rfl) ?_
                obtain ⟨hn25, hv⟩ := xan_v hv
                refine xcW_l (va_runV (As := [.long v22]) (rest := []) ⟨hx, hb, hml, hown, htg⟩ (c_Z_inMemory l D z k b H.size q1.2 v22 hn25) (cwV 1 htg (xg_V0 xkin_Z_inMemory xw_954 xw_956 xsel_Z_inMemory xw_9) rfl rfl rfl (by decide +kernel) ⟨Nat.le_of_ble_eq_true rfl, Nat.le_of_ble_eq_true rfl⟩) ⟨xB_blind, xrecv_Z hK hP, fun U hU hW => xB_mk hP hK hD hE hS (xsubW hD hA hS) hU hW⟩ rfl rfl hl.1 rfl (lv_room (Nat.le_of_ble_eq_true rfl)) xd_Z_walk_230 ⟨Nat.le_of_ble_eq_true rfl, Nat.le_of_ble_eq_true rfl⟩) hD hA hS (fun r u1 H locs hw hP hD hS => ?_)
                obtain ⟨q24, hq24⟩ : ∃ q, q = xf_Z_inMemory q1.2 v22 := ⟨_, rfl⟩
                rw [← hq24] at hw
                obtain rfl : r = q24.1 := congrArg Prod.fst hw
                obtain rfl : u1 = q24.2 := congrArg Prod.snd hw
                have hP : va_P D xCl (xWZ k b q24.2) H := hP
                have hD : va_D A (xWZ k b q24.2) := hD
                have hv := xlt_v hq24 hv
                exact hret _ q24.2 H locs ls _ (by unfold xf_Z_walk_0; exact (xlt_e hq1 (xit h3 (xlt_e hv5 (xif h7 (xlt_e hq8 (xif h10 (xif h13 (xit h20 (xlt_e hv22 (xlt_e hq24 rfl))))))))))) hP hD hS xd_Z_walk_233
              refine lv_if_eq (tgt := 202) hx hb xd_Z_walk_180 rfl (fun h26 => ?_) (fun h26 => ?_)
              · refine lv_lload hx hb xd_Z_walk_202 (lv_at hl 0 rfl) ?_
                refine lv_ldc2 (v := 4096) hx hb hown (htg _ xw_939) xd_Z_walk_204 ?_
                refine lv_lmul hx hb xd_Z_walk_207 ?_
                refine lv_lload hx hb xd_Z_walk_208 (lv_at hl 7 rfl) ?_
                refine lv_ldc2 (v := 4095) hx hb hown (htg _ xw_975) xd_Z_walk_210 ?_
                refine lv_land hx hb xd_Z_walk_213 ?_
                refine lv_ladd hx hb xd_Z_walk_214 ?_
                exact hj23 H locs ls (((q1.1 / (1024 : Int64)) * (4096 : Int64)) + (p2 &&& (4095 : Int64))) (xit h26 rfl) hl hP hD hS
              · refine lv_lload hx hb xd_Z_walk_183 (lv_at hl 0 rfl) ?_
                refine lv_ldc2 (v := 1024) hx hb hown (htg _ xw_969) xd_Z_walk_185 ?_
                refine lv_ldiv hx hb xd_Z_walk_188 (by decide) ?_
                refine lv_bipush (v := 22) hx hb xd_Z_walk_189 (by decide) ?_
                refine lv_lshl (v := (((q1.1 / (1024 : Int64)) / (1024 : Int64)) <<< (Int32.toInt64 (22 : Int32) &&& 63))) hx hb xd_Z_walk_191 rfl ?_
                refine lv_lload hx hb xd_Z_walk_192 (lv_at hl 7 rfl) ?_
                refine lv_ldc2 (v := 4194303) hx hb hown (htg _ xw_938) xd_Z_walk_194 ?_
                refine lv_land hx hb xd_Z_walk_197 ?_
                refine lv_ladd hx hb xd_Z_walk_198 ?_
                refine lv_goto (tgt := 215) hx hb xd_Z_walk_199 rfl ?_
                exact hj23 H locs ls ((((q1.1 / (1024 : Int64)) / (1024 : Int64)) <<< (Int32.toInt64 (22 : Int32) &&& 63)) + (p2 &&& (4194303 : Int64))) (xif h26 rfl) hl hP hD hS
            · have hv := xif_v h20 hv
              refine lv_aload_n hx hb xd_Z_walk_160 rfl (lv_at hl 3 rfl) ?_
              refine lv_iload_n hx hb xd_Z_walk_161 rfl (lv_at hl 4 rfl) ?_
              refine lv_lload hx hb xd_Z_walk_162 (lv_at hl 6 rfl) ?_
              refine lv_iload hx hb xd_Z_walk_164 (lv_at hl 7 rfl) ?_
              obtain ⟨hn28, hv⟩ := xan_v hv
              refine xcW_l (va_runV (As := [.int 0, .long p2, .int p3]) (rest := []) ⟨hx, hb, hml, hown, htg⟩ (c_Z_stageFault l D z k b H.size q1.2 (0 : Int32) p2 p3 hn28) (cwV 3 htg (xg_V0 xkin_Z_stageFault xw_965 xw_967 xsel_Z_stageFault xw_9) rfl rfl rfl (by decide +kernel) ⟨Nat.le_of_ble_eq_true rfl, Nat.le_of_ble_eq_true rfl⟩) ⟨xB_blind, xrecv_Z hK hP, fun U hU hW => xB_mk hP hK hD hE hS (xsubW hD hA hS) hU hW⟩ rfl rfl hl.1 rfl (lv_room (Nat.le_of_ble_eq_true rfl)) xd_Z_walk_166 ⟨Nat.le_of_ble_eq_true rfl, Nat.le_of_ble_eq_true rfl⟩) hD hA hS (fun r u1 H locs hw hP hD hS => ?_)
              obtain ⟨q27, hq27⟩ : ∃ q, q = xf_Z_stageFault q1.2 (0 : Int32) p2 p3 := ⟨_, rfl⟩
              rw [← hq27] at hw
              obtain rfl : r = q27.1 := congrArg Prod.fst hw
              obtain rfl : u1 = q27.2 := congrArg Prod.snd hw
              have hP : va_P D xCl (xWZ k b q27.2) H := hP
              have hD : va_D A (xWZ k b q27.2) := hD
              have hv := xlt_v hq27 hv
              exact hret _ q27.2 H locs ls _ (by unfold xf_Z_walk_0; exact (xlt_e hq1 (xit h3 (xlt_e hv5 (xif h7 (xlt_e hq8 (xif h10 (xif h13 (xif h20 (xlt_e hq27 rfl)))))))))) hP hD hS xd_Z_walk_169
      · have hv := xit_v h7 hv
        refine lv_lload hx hb xd_Z_walk_56 (lv_at hl 1 rfl) ?_
        refine lv_lconst (v := 1) hx hb xd_Z_walk_58 (by decide) ?_
        refine lv_land hx hb xd_Z_walk_59 ?_
        refine lv_lconst (v := 0) hx hb xd_Z_walk_60 (by decide) ?_
        refine W.lcmp hx hb xd_Z_walk_61 ?_
        refine lv_if_eq (tgt := 76) hx hb xd_Z_walk_62 rfl (fun h29 => ?_) (fun h29 => ?_)
        · have hv := xit_v h29 hv
          refine lv_aload_n hx hb xd_Z_walk_76 rfl (lv_at hl 3 rfl) ?_
          refine lv_iload_n hx hb xd_Z_walk_77 rfl (lv_at hl 4 rfl) ?_
          refine lv_lload hx hb xd_Z_walk_78 (lv_at hl 6 rfl) ?_
          refine lv_iload hx hb xd_Z_walk_80 (lv_at hl 7 rfl) ?_
          obtain ⟨hn31, hv⟩ := xan_v hv
          refine xcW_l (va_runV (As := [.int 0, .long p2, .int p3]) (rest := []) ⟨hx, hb, hml, hown, htg⟩ (c_Z_stageFault l D z k b H.size q1.2 (0 : Int32) p2 p3 hn31) (cwV 3 htg (xg_V0 xkin_Z_stageFault xw_965 xw_967 xsel_Z_stageFault xw_9) rfl rfl rfl (by decide +kernel) ⟨Nat.le_of_ble_eq_true rfl, Nat.le_of_ble_eq_true rfl⟩) ⟨xB_blind, xrecv_Z hK hP, fun U hU hW => xB_mk hP hK hD hE hS (xsubW hD hA hS) hU hW⟩ rfl rfl hl.1 rfl (lv_room (Nat.le_of_ble_eq_true rfl)) xd_Z_walk_82 ⟨Nat.le_of_ble_eq_true rfl, Nat.le_of_ble_eq_true rfl⟩) hD hA hS (fun r u1 H locs hw hP hD hS => ?_)
          obtain ⟨q30, hq30⟩ : ∃ q, q = xf_Z_stageFault q1.2 (0 : Int32) p2 p3 := ⟨_, rfl⟩
          rw [← hq30] at hw
          obtain rfl : r = q30.1 := congrArg Prod.fst hw
          obtain rfl : u1 = q30.2 := congrArg Prod.snd hw
          have hP : va_P D xCl (xWZ k b q30.2) H := hP
          have hD : va_D A (xWZ k b q30.2) := hD
          have hv := xlt_v hq30 hv
          exact hret _ q30.2 H locs ls _ (by unfold xf_Z_walk_0; exact (xlt_e hq1 (xit h3 (xlt_e hv5 (xit h7 (xit h29 (xlt_e hq30 rfl))))))) hP hD hS xd_Z_walk_85
        · have hv := xif_v h29 hv
          refine lv_lload hx hb xd_Z_walk_65 (lv_at hl 1 rfl) ?_
          refine lv_ldc2 (v := 208) hx hb hown (htg _ xw_964) xd_Z_walk_67 ?_
          refine lv_land hx hb xd_Z_walk_70 ?_
          refine lv_lconst (v := 0) hx hb xd_Z_walk_71 (by decide) ?_
          refine W.lcmp hx hb xd_Z_walk_72 ?_
          refine lv_if_eq (tgt := 86) hx hb xd_Z_walk_73 rfl (fun h32 => ?_) (fun h32 => ?_)
          · have hv := xit_v h32 hv
            refine lv_aload_n hx hb xd_Z_walk_86 rfl (lv_at hl 3 rfl) ?_
            refine lv_iload_n hx hb xd_Z_walk_87 rfl (lv_at hl 4 rfl) ?_
            refine lv_lload hx hb xd_Z_walk_88 (lv_at hl 1 rfl) ?_
            refine lv_ldc2 (v := 1024) hx hb hown (htg _ xw_969) xd_Z_walk_90 ?_
            refine lv_ldiv hx hb xd_Z_walk_93 (by decide) ?_
            refine lv_ldc2 (v := 4096) hx hb hown (htg _ xw_939) xd_Z_walk_94 ?_
            refine lv_lmul hx hb xd_Z_walk_97 ?_
            refine lv_ldc2 (v := 4) hx hb hown (htg _ xw_944) xd_Z_walk_98 ?_
            refine lv_lload hx hb xd_Z_walk_101 (lv_at hl 6 rfl) ?_
            refine lv_bipush (v := 12) hx hb xd_Z_walk_103 (by decide) ?_
            refine lv_lshr (v := (p2 >>> (Int32.toInt64 (12 : Int32) &&& 63))) hx hb xd_Z_walk_105 rfl ?_
            refine lv_ldc2 (v := 1023) hx hb hown (htg _ xw_970) xd_Z_walk_106 ?_
            refine lv_land hx hb xd_Z_walk_109 ?_
            refine lv_lmul hx hb xd_Z_walk_110 ?_
            refine lv_ladd hx hb xd_Z_walk_111 ?_
            obtain ⟨hn34, hv⟩ := xan_v hv
            refine xcW_l (va_runV (As := [.int 0, .long ((((q1.1 / (1024 : Int64)) * (4096 : Int64)) + ((4 : Int64) * ((p2 >>> (Int32.toInt64 (12 : Int32) &&& 63)) &&& (1023 : Int64)))))]) (rest := []) ⟨hx, hb, hml, hown, htg⟩ (c_Z_entryAt_0 l D z k b H.size q1.2 (((q1.1 / (1024 : Int64)) * (4096 : Int64)) + ((4 : Int64) * ((p2 >>> (Int32.toInt64 (12 : Int32) &&& 63)) &&& (1023 : Int64)))) hn34) (cwV 2 htg (xg_V0 xkin_Z_entryAt xw_945 xw_947 xsel_Z_entryAt xw_9) rfl rfl rfl (by decide +kernel) ⟨Nat.le_of_ble_eq_true rfl, Nat.le_of_ble_eq_true rfl⟩) ⟨xB_blind, xrecv_Z hK hP, fun U hU hW => xB_mk hP hK hD hE hS (xsubW hD hA hS) hU hW⟩ rfl rfl hl.1 rfl (lv_room (Nat.le_of_ble_eq_true rfl)) xd_Z_walk_112 ⟨Nat.le_of_ble_eq_true rfl, Nat.le_of_ble_eq_true rfl⟩) hD hA hS (fun r u1 H locs hw hP hD hS => ?_)
            obtain ⟨q33, hq33⟩ : ∃ q, q = xf_Z_entryAt_0 q1.2 (((q1.1 / (1024 : Int64)) * (4096 : Int64)) + ((4 : Int64) * ((p2 >>> (Int32.toInt64 (12 : Int32) &&& 63)) &&& (1023 : Int64)))) := ⟨_, rfl⟩
            rw [← hq33] at hw
            obtain rfl : r = q33.1 := congrArg Prod.fst hw
            obtain rfl : u1 = q33.2 := congrArg Prod.snd hw
            have hP : va_P D xCl (xWZ k b q33.2) H := hP
            have hD : va_D A (xWZ k b q33.2) := hD
            have hv := xlt_v hq33 hv
            refine lv_lstore (lv' := [(9, .long (q33.1)), (11, .int v5), (7, .long ((p2 >>> (Int32.toInt64 (22 : Int32) &&& 63)))), (0, .ref ((b 0))), (1, .int 0), (2, .long p1), (4, .long p2), (6, .int p3)]) hx hb xd_Z_walk_115 hl (by decide) rfl (fun ls hl => ?_)
            refine lv_lload hx hb xd_Z_walk_117 (lv_at hl 0 rfl) ?_
            refine lv_lconst (v := 0) hx hb xd_Z_walk_119 (by decide) ?_
            refine W.lcmp hx hb xd_Z_walk_120 ?_
            refine lv_if_ge (tgt := 128) hx hb xd_Z_walk_121 rfl (fun h35 => ?_) (fun h35 => ?_)
            · have hv := xit_v h35 hv
              refine lv_aload_n hx hb xd_Z_walk_128 rfl (lv_at hl 3 rfl) ?_
              refine lv_iload_n hx hb xd_Z_walk_129 rfl (lv_at hl 4 rfl) ?_
              refine lv_lload hx hb xd_Z_walk_130 (lv_at hl 0 rfl) ?_
              refine lv_l2i (v := (Int64.toInt32 q33.1)) hx hb xd_Z_walk_132 rfl ?_
              refine lv_iload hx hb xd_Z_walk_133 (lv_at hl 7 rfl) ?_
              obtain ⟨hn37, hv⟩ := xan_v hv
              refine xcW_i (va_runV (As := [.int 0, .int ((Int64.toInt32 q33.1)), .int p3]) (rest := []) ⟨hx, hb, hml, hown, htg⟩ (c_Z_isAllowed l D z k b H.size q33.2 (0 : Int32) (Int64.toInt32 q33.1) p3 hn37) (cwV 3 htg (xg_V0 xkin_Z_isAllowed xw_971 xw_973 xsel_Z_isAllowed xw_9) rfl rfl rfl (by decide +kernel) ⟨Nat.le_of_ble_eq_true rfl, Nat.le_of_ble_eq_true rfl⟩) ⟨xB_blind, xrecv_Z hK hP, fun U hU hW => xB_mk hP hK hD hE hS (xsubW hD hA hS) hU hW⟩ rfl rfl hl.1 rfl (lv_room (Nat.le_of_ble_eq_true rfl)) xd_Z_walk_135 ⟨Nat.le_of_ble_eq_true rfl, Nat.le_of_ble_eq_true rfl⟩) hD hA hS (fun r u1 H locs hw hP hD hS => ?_)
              obtain ⟨q36, hq36⟩ : ∃ q, q = xf_Z_isAllowed q33.2 (0 : Int32) (Int64.toInt32 q33.1) p3 := ⟨_, rfl⟩
              obtain ⟨e1, e2⟩ := hw
              rw [← hq36] at e1
              obtain rfl : q36 = r := e1.symm
              obtain rfl : q33.2 = u1 := e2.symm
              have hP : va_P D xCl (xWZ k b q33.2) H := hP
              have hD : va_D A (xWZ k b q33.2) := hD
              have hv := xlt_v hq36 hv
              refine lv_if_eq (tgt := 160) hx hb xd_Z_walk_138 rfl (fun h38 => ?_) (fun h38 => ?_)
              · have hv := xit_v h38 hv
                refine lv_aload_n hx hb xd_Z_walk_160 rfl (lv_at hl 3 rfl) ?_
                refine lv_iload_n hx hb xd_Z_walk_161 rfl (lv_at hl 4 rfl) ?_
                refine lv_lload hx hb xd_Z_walk_162 (lv_at hl 6 rfl) ?_
                refine lv_iload hx hb xd_Z_walk_164 (lv_at hl 7 rfl) ?_
                obtain ⟨hn40, hv⟩ := xan_v hv
                refine xcW_l (va_runV (As := [.int 0, .long p2, .int p3]) (rest := []) ⟨hx, hb, hml, hown, htg⟩ (c_Z_stageFault l D z k b H.size q33.2 (0 : Int32) p2 p3 hn40) (cwV 3 htg (xg_V0 xkin_Z_stageFault xw_965 xw_967 xsel_Z_stageFault xw_9) rfl rfl rfl (by decide +kernel) ⟨Nat.le_of_ble_eq_true rfl, Nat.le_of_ble_eq_true rfl⟩) ⟨xB_blind, xrecv_Z hK hP, fun U hU hW => xB_mk hP hK hD hE hS (xsubW hD hA hS) hU hW⟩ rfl rfl hl.1 rfl (lv_room (Nat.le_of_ble_eq_true rfl)) xd_Z_walk_166 ⟨Nat.le_of_ble_eq_true rfl, Nat.le_of_ble_eq_true rfl⟩) hD hA hS (fun r u1 H locs hw hP hD hS => ?_)
                obtain ⟨q39, hq39⟩ : ∃ q, q = xf_Z_stageFault q33.2 (0 : Int32) p2 p3 := ⟨_, rfl⟩
                rw [← hq39] at hw
                obtain rfl : r = q39.1 := congrArg Prod.fst hw
                obtain rfl : u1 = q39.2 := congrArg Prod.snd hw
                have hP : va_P D xCl (xWZ k b q39.2) H := hP
                have hD : va_D A (xWZ k b q39.2) := hD
                have hv := xlt_v hq39 hv
                exact hret _ q39.2 H locs ls _ (by unfold xf_Z_walk_0; exact (xlt_e hq1 (xit h3 (xlt_e hv5 (xit h7 (xif h29 (xit h32 (xlt_e hq33 (xit h35 (xlt_e hq36 (xit h38 (xlt_e hq39 rfl)))))))))))) hP hD hS xd_Z_walk_169
              · have hv := xif_v h38 hv
                refine lv_iload hx hb xd_Z_walk_141 (lv_at hl 1 rfl) ?_
                refine lv_if_eq (tgt := 170) hx hb xd_Z_walk_143 rfl (fun h41 => ?_) (fun h41 => ?_)
                · have hv := xit_v h41 hv
                  refine lv_lload hx hb xd_Z_walk_170 (lv_at hl 0 rfl) ?_
                  refine lv_ldc2 (v := 1024) hx hb hown (htg _ xw_969) xd_Z_walk_172 ?_
                  refine lv_ldiv hx hb xd_Z_walk_175 (by decide) ?_
                  refine lv_lstore (lv' := [(12, .long ((q33.1 / (1024 : Int64)))), (9, .long (q33.1)), (11, .int v5), (7, .long ((p2 >>> (Int32.toInt64 (22 : Int32) &&& 63)))), (0, .ref ((b 0))), (1, .int 0), (2, .long p1), (4, .long p2), (6, .int p3)]) hx hb xd_Z_walk_176 hl (by decide) rfl (fun ls hl => ?_)
                  refine lv_iload hx hb xd_Z_walk_178 (lv_at hl 2 rfl) ?_
                  have hj44 : ∀ (H : Heap) (locs : List Loc) (ls : Array Slot) (v43 : Int64), v43 = (if v5 = 0 then ((((q33.1 / (1024 : Int64)) * (4096 : Int64)) + (p2 &&& (4095 : Int64)))) else (((((q33.1 / (1024 : Int64)) / (1024 : Int64)) <<< (Int32.toInt64 (22 : Int32) &&& 63)) + (p2 &&& (4194303 : Int64))))) → lv_has ls 16 [(12, .long ((q33.1 / (1024 : Int64)))), (9, .long (q33.1)), (11, .int v5), (7, .long ((p2 >>> (Int32.toInt64 (22 : Int32) &&& 63)))), (0, .ref ((b 0))), (1, .int 0), (2, .long p1), (4, .long p2), (6, .int p3)] → va_P D xCl (xWZ k b q33.2) H → va_D A (xWZ k b q33.2) → va_S A s.heap H locs → W p l e { frames := 4, cells := 0, slots := 0, locals := 99 } s m args below meth c H locs (0) (0) Q (F0 m 215 ls [.long v43]) := by
                    intro H locs ls v43 hv43 hl hP hD hS
                    have hv := xlt_v hv43 hv
                    refine lv_lstore (lv' := [(14, .long v43), (12, .long ((q33.1 / (1024 : Int64)))), (9, .long (q33.1)), (11, .int v5), (7, .long ((p2 >>> (Int32.toInt64 (22 : Int32) &&& 63)))), (0, .ref ((b 0))), (1, .int 0), (2, .long p1), (4, .long p2), (6, .int p3)]) hx hb xd_Z_walk_215 hl (by decide) rfl (fun ls hl => ?_)
                    refine lv_iload_n hx hb xd_Z_walk_217 rfl (lv_at hl 6 rfl) ?_
                    refine lv_iconst (v := 1) hx hb xd_Z_walk_218 (by decide) ?_
                    refine lv_icmp_ne (tgt := 227) hx hb xd_Z_walk_219 rfl (fun _ => ?_) (fun h => absurd h (by decide))
                    refine lv_aload_n hx hb xd_Z_walk_227 rfl (lv_at hl 5 rfl) ?_
                    refine lv_lload hx hb xd_Z_walk_228 (lv_at hl 0 rfl) ?_
                    obtain ⟨hn46, hv⟩ := xan_v hv
                    refine xcW_l (va_runV (As := [.long v43]) (rest := []) ⟨hx, hb, hml, hown, htg⟩ (c_Z_inMemory l D z k b H.size q33.2 v43 hn46) (cwV 1 htg (xg_V0 xkin_Z_inMemory xw_954 xw_956 xsel_Z_inMemory xw_9) rfl rfl rfl (by decide +kernel) ⟨Nat.le_of_ble_eq_true rfl, Nat.le_of_ble_eq_true rfl⟩) ⟨xB_blind, xrecv_Z hK hP, fun U hU hW => xB_mk hP hK hD hE hS (xsubW hD hA hS) hU hW⟩ rfl rfl hl.1 rfl (lv_room (Nat.le_of_ble_eq_true rfl)) xd_Z_walk_230 ⟨Nat.le_of_ble_eq_true rfl, Nat.le_of_ble_eq_true rfl⟩) hD hA hS (fun r u1 H locs hw hP hD hS => ?_)
                    obtain ⟨q45, hq45⟩ : ∃ q, q = xf_Z_inMemory q33.2 v43 := ⟨_, rfl⟩
                    rw [← hq45] at hw
                    obtain rfl : r = q45.1 := congrArg Prod.fst hw
                    obtain rfl : u1 = q45.2 := congrArg Prod.snd hw
                    have hP : va_P D xCl (xWZ k b q45.2) H := hP
                    have hD : va_D A (xWZ k b q45.2) := hD
                    have hv := xlt_v hq45 hv
                    exact hret _ q45.2 H locs ls _ (by unfold xf_Z_walk_0; exact (xlt_e hq1 (xit h3 (xlt_e hv5 (xit h7 (xif h29 (xit h32 (xlt_e hq33 (xit h35 (xlt_e hq36 (xif h38 (xit h41 (xlt_e hv43 (xlt_e hq45 rfl)))))))))))))) hP hD hS xd_Z_walk_233
                  refine lv_if_eq (tgt := 202) hx hb xd_Z_walk_180 rfl (fun h47 => ?_) (fun h47 => ?_)
                  · refine lv_lload hx hb xd_Z_walk_202 (lv_at hl 0 rfl) ?_
                    refine lv_ldc2 (v := 4096) hx hb hown (htg _ xw_939) xd_Z_walk_204 ?_
                    refine lv_lmul hx hb xd_Z_walk_207 ?_
                    refine lv_lload hx hb xd_Z_walk_208 (lv_at hl 7 rfl) ?_
                    refine lv_ldc2 (v := 4095) hx hb hown (htg _ xw_975) xd_Z_walk_210 ?_
                    refine lv_land hx hb xd_Z_walk_213 ?_
                    refine lv_ladd hx hb xd_Z_walk_214 ?_
                    exact hj44 H locs ls (((q33.1 / (1024 : Int64)) * (4096 : Int64)) + (p2 &&& (4095 : Int64))) (xit h47 rfl) hl hP hD hS
                  · refine lv_lload hx hb xd_Z_walk_183 (lv_at hl 0 rfl) ?_
                    refine lv_ldc2 (v := 1024) hx hb hown (htg _ xw_969) xd_Z_walk_185 ?_
                    refine lv_ldiv hx hb xd_Z_walk_188 (by decide) ?_
                    refine lv_bipush (v := 22) hx hb xd_Z_walk_189 (by decide) ?_
                    refine lv_lshl (v := (((q33.1 / (1024 : Int64)) / (1024 : Int64)) <<< (Int32.toInt64 (22 : Int32) &&& 63))) hx hb xd_Z_walk_191 rfl ?_
                    refine lv_lload hx hb xd_Z_walk_192 (lv_at hl 7 rfl) ?_
                    refine lv_ldc2 (v := 4194303) hx hb hown (htg _ xw_938) xd_Z_walk_194 ?_
                    refine lv_land hx hb xd_Z_walk_197 ?_
                    refine lv_ladd hx hb xd_Z_walk_198 ?_
                    refine lv_goto (tgt := 215) hx hb xd_Z_walk_199 rfl ?_
                    exact hj44 H locs ls ((((q33.1 / (1024 : Int64)) / (1024 : Int64)) <<< (Int32.toInt64 (22 : Int32) &&& 63)) + (p2 &&& (4194303 : Int64))) (xif h47 rfl) hl hP hD hS
                · have hv := xif_v h41 hv
                  refine lv_lload hx hb xd_Z_walk_146 (lv_at hl 0 rfl) ?_
                  refine lv_bipush (v := 10) hx hb xd_Z_walk_148 (by decide) ?_
                  refine lv_lshr (v := (q33.1 >>> (Int32.toInt64 (10 : Int32) &&& 63))) hx hb xd_Z_walk_150 rfl ?_
                  refine lv_ldc2 (v := 1023) hx hb hown (htg _ xw_970) xd_Z_walk_151 ?_
                  refine lv_land hx hb xd_Z_walk_154 ?_
                  refine lv_lconst (v := 0) hx hb xd_Z_walk_155 (by decide) ?_
                  refine W.lcmp hx hb xd_Z_walk_156 ?_
                  refine lv_if_eq (tgt := 170) hx hb xd_Z_walk_157 rfl (fun h48 => ?_) (fun h48 => ?_)
                  · have hv := xit_v h48 hv
                    refine lv_lload hx hb xd_Z_walk_170 (lv_at hl 0 rfl) ?_
                    refine lv_ldc2 (v := 1024) hx hb hown (htg _ xw_969) xd_Z_walk_172 ?_
                    refine lv_ldiv hx hb xd_Z_walk_175 (by decide) ?_
                    refine lv_lstore (lv' := [(12, .long ((q33.1 / (1024 : Int64)))), (9, .long (q33.1)), (11, .int v5), (7, .long ((p2 >>> (Int32.toInt64 (22 : Int32) &&& 63)))), (0, .ref ((b 0))), (1, .int 0), (2, .long p1), (4, .long p2), (6, .int p3)]) hx hb xd_Z_walk_176 hl (by decide) rfl (fun ls hl => ?_)
                    refine lv_iload hx hb xd_Z_walk_178 (lv_at hl 2 rfl) ?_
                    have hj51 : ∀ (H : Heap) (locs : List Loc) (ls : Array Slot) (v50 : Int64), v50 = (if v5 = 0 then ((((q33.1 / (1024 : Int64)) * (4096 : Int64)) + (p2 &&& (4095 : Int64)))) else (((((q33.1 / (1024 : Int64)) / (1024 : Int64)) <<< (Int32.toInt64 (22 : Int32) &&& 63)) + (p2 &&& (4194303 : Int64))))) → lv_has ls 16 [(12, .long ((q33.1 / (1024 : Int64)))), (9, .long (q33.1)), (11, .int v5), (7, .long ((p2 >>> (Int32.toInt64 (22 : Int32) &&& 63)))), (0, .ref ((b 0))), (1, .int 0), (2, .long p1), (4, .long p2), (6, .int p3)] → va_P D xCl (xWZ k b q33.2) H → va_D A (xWZ k b q33.2) → va_S A s.heap H locs → W p l e { frames := 4, cells := 0, slots := 0, locals := 99 } s m args below meth c H locs (0) (0) Q (F0 m 215 ls [.long v50]) := by
                      intro H locs ls v50 hv50 hl hP hD hS
                      have hv := xlt_v hv50 hv
                      refine lv_lstore (lv' := [(14, .long v50), (12, .long ((q33.1 / (1024 : Int64)))), (9, .long (q33.1)), (11, .int v5), (7, .long ((p2 >>> (Int32.toInt64 (22 : Int32) &&& 63)))), (0, .ref ((b 0))), (1, .int 0), (2, .long p1), (4, .long p2), (6, .int p3)]) hx hb xd_Z_walk_215 hl (by decide) rfl (fun ls hl => ?_)
                      refine lv_iload_n hx hb xd_Z_walk_217 rfl (lv_at hl 6 rfl) ?_
                      refine lv_iconst (v := 1) hx hb xd_Z_walk_218 (by decide) ?_
                      refine lv_icmp_ne (tgt := 227) hx hb xd_Z_walk_219 rfl (fun _ => ?_) (fun h => absurd h (by decide))
                      refine lv_aload_n hx hb xd_Z_walk_227 rfl (lv_at hl 5 rfl) ?_
                      refine lv_lload hx hb xd_Z_walk_228 (lv_at hl 0 rfl) ?_
                      obtain ⟨hn53, hv⟩ := xan_v hv
                      refine xcW_l (va_runV (As := [.long v50]) (rest := []) ⟨hx, hb, hml, hown, htg⟩ (c_Z_inMemory l D z k b H.size q33.2 v50 hn53) (cwV 1 htg (xg_V0 xkin_Z_inMemory xw_954 xw_956 xsel_Z_inMemory xw_9) rfl rfl rfl (by decide +kernel) ⟨Nat.le_of_ble_eq_true rfl, Nat.le_of_ble_eq_true rfl⟩) ⟨xB_blind, xrecv_Z hK hP, fun U hU hW => xB_mk hP hK hD hE hS (xsubW hD hA hS) hU hW⟩ rfl rfl hl.1 rfl (lv_room (Nat.le_of_ble_eq_true rfl)) xd_Z_walk_230 ⟨Nat.le_of_ble_eq_true rfl, Nat.le_of_ble_eq_true rfl⟩) hD hA hS (fun r u1 H locs hw hP hD hS => ?_)
                      obtain ⟨q52, hq52⟩ : ∃ q, q = xf_Z_inMemory q33.2 v50 := ⟨_, rfl⟩
                      rw [← hq52] at hw
                      obtain rfl : r = q52.1 := congrArg Prod.fst hw
                      obtain rfl : u1 = q52.2 := congrArg Prod.snd hw
                      have hP : va_P D xCl (xWZ k b q52.2) H := hP
                      have hD : va_D A (xWZ k b q52.2) := hD
                      have hv := xlt_v hq52 hv
                      exact hret _ q52.2 H locs ls _ (by unfold xf_Z_walk_0; exact (xlt_e hq1 (xit h3 (xlt_e hv5 (xit h7 (xif h29 (xit h32 (xlt_e hq33 (xit h35 (xlt_e hq36 (xif h38 (xif h41 (xit h48 (xlt_e hv50 (xlt_e hq52 rfl))))))))))))))) hP hD hS xd_Z_walk_233
                    refine lv_if_eq (tgt := 202) hx hb xd_Z_walk_180 rfl (fun h54 => ?_) (fun h54 => ?_)
                    · refine lv_lload hx hb xd_Z_walk_202 (lv_at hl 0 rfl) ?_
                      refine lv_ldc2 (v := 4096) hx hb hown (htg _ xw_939) xd_Z_walk_204 ?_
                      refine lv_lmul hx hb xd_Z_walk_207 ?_
                      refine lv_lload hx hb xd_Z_walk_208 (lv_at hl 7 rfl) ?_
                      refine lv_ldc2 (v := 4095) hx hb hown (htg _ xw_975) xd_Z_walk_210 ?_
                      refine lv_land hx hb xd_Z_walk_213 ?_
                      refine lv_ladd hx hb xd_Z_walk_214 ?_
                      exact hj51 H locs ls (((q33.1 / (1024 : Int64)) * (4096 : Int64)) + (p2 &&& (4095 : Int64))) (xit h54 rfl) hl hP hD hS
                    · refine lv_lload hx hb xd_Z_walk_183 (lv_at hl 0 rfl) ?_
                      refine lv_ldc2 (v := 1024) hx hb hown (htg _ xw_969) xd_Z_walk_185 ?_
                      refine lv_ldiv hx hb xd_Z_walk_188 (by decide) ?_
                      refine lv_bipush (v := 22) hx hb xd_Z_walk_189 (by decide) ?_
                      refine lv_lshl (v := (((q33.1 / (1024 : Int64)) / (1024 : Int64)) <<< (Int32.toInt64 (22 : Int32) &&& 63))) hx hb xd_Z_walk_191 rfl ?_
                      refine lv_lload hx hb xd_Z_walk_192 (lv_at hl 7 rfl) ?_
                      refine lv_ldc2 (v := 4194303) hx hb hown (htg _ xw_938) xd_Z_walk_194 ?_
                      refine lv_land hx hb xd_Z_walk_197 ?_
                      refine lv_ladd hx hb xd_Z_walk_198 ?_
                      refine lv_goto (tgt := 215) hx hb xd_Z_walk_199 rfl ?_
                      exact hj51 H locs ls ((((q33.1 / (1024 : Int64)) / (1024 : Int64)) <<< (Int32.toInt64 (22 : Int32) &&& 63)) + (p2 &&& (4194303 : Int64))) (xif h54 rfl) hl hP hD hS
                  · have hv := xif_v h48 hv
                    refine lv_aload_n hx hb xd_Z_walk_160 rfl (lv_at hl 3 rfl) ?_
                    refine lv_iload_n hx hb xd_Z_walk_161 rfl (lv_at hl 4 rfl) ?_
                    refine lv_lload hx hb xd_Z_walk_162 (lv_at hl 6 rfl) ?_
                    refine lv_iload hx hb xd_Z_walk_164 (lv_at hl 7 rfl) ?_
                    obtain ⟨hn56, hv⟩ := xan_v hv
                    refine xcW_l (va_runV (As := [.int 0, .long p2, .int p3]) (rest := []) ⟨hx, hb, hml, hown, htg⟩ (c_Z_stageFault l D z k b H.size q33.2 (0 : Int32) p2 p3 hn56) (cwV 3 htg (xg_V0 xkin_Z_stageFault xw_965 xw_967 xsel_Z_stageFault xw_9) rfl rfl rfl (by decide +kernel) ⟨Nat.le_of_ble_eq_true rfl, Nat.le_of_ble_eq_true rfl⟩) ⟨xB_blind, xrecv_Z hK hP, fun U hU hW => xB_mk hP hK hD hE hS (xsubW hD hA hS) hU hW⟩ rfl rfl hl.1 rfl (lv_room (Nat.le_of_ble_eq_true rfl)) xd_Z_walk_166 ⟨Nat.le_of_ble_eq_true rfl, Nat.le_of_ble_eq_true rfl⟩) hD hA hS (fun r u1 H locs hw hP hD hS => ?_)
                    obtain ⟨q55, hq55⟩ : ∃ q, q = xf_Z_stageFault q33.2 (0 : Int32) p2 p3 := ⟨_, rfl⟩
                    rw [← hq55] at hw
                    obtain rfl : r = q55.1 := congrArg Prod.fst hw
                    obtain rfl : u1 = q55.2 := congrArg Prod.snd hw
                    have hP : va_P D xCl (xWZ k b q55.2) H := hP
                    have hD : va_D A (xWZ k b q55.2) := hD
                    have hv := xlt_v hq55 hv
                    exact hret _ q55.2 H locs ls _ (by unfold xf_Z_walk_0; exact (xlt_e hq1 (xit h3 (xlt_e hv5 (xit h7 (xif h29 (xit h32 (xlt_e hq33 (xit h35 (xlt_e hq36 (xif h38 (xif h41 (xif h48 (xlt_e hq55 rfl)))))))))))))) hP hD hS xd_Z_walk_169
            · have hv := xif_v h35 hv
              refine lv_ldc2 (v := (-1)) hx hb hown (htg _ xw_937) xd_Z_walk_124 ?_
              exact hret _ q33.2 H locs ls _ (by unfold xf_Z_walk_0; exact (xlt_e hq1 (xit h3 (xlt_e hv5 (xit h7 (xif h29 (xit h32 (xlt_e hq33 (xif h35 rfl))))))))) hP hD hS xd_Z_walk_127
          · have hv := xif_v h32 hv
            refine lv_aload_n hx hb xd_Z_walk_76 rfl (lv_at hl 3 rfl) ?_
            refine lv_iload_n hx hb xd_Z_walk_77 rfl (lv_at hl 4 rfl) ?_
            refine lv_lload hx hb xd_Z_walk_78 (lv_at hl 6 rfl) ?_
            refine lv_iload hx hb xd_Z_walk_80 (lv_at hl 7 rfl) ?_
            obtain ⟨hn58, hv⟩ := xan_v hv
            refine xcW_l (va_runV (As := [.int 0, .long p2, .int p3]) (rest := []) ⟨hx, hb, hml, hown, htg⟩ (c_Z_stageFault l D z k b H.size q1.2 (0 : Int32) p2 p3 hn58) (cwV 3 htg (xg_V0 xkin_Z_stageFault xw_965 xw_967 xsel_Z_stageFault xw_9) rfl rfl rfl (by decide +kernel) ⟨Nat.le_of_ble_eq_true rfl, Nat.le_of_ble_eq_true rfl⟩) ⟨xB_blind, xrecv_Z hK hP, fun U hU hW => xB_mk hP hK hD hE hS (xsubW hD hA hS) hU hW⟩ rfl rfl hl.1 rfl (lv_room (Nat.le_of_ble_eq_true rfl)) xd_Z_walk_82 ⟨Nat.le_of_ble_eq_true rfl, Nat.le_of_ble_eq_true rfl⟩) hD hA hS (fun r u1 H locs hw hP hD hS => ?_)
            obtain ⟨q57, hq57⟩ : ∃ q, q = xf_Z_stageFault q1.2 (0 : Int32) p2 p3 := ⟨_, rfl⟩
            rw [← hq57] at hw
            obtain rfl : r = q57.1 := congrArg Prod.fst hw
            obtain rfl : u1 = q57.2 := congrArg Prod.snd hw
            have hP : va_P D xCl (xWZ k b q57.2) H := hP
            have hD : va_D A (xWZ k b q57.2) := hD
            have hv := xlt_v hq57 hv
            exact hret _ q57.2 H locs ls _ (by unfold xf_Z_walk_0; exact (xlt_e hq1 (xit h3 (xlt_e hv5 (xit h7 (xif h29 (xif h32 (xlt_e hq57 rfl)))))))) hP hD hS xd_Z_walk_85
    refine lv_if_eq (tgt := 48) hx hb xd_Z_walk_41 rfl (fun h59 => ?_) (fun h59 => ?_)
    · refine lv_iconst (v := 0) hx hb xd_Z_walk_48 (by decide) ?_
      exact hj6 H locs ls (0 : Int32) (xit h59 rfl) hl hP hD hS
    · refine lv_iconst (v := 1) hx hb xd_Z_walk_44 (by decide) ?_
      refine lv_goto (tgt := 49) hx hb xd_Z_walk_45 rfl ?_
      exact hj6 H locs ls (1 : Int32) (xif h59 rfl) hl hP hD hS
  · have hv := xif_v h3 hv
    refine lv_ldc2 (v := (-1)) hx hb hown (htg _ xw_937) xd_Z_walk_29 ?_
    exact hret _ q1.2 H locs ls _ (by unfold xf_Z_walk_0; exact (xlt_e hq1 (xif h3 rfl))) hP hD hS xd_Z_walk_32

noncomputable def xf_Z_lead (u : XZ) (p0 : Int32) (p1 : Int32) : Int64 × XZ :=
  if (xg_Z_kind (xs_Z_asGuest (xs_Z_address u p0) (xb (xz (xg_Z_virtual (xs_Z_address u p0)))))) = 0 then
    if (xz (xg_Z_virtual (xs_Z_asGuest (xs_Z_address u p0) (xb (xz (xg_Z_virtual (xs_Z_address u p0))))))) = 0 then
      xlt (xf_Z_bit (xs_Z_asGuest (xs_Z_address u p0) (xb (xz (xg_Z_virtual (xs_Z_address u p0))))) (384 : Int32) (31 : Int32) : Int32) fun q27 =>
      xlt (if q27 = 0 then (xlt (xf_Z_inMemory (xs_Z_asGuest (xs_Z_address u p0) (xb (xz (xg_Z_virtual (xs_Z_address u p0))))) ((Int32.toInt64 p0) &&& (4294967295 : Int64)) : Int64 × XZ) fun q30 => q30.1) else (xlt (xf_Z_value (xs_Z_asGuest (xs_Z_address u p0) (xb (xz (xg_Z_virtual (xs_Z_address u p0))))) (384 : Int32) : Int32) fun q32 => xlt (xf_Z_walk_0 (xs_Z_asGuest (xs_Z_address u p0) (xb (xz (xg_Z_virtual (xs_Z_address u p0))))) (((Int32.toInt64 q32) &&& (4194303 : Int64)) * (4096 : Int64)) ((Int32.toInt64 p0) &&& (4294967295 : Int64)) (0 : Int32) : Int64 × XZ) fun q34 => q34.1) : Int64) fun v36 =>
      xlt (if q27 = 0 then (xlt (xf_Z_inMemory (xs_Z_asGuest (xs_Z_address u p0) (xb (xz (xg_Z_virtual (xs_Z_address u p0))))) ((Int32.toInt64 p0) &&& (4294967295 : Int64)) : Int64 × XZ) fun q30 => q30.2) else (xlt (xf_Z_value (xs_Z_asGuest (xs_Z_address u p0) (xb (xz (xg_Z_virtual (xs_Z_address u p0))))) (384 : Int32) : Int32) fun q32 => xlt (xf_Z_walk_0 (xs_Z_asGuest (xs_Z_address u p0) (xb (xz (xg_Z_virtual (xs_Z_address u p0))))) (((Int32.toInt64 q32) &&& (4194303 : Int64)) * (4096 : Int64)) ((Int32.toInt64 p0) &&& (4294967295 : Int64)) (0 : Int32) : Int64 × XZ) fun q34 => q34.2) : XZ) fun v37 =>
      (v36, v37)
    else
      xlt (xf_Z_bit (xs_Z_asGuest (xs_Z_address u p0) (xb (xz (xg_Z_virtual (xs_Z_address u p0))))) (640 : Int32) (31 : Int32) : Int32) fun q3 =>
      xlt (if q3 = 0 then (((Int32.toInt64 p0) &&& (4294967295 : Int64))) else (xlt (xf_Z_value (xs_Z_asGuest (xs_Z_address u p0) (xb (xz (xg_Z_virtual (xs_Z_address u p0))))) (640 : Int32) : Int32) fun q6 => xlt (xf_Z_walk_1 (xs_Z_asGuest (xs_Z_address u p0) (xb (xz (xg_Z_virtual (xs_Z_address u p0))))) (((Int32.toInt64 q6) &&& (4194303 : Int64)) * (4096 : Int64)) ((Int32.toInt64 p0) &&& (4294967295 : Int64)) (0 : Int32) : Int64 × XZ) fun q8 => q8.1) : Int64) fun v10 =>
      xlt (if q3 = 0 then ((xs_Z_asGuest (xs_Z_address u p0) (xb (xz (xg_Z_virtual (xs_Z_address u p0)))))) else (xlt (xf_Z_value (xs_Z_asGuest (xs_Z_address u p0) (xb (xz (xg_Z_virtual (xs_Z_address u p0))))) (640 : Int32) : Int32) fun q6 => xlt (xf_Z_walk_1 (xs_Z_asGuest (xs_Z_address u p0) (xb (xz (xg_Z_virtual (xs_Z_address u p0))))) (((Int32.toInt64 q6) &&& (4194303 : Int64)) * (4096 : Int64)) ((Int32.toInt64 p0) &&& (4294967295 : Int64)) (0 : Int32) : Int64 × XZ) fun q8 => q8.2) : XZ) fun v11 =>
      xlt (if 0 ≤ (lg_cmp v10 (0 : Int64)) then (xlt (xf_Z_second v11 v10 (0 : Int32) : Int64 × XZ) fun q14 => q14.1) else ((-1)) : Int64) fun v16 =>
      xlt (if 0 ≤ (lg_cmp v10 (0 : Int64)) then (xlt (xf_Z_second v11 v10 (0 : Int32) : Int64 × XZ) fun q14 => q14.2) else (v11) : XZ) fun v17 =>
      (v16, v17)
  else
    if (p0 - p0 / p1 * p1) = 0 then
      if (xz (xg_Z_virtual (xs_Z_asGuest (xs_Z_address u p0) (xb (xz (xg_Z_virtual (xs_Z_address u p0))))))) = 0 then
        xlt (xf_Z_bit (xs_Z_asGuest (xs_Z_address u p0) (xb (xz (xg_Z_virtual (xs_Z_address u p0))))) (384 : Int32) (31 : Int32) : Int32) fun q73 =>
        xlt (if q73 = 0 then (xlt (xf_Z_inMemory (xs_Z_asGuest (xs_Z_address u p0) (xb (xz (xg_Z_virtual (xs_Z_address u p0))))) ((Int32.toInt64 p0) &&& (4294967295 : Int64)) : Int64 × XZ) fun q76 => q76.1) else (xlt (xf_Z_value (xs_Z_asGuest (xs_Z_address u p0) (xb (xz (xg_Z_virtual (xs_Z_address u p0))))) (384 : Int32) : Int32) fun q78 => xlt (xf_Z_walk_0 (xs_Z_asGuest (xs_Z_address u p0) (xb (xz (xg_Z_virtual (xs_Z_address u p0))))) (((Int32.toInt64 q78) &&& (4194303 : Int64)) * (4096 : Int64)) ((Int32.toInt64 p0) &&& (4294967295 : Int64)) (0 : Int32) : Int64 × XZ) fun q80 => q80.1) : Int64) fun v82 =>
        xlt (if q73 = 0 then (xlt (xf_Z_inMemory (xs_Z_asGuest (xs_Z_address u p0) (xb (xz (xg_Z_virtual (xs_Z_address u p0))))) ((Int32.toInt64 p0) &&& (4294967295 : Int64)) : Int64 × XZ) fun q76 => q76.2) else (xlt (xf_Z_value (xs_Z_asGuest (xs_Z_address u p0) (xb (xz (xg_Z_virtual (xs_Z_address u p0))))) (384 : Int32) : Int32) fun q78 => xlt (xf_Z_walk_0 (xs_Z_asGuest (xs_Z_address u p0) (xb (xz (xg_Z_virtual (xs_Z_address u p0))))) (((Int32.toInt64 q78) &&& (4194303 : Int64)) * (4096 : Int64)) ((Int32.toInt64 p0) &&& (4294967295 : Int64)) (0 : Int32) : Int64 × XZ) fun q80 => q80.2) : XZ) fun v83 =>
        (v82, v83)
      else
        xlt (xf_Z_bit (xs_Z_asGuest (xs_Z_address u p0) (xb (xz (xg_Z_virtual (xs_Z_address u p0))))) (640 : Int32) (31 : Int32) : Int32) fun q49 =>
        xlt (if q49 = 0 then (((Int32.toInt64 p0) &&& (4294967295 : Int64))) else (xlt (xf_Z_value (xs_Z_asGuest (xs_Z_address u p0) (xb (xz (xg_Z_virtual (xs_Z_address u p0))))) (640 : Int32) : Int32) fun q52 => xlt (xf_Z_walk_1 (xs_Z_asGuest (xs_Z_address u p0) (xb (xz (xg_Z_virtual (xs_Z_address u p0))))) (((Int32.toInt64 q52) &&& (4194303 : Int64)) * (4096 : Int64)) ((Int32.toInt64 p0) &&& (4294967295 : Int64)) (0 : Int32) : Int64 × XZ) fun q54 => q54.1) : Int64) fun v56 =>
        xlt (if q49 = 0 then ((xs_Z_asGuest (xs_Z_address u p0) (xb (xz (xg_Z_virtual (xs_Z_address u p0)))))) else (xlt (xf_Z_value (xs_Z_asGuest (xs_Z_address u p0) (xb (xz (xg_Z_virtual (xs_Z_address u p0))))) (640 : Int32) : Int32) fun q52 => xlt (xf_Z_walk_1 (xs_Z_asGuest (xs_Z_address u p0) (xb (xz (xg_Z_virtual (xs_Z_address u p0))))) (((Int32.toInt64 q52) &&& (4194303 : Int64)) * (4096 : Int64)) ((Int32.toInt64 p0) &&& (4294967295 : Int64)) (0 : Int32) : Int64 × XZ) fun q54 => q54.2) : XZ) fun v57 =>
        xlt (if 0 ≤ (lg_cmp v56 (0 : Int64)) then (xlt (xf_Z_second v57 v56 (0 : Int32) : Int64 × XZ) fun q60 => q60.1) else ((-1)) : Int64) fun v62 =>
        xlt (if 0 ≤ (lg_cmp v56 (0 : Int64)) then (xlt (xf_Z_second v57 v56 (0 : Int32) : Int64 × XZ) fun q60 => q60.2) else (v57) : XZ) fun v63 =>
        (v62, v63)
    else
      xlt (if (xg_Z_kind (xs_Z_asGuest (xs_Z_address u p0) (xb (xz (xg_Z_virtual (xs_Z_address u p0)))))) = 1 then (4) else (6) : Int32) fun v93 =>
      xlt (xf_Z_fails (xs_Z_asGuest (xs_Z_address u p0) (xb (xz (xg_Z_virtual (xs_Z_address u p0))))) v93 p0 (xz (xg_Z_asGuest (xs_Z_asGuest (xs_Z_address u p0) (xb (xz (xg_Z_virtual (xs_Z_address u p0))))))) : Int32 × XZ) fun q95 =>
      ((-1), q95.2)
def xv_Z_lead (u : XZ) (p0 : Int32) (p1 : Int32) : Prop := XVc (
  if (xg_Z_kind (xs_Z_asGuest (xs_Z_address u p0) (xb (xz (xg_Z_virtual (xs_Z_address u p0)))))) = 0 then
    if (xz (xg_Z_virtual (xs_Z_asGuest (xs_Z_address u p0) (xb (xz (xg_Z_virtual (xs_Z_address u p0))))))) = 0 then
      (xv_Z_bit (xs_Z_asGuest (xs_Z_address u p0) (xb (xz (xg_Z_virtual (xs_Z_address u p0))))) (384 : Int32) (31 : Int32)) ∧
      xlt (xf_Z_bit (xs_Z_asGuest (xs_Z_address u p0) (xb (xz (xg_Z_virtual (xs_Z_address u p0))))) (384 : Int32) (31 : Int32) : Int32) fun q27 =>
      (if q27 = 0 then ((xv_Z_inMemory (xs_Z_asGuest (xs_Z_address u p0) (xb (xz (xg_Z_virtual (xs_Z_address u p0))))) ((Int32.toInt64 p0) &&& (4294967295 : Int64))) ∧ (xlt (xf_Z_inMemory (xs_Z_asGuest (xs_Z_address u p0) (xb (xz (xg_Z_virtual (xs_Z_address u p0))))) ((Int32.toInt64 p0) &&& (4294967295 : Int64)) : Int64 × XZ) fun q30 => True)) else ((xv_Z_value (xs_Z_asGuest (xs_Z_address u p0) (xb (xz (xg_Z_virtual (xs_Z_address u p0))))) (384 : Int32)) ∧ (xlt (xf_Z_value (xs_Z_asGuest (xs_Z_address u p0) (xb (xz (xg_Z_virtual (xs_Z_address u p0))))) (384 : Int32) : Int32) fun q32 => (xv_Z_walk_0 (xs_Z_asGuest (xs_Z_address u p0) (xb (xz (xg_Z_virtual (xs_Z_address u p0))))) (((Int32.toInt64 q32) &&& (4194303 : Int64)) * (4096 : Int64)) ((Int32.toInt64 p0) &&& (4294967295 : Int64)) (0 : Int32)) ∧ (xlt (xf_Z_walk_0 (xs_Z_asGuest (xs_Z_address u p0) (xb (xz (xg_Z_virtual (xs_Z_address u p0))))) (((Int32.toInt64 q32) &&& (4194303 : Int64)) * (4096 : Int64)) ((Int32.toInt64 p0) &&& (4294967295 : Int64)) (0 : Int32) : Int64 × XZ) fun q34 => True)))) ∧
      xlt (if q27 = 0 then (xlt (xf_Z_inMemory (xs_Z_asGuest (xs_Z_address u p0) (xb (xz (xg_Z_virtual (xs_Z_address u p0))))) ((Int32.toInt64 p0) &&& (4294967295 : Int64)) : Int64 × XZ) fun q30 => q30.1) else (xlt (xf_Z_value (xs_Z_asGuest (xs_Z_address u p0) (xb (xz (xg_Z_virtual (xs_Z_address u p0))))) (384 : Int32) : Int32) fun q32 => xlt (xf_Z_walk_0 (xs_Z_asGuest (xs_Z_address u p0) (xb (xz (xg_Z_virtual (xs_Z_address u p0))))) (((Int32.toInt64 q32) &&& (4194303 : Int64)) * (4096 : Int64)) ((Int32.toInt64 p0) &&& (4294967295 : Int64)) (0 : Int32) : Int64 × XZ) fun q34 => q34.1) : Int64) fun v36 =>
      xlt (if q27 = 0 then (xlt (xf_Z_inMemory (xs_Z_asGuest (xs_Z_address u p0) (xb (xz (xg_Z_virtual (xs_Z_address u p0))))) ((Int32.toInt64 p0) &&& (4294967295 : Int64)) : Int64 × XZ) fun q30 => q30.2) else (xlt (xf_Z_value (xs_Z_asGuest (xs_Z_address u p0) (xb (xz (xg_Z_virtual (xs_Z_address u p0))))) (384 : Int32) : Int32) fun q32 => xlt (xf_Z_walk_0 (xs_Z_asGuest (xs_Z_address u p0) (xb (xz (xg_Z_virtual (xs_Z_address u p0))))) (((Int32.toInt64 q32) &&& (4194303 : Int64)) * (4096 : Int64)) ((Int32.toInt64 p0) &&& (4294967295 : Int64)) (0 : Int32) : Int64 × XZ) fun q34 => q34.2) : XZ) fun v37 =>
      True
    else
      (xv_Z_bit (xs_Z_asGuest (xs_Z_address u p0) (xb (xz (xg_Z_virtual (xs_Z_address u p0))))) (640 : Int32) (31 : Int32)) ∧
      xlt (xf_Z_bit (xs_Z_asGuest (xs_Z_address u p0) (xb (xz (xg_Z_virtual (xs_Z_address u p0))))) (640 : Int32) (31 : Int32) : Int32) fun q3 =>
      (if q3 = 0 then (True) else ((xv_Z_value (xs_Z_asGuest (xs_Z_address u p0) (xb (xz (xg_Z_virtual (xs_Z_address u p0))))) (640 : Int32)) ∧ (xlt (xf_Z_value (xs_Z_asGuest (xs_Z_address u p0) (xb (xz (xg_Z_virtual (xs_Z_address u p0))))) (640 : Int32) : Int32) fun q6 => (xv_Z_walk_1 (xs_Z_asGuest (xs_Z_address u p0) (xb (xz (xg_Z_virtual (xs_Z_address u p0))))) (((Int32.toInt64 q6) &&& (4194303 : Int64)) * (4096 : Int64)) ((Int32.toInt64 p0) &&& (4294967295 : Int64)) (0 : Int32)) ∧ (xlt (xf_Z_walk_1 (xs_Z_asGuest (xs_Z_address u p0) (xb (xz (xg_Z_virtual (xs_Z_address u p0))))) (((Int32.toInt64 q6) &&& (4194303 : Int64)) * (4096 : Int64)) ((Int32.toInt64 p0) &&& (4294967295 : Int64)) (0 : Int32) : Int64 × XZ) fun q8 => True)))) ∧
      xlt (if q3 = 0 then (((Int32.toInt64 p0) &&& (4294967295 : Int64))) else (xlt (xf_Z_value (xs_Z_asGuest (xs_Z_address u p0) (xb (xz (xg_Z_virtual (xs_Z_address u p0))))) (640 : Int32) : Int32) fun q6 => xlt (xf_Z_walk_1 (xs_Z_asGuest (xs_Z_address u p0) (xb (xz (xg_Z_virtual (xs_Z_address u p0))))) (((Int32.toInt64 q6) &&& (4194303 : Int64)) * (4096 : Int64)) ((Int32.toInt64 p0) &&& (4294967295 : Int64)) (0 : Int32) : Int64 × XZ) fun q8 => q8.1) : Int64) fun v10 =>
      xlt (if q3 = 0 then ((xs_Z_asGuest (xs_Z_address u p0) (xb (xz (xg_Z_virtual (xs_Z_address u p0)))))) else (xlt (xf_Z_value (xs_Z_asGuest (xs_Z_address u p0) (xb (xz (xg_Z_virtual (xs_Z_address u p0))))) (640 : Int32) : Int32) fun q6 => xlt (xf_Z_walk_1 (xs_Z_asGuest (xs_Z_address u p0) (xb (xz (xg_Z_virtual (xs_Z_address u p0))))) (((Int32.toInt64 q6) &&& (4194303 : Int64)) * (4096 : Int64)) ((Int32.toInt64 p0) &&& (4294967295 : Int64)) (0 : Int32) : Int64 × XZ) fun q8 => q8.2) : XZ) fun v11 =>
      (if 0 ≤ (lg_cmp v10 (0 : Int64)) then ((xv_Z_second v11 v10 (0 : Int32)) ∧ (xlt (xf_Z_second v11 v10 (0 : Int32) : Int64 × XZ) fun q14 => True)) else (True)) ∧
      xlt (if 0 ≤ (lg_cmp v10 (0 : Int64)) then (xlt (xf_Z_second v11 v10 (0 : Int32) : Int64 × XZ) fun q14 => q14.1) else ((-1)) : Int64) fun v16 =>
      xlt (if 0 ≤ (lg_cmp v10 (0 : Int64)) then (xlt (xf_Z_second v11 v10 (0 : Int32) : Int64 × XZ) fun q14 => q14.2) else (v11) : XZ) fun v17 =>
      True
  else
    (¬ p1 = 0) ∧
    if (p0 - p0 / p1 * p1) = 0 then
      if (xz (xg_Z_virtual (xs_Z_asGuest (xs_Z_address u p0) (xb (xz (xg_Z_virtual (xs_Z_address u p0))))))) = 0 then
        (xv_Z_bit (xs_Z_asGuest (xs_Z_address u p0) (xb (xz (xg_Z_virtual (xs_Z_address u p0))))) (384 : Int32) (31 : Int32)) ∧
        xlt (xf_Z_bit (xs_Z_asGuest (xs_Z_address u p0) (xb (xz (xg_Z_virtual (xs_Z_address u p0))))) (384 : Int32) (31 : Int32) : Int32) fun q73 =>
        (if q73 = 0 then ((xv_Z_inMemory (xs_Z_asGuest (xs_Z_address u p0) (xb (xz (xg_Z_virtual (xs_Z_address u p0))))) ((Int32.toInt64 p0) &&& (4294967295 : Int64))) ∧ (xlt (xf_Z_inMemory (xs_Z_asGuest (xs_Z_address u p0) (xb (xz (xg_Z_virtual (xs_Z_address u p0))))) ((Int32.toInt64 p0) &&& (4294967295 : Int64)) : Int64 × XZ) fun q76 => True)) else ((xv_Z_value (xs_Z_asGuest (xs_Z_address u p0) (xb (xz (xg_Z_virtual (xs_Z_address u p0))))) (384 : Int32)) ∧ (xlt (xf_Z_value (xs_Z_asGuest (xs_Z_address u p0) (xb (xz (xg_Z_virtual (xs_Z_address u p0))))) (384 : Int32) : Int32) fun q78 => (xv_Z_walk_0 (xs_Z_asGuest (xs_Z_address u p0) (xb (xz (xg_Z_virtual (xs_Z_address u p0))))) (((Int32.toInt64 q78) &&& (4194303 : Int64)) * (4096 : Int64)) ((Int32.toInt64 p0) &&& (4294967295 : Int64)) (0 : Int32)) ∧ (xlt (xf_Z_walk_0 (xs_Z_asGuest (xs_Z_address u p0) (xb (xz (xg_Z_virtual (xs_Z_address u p0))))) (((Int32.toInt64 q78) &&& (4194303 : Int64)) * (4096 : Int64)) ((Int32.toInt64 p0) &&& (4294967295 : Int64)) (0 : Int32) : Int64 × XZ) fun q80 => True)))) ∧
        xlt (if q73 = 0 then (xlt (xf_Z_inMemory (xs_Z_asGuest (xs_Z_address u p0) (xb (xz (xg_Z_virtual (xs_Z_address u p0))))) ((Int32.toInt64 p0) &&& (4294967295 : Int64)) : Int64 × XZ) fun q76 => q76.1) else (xlt (xf_Z_value (xs_Z_asGuest (xs_Z_address u p0) (xb (xz (xg_Z_virtual (xs_Z_address u p0))))) (384 : Int32) : Int32) fun q78 => xlt (xf_Z_walk_0 (xs_Z_asGuest (xs_Z_address u p0) (xb (xz (xg_Z_virtual (xs_Z_address u p0))))) (((Int32.toInt64 q78) &&& (4194303 : Int64)) * (4096 : Int64)) ((Int32.toInt64 p0) &&& (4294967295 : Int64)) (0 : Int32) : Int64 × XZ) fun q80 => q80.1) : Int64) fun v82 =>
        xlt (if q73 = 0 then (xlt (xf_Z_inMemory (xs_Z_asGuest (xs_Z_address u p0) (xb (xz (xg_Z_virtual (xs_Z_address u p0))))) ((Int32.toInt64 p0) &&& (4294967295 : Int64)) : Int64 × XZ) fun q76 => q76.2) else (xlt (xf_Z_value (xs_Z_asGuest (xs_Z_address u p0) (xb (xz (xg_Z_virtual (xs_Z_address u p0))))) (384 : Int32) : Int32) fun q78 => xlt (xf_Z_walk_0 (xs_Z_asGuest (xs_Z_address u p0) (xb (xz (xg_Z_virtual (xs_Z_address u p0))))) (((Int32.toInt64 q78) &&& (4194303 : Int64)) * (4096 : Int64)) ((Int32.toInt64 p0) &&& (4294967295 : Int64)) (0 : Int32) : Int64 × XZ) fun q80 => q80.2) : XZ) fun v83 =>
        True
      else
        (xv_Z_bit (xs_Z_asGuest (xs_Z_address u p0) (xb (xz (xg_Z_virtual (xs_Z_address u p0))))) (640 : Int32) (31 : Int32)) ∧
        xlt (xf_Z_bit (xs_Z_asGuest (xs_Z_address u p0) (xb (xz (xg_Z_virtual (xs_Z_address u p0))))) (640 : Int32) (31 : Int32) : Int32) fun q49 =>
        (if q49 = 0 then (True) else ((xv_Z_value (xs_Z_asGuest (xs_Z_address u p0) (xb (xz (xg_Z_virtual (xs_Z_address u p0))))) (640 : Int32)) ∧ (xlt (xf_Z_value (xs_Z_asGuest (xs_Z_address u p0) (xb (xz (xg_Z_virtual (xs_Z_address u p0))))) (640 : Int32) : Int32) fun q52 => (xv_Z_walk_1 (xs_Z_asGuest (xs_Z_address u p0) (xb (xz (xg_Z_virtual (xs_Z_address u p0))))) (((Int32.toInt64 q52) &&& (4194303 : Int64)) * (4096 : Int64)) ((Int32.toInt64 p0) &&& (4294967295 : Int64)) (0 : Int32)) ∧ (xlt (xf_Z_walk_1 (xs_Z_asGuest (xs_Z_address u p0) (xb (xz (xg_Z_virtual (xs_Z_address u p0))))) (((Int32.toInt64 q52) &&& (4194303 : Int64)) * (4096 : Int64)) ((Int32.toInt64 p0) &&& (4294967295 : Int64)) (0 : Int32) : Int64 × XZ) fun q54 => True)))) ∧
        xlt (if q49 = 0 then (((Int32.toInt64 p0) &&& (4294967295 : Int64))) else (xlt (xf_Z_value (xs_Z_asGuest (xs_Z_address u p0) (xb (xz (xg_Z_virtual (xs_Z_address u p0))))) (640 : Int32) : Int32) fun q52 => xlt (xf_Z_walk_1 (xs_Z_asGuest (xs_Z_address u p0) (xb (xz (xg_Z_virtual (xs_Z_address u p0))))) (((Int32.toInt64 q52) &&& (4194303 : Int64)) * (4096 : Int64)) ((Int32.toInt64 p0) &&& (4294967295 : Int64)) (0 : Int32) : Int64 × XZ) fun q54 => q54.1) : Int64) fun v56 =>
        xlt (if q49 = 0 then ((xs_Z_asGuest (xs_Z_address u p0) (xb (xz (xg_Z_virtual (xs_Z_address u p0)))))) else (xlt (xf_Z_value (xs_Z_asGuest (xs_Z_address u p0) (xb (xz (xg_Z_virtual (xs_Z_address u p0))))) (640 : Int32) : Int32) fun q52 => xlt (xf_Z_walk_1 (xs_Z_asGuest (xs_Z_address u p0) (xb (xz (xg_Z_virtual (xs_Z_address u p0))))) (((Int32.toInt64 q52) &&& (4194303 : Int64)) * (4096 : Int64)) ((Int32.toInt64 p0) &&& (4294967295 : Int64)) (0 : Int32) : Int64 × XZ) fun q54 => q54.2) : XZ) fun v57 =>
        (if 0 ≤ (lg_cmp v56 (0 : Int64)) then ((xv_Z_second v57 v56 (0 : Int32)) ∧ (xlt (xf_Z_second v57 v56 (0 : Int32) : Int64 × XZ) fun q60 => True)) else (True)) ∧
        xlt (if 0 ≤ (lg_cmp v56 (0 : Int64)) then (xlt (xf_Z_second v57 v56 (0 : Int32) : Int64 × XZ) fun q60 => q60.1) else ((-1)) : Int64) fun v62 =>
        xlt (if 0 ≤ (lg_cmp v56 (0 : Int64)) then (xlt (xf_Z_second v57 v56 (0 : Int32) : Int64 × XZ) fun q60 => q60.2) else (v57) : XZ) fun v63 =>
        True
    else
      xlt (if (xg_Z_kind (xs_Z_asGuest (xs_Z_address u p0) (xb (xz (xg_Z_virtual (xs_Z_address u p0)))))) = 1 then (4) else (6) : Int32) fun v93 =>
      (xv_Z_fails (xs_Z_asGuest (xs_Z_address u p0) (xb (xz (xg_Z_virtual (xs_Z_address u p0))))) v93 p0 (xz (xg_Z_asGuest (xs_Z_asGuest (xs_Z_address u p0) (xb (xz (xg_Z_virtual (xs_Z_address u p0)))))))) ∧
      xlt (xf_Z_fails (xs_Z_asGuest (xs_Z_address u p0) (xb (xz (xg_Z_virtual (xs_Z_address u p0))))) v93 p0 (xz (xg_Z_asGuest (xs_Z_asGuest (xs_Z_address u p0) (xb (xz (xg_Z_virtual (xs_Z_address u p0))))))) : Int32 × XZ) fun q95 =>
      True)
set_option maxHeartbeats 4000000 in
set_option maxRecDepth 100000 in
theorem c_Z_lead (l : Launch) (D : va_G) (z : (Nat → Nat) × (Nat → Nat)) (k : ClassId × ClassId) (b : Nat → Nat) (sz : Nat) (u : XZ) (p0 : Int32) (p1 : Int32) (hv : xv_Z_lead u p0 p1) : Met l xy_Z_lead (xk_Z_lead :: lw_g) { frames := 8, cells := 0, slots := 0, locals := 217 } (va_Pc [.ref ((b 0)), .int p0, .int p1] (xB D (xTy k) z sz (xWZ k b u))) (va_Ql (fun r (q : XZ) => (r, q) = xf_Z_lead u p0 p1) (fun q t => xQ D (xTy k) (xWZ k b q) (va_A (xWZ k b u) sz) t) (va_A (xWZ k b u) sz)) 0 0 (va_A (xWZ k b u) sz) := by
  refine xopen_l (wf := fun q : XZ => xWZ k b q) (lv := [(0, .ref ((b 0))), (1, .int p0), (2, .int p1)]) (by decide) rfl (Nat.le_of_ble_eq_true rfl) ?_
  intro p e s m args below meth c Q ls A H locs hx hb hml htg hown hin hK hP hD hE hS hA hl hret
  unfold xv_Z_lead at hv
  refine lv_aload_n hx hb xd_Z_lead_0 rfl (lv_at hl 0 rfl) ?_
  refine lv_iload_n hx hb xd_Z_lead_1 rfl (lv_at hl 1 rfl) ?_
  refine xput_Z_address (v := p0) hx hb htg hown hK hP hD hS (htg _ xw_751) xd_Z_lead_2 (fun H locs hP hD hS => ?_)
  refine lv_aload_n hx hb xd_Z_lead_5 rfl (lv_at hl 0 rfl) ?_
  refine lv_aload_n hx hb xd_Z_lead_6 rfl (lv_at hl 0 rfl) ?_
  refine xget_Z_virtual (v := (xg_Z_virtual (xs_Z_address u p0))) hx hb htg hown hK hP (htg _ xw_748) rfl xd_Z_lead_7 ?_
  refine xput_Z_asGuest (v := (xz (xg_Z_virtual (xs_Z_address u p0)))) hx hb htg hown hK hP hD hS (htg _ xw_752) (xz01 _) xd_Z_lead_10 (fun H locs hP hD hS => ?_)
  refine lv_aload_n hx hb xd_Z_lead_13 rfl (lv_at hl 0 rfl) ?_
  refine xget_Z_kind (v := (xg_Z_kind (xs_Z_asGuest (xs_Z_address u p0) (xb (xz (xg_Z_virtual (xs_Z_address u p0))))))) hx hb htg hown hK hP (htg _ xw_747) rfl xd_Z_lead_14 ?_
  refine lv_if_eq (tgt := 54) hx hb xd_Z_lead_17 rfl (fun h1 => ?_) (fun h1 => ?_)
  · have hv := xit_v h1 hv
    refine lv_iload_n hx hb xd_Z_lead_54 rfl (lv_at hl 1 rfl) ?_
    refine lv_i2l (v := (Int32.toInt64 p0)) hx hb xd_Z_lead_55 rfl ?_
    refine lv_ldc2 (v := 4294967295) hx hb hown (htg _ xw_887) xd_Z_lead_56 ?_
    refine lv_land hx hb xd_Z_lead_59 ?_
    refine lv_lstore_n (lv' := [(3, .long (((Int32.toInt64 p0) &&& (4294967295 : Int64)))), (0, .ref ((b 0))), (1, .int p0), (2, .int p1)]) hx hb xd_Z_lead_60 rfl hl (by decide) rfl (fun ls hl => ?_)
    refine lv_aload_n hx hb xd_Z_lead_61 rfl (lv_at hl 1 rfl) ?_
    refine xget_Z_virtual (v := (xg_Z_virtual (xs_Z_asGuest (xs_Z_address u p0) (xb (xz (xg_Z_virtual (xs_Z_address u p0))))))) hx hb htg hown hK hP (htg _ xw_748) rfl xd_Z_lead_62 ?_
    refine lv_if_ne (tgt := 112) hx hb xd_Z_lead_65 rfl (fun h2 => ?_) (fun h2 => ?_)
    · have hv := xif_v h2 hv
      refine lv_aload_n hx hb xd_Z_lead_112 rfl (lv_at hl 1 rfl) ?_
      refine lv_sipush (v := 640) hx hb xd_Z_lead_113 (by decide) ?_
      refine lv_bipush (v := 31) hx hb xd_Z_lead_116 (by decide) ?_
      obtain ⟨hn4, hv⟩ := xan_v hv
      refine xcW_i (va_runV (As := [.int 640, .int 31]) (rest := []) ⟨hx, hb, hml, hown, htg⟩ (c_Z_bit l D z k b H.size (xs_Z_asGuest (xs_Z_address u p0) (xb (xz (xg_Z_virtual (xs_Z_address u p0))))) (640 : Int32) (31 : Int32) hn4) (cwV 2 htg (xg_V0 xkin_Z_bit xw_867 xw_869 xsel_Z_bit xw_9) rfl rfl rfl (by decide +kernel) ⟨Nat.le_of_ble_eq_true rfl, Nat.le_of_ble_eq_true rfl⟩) ⟨xB_blind, xrecv_Z hK hP, fun U hU hW => xB_mk hP hK hD hE hS (xsubW hD hA hS) hU hW⟩ rfl rfl hl.1 rfl (lv_room (Nat.le_of_ble_eq_true rfl)) xd_Z_lead_118 ⟨Nat.le_of_ble_eq_true rfl, Nat.le_of_ble_eq_true rfl⟩) hD hA hS (fun r u1 H locs hw hP hD hS => ?_)
      obtain ⟨q3, hq3⟩ : ∃ q, q = xf_Z_bit (xs_Z_asGuest (xs_Z_address u p0) (xb (xz (xg_Z_virtual (xs_Z_address u p0))))) (640 : Int32) (31 : Int32) := ⟨_, rfl⟩
      obtain ⟨e1, e2⟩ := hw
      rw [← hq3] at e1
      obtain rfl : q3 = r := e1.symm
      obtain rfl : (xs_Z_asGuest (xs_Z_address u p0) (xb (xz (xg_Z_virtual (xs_Z_address u p0))))) = u1 := e2.symm
      have hP : va_P D xCl (xWZ k b (xs_Z_asGuest (xs_Z_address u p0) (xb (xz (xg_Z_virtual (xs_Z_address u p0)))))) H := hP
      have hD : va_D A (xWZ k b (xs_Z_asGuest (xs_Z_address u p0) (xb (xz (xg_Z_virtual (xs_Z_address u p0)))))) := hD
      have hv := xlt_v hq3 hv
      obtain ⟨hva, hv⟩ := xan_v2 hv
      have hj12 : ∀ (H : Heap) (locs : List Loc) (ls : Array Slot) (v10 : Int64) (v11 : XZ), v10 = (if q3 = 0 then (((Int32.toInt64 p0) &&& (4294967295 : Int64))) else (xlt (xf_Z_value (xs_Z_asGuest (xs_Z_address u p0) (xb (xz (xg_Z_virtual (xs_Z_address u p0))))) (640 : Int32) : Int32) fun q6 => xlt (xf_Z_walk_1 (xs_Z_asGuest (xs_Z_address u p0) (xb (xz (xg_Z_virtual (xs_Z_address u p0))))) (((Int32.toInt64 q6) &&& (4194303 : Int64)) * (4096 : Int64)) ((Int32.toInt64 p0) &&& (4294967295 : Int64)) (0 : Int32) : Int64 × XZ) fun q8 => q8.1)) → v11 = (if q3 = 0 then ((xs_Z_asGuest (xs_Z_address u p0) (xb (xz (xg_Z_virtual (xs_Z_address u p0)))))) else (xlt (xf_Z_value (xs_Z_asGuest (xs_Z_address u p0) (xb (xz (xg_Z_virtual (xs_Z_address u p0))))) (640 : Int32) : Int32) fun q6 => xlt (xf_Z_walk_1 (xs_Z_asGuest (xs_Z_address u p0) (xb (xz (xg_Z_virtual (xs_Z_address u p0))))) (((Int32.toInt64 q6) &&& (4194303 : Int64)) * (4096 : Int64)) ((Int32.toInt64 p0) &&& (4294967295 : Int64)) (0 : Int32) : Int64 × XZ) fun q8 => q8.2)) → lv_has ls 7 [(3, .long (((Int32.toInt64 p0) &&& (4294967295 : Int64)))), (0, .ref ((b 0))), (1, .int p0), (2, .int p1)] → va_P D xCl (xWZ k b v11) H → va_D A (xWZ k b v11) → va_S A s.heap H locs → W p l e { frames := 8, cells := 0, slots := 0, locals := 217 } s m args below meth c H locs (0) (0) Q (F0 m 151 ls [.long v10]) := by
        intro H locs ls v10 v11 hv10 hv11 hl hP hD hS
        have hv := xlt_v hv10 hv
        have hv := xlt_v hv11 hv
        refine lv_lstore (lv' := [(5, .long v10), (3, .long (((Int32.toInt64 p0) &&& (4294967295 : Int64)))), (0, .ref ((b 0))), (1, .int p0), (2, .int p1)]) hx hb xd_Z_lead_151 hl (by decide) rfl (fun ls hl => ?_)
        refine lv_lload hx hb xd_Z_lead_153 (lv_at hl 0 rfl) ?_
        refine lv_lconst (v := 0) hx hb xd_Z_lead_155 (by decide) ?_
        refine W.lcmp hx hb xd_Z_lead_156 ?_
        obtain ⟨hva, hv⟩ := xan_v2 hv
        have hj18 : ∀ (H : Heap) (locs : List Loc) (ls : Array Slot) (v16 : Int64) (v17 : XZ), v16 = (if 0 ≤ (lg_cmp v10 (0 : Int64)) then (xlt (xf_Z_second v11 v10 (0 : Int32) : Int64 × XZ) fun q14 => q14.1) else ((-1))) → v17 = (if 0 ≤ (lg_cmp v10 (0 : Int64)) then (xlt (xf_Z_second v11 v10 (0 : Int32) : Int64 × XZ) fun q14 => q14.2) else (v11)) → lv_has ls 7 [(5, .long v10), (3, .long (((Int32.toInt64 p0) &&& (4294967295 : Int64)))), (0, .ref ((b 0))), (1, .int p0), (2, .int p1)] → va_P D xCl (xWZ k b v17) H → va_D A (xWZ k b v17) → va_S A s.heap H locs → W p l e { frames := 8, cells := 0, slots := 0, locals := 217 } s m args below meth c H locs (0) (0) Q (F0 m 173 ls [.long v16]) := by
          intro H locs ls v16 v17 hv16 hv17 hl hP hD hS
          have hv := xlt_v hv16 hv
          have hv := xlt_v hv17 hv
          exact hret _ v17 H locs ls _ (by unfold xf_Z_lead; exact (xit h1 (xif h2 (xlt_e hq3 (xlt_e hv10 (xlt_e hv11 (xlt_e hv16 (xlt_e hv17 rfl)))))))) hP hD hS xd_Z_lead_173
        have hv := hva
        refine lv_if_ge (tgt := 166) hx hb xd_Z_lead_157 rfl (fun h19 => ?_) (fun h19 => ?_)
        · have hv := xit_v h19 hv
          refine lv_aload_n hx hb xd_Z_lead_166 rfl (lv_at hl 2 rfl) ?_
          refine lv_lload hx hb xd_Z_lead_167 (lv_at hl 0 rfl) ?_
          refine lv_iconst (v := 0) hx hb xd_Z_lead_169 (by decide) ?_
          obtain ⟨hn21, hv⟩ := xan_v hv
          refine xcW_l (va_runV (As := [.long v10, .int 0]) (rest := []) ⟨hx, hb, hml, hown, htg⟩ (c_Z_second l D z k b H.size v11 v10 (0 : Int32) hn21) (cwV 2 htg (xg_V0 xkin_Z_second xw_949 xw_951 xsel_Z_second xw_9) rfl rfl rfl (by decide +kernel) ⟨Nat.le_of_ble_eq_true rfl, Nat.le_of_ble_eq_true rfl⟩) ⟨xB_blind, xrecv_Z hK hP, fun U hU hW => xB_mk hP hK hD hE hS (xsubW hD hA hS) hU hW⟩ rfl rfl hl.1 rfl (lv_room (Nat.le_of_ble_eq_true rfl)) xd_Z_lead_170 ⟨Nat.le_of_ble_eq_true rfl, Nat.le_of_ble_eq_true rfl⟩) hD hA hS (fun r u1 H locs hw hP hD hS => ?_)
          obtain ⟨q20, hq20⟩ : ∃ q, q = xf_Z_second v11 v10 (0 : Int32) := ⟨_, rfl⟩
          rw [← hq20] at hw
          obtain rfl : r = q20.1 := congrArg Prod.fst hw
          obtain rfl : u1 = q20.2 := congrArg Prod.snd hw
          have hP : va_P D xCl (xWZ k b q20.2) H := hP
          have hD : va_D A (xWZ k b q20.2) := hD
          have hv := xlt_v hq20 hv
          exact hj18 H locs ls q20.1 q20.2 (xit h19 (xlt_e hq20 rfl)) (xit h19 (xlt_e hq20 rfl)) hl hP hD hS
        · have hv := xif_v h19 hv
          refine lv_ldc2 (v := (-1)) hx hb hown (htg _ xw_937) xd_Z_lead_160 ?_
          refine lv_goto (tgt := 173) hx hb xd_Z_lead_163 rfl ?_
          exact hj18 H locs ls (-1 : Int64) v11 (xif h19 rfl) (xif h19 rfl) hl hP hD hS
      have hv := hva
      refine lv_if_eq (tgt := 150) hx hb xd_Z_lead_121 rfl (fun h22 => ?_) (fun h22 => ?_)
      · have hv := xit_v h22 hv
        refine lv_lload_n hx hb xd_Z_lead_150 rfl (lv_at hl 0 rfl) ?_
        exact hj12 H locs ls ((Int32.toInt64 p0) &&& (4294967295 : Int64)) (xs_Z_asGuest (xs_Z_address u p0) (xb (xz (xg_Z_virtual (xs_Z_address u p0))))) (xit h22 rfl) (xit h22 rfl) hl hP hD hS
      · have hv := xif_v h22 hv
        refine lv_aload_n hx hb xd_Z_lead_124 rfl (lv_at hl 1 rfl) ?_
        refine lv_iconst (v := 1) hx hb xd_Z_lead_125 (by decide) ?_
        refine lv_aload_n hx hb xd_Z_lead_126 rfl (lv_at hl 1 rfl) ?_
        refine lv_sipush (v := 640) hx hb xd_Z_lead_127 (by decide) ?_
        obtain ⟨hn24, hv⟩ := xan_v hv
        refine xcW_i (va_runV (As := [.int 640]) (rest := [.int 1, .ref ((b 0))]) ⟨hx, hb, hml, hown, htg⟩ (c_Z_value l D z k b H.size (xs_Z_asGuest (xs_Z_address u p0) (xb (xz (xg_Z_virtual (xs_Z_address u p0))))) (640 : Int32) hn24) (cwV 1 htg (xg_V0 xkin_Z_value xw_859 xw_861 xsel_Z_value xw_9) rfl rfl rfl (by decide +kernel) ⟨Nat.le_of_ble_eq_true rfl, Nat.le_of_ble_eq_true rfl⟩) ⟨xB_blind, xrecv_Z hK hP, fun U hU hW => xB_mk hP hK hD hE hS (xsubW hD hA hS) hU hW⟩ rfl rfl hl.1 rfl (lv_room (Nat.le_of_ble_eq_true rfl)) xd_Z_lead_130 ⟨Nat.le_of_ble_eq_true rfl, Nat.le_of_ble_eq_true rfl⟩) hD hA hS (fun r u1 H locs hw hP hD hS => ?_)
        obtain ⟨q23, hq23⟩ : ∃ q, q = xf_Z_value (xs_Z_asGuest (xs_Z_address u p0) (xb (xz (xg_Z_virtual (xs_Z_address u p0))))) (640 : Int32) := ⟨_, rfl⟩
        obtain ⟨e1, e2⟩ := hw
        rw [← hq23] at e1
        obtain rfl : q23 = r := e1.symm
        obtain rfl : (xs_Z_asGuest (xs_Z_address u p0) (xb (xz (xg_Z_virtual (xs_Z_address u p0))))) = u1 := e2.symm
        have hP : va_P D xCl (xWZ k b (xs_Z_asGuest (xs_Z_address u p0) (xb (xz (xg_Z_virtual (xs_Z_address u p0)))))) H := hP
        have hD : va_D A (xWZ k b (xs_Z_asGuest (xs_Z_address u p0) (xb (xz (xg_Z_virtual (xs_Z_address u p0)))))) := hD
        have hv := xlt_v hq23 hv
        refine lv_i2l (v := (Int32.toInt64 q23)) hx hb xd_Z_lead_133 rfl ?_
        refine lv_ldc2 (v := 4194303) hx hb hown (htg _ xw_938) xd_Z_lead_134 ?_
        refine lv_land hx hb xd_Z_lead_137 ?_
        refine lv_ldc2 (v := 4096) hx hb hown (htg _ xw_939) xd_Z_lead_138 ?_
        refine lv_lmul hx hb xd_Z_lead_141 ?_
        refine lv_lload_n hx hb xd_Z_lead_142 rfl (lv_at hl 0 rfl) ?_
        refine lv_iconst (v := 0) hx hb xd_Z_lead_143 (by decide) ?_
        obtain ⟨hn26, hv⟩ := xan_v hv
        refine xcW_l (va_runV (As := [.int 1, .long ((((Int32.toInt64 q23) &&& (4194303 : Int64)) * (4096 : Int64))), .long (((Int32.toInt64 p0) &&& (4294967295 : Int64))), .int 0]) (rest := []) ⟨hx, hb, hml, hown, htg⟩ (c_Z_walk_1 l D z k b H.size (xs_Z_asGuest (xs_Z_address u p0) (xb (xz (xg_Z_virtual (xs_Z_address u p0))))) (((Int32.toInt64 q23) &&& (4194303 : Int64)) * (4096 : Int64)) ((Int32.toInt64 p0) &&& (4294967295 : Int64)) (0 : Int32) hn26) (cwV 4 htg (xg_V0 xkin_Z_walk xw_940 xw_942 xsel_Z_walk xw_9) rfl rfl rfl (by decide +kernel) ⟨Nat.le_of_ble_eq_true rfl, Nat.le_of_ble_eq_true rfl⟩) ⟨xB_blind, xrecv_Z hK hP, fun U hU hW => xB_mk hP hK hD hE hS (xsubW hD hA hS) hU hW⟩ rfl rfl hl.1 rfl (lv_room (Nat.le_of_ble_eq_true rfl)) xd_Z_lead_144 ⟨Nat.le_of_ble_eq_true rfl, Nat.le_of_ble_eq_true rfl⟩) hD hA hS (fun r u1 H locs hw hP hD hS => ?_)
        obtain ⟨q25, hq25⟩ : ∃ q, q = xf_Z_walk_1 (xs_Z_asGuest (xs_Z_address u p0) (xb (xz (xg_Z_virtual (xs_Z_address u p0))))) (((Int32.toInt64 q23) &&& (4194303 : Int64)) * (4096 : Int64)) ((Int32.toInt64 p0) &&& (4294967295 : Int64)) (0 : Int32) := ⟨_, rfl⟩
        rw [← hq25] at hw
        obtain rfl : r = q25.1 := congrArg Prod.fst hw
        obtain rfl : u1 = q25.2 := congrArg Prod.snd hw
        have hP : va_P D xCl (xWZ k b q25.2) H := hP
        have hD : va_D A (xWZ k b q25.2) := hD
        have hv := xlt_v hq25 hv
        refine lv_goto (tgt := 151) hx hb xd_Z_lead_147 rfl ?_
        exact hj12 H locs ls q25.1 q25.2 (xif h22 (xlt_e hq23 (xlt_e hq25 rfl))) (xif h22 (xlt_e hq23 (xlt_e hq25 rfl))) hl hP hD hS
    · have hv := xit_v h2 hv
      refine lv_aload_n hx hb xd_Z_lead_68 rfl (lv_at hl 1 rfl) ?_
      refine lv_sipush (v := 384) hx hb xd_Z_lead_69 (by decide) ?_
      refine lv_bipush (v := 31) hx hb xd_Z_lead_72 (by decide) ?_
      obtain ⟨hn28, hv⟩ := xan_v hv
      refine xcW_i (va_runV (As := [.int 384, .int 31]) (rest := []) ⟨hx, hb, hml, hown, htg⟩ (c_Z_bit l D z k b H.size (xs_Z_asGuest (xs_Z_address u p0) (xb (xz (xg_Z_virtual (xs_Z_address u p0))))) (384 : Int32) (31 : Int32) hn28) (cwV 2 htg (xg_V0 xkin_Z_bit xw_867 xw_869 xsel_Z_bit xw_9) rfl rfl rfl (by decide +kernel) ⟨Nat.le_of_ble_eq_true rfl, Nat.le_of_ble_eq_true rfl⟩) ⟨xB_blind, xrecv_Z hK hP, fun U hU hW => xB_mk hP hK hD hE hS (xsubW hD hA hS) hU hW⟩ rfl rfl hl.1 rfl (lv_room (Nat.le_of_ble_eq_true rfl)) xd_Z_lead_74 ⟨Nat.le_of_ble_eq_true rfl, Nat.le_of_ble_eq_true rfl⟩) hD hA hS (fun r u1 H locs hw hP hD hS => ?_)
      obtain ⟨q27, hq27⟩ : ∃ q, q = xf_Z_bit (xs_Z_asGuest (xs_Z_address u p0) (xb (xz (xg_Z_virtual (xs_Z_address u p0))))) (384 : Int32) (31 : Int32) := ⟨_, rfl⟩
      obtain ⟨e1, e2⟩ := hw
      rw [← hq27] at e1
      obtain rfl : q27 = r := e1.symm
      obtain rfl : (xs_Z_asGuest (xs_Z_address u p0) (xb (xz (xg_Z_virtual (xs_Z_address u p0))))) = u1 := e2.symm
      have hP : va_P D xCl (xWZ k b (xs_Z_asGuest (xs_Z_address u p0) (xb (xz (xg_Z_virtual (xs_Z_address u p0)))))) H := hP
      have hD : va_D A (xWZ k b (xs_Z_asGuest (xs_Z_address u p0) (xb (xz (xg_Z_virtual (xs_Z_address u p0)))))) := hD
      have hv := xlt_v hq27 hv
      obtain ⟨hva, hv⟩ := xan_v2 hv
      have hj38 : ∀ (H : Heap) (locs : List Loc) (ls : Array Slot) (v36 : Int64) (v37 : XZ), v36 = (if q27 = 0 then (xlt (xf_Z_inMemory (xs_Z_asGuest (xs_Z_address u p0) (xb (xz (xg_Z_virtual (xs_Z_address u p0))))) ((Int32.toInt64 p0) &&& (4294967295 : Int64)) : Int64 × XZ) fun q30 => q30.1) else (xlt (xf_Z_value (xs_Z_asGuest (xs_Z_address u p0) (xb (xz (xg_Z_virtual (xs_Z_address u p0))))) (384 : Int32) : Int32) fun q32 => xlt (xf_Z_walk_0 (xs_Z_asGuest (xs_Z_address u p0) (xb (xz (xg_Z_virtual (xs_Z_address u p0))))) (((Int32.toInt64 q32) &&& (4194303 : Int64)) * (4096 : Int64)) ((Int32.toInt64 p0) &&& (4294967295 : Int64)) (0 : Int32) : Int64 × XZ) fun q34 => q34.1)) → v37 = (if q27 = 0 then (xlt (xf_Z_inMemory (xs_Z_asGuest (xs_Z_address u p0) (xb (xz (xg_Z_virtual (xs_Z_address u p0))))) ((Int32.toInt64 p0) &&& (4294967295 : Int64)) : Int64 × XZ) fun q30 => q30.2) else (xlt (xf_Z_value (xs_Z_asGuest (xs_Z_address u p0) (xb (xz (xg_Z_virtual (xs_Z_address u p0))))) (384 : Int32) : Int32) fun q32 => xlt (xf_Z_walk_0 (xs_Z_asGuest (xs_Z_address u p0) (xb (xz (xg_Z_virtual (xs_Z_address u p0))))) (((Int32.toInt64 q32) &&& (4194303 : Int64)) * (4096 : Int64)) ((Int32.toInt64 p0) &&& (4294967295 : Int64)) (0 : Int32) : Int64 × XZ) fun q34 => q34.2)) → lv_has ls 7 [(3, .long (((Int32.toInt64 p0) &&& (4294967295 : Int64)))), (0, .ref ((b 0))), (1, .int p0), (2, .int p1)] → va_P D xCl (xWZ k b v37) H → va_D A (xWZ k b v37) → va_S A s.heap H locs → W p l e { frames := 8, cells := 0, slots := 0, locals := 217 } s m args below meth c H locs (0) (0) Q (F0 m 111 ls [.long v36]) := by
        intro H locs ls v36 v37 hv36 hv37 hl hP hD hS
        have hv := xlt_v hv36 hv
        have hv := xlt_v hv37 hv
        exact hret _ v37 H locs ls _ (by unfold xf_Z_lead; exact (xit h1 (xit h2 (xlt_e hq27 (xlt_e hv36 (xlt_e hv37 rfl)))))) hP hD hS xd_Z_lead_111
      have hv := hva
      refine lv_if_eq (tgt := 106) hx hb xd_Z_lead_77 rfl (fun h39 => ?_) (fun h39 => ?_)
      · have hv := xit_v h39 hv
        refine lv_aload_n hx hb xd_Z_lead_106 rfl (lv_at hl 1 rfl) ?_
        refine lv_lload_n hx hb xd_Z_lead_107 rfl (lv_at hl 0 rfl) ?_
        obtain ⟨hn41, hv⟩ := xan_v hv
        refine xcW_l (va_runV (As := [.long (((Int32.toInt64 p0) &&& (4294967295 : Int64)))]) (rest := []) ⟨hx, hb, hml, hown, htg⟩ (c_Z_inMemory l D z k b H.size (xs_Z_asGuest (xs_Z_address u p0) (xb (xz (xg_Z_virtual (xs_Z_address u p0))))) ((Int32.toInt64 p0) &&& (4294967295 : Int64)) hn41) (cwV 1 htg (xg_V0 xkin_Z_inMemory xw_954 xw_956 xsel_Z_inMemory xw_9) rfl rfl rfl (by decide +kernel) ⟨Nat.le_of_ble_eq_true rfl, Nat.le_of_ble_eq_true rfl⟩) ⟨xB_blind, xrecv_Z hK hP, fun U hU hW => xB_mk hP hK hD hE hS (xsubW hD hA hS) hU hW⟩ rfl rfl hl.1 rfl (lv_room (Nat.le_of_ble_eq_true rfl)) xd_Z_lead_108 ⟨Nat.le_of_ble_eq_true rfl, Nat.le_of_ble_eq_true rfl⟩) hD hA hS (fun r u1 H locs hw hP hD hS => ?_)
        obtain ⟨q40, hq40⟩ : ∃ q, q = xf_Z_inMemory (xs_Z_asGuest (xs_Z_address u p0) (xb (xz (xg_Z_virtual (xs_Z_address u p0))))) ((Int32.toInt64 p0) &&& (4294967295 : Int64)) := ⟨_, rfl⟩
        rw [← hq40] at hw
        obtain rfl : r = q40.1 := congrArg Prod.fst hw
        obtain rfl : u1 = q40.2 := congrArg Prod.snd hw
        have hP : va_P D xCl (xWZ k b q40.2) H := hP
        have hD : va_D A (xWZ k b q40.2) := hD
        have hv := xlt_v hq40 hv
        exact hj38 H locs ls q40.1 q40.2 (xit h39 (xlt_e hq40 rfl)) (xit h39 (xlt_e hq40 rfl)) hl hP hD hS
      · have hv := xif_v h39 hv
        refine lv_aload_n hx hb xd_Z_lead_80 rfl (lv_at hl 1 rfl) ?_
        refine lv_iconst (v := 0) hx hb xd_Z_lead_81 (by decide) ?_
        refine lv_aload_n hx hb xd_Z_lead_82 rfl (lv_at hl 1 rfl) ?_
        refine lv_sipush (v := 384) hx hb xd_Z_lead_83 (by decide) ?_
        obtain ⟨hn43, hv⟩ := xan_v hv
        refine xcW_i (va_runV (As := [.int 384]) (rest := [.int 0, .ref ((b 0))]) ⟨hx, hb, hml, hown, htg⟩ (c_Z_value l D z k b H.size (xs_Z_asGuest (xs_Z_address u p0) (xb (xz (xg_Z_virtual (xs_Z_address u p0))))) (384 : Int32) hn43) (cwV 1 htg (xg_V0 xkin_Z_value xw_859 xw_861 xsel_Z_value xw_9) rfl rfl rfl (by decide +kernel) ⟨Nat.le_of_ble_eq_true rfl, Nat.le_of_ble_eq_true rfl⟩) ⟨xB_blind, xrecv_Z hK hP, fun U hU hW => xB_mk hP hK hD hE hS (xsubW hD hA hS) hU hW⟩ rfl rfl hl.1 rfl (lv_room (Nat.le_of_ble_eq_true rfl)) xd_Z_lead_86 ⟨Nat.le_of_ble_eq_true rfl, Nat.le_of_ble_eq_true rfl⟩) hD hA hS (fun r u1 H locs hw hP hD hS => ?_)
        obtain ⟨q42, hq42⟩ : ∃ q, q = xf_Z_value (xs_Z_asGuest (xs_Z_address u p0) (xb (xz (xg_Z_virtual (xs_Z_address u p0))))) (384 : Int32) := ⟨_, rfl⟩
        obtain ⟨e1, e2⟩ := hw
        rw [← hq42] at e1
        obtain rfl : q42 = r := e1.symm
        obtain rfl : (xs_Z_asGuest (xs_Z_address u p0) (xb (xz (xg_Z_virtual (xs_Z_address u p0))))) = u1 := e2.symm
        have hP : va_P D xCl (xWZ k b (xs_Z_asGuest (xs_Z_address u p0) (xb (xz (xg_Z_virtual (xs_Z_address u p0)))))) H := hP
        have hD : va_D A (xWZ k b (xs_Z_asGuest (xs_Z_address u p0) (xb (xz (xg_Z_virtual (xs_Z_address u p0)))))) := hD
        have hv := xlt_v hq42 hv
        refine lv_i2l (v := (Int32.toInt64 q42)) hx hb xd_Z_lead_89 rfl ?_
        refine lv_ldc2 (v := 4194303) hx hb hown (htg _ xw_938) xd_Z_lead_90 ?_
        refine lv_land hx hb xd_Z_lead_93 ?_
        refine lv_ldc2 (v := 4096) hx hb hown (htg _ xw_939) xd_Z_lead_94 ?_
        refine lv_lmul hx hb xd_Z_lead_97 ?_
        refine lv_lload_n hx hb xd_Z_lead_98 rfl (lv_at hl 0 rfl) ?_
        refine lv_iconst (v := 0) hx hb xd_Z_lead_99 (by decide) ?_
        obtain ⟨hn45, hv⟩ := xan_v hv
        refine xcW_l (va_runV (As := [.int 0, .long ((((Int32.toInt64 q42) &&& (4194303 : Int64)) * (4096 : Int64))), .long (((Int32.toInt64 p0) &&& (4294967295 : Int64))), .int 0]) (rest := []) ⟨hx, hb, hml, hown, htg⟩ (c_Z_walk_0 l D z k b H.size (xs_Z_asGuest (xs_Z_address u p0) (xb (xz (xg_Z_virtual (xs_Z_address u p0))))) (((Int32.toInt64 q42) &&& (4194303 : Int64)) * (4096 : Int64)) ((Int32.toInt64 p0) &&& (4294967295 : Int64)) (0 : Int32) hn45) (cwV 4 htg (xg_V0 xkin_Z_walk xw_940 xw_942 xsel_Z_walk xw_9) rfl rfl rfl (by decide +kernel) ⟨Nat.le_of_ble_eq_true rfl, Nat.le_of_ble_eq_true rfl⟩) ⟨xB_blind, xrecv_Z hK hP, fun U hU hW => xB_mk hP hK hD hE hS (xsubW hD hA hS) hU hW⟩ rfl rfl hl.1 rfl (lv_room (Nat.le_of_ble_eq_true rfl)) xd_Z_lead_100 ⟨Nat.le_of_ble_eq_true rfl, Nat.le_of_ble_eq_true rfl⟩) hD hA hS (fun r u1 H locs hw hP hD hS => ?_)
        obtain ⟨q44, hq44⟩ : ∃ q, q = xf_Z_walk_0 (xs_Z_asGuest (xs_Z_address u p0) (xb (xz (xg_Z_virtual (xs_Z_address u p0))))) (((Int32.toInt64 q42) &&& (4194303 : Int64)) * (4096 : Int64)) ((Int32.toInt64 p0) &&& (4294967295 : Int64)) (0 : Int32) := ⟨_, rfl⟩
        rw [← hq44] at hw
        obtain rfl : r = q44.1 := congrArg Prod.fst hw
        obtain rfl : u1 = q44.2 := congrArg Prod.snd hw
        have hP : va_P D xCl (xWZ k b q44.2) H := hP
        have hD : va_D A (xWZ k b q44.2) := hD
        have hv := xlt_v hq44 hv
        refine lv_goto (tgt := 111) hx hb xd_Z_lead_103 rfl ?_
        exact hj38 H locs ls q44.1 q44.2 (xif h39 (xlt_e hq42 (xlt_e hq44 rfl))) (xif h39 (xlt_e hq42 (xlt_e hq44 rfl))) hl hP hD hS
  · have hv := xif_v h1 hv
    refine lv_iload_n hx hb xd_Z_lead_20 rfl (lv_at hl 1 rfl) ?_
    refine lv_iload_n hx hb xd_Z_lead_21 rfl (lv_at hl 2 rfl) ?_
    obtain ⟨hn46, hv⟩ := xan_v hv
    refine lv_irem hx hb xd_Z_lead_22 hn46 ?_
    refine lv_if_eq (tgt := 54) hx hb xd_Z_lead_23 rfl (fun h47 => ?_) (fun h47 => ?_)
    · have hv := xit_v h47 hv
      refine lv_iload_n hx hb xd_Z_lead_54 rfl (lv_at hl 1 rfl) ?_
      refine lv_i2l (v := (Int32.toInt64 p0)) hx hb xd_Z_lead_55 rfl ?_
      refine lv_ldc2 (v := 4294967295) hx hb hown (htg _ xw_887) xd_Z_lead_56 ?_
      refine lv_land hx hb xd_Z_lead_59 ?_
      refine lv_lstore_n (lv' := [(3, .long (((Int32.toInt64 p0) &&& (4294967295 : Int64)))), (0, .ref ((b 0))), (1, .int p0), (2, .int p1)]) hx hb xd_Z_lead_60 rfl hl (by decide) rfl (fun ls hl => ?_)
      refine lv_aload_n hx hb xd_Z_lead_61 rfl (lv_at hl 1 rfl) ?_
      refine xget_Z_virtual (v := (xg_Z_virtual (xs_Z_asGuest (xs_Z_address u p0) (xb (xz (xg_Z_virtual (xs_Z_address u p0))))))) hx hb htg hown hK hP (htg _ xw_748) rfl xd_Z_lead_62 ?_
      refine lv_if_ne (tgt := 112) hx hb xd_Z_lead_65 rfl (fun h48 => ?_) (fun h48 => ?_)
      · have hv := xif_v h48 hv
        refine lv_aload_n hx hb xd_Z_lead_112 rfl (lv_at hl 1 rfl) ?_
        refine lv_sipush (v := 640) hx hb xd_Z_lead_113 (by decide) ?_
        refine lv_bipush (v := 31) hx hb xd_Z_lead_116 (by decide) ?_
        obtain ⟨hn50, hv⟩ := xan_v hv
        refine xcW_i (va_runV (As := [.int 640, .int 31]) (rest := []) ⟨hx, hb, hml, hown, htg⟩ (c_Z_bit l D z k b H.size (xs_Z_asGuest (xs_Z_address u p0) (xb (xz (xg_Z_virtual (xs_Z_address u p0))))) (640 : Int32) (31 : Int32) hn50) (cwV 2 htg (xg_V0 xkin_Z_bit xw_867 xw_869 xsel_Z_bit xw_9) rfl rfl rfl (by decide +kernel) ⟨Nat.le_of_ble_eq_true rfl, Nat.le_of_ble_eq_true rfl⟩) ⟨xB_blind, xrecv_Z hK hP, fun U hU hW => xB_mk hP hK hD hE hS (xsubW hD hA hS) hU hW⟩ rfl rfl hl.1 rfl (lv_room (Nat.le_of_ble_eq_true rfl)) xd_Z_lead_118 ⟨Nat.le_of_ble_eq_true rfl, Nat.le_of_ble_eq_true rfl⟩) hD hA hS (fun r u1 H locs hw hP hD hS => ?_)
        obtain ⟨q49, hq49⟩ : ∃ q, q = xf_Z_bit (xs_Z_asGuest (xs_Z_address u p0) (xb (xz (xg_Z_virtual (xs_Z_address u p0))))) (640 : Int32) (31 : Int32) := ⟨_, rfl⟩
        obtain ⟨e1, e2⟩ := hw
        rw [← hq49] at e1
        obtain rfl : q49 = r := e1.symm
        obtain rfl : (xs_Z_asGuest (xs_Z_address u p0) (xb (xz (xg_Z_virtual (xs_Z_address u p0))))) = u1 := e2.symm
        have hP : va_P D xCl (xWZ k b (xs_Z_asGuest (xs_Z_address u p0) (xb (xz (xg_Z_virtual (xs_Z_address u p0)))))) H := hP
        have hD : va_D A (xWZ k b (xs_Z_asGuest (xs_Z_address u p0) (xb (xz (xg_Z_virtual (xs_Z_address u p0)))))) := hD
        have hv := xlt_v hq49 hv
        obtain ⟨hva, hv⟩ := xan_v2 hv
        have hj58 : ∀ (H : Heap) (locs : List Loc) (ls : Array Slot) (v56 : Int64) (v57 : XZ), v56 = (if q49 = 0 then (((Int32.toInt64 p0) &&& (4294967295 : Int64))) else (xlt (xf_Z_value (xs_Z_asGuest (xs_Z_address u p0) (xb (xz (xg_Z_virtual (xs_Z_address u p0))))) (640 : Int32) : Int32) fun q52 => xlt (xf_Z_walk_1 (xs_Z_asGuest (xs_Z_address u p0) (xb (xz (xg_Z_virtual (xs_Z_address u p0))))) (((Int32.toInt64 q52) &&& (4194303 : Int64)) * (4096 : Int64)) ((Int32.toInt64 p0) &&& (4294967295 : Int64)) (0 : Int32) : Int64 × XZ) fun q54 => q54.1)) → v57 = (if q49 = 0 then ((xs_Z_asGuest (xs_Z_address u p0) (xb (xz (xg_Z_virtual (xs_Z_address u p0)))))) else (xlt (xf_Z_value (xs_Z_asGuest (xs_Z_address u p0) (xb (xz (xg_Z_virtual (xs_Z_address u p0))))) (640 : Int32) : Int32) fun q52 => xlt (xf_Z_walk_1 (xs_Z_asGuest (xs_Z_address u p0) (xb (xz (xg_Z_virtual (xs_Z_address u p0))))) (((Int32.toInt64 q52) &&& (4194303 : Int64)) * (4096 : Int64)) ((Int32.toInt64 p0) &&& (4294967295 : Int64)) (0 : Int32) : Int64 × XZ) fun q54 => q54.2)) → lv_has ls 7 [(3, .long (((Int32.toInt64 p0) &&& (4294967295 : Int64)))), (0, .ref ((b 0))), (1, .int p0), (2, .int p1)] → va_P D xCl (xWZ k b v57) H → va_D A (xWZ k b v57) → va_S A s.heap H locs → W p l e { frames := 8, cells := 0, slots := 0, locals := 217 } s m args below meth c H locs (0) (0) Q (F0 m 151 ls [.long v56]) := by
          intro H locs ls v56 v57 hv56 hv57 hl hP hD hS
          have hv := xlt_v hv56 hv
          have hv := xlt_v hv57 hv
          refine lv_lstore (lv' := [(5, .long v56), (3, .long (((Int32.toInt64 p0) &&& (4294967295 : Int64)))), (0, .ref ((b 0))), (1, .int p0), (2, .int p1)]) hx hb xd_Z_lead_151 hl (by decide) rfl (fun ls hl => ?_)
          refine lv_lload hx hb xd_Z_lead_153 (lv_at hl 0 rfl) ?_
          refine lv_lconst (v := 0) hx hb xd_Z_lead_155 (by decide) ?_
          refine W.lcmp hx hb xd_Z_lead_156 ?_
          obtain ⟨hva, hv⟩ := xan_v2 hv
          have hj64 : ∀ (H : Heap) (locs : List Loc) (ls : Array Slot) (v62 : Int64) (v63 : XZ), v62 = (if 0 ≤ (lg_cmp v56 (0 : Int64)) then (xlt (xf_Z_second v57 v56 (0 : Int32) : Int64 × XZ) fun q60 => q60.1) else ((-1))) → v63 = (if 0 ≤ (lg_cmp v56 (0 : Int64)) then (xlt (xf_Z_second v57 v56 (0 : Int32) : Int64 × XZ) fun q60 => q60.2) else (v57)) → lv_has ls 7 [(5, .long v56), (3, .long (((Int32.toInt64 p0) &&& (4294967295 : Int64)))), (0, .ref ((b 0))), (1, .int p0), (2, .int p1)] → va_P D xCl (xWZ k b v63) H → va_D A (xWZ k b v63) → va_S A s.heap H locs → W p l e { frames := 8, cells := 0, slots := 0, locals := 217 } s m args below meth c H locs (0) (0) Q (F0 m 173 ls [.long v62]) := by
            intro H locs ls v62 v63 hv62 hv63 hl hP hD hS
            have hv := xlt_v hv62 hv
            have hv := xlt_v hv63 hv
            exact hret _ v63 H locs ls _ (by unfold xf_Z_lead; exact (xif h1 (xit h47 (xif h48 (xlt_e hq49 (xlt_e hv56 (xlt_e hv57 (xlt_e hv62 (xlt_e hv63 rfl))))))))) hP hD hS xd_Z_lead_173
          have hv := hva
          refine lv_if_ge (tgt := 166) hx hb xd_Z_lead_157 rfl (fun h65 => ?_) (fun h65 => ?_)
          · have hv := xit_v h65 hv
            refine lv_aload_n hx hb xd_Z_lead_166 rfl (lv_at hl 2 rfl) ?_
            refine lv_lload hx hb xd_Z_lead_167 (lv_at hl 0 rfl) ?_
            refine lv_iconst (v := 0) hx hb xd_Z_lead_169 (by decide) ?_
            obtain ⟨hn67, hv⟩ := xan_v hv
            refine xcW_l (va_runV (As := [.long v56, .int 0]) (rest := []) ⟨hx, hb, hml, hown, htg⟩ (c_Z_second l D z k b H.size v57 v56 (0 : Int32) hn67) (cwV 2 htg (xg_V0 xkin_Z_second xw_949 xw_951 xsel_Z_second xw_9) rfl rfl rfl (by decide +kernel) ⟨Nat.le_of_ble_eq_true rfl, Nat.le_of_ble_eq_true rfl⟩) ⟨xB_blind, xrecv_Z hK hP, fun U hU hW => xB_mk hP hK hD hE hS (xsubW hD hA hS) hU hW⟩ rfl rfl hl.1 rfl (lv_room (Nat.le_of_ble_eq_true rfl)) xd_Z_lead_170 ⟨Nat.le_of_ble_eq_true rfl, Nat.le_of_ble_eq_true rfl⟩) hD hA hS (fun r u1 H locs hw hP hD hS => ?_)
            obtain ⟨q66, hq66⟩ : ∃ q, q = xf_Z_second v57 v56 (0 : Int32) := ⟨_, rfl⟩
            rw [← hq66] at hw
            obtain rfl : r = q66.1 := congrArg Prod.fst hw
            obtain rfl : u1 = q66.2 := congrArg Prod.snd hw
            have hP : va_P D xCl (xWZ k b q66.2) H := hP
            have hD : va_D A (xWZ k b q66.2) := hD
            have hv := xlt_v hq66 hv
            exact hj64 H locs ls q66.1 q66.2 (xit h65 (xlt_e hq66 rfl)) (xit h65 (xlt_e hq66 rfl)) hl hP hD hS
          · have hv := xif_v h65 hv
            refine lv_ldc2 (v := (-1)) hx hb hown (htg _ xw_937) xd_Z_lead_160 ?_
            refine lv_goto (tgt := 173) hx hb xd_Z_lead_163 rfl ?_
            exact hj64 H locs ls (-1 : Int64) v57 (xif h65 rfl) (xif h65 rfl) hl hP hD hS
        have hv := hva
        refine lv_if_eq (tgt := 150) hx hb xd_Z_lead_121 rfl (fun h68 => ?_) (fun h68 => ?_)
        · have hv := xit_v h68 hv
          refine lv_lload_n hx hb xd_Z_lead_150 rfl (lv_at hl 0 rfl) ?_
          exact hj58 H locs ls ((Int32.toInt64 p0) &&& (4294967295 : Int64)) (xs_Z_asGuest (xs_Z_address u p0) (xb (xz (xg_Z_virtual (xs_Z_address u p0))))) (xit h68 rfl) (xit h68 rfl) hl hP hD hS
        · have hv := xif_v h68 hv
          refine lv_aload_n hx hb xd_Z_lead_124 rfl (lv_at hl 1 rfl) ?_
          refine lv_iconst (v := 1) hx hb xd_Z_lead_125 (by decide) ?_
          refine lv_aload_n hx hb xd_Z_lead_126 rfl (lv_at hl 1 rfl) ?_
          refine lv_sipush (v := 640) hx hb xd_Z_lead_127 (by decide) ?_
          obtain ⟨hn70, hv⟩ := xan_v hv
          refine xcW_i (va_runV (As := [.int 640]) (rest := [.int 1, .ref ((b 0))]) ⟨hx, hb, hml, hown, htg⟩ (c_Z_value l D z k b H.size (xs_Z_asGuest (xs_Z_address u p0) (xb (xz (xg_Z_virtual (xs_Z_address u p0))))) (640 : Int32) hn70) (cwV 1 htg (xg_V0 xkin_Z_value xw_859 xw_861 xsel_Z_value xw_9) rfl rfl rfl (by decide +kernel) ⟨Nat.le_of_ble_eq_true rfl, Nat.le_of_ble_eq_true rfl⟩) ⟨xB_blind, xrecv_Z hK hP, fun U hU hW => xB_mk hP hK hD hE hS (xsubW hD hA hS) hU hW⟩ rfl rfl hl.1 rfl (lv_room (Nat.le_of_ble_eq_true rfl)) xd_Z_lead_130 ⟨Nat.le_of_ble_eq_true rfl, Nat.le_of_ble_eq_true rfl⟩) hD hA hS (fun r u1 H locs hw hP hD hS => ?_)
          obtain ⟨q69, hq69⟩ : ∃ q, q = xf_Z_value (xs_Z_asGuest (xs_Z_address u p0) (xb (xz (xg_Z_virtual (xs_Z_address u p0))))) (640 : Int32) := ⟨_, rfl⟩
          obtain ⟨e1, e2⟩ := hw
          rw [← hq69] at e1
          obtain rfl : q69 = r := e1.symm
          obtain rfl : (xs_Z_asGuest (xs_Z_address u p0) (xb (xz (xg_Z_virtual (xs_Z_address u p0))))) = u1 := e2.symm
          have hP : va_P D xCl (xWZ k b (xs_Z_asGuest (xs_Z_address u p0) (xb (xz (xg_Z_virtual (xs_Z_address u p0)))))) H := hP
          have hD : va_D A (xWZ k b (xs_Z_asGuest (xs_Z_address u p0) (xb (xz (xg_Z_virtual (xs_Z_address u p0)))))) := hD
          have hv := xlt_v hq69 hv
          refine lv_i2l (v := (Int32.toInt64 q69)) hx hb xd_Z_lead_133 rfl ?_
          refine lv_ldc2 (v := 4194303) hx hb hown (htg _ xw_938) xd_Z_lead_134 ?_
          refine lv_land hx hb xd_Z_lead_137 ?_
          refine lv_ldc2 (v := 4096) hx hb hown (htg _ xw_939) xd_Z_lead_138 ?_
          refine lv_lmul hx hb xd_Z_lead_141 ?_
          refine lv_lload_n hx hb xd_Z_lead_142 rfl (lv_at hl 0 rfl) ?_
          refine lv_iconst (v := 0) hx hb xd_Z_lead_143 (by decide) ?_
          obtain ⟨hn72, hv⟩ := xan_v hv
          refine xcW_l (va_runV (As := [.int 1, .long ((((Int32.toInt64 q69) &&& (4194303 : Int64)) * (4096 : Int64))), .long (((Int32.toInt64 p0) &&& (4294967295 : Int64))), .int 0]) (rest := []) ⟨hx, hb, hml, hown, htg⟩ (c_Z_walk_1 l D z k b H.size (xs_Z_asGuest (xs_Z_address u p0) (xb (xz (xg_Z_virtual (xs_Z_address u p0))))) (((Int32.toInt64 q69) &&& (4194303 : Int64)) * (4096 : Int64)) ((Int32.toInt64 p0) &&& (4294967295 : Int64)) (0 : Int32) hn72) (cwV 4 htg (xg_V0 xkin_Z_walk xw_940 xw_942 xsel_Z_walk xw_9) rfl rfl rfl (by decide +kernel) ⟨Nat.le_of_ble_eq_true rfl, Nat.le_of_ble_eq_true rfl⟩) ⟨xB_blind, xrecv_Z hK hP, fun U hU hW => xB_mk hP hK hD hE hS (xsubW hD hA hS) hU hW⟩ rfl rfl hl.1 rfl (lv_room (Nat.le_of_ble_eq_true rfl)) xd_Z_lead_144 ⟨Nat.le_of_ble_eq_true rfl, Nat.le_of_ble_eq_true rfl⟩) hD hA hS (fun r u1 H locs hw hP hD hS => ?_)
          obtain ⟨q71, hq71⟩ : ∃ q, q = xf_Z_walk_1 (xs_Z_asGuest (xs_Z_address u p0) (xb (xz (xg_Z_virtual (xs_Z_address u p0))))) (((Int32.toInt64 q69) &&& (4194303 : Int64)) * (4096 : Int64)) ((Int32.toInt64 p0) &&& (4294967295 : Int64)) (0 : Int32) := ⟨_, rfl⟩
          rw [← hq71] at hw
          obtain rfl : r = q71.1 := congrArg Prod.fst hw
          obtain rfl : u1 = q71.2 := congrArg Prod.snd hw
          have hP : va_P D xCl (xWZ k b q71.2) H := hP
          have hD : va_D A (xWZ k b q71.2) := hD
          have hv := xlt_v hq71 hv
          refine lv_goto (tgt := 151) hx hb xd_Z_lead_147 rfl ?_
          exact hj58 H locs ls q71.1 q71.2 (xif h68 (xlt_e hq69 (xlt_e hq71 rfl))) (xif h68 (xlt_e hq69 (xlt_e hq71 rfl))) hl hP hD hS
      · have hv := xit_v h48 hv
        refine lv_aload_n hx hb xd_Z_lead_68 rfl (lv_at hl 1 rfl) ?_
        refine lv_sipush (v := 384) hx hb xd_Z_lead_69 (by decide) ?_
        refine lv_bipush (v := 31) hx hb xd_Z_lead_72 (by decide) ?_
        obtain ⟨hn74, hv⟩ := xan_v hv
        refine xcW_i (va_runV (As := [.int 384, .int 31]) (rest := []) ⟨hx, hb, hml, hown, htg⟩ (c_Z_bit l D z k b H.size (xs_Z_asGuest (xs_Z_address u p0) (xb (xz (xg_Z_virtual (xs_Z_address u p0))))) (384 : Int32) (31 : Int32) hn74) (cwV 2 htg (xg_V0 xkin_Z_bit xw_867 xw_869 xsel_Z_bit xw_9) rfl rfl rfl (by decide +kernel) ⟨Nat.le_of_ble_eq_true rfl, Nat.le_of_ble_eq_true rfl⟩) ⟨xB_blind, xrecv_Z hK hP, fun U hU hW => xB_mk hP hK hD hE hS (xsubW hD hA hS) hU hW⟩ rfl rfl hl.1 rfl (lv_room (Nat.le_of_ble_eq_true rfl)) xd_Z_lead_74 ⟨Nat.le_of_ble_eq_true rfl, Nat.le_of_ble_eq_true rfl⟩) hD hA hS (fun r u1 H locs hw hP hD hS => ?_)
        obtain ⟨q73, hq73⟩ : ∃ q, q = xf_Z_bit (xs_Z_asGuest (xs_Z_address u p0) (xb (xz (xg_Z_virtual (xs_Z_address u p0))))) (384 : Int32) (31 : Int32) := ⟨_, rfl⟩
        obtain ⟨e1, e2⟩ := hw
        rw [← hq73] at e1
        obtain rfl : q73 = r := e1.symm
        obtain rfl : (xs_Z_asGuest (xs_Z_address u p0) (xb (xz (xg_Z_virtual (xs_Z_address u p0))))) = u1 := e2.symm
        have hP : va_P D xCl (xWZ k b (xs_Z_asGuest (xs_Z_address u p0) (xb (xz (xg_Z_virtual (xs_Z_address u p0)))))) H := hP
        have hD : va_D A (xWZ k b (xs_Z_asGuest (xs_Z_address u p0) (xb (xz (xg_Z_virtual (xs_Z_address u p0)))))) := hD
        have hv := xlt_v hq73 hv
        obtain ⟨hva, hv⟩ := xan_v2 hv
        have hj84 : ∀ (H : Heap) (locs : List Loc) (ls : Array Slot) (v82 : Int64) (v83 : XZ), v82 = (if q73 = 0 then (xlt (xf_Z_inMemory (xs_Z_asGuest (xs_Z_address u p0) (xb (xz (xg_Z_virtual (xs_Z_address u p0))))) ((Int32.toInt64 p0) &&& (4294967295 : Int64)) : Int64 × XZ) fun q76 => q76.1) else (xlt (xf_Z_value (xs_Z_asGuest (xs_Z_address u p0) (xb (xz (xg_Z_virtual (xs_Z_address u p0))))) (384 : Int32) : Int32) fun q78 => xlt (xf_Z_walk_0 (xs_Z_asGuest (xs_Z_address u p0) (xb (xz (xg_Z_virtual (xs_Z_address u p0))))) (((Int32.toInt64 q78) &&& (4194303 : Int64)) * (4096 : Int64)) ((Int32.toInt64 p0) &&& (4294967295 : Int64)) (0 : Int32) : Int64 × XZ) fun q80 => q80.1)) → v83 = (if q73 = 0 then (xlt (xf_Z_inMemory (xs_Z_asGuest (xs_Z_address u p0) (xb (xz (xg_Z_virtual (xs_Z_address u p0))))) ((Int32.toInt64 p0) &&& (4294967295 : Int64)) : Int64 × XZ) fun q76 => q76.2) else (xlt (xf_Z_value (xs_Z_asGuest (xs_Z_address u p0) (xb (xz (xg_Z_virtual (xs_Z_address u p0))))) (384 : Int32) : Int32) fun q78 => xlt (xf_Z_walk_0 (xs_Z_asGuest (xs_Z_address u p0) (xb (xz (xg_Z_virtual (xs_Z_address u p0))))) (((Int32.toInt64 q78) &&& (4194303 : Int64)) * (4096 : Int64)) ((Int32.toInt64 p0) &&& (4294967295 : Int64)) (0 : Int32) : Int64 × XZ) fun q80 => q80.2)) → lv_has ls 7 [(3, .long (((Int32.toInt64 p0) &&& (4294967295 : Int64)))), (0, .ref ((b 0))), (1, .int p0), (2, .int p1)] → va_P D xCl (xWZ k b v83) H → va_D A (xWZ k b v83) → va_S A s.heap H locs → W p l e { frames := 8, cells := 0, slots := 0, locals := 217 } s m args below meth c H locs (0) (0) Q (F0 m 111 ls [.long v82]) := by
          intro H locs ls v82 v83 hv82 hv83 hl hP hD hS
          have hv := xlt_v hv82 hv
          have hv := xlt_v hv83 hv
          exact hret _ v83 H locs ls _ (by unfold xf_Z_lead; exact (xif h1 (xit h47 (xit h48 (xlt_e hq73 (xlt_e hv82 (xlt_e hv83 rfl))))))) hP hD hS xd_Z_lead_111
        have hv := hva
        refine lv_if_eq (tgt := 106) hx hb xd_Z_lead_77 rfl (fun h85 => ?_) (fun h85 => ?_)
        · have hv := xit_v h85 hv
          refine lv_aload_n hx hb xd_Z_lead_106 rfl (lv_at hl 1 rfl) ?_
          refine lv_lload_n hx hb xd_Z_lead_107 rfl (lv_at hl 0 rfl) ?_
          obtain ⟨hn87, hv⟩ := xan_v hv
          refine xcW_l (va_runV (As := [.long (((Int32.toInt64 p0) &&& (4294967295 : Int64)))]) (rest := []) ⟨hx, hb, hml, hown, htg⟩ (c_Z_inMemory l D z k b H.size (xs_Z_asGuest (xs_Z_address u p0) (xb (xz (xg_Z_virtual (xs_Z_address u p0))))) ((Int32.toInt64 p0) &&& (4294967295 : Int64)) hn87) (cwV 1 htg (xg_V0 xkin_Z_inMemory xw_954 xw_956 xsel_Z_inMemory xw_9) rfl rfl rfl (by decide +kernel) ⟨Nat.le_of_ble_eq_true rfl, Nat.le_of_ble_eq_true rfl⟩) ⟨xB_blind, xrecv_Z hK hP, fun U hU hW => xB_mk hP hK hD hE hS (xsubW hD hA hS) hU hW⟩ rfl rfl hl.1 rfl (lv_room (Nat.le_of_ble_eq_true rfl)) xd_Z_lead_108 ⟨Nat.le_of_ble_eq_true rfl, Nat.le_of_ble_eq_true rfl⟩) hD hA hS (fun r u1 H locs hw hP hD hS => ?_)
          obtain ⟨q86, hq86⟩ : ∃ q, q = xf_Z_inMemory (xs_Z_asGuest (xs_Z_address u p0) (xb (xz (xg_Z_virtual (xs_Z_address u p0))))) ((Int32.toInt64 p0) &&& (4294967295 : Int64)) := ⟨_, rfl⟩
          rw [← hq86] at hw
          obtain rfl : r = q86.1 := congrArg Prod.fst hw
          obtain rfl : u1 = q86.2 := congrArg Prod.snd hw
          have hP : va_P D xCl (xWZ k b q86.2) H := hP
          have hD : va_D A (xWZ k b q86.2) := hD
          have hv := xlt_v hq86 hv
          exact hj84 H locs ls q86.1 q86.2 (xit h85 (xlt_e hq86 rfl)) (xit h85 (xlt_e hq86 rfl)) hl hP hD hS
        · have hv := xif_v h85 hv
          refine lv_aload_n hx hb xd_Z_lead_80 rfl (lv_at hl 1 rfl) ?_
          refine lv_iconst (v := 0) hx hb xd_Z_lead_81 (by decide) ?_
          refine lv_aload_n hx hb xd_Z_lead_82 rfl (lv_at hl 1 rfl) ?_
          refine lv_sipush (v := 384) hx hb xd_Z_lead_83 (by decide) ?_
          obtain ⟨hn89, hv⟩ := xan_v hv
          refine xcW_i (va_runV (As := [.int 384]) (rest := [.int 0, .ref ((b 0))]) ⟨hx, hb, hml, hown, htg⟩ (c_Z_value l D z k b H.size (xs_Z_asGuest (xs_Z_address u p0) (xb (xz (xg_Z_virtual (xs_Z_address u p0))))) (384 : Int32) hn89) (cwV 1 htg (xg_V0 xkin_Z_value xw_859 xw_861 xsel_Z_value xw_9) rfl rfl rfl (by decide +kernel) ⟨Nat.le_of_ble_eq_true rfl, Nat.le_of_ble_eq_true rfl⟩) ⟨xB_blind, xrecv_Z hK hP, fun U hU hW => xB_mk hP hK hD hE hS (xsubW hD hA hS) hU hW⟩ rfl rfl hl.1 rfl (lv_room (Nat.le_of_ble_eq_true rfl)) xd_Z_lead_86 ⟨Nat.le_of_ble_eq_true rfl, Nat.le_of_ble_eq_true rfl⟩) hD hA hS (fun r u1 H locs hw hP hD hS => ?_)
          obtain ⟨q88, hq88⟩ : ∃ q, q = xf_Z_value (xs_Z_asGuest (xs_Z_address u p0) (xb (xz (xg_Z_virtual (xs_Z_address u p0))))) (384 : Int32) := ⟨_, rfl⟩
          obtain ⟨e1, e2⟩ := hw
          rw [← hq88] at e1
          obtain rfl : q88 = r := e1.symm
          obtain rfl : (xs_Z_asGuest (xs_Z_address u p0) (xb (xz (xg_Z_virtual (xs_Z_address u p0))))) = u1 := e2.symm
          have hP : va_P D xCl (xWZ k b (xs_Z_asGuest (xs_Z_address u p0) (xb (xz (xg_Z_virtual (xs_Z_address u p0)))))) H := hP
          have hD : va_D A (xWZ k b (xs_Z_asGuest (xs_Z_address u p0) (xb (xz (xg_Z_virtual (xs_Z_address u p0)))))) := hD
          have hv := xlt_v hq88 hv
          refine lv_i2l (v := (Int32.toInt64 q88)) hx hb xd_Z_lead_89 rfl ?_
          refine lv_ldc2 (v := 4194303) hx hb hown (htg _ xw_938) xd_Z_lead_90 ?_
          refine lv_land hx hb xd_Z_lead_93 ?_
          refine lv_ldc2 (v := 4096) hx hb hown (htg _ xw_939) xd_Z_lead_94 ?_
          refine lv_lmul hx hb xd_Z_lead_97 ?_
          refine lv_lload_n hx hb xd_Z_lead_98 rfl (lv_at hl 0 rfl) ?_
          refine lv_iconst (v := 0) hx hb xd_Z_lead_99 (by decide) ?_
          obtain ⟨hn91, hv⟩ := xan_v hv
          refine xcW_l (va_runV (As := [.int 0, .long ((((Int32.toInt64 q88) &&& (4194303 : Int64)) * (4096 : Int64))), .long (((Int32.toInt64 p0) &&& (4294967295 : Int64))), .int 0]) (rest := []) ⟨hx, hb, hml, hown, htg⟩ (c_Z_walk_0 l D z k b H.size (xs_Z_asGuest (xs_Z_address u p0) (xb (xz (xg_Z_virtual (xs_Z_address u p0))))) (((Int32.toInt64 q88) &&& (4194303 : Int64)) * (4096 : Int64)) ((Int32.toInt64 p0) &&& (4294967295 : Int64)) (0 : Int32) hn91) (cwV 4 htg (xg_V0 xkin_Z_walk xw_940 xw_942 xsel_Z_walk xw_9) rfl rfl rfl (by decide +kernel) ⟨Nat.le_of_ble_eq_true rfl, Nat.le_of_ble_eq_true rfl⟩) ⟨xB_blind, xrecv_Z hK hP, fun U hU hW => xB_mk hP hK hD hE hS (xsubW hD hA hS) hU hW⟩ rfl rfl hl.1 rfl (lv_room (Nat.le_of_ble_eq_true rfl)) xd_Z_lead_100 ⟨Nat.le_of_ble_eq_true rfl, Nat.le_of_ble_eq_true rfl⟩) hD hA hS (fun r u1 H locs hw hP hD hS => ?_)
          obtain ⟨q90, hq90⟩ : ∃ q, q = xf_Z_walk_0 (xs_Z_asGuest (xs_Z_address u p0) (xb (xz (xg_Z_virtual (xs_Z_address u p0))))) (((Int32.toInt64 q88) &&& (4194303 : Int64)) * (4096 : Int64)) ((Int32.toInt64 p0) &&& (4294967295 : Int64)) (0 : Int32) := ⟨_, rfl⟩
          rw [← hq90] at hw
          obtain rfl : r = q90.1 := congrArg Prod.fst hw
          obtain rfl : u1 = q90.2 := congrArg Prod.snd hw
          have hP : va_P D xCl (xWZ k b q90.2) H := hP
          have hD : va_D A (xWZ k b q90.2) := hD
          have hv := xlt_v hq90 hv
          refine lv_goto (tgt := 111) hx hb xd_Z_lead_103 rfl ?_
          exact hj84 H locs ls q90.1 q90.2 (xif h85 (xlt_e hq88 (xlt_e hq90 rfl))) (xif h85 (xlt_e hq88 (xlt_e hq90 rfl))) hl hP hD hS
    · have hv := xif_v h47 hv
      refine lv_aload_n hx hb xd_Z_lead_26 rfl (lv_at hl 0 rfl) ?_
      refine lv_aload_n hx hb xd_Z_lead_27 rfl (lv_at hl 0 rfl) ?_
      refine xget_Z_kind (v := (xg_Z_kind (xs_Z_asGuest (xs_Z_address u p0) (xb (xz (xg_Z_virtual (xs_Z_address u p0))))))) hx hb htg hown hK hP (htg _ xw_747) rfl xd_Z_lead_28 ?_
      refine lv_iconst (v := 1) hx hb xd_Z_lead_31 (by decide) ?_
      have hj94 : ∀ (H : Heap) (locs : List Loc) (ls : Array Slot) (v93 : Int32), v93 = (if (xg_Z_kind (xs_Z_asGuest (xs_Z_address u p0) (xb (xz (xg_Z_virtual (xs_Z_address u p0)))))) = 1 then (4) else (6)) → lv_has ls 7 [(0, .ref ((b 0))), (1, .int p0), (2, .int p1)] → va_P D xCl (xWZ k b (xs_Z_asGuest (xs_Z_address u p0) (xb (xz (xg_Z_virtual (xs_Z_address u p0)))))) H → va_D A (xWZ k b (xs_Z_asGuest (xs_Z_address u p0) (xb (xz (xg_Z_virtual (xs_Z_address u p0)))))) → va_S A s.heap H locs → W p l e { frames := 8, cells := 0, slots := 0, locals := 217 } s m args below meth c H locs (0) (0) Q (F0 m 41 ls [.int v93, .ref ((b 0))]) := by
        intro H locs ls v93 hv93 hl hP hD hS
        have hv := xlt_v hv93 hv
        refine lv_iload_n hx hb xd_Z_lead_41 rfl (lv_at hl 1 rfl) ?_
        refine lv_aload_n hx hb xd_Z_lead_42 rfl (lv_at hl 0 rfl) ?_
        refine xget_Z_asGuest (v := (xg_Z_asGuest (xs_Z_asGuest (xs_Z_address u p0) (xb (xz (xg_Z_virtual (xs_Z_address u p0))))))) hx hb htg hown hK hP (htg _ xw_752) rfl xd_Z_lead_43 ?_
        obtain ⟨hn96, hv⟩ := xan_v hv
        refine xcW_i (va_runV (As := [.int v93, .int p0, .int ((xz (xg_Z_asGuest (xs_Z_asGuest (xs_Z_address u p0) (xb (xz (xg_Z_virtual (xs_Z_address u p0))))))))]) (rest := []) ⟨hx, hb, hml, hown, htg⟩ (c_Z_fails l D z k b H.size (xs_Z_asGuest (xs_Z_address u p0) (xb (xz (xg_Z_virtual (xs_Z_address u p0))))) v93 p0 (xz (xg_Z_asGuest (xs_Z_asGuest (xs_Z_address u p0) (xb (xz (xg_Z_virtual (xs_Z_address u p0))))))) hn96) (cwV 3 htg (xg_V0 xkin_Z_fails xw_933 xw_935 xsel_Z_fails xw_9) rfl rfl rfl (by decide +kernel) ⟨Nat.le_of_ble_eq_true rfl, Nat.le_of_ble_eq_true rfl⟩) ⟨xB_blind, xrecv_Z hK hP, fun U hU hW => xB_mk hP hK hD hE hS (xsubW hD hA hS) hU hW⟩ rfl rfl hl.1 rfl (lv_room (Nat.le_of_ble_eq_true rfl)) xd_Z_lead_46 ⟨Nat.le_of_ble_eq_true rfl, Nat.le_of_ble_eq_true rfl⟩) hD hA hS (fun r u1 H locs hw hP hD hS => ?_)
        obtain ⟨q95, hq95⟩ : ∃ q, q = xf_Z_fails (xs_Z_asGuest (xs_Z_address u p0) (xb (xz (xg_Z_virtual (xs_Z_address u p0))))) v93 p0 (xz (xg_Z_asGuest (xs_Z_asGuest (xs_Z_address u p0) (xb (xz (xg_Z_virtual (xs_Z_address u p0))))))) := ⟨_, rfl⟩
        rw [← hq95] at hw
        obtain rfl : r = q95.1 := congrArg Prod.fst hw
        obtain rfl : u1 = q95.2 := congrArg Prod.snd hw
        have hP : va_P D xCl (xWZ k b q95.2) H := hP
        have hD : va_D A (xWZ k b q95.2) := hD
        have hv := xlt_v hq95 hv
        refine lv_istore_n (lv' := [(3, .int (q95.1)), (0, .ref ((b 0))), (1, .int p0), (2, .int p1)]) hx hb xd_Z_lead_49 rfl hl (by decide) rfl (fun ls hl => ?_)
        refine lv_ldc2 (v := (-1)) hx hb hown (htg _ xw_937) xd_Z_lead_50 ?_
        exact hret _ q95.2 H locs ls _ (by unfold xf_Z_lead; exact (xif h1 (xif h47 (xlt_e hv93 (xlt_e hq95 rfl))))) hP hD hS xd_Z_lead_53
      refine lv_icmp_ne (tgt := 39) hx hb xd_Z_lead_32 rfl (fun h97 => ?_) (fun h97 => ?_)
      · refine lv_bipush (v := 6) hx hb xd_Z_lead_39 (by decide) ?_
        exact hj94 H locs ls (6 : Int32) (xif h97 rfl) hl hP hD hS
      · refine lv_iconst (v := 4) hx hb xd_Z_lead_35 (by decide) ?_
        refine lv_goto (tgt := 41) hx hb xd_Z_lead_36 rfl ?_
        exact hj94 H locs ls (4 : Int32) (xit h97 rfl) hl hP hD hS

noncomputable def xf_Z_take (u : XZ) (p0 : Int32) (p1 : Int32) (p2 : Int32) (p3 : Int32) : Int32 × XZ :=
  xlt (xf_Z_lead u p3 p1 : Int64 × XZ) fun q1 =>
  if 0 ≤ (lg_cmp q1.1 (0 : Int64)) then
    xlt (xf_Z_bytes q1.2 q1.1 p1 : Int32) fun q4 =>
    xlt (if p2 = 0 then (xlt (xf_Z_signed q4 ((8 : Int32) * p1) : Int32) fun r7 => r7) else (q4) : Int32) fun v8 =>
    xlt (xf_Z_put q1.2 p0 v8 : Int32 × XZ) fun q10 =>
    (q10.1, q10.2)
  else
    (0, q1.2)
def xv_Z_take (u : XZ) (p0 : Int32) (p1 : Int32) (p2 : Int32) (p3 : Int32) : Prop := XVc (
  (xv_Z_lead u p3 p1) ∧
  xlt (xf_Z_lead u p3 p1 : Int64 × XZ) fun q1 =>
  if 0 ≤ (lg_cmp q1.1 (0 : Int64)) then
    (xv_Z_bytes q1.2 q1.1 p1) ∧
    xlt (xf_Z_bytes q1.2 q1.1 p1 : Int32) fun q4 =>
    xlt (if p2 = 0 then (xlt (xf_Z_signed q4 ((8 : Int32) * p1) : Int32) fun r7 => r7) else (q4) : Int32) fun v8 =>
    (xv_Z_put q1.2 p0 v8) ∧
    xlt (xf_Z_put q1.2 p0 v8 : Int32 × XZ) fun q10 =>
    True
  else
    True)
set_option maxHeartbeats 4000000 in
set_option maxRecDepth 100000 in
theorem c_Z_take (l : Launch) (D : va_G) (z : (Nat → Nat) × (Nat → Nat)) (k : ClassId × ClassId) (b : Nat → Nat) (sz : Nat) (u : XZ) (p0 : Int32) (p1 : Int32) (p2 : Int32) (p3 : Int32) (hv : xv_Z_take u p0 p1 p2 p3) : Met l xy_Z_take (xk_Z_take :: lw_g) { frames := 9, cells := 0, slots := 0, locals := 243 } (va_Pc [.ref ((b 0)), .int p0, .int p1, .int p2, .int p3] (xB D (xTy k) z sz (xWZ k b u))) (va_Qi (fun r (q : XZ) => (r, q) = xf_Z_take u p0 p1 p2 p3) (fun q t => xQ D (xTy k) (xWZ k b q) (va_A (xWZ k b u) sz) t) (va_A (xWZ k b u) sz)) 0 0 (va_A (xWZ k b u) sz) := by
  refine xopen_z (wf := fun q : XZ => xWZ k b q) (lv := [(0, .ref ((b 0))), (1, .int p0), (2, .int p1), (3, .int p2), (4, .int p3)]) (by decide) rfl (Nat.le_of_ble_eq_true rfl) ?_
  intro p e s m args below meth c Q ls A H locs hx hb hml htg hown hin hK hP hD hE hS hA hl hret
  unfold xv_Z_take at hv
  refine lv_aload_n hx hb xd_Z_take_0 rfl (lv_at hl 0 rfl) ?_
  refine lv_iload hx hb xd_Z_take_1 (lv_at hl 4 rfl) ?_
  refine lv_iload_n hx hb xd_Z_take_3 rfl (lv_at hl 2 rfl) ?_
  obtain ⟨hn2, hv⟩ := xan_v hv
  refine xcW_l (va_runV (As := [.int p3, .int p1]) (rest := []) ⟨hx, hb, hml, hown, htg⟩ (c_Z_lead l D z k b H.size u p3 p1 hn2) (cwV 2 htg (xg_V0 xkin_Z_lead xw_929 xw_931 xsel_Z_lead xw_9) rfl rfl rfl (by decide +kernel) ⟨Nat.le_of_ble_eq_true rfl, Nat.le_of_ble_eq_true rfl⟩) ⟨xB_blind, xrecv_Z hK hP, fun U hU hW => xB_mk hP hK hD hE hS (xsubW hD hA hS) hU hW⟩ rfl rfl hl.1 rfl (lv_room (Nat.le_of_ble_eq_true rfl)) xd_Z_take_4 ⟨Nat.le_of_ble_eq_true rfl, Nat.le_of_ble_eq_true rfl⟩) hD hA hS (fun r u1 H locs hw hP hD hS => ?_)
  obtain ⟨q1, hq1⟩ : ∃ q, q = xf_Z_lead u p3 p1 := ⟨_, rfl⟩
  rw [← hq1] at hw
  obtain rfl : r = q1.1 := congrArg Prod.fst hw
  obtain rfl : u1 = q1.2 := congrArg Prod.snd hw
  have hP : va_P D xCl (xWZ k b q1.2) H := hP
  have hD : va_D A (xWZ k b q1.2) := hD
  have hv := xlt_v hq1 hv
  refine lv_lstore (lv' := [(5, .long (q1.1)), (0, .ref ((b 0))), (1, .int p0), (2, .int p1), (3, .int p2), (4, .int p3)]) hx hb xd_Z_take_7 hl (by decide) rfl (fun ls hl => ?_)
  refine lv_lload hx hb xd_Z_take_9 (lv_at hl 0 rfl) ?_
  refine lv_lconst (v := 0) hx hb xd_Z_take_11 (by decide) ?_
  refine W.lcmp hx hb xd_Z_take_12 ?_
  refine lv_if_ge (tgt := 18) hx hb xd_Z_take_13 rfl (fun h3 => ?_) (fun h3 => ?_)
  · have hv := xit_v h3 hv
    refine lv_aload_n hx hb xd_Z_take_18 rfl (lv_at hl 1 rfl) ?_
    refine lv_lload hx hb xd_Z_take_19 (lv_at hl 0 rfl) ?_
    refine lv_iload_n hx hb xd_Z_take_21 rfl (lv_at hl 3 rfl) ?_
    obtain ⟨hn5, hv⟩ := xan_v hv
    refine xcW_i (va_runV (As := [.long (q1.1), .int p1]) (rest := []) ⟨hx, hb, hml, hown, htg⟩ (c_Z_bytes l D z k b H.size q1.2 q1.1 p1 hn5) (cwV 2 htg (xg_V0 xkin_Z_bytes xw_1009 xw_1011 xsel_Z_bytes xw_9) rfl rfl rfl (by decide +kernel) ⟨Nat.le_of_ble_eq_true rfl, Nat.le_of_ble_eq_true rfl⟩) ⟨xB_blind, xrecv_Z hK hP, fun U hU hW => xB_mk hP hK hD hE hS (xsubW hD hA hS) hU hW⟩ rfl rfl hl.1 rfl (lv_room (Nat.le_of_ble_eq_true rfl)) xd_Z_take_22 ⟨Nat.le_of_ble_eq_true rfl, Nat.le_of_ble_eq_true rfl⟩) hD hA hS (fun r u1 H locs hw hP hD hS => ?_)
    obtain ⟨q4, hq4⟩ : ∃ q, q = xf_Z_bytes q1.2 q1.1 p1 := ⟨_, rfl⟩
    obtain ⟨e1, e2⟩ := hw
    rw [← hq4] at e1
    obtain rfl : q4 = r := e1.symm
    obtain rfl : q1.2 = u1 := e2.symm
    have hP : va_P D xCl (xWZ k b q1.2) H := hP
    have hD : va_D A (xWZ k b q1.2) := hD
    have hv := xlt_v hq4 hv
    refine lv_istore (lv' := [(7, .int q4), (5, .long (q1.1)), (0, .ref ((b 0))), (1, .int p0), (2, .int p1), (3, .int p2), (4, .int p3)]) hx hb xd_Z_take_25 hl (by decide) rfl (fun ls hl => ?_)
    refine lv_aload_n hx hb xd_Z_take_27 rfl (lv_at hl 2 rfl) ?_
    refine lv_iload_n hx hb xd_Z_take_28 rfl (lv_at hl 3 rfl) ?_
    refine lv_iload_n hx hb xd_Z_take_29 rfl (lv_at hl 5 rfl) ?_
    have hj9 : ∀ (H : Heap) (locs : List Loc) (ls : Array Slot) (v8 : Int32), v8 = (if p2 = 0 then (xlt (xf_Z_signed q4 ((8 : Int32) * p1) : Int32) fun r7 => r7) else (q4)) → lv_has ls 8 [(7, .int q4), (5, .long (q1.1)), (0, .ref ((b 0))), (1, .int p0), (2, .int p1), (3, .int p2), (4, .int p3)] → va_P D xCl (xWZ k b q1.2) H → va_D A (xWZ k b q1.2) → va_S A s.heap H locs → W p l e { frames := 9, cells := 0, slots := 0, locals := 243 } s m args below meth c H locs (0) (0) Q (F0 m 47 ls [.int v8, .int p0, .ref ((b 0))]) := by
      intro H locs ls v8 hv8 hl hP hD hS
      have hv := xlt_v hv8 hv
      obtain ⟨hn11, hv⟩ := xan_v hv
      refine xcW_i (va_runV (As := [.int p0, .int v8]) (rest := []) ⟨hx, hb, hml, hown, htg⟩ (c_Z_put l D z k b H.size q1.2 p0 v8 hn11) (cwV 2 htg (xg_V0 xkin_Z_put xw_834 xw_836 xsel_Z_put xw_9) rfl rfl rfl (by decide +kernel) ⟨Nat.le_of_ble_eq_true rfl, Nat.le_of_ble_eq_true rfl⟩) ⟨xB_blind, xrecv_Z hK hP, fun U hU hW => xB_mk hP hK hD hE hS (xsubW hD hA hS) hU hW⟩ rfl rfl hl.1 rfl (lv_room (Nat.le_of_ble_eq_true rfl)) xd_Z_take_47 ⟨Nat.le_of_ble_eq_true rfl, Nat.le_of_ble_eq_true rfl⟩) hD hA hS (fun r u1 H locs hw hP hD hS => ?_)
      obtain ⟨q10, hq10⟩ : ∃ q, q = xf_Z_put q1.2 p0 v8 := ⟨_, rfl⟩
      rw [← hq10] at hw
      obtain rfl : r = q10.1 := congrArg Prod.fst hw
      obtain rfl : u1 = q10.2 := congrArg Prod.snd hw
      have hP : va_P D xCl (xWZ k b q10.2) H := hP
      have hD : va_D A (xWZ k b q10.2) := hD
      have hv := xlt_v hq10 hv
      exact hret _ q10.2 H locs ls _ (xnar (X01_ofp hq10 (xt01_Z_put q1.2 p0 v8))) (by unfold xf_Z_take; exact (xlt_e hq1 (xit h3 (xlt_e hq4 (xlt_e hv8 (xlt_e hq10 rfl)))))) hP hD hS xd_Z_take_50
    refine lv_if_eq (tgt := 38) hx hb xd_Z_take_30 rfl (fun h12 => ?_) (fun h12 => ?_)
    · refine lv_iload hx hb xd_Z_take_38 (lv_at hl 0 rfl) ?_
      refine lv_bipush (v := 8) hx hb xd_Z_take_40 (by decide) ?_
      refine lv_iload_n hx hb xd_Z_take_42 rfl (lv_at hl 4 rfl) ?_
      refine lv_imul hx hb xd_Z_take_43 ?_
      refine xc0_i (va_runS (As := [.int q4, .int (((8 : Int32) * p1))]) (rest := [.int p0, .ref ((b 0))]) ⟨hx, hb, hml, hown, htg⟩ (c_Z_signed l D (xTy k) z H.size q4 ((8 : Int32) * p1)) (va_cwS 2 htg (xg_S0 xkin_Z_signed xw_983 xw_984 xw_9) rfl rfl rfl (by decide +kernel) ⟨Nat.le_of_ble_eq_true rfl, Nat.le_of_ble_eq_true rfl⟩) ⟨xB_blind, fun U hU hW => xB_mk va_P0 hK va_D0 hE hS (xsub0 hA hS) hU hW⟩ rfl rfl hl.1 rfl (lv_room (Nat.le_of_ble_eq_true rfl)) xd_Z_take_44 ⟨Nat.le_of_ble_eq_true rfl, Nat.le_of_ble_eq_true rfl⟩) hP hA hS (fun r13 H locs hr13 hP hS => ?_)
      exact hj9 H locs ls r13 (xit h12 (xlt_e hr13 rfl)) hl hP hD hS
    · refine lv_iload hx hb xd_Z_take_33 (lv_at hl 0 rfl) ?_
      refine lv_goto (tgt := 47) hx hb xd_Z_take_35 rfl ?_
      exact hj9 H locs ls q4 (xif h12 rfl) hl hP hD hS
  · have hv := xif_v h3 hv
    refine lv_iconst (v := 0) hx hb xd_Z_take_16 (by decide) ?_
    exact hret _ q1.2 H locs ls _ rfl (by unfold xf_Z_take; exact (xlt_e hq1 (xif h3 rfl))) hP hD hS xd_Z_take_17
theorem xt01_Z_take (u : XZ) (p0 : Int32) (p1 : Int32) (p2 : Int32) (p3 : Int32) : X01p (xf_Z_take u p0 p1 p2 p3) := by unfold xf_Z_take; exact (xlt_01p (fun q1 hq1 => (xit_01p (xlt_01p (fun q4 hq4 => (xlt_01p (fun v8 hv8 => (xlt_01p (fun q10 hq10 => (X01_ofp hq10 (xt01_Z_put q1.2 p0 v8)))))))) (Or.inl rfl))))

noncomputable def xf_Z_give (u : XZ) (p0 : Int32) (p1 : Int32) (p2 : Int32) : Int32 × XZ :=
  xlt (xf_Z_lead u p1 p0 : Int64 × XZ) fun q1 =>
  if 0 ≤ (lg_cmp q1.1 (0 : Int64)) then
    xlt (xf_Z_putBytes q1.2 q1.1 p0 p2 : XZ) fun q4 =>
    (1, q4)
  else
    (0, q1.2)
def xv_Z_give (u : XZ) (p0 : Int32) (p1 : Int32) (p2 : Int32) : Prop := XVc (
  (xv_Z_lead u p1 p0) ∧
  xlt (xf_Z_lead u p1 p0 : Int64 × XZ) fun q1 =>
  if 0 ≤ (lg_cmp q1.1 (0 : Int64)) then
    (xv_Z_putBytes q1.2 q1.1 p0 p2) ∧
    xlt (xf_Z_putBytes q1.2 q1.1 p0 p2 : XZ) fun q4 =>
    True
  else
    True)
set_option maxHeartbeats 4000000 in
set_option maxRecDepth 100000 in
theorem c_Z_give (l : Launch) (D : va_G) (z : (Nat → Nat) × (Nat → Nat)) (k : ClassId × ClassId) (b : Nat → Nat) (sz : Nat) (u : XZ) (p0 : Int32) (p1 : Int32) (p2 : Int32) (hv : xv_Z_give u p0 p1 p2) : Met l xy_Z_give (xk_Z_give :: lw_g) { frames := 9, cells := 0, slots := 0, locals := 243 } (va_Pc [.ref ((b 0)), .int p0, .int p1, .int p2] (xB D (xTy k) z sz (xWZ k b u))) (va_Qi (fun r (q : XZ) => (r, q) = xf_Z_give u p0 p1 p2) (fun q t => xQ D (xTy k) (xWZ k b q) (va_A (xWZ k b u) sz) t) (va_A (xWZ k b u) sz)) 0 0 (va_A (xWZ k b u) sz) := by
  refine xopen_z (wf := fun q : XZ => xWZ k b q) (lv := [(0, .ref ((b 0))), (1, .int p0), (2, .int p1), (3, .int p2)]) (by decide) rfl (Nat.le_of_ble_eq_true rfl) ?_
  intro p e s m args below meth c Q ls A H locs hx hb hml htg hown hin hK hP hD hE hS hA hl hret
  unfold xv_Z_give at hv
  refine lv_aload_n hx hb xd_Z_give_0 rfl (lv_at hl 0 rfl) ?_
  refine lv_iload_n hx hb xd_Z_give_1 rfl (lv_at hl 2 rfl) ?_
  refine lv_iload_n hx hb xd_Z_give_2 rfl (lv_at hl 1 rfl) ?_
  obtain ⟨hn2, hv⟩ := xan_v hv
  refine xcW_l (va_runV (As := [.int p1, .int p0]) (rest := []) ⟨hx, hb, hml, hown, htg⟩ (c_Z_lead l D z k b H.size u p1 p0 hn2) (cwV 2 htg (xg_V0 xkin_Z_lead xw_929 xw_931 xsel_Z_lead xw_9) rfl rfl rfl (by decide +kernel) ⟨Nat.le_of_ble_eq_true rfl, Nat.le_of_ble_eq_true rfl⟩) ⟨xB_blind, xrecv_Z hK hP, fun U hU hW => xB_mk hP hK hD hE hS (xsubW hD hA hS) hU hW⟩ rfl rfl hl.1 rfl (lv_room (Nat.le_of_ble_eq_true rfl)) xd_Z_give_3 ⟨Nat.le_of_ble_eq_true rfl, Nat.le_of_ble_eq_true rfl⟩) hD hA hS (fun r u1 H locs hw hP hD hS => ?_)
  obtain ⟨q1, hq1⟩ : ∃ q, q = xf_Z_lead u p1 p0 := ⟨_, rfl⟩
  rw [← hq1] at hw
  obtain rfl : r = q1.1 := congrArg Prod.fst hw
  obtain rfl : u1 = q1.2 := congrArg Prod.snd hw
  have hP : va_P D xCl (xWZ k b q1.2) H := hP
  have hD : va_D A (xWZ k b q1.2) := hD
  have hv := xlt_v hq1 hv
  refine lv_lstore (lv' := [(4, .long (q1.1)), (0, .ref ((b 0))), (1, .int p0), (2, .int p1), (3, .int p2)]) hx hb xd_Z_give_6 hl (by decide) rfl (fun ls hl => ?_)
  refine lv_lload hx hb xd_Z_give_8 (lv_at hl 0 rfl) ?_
  refine lv_lconst (v := 0) hx hb xd_Z_give_10 (by decide) ?_
  refine W.lcmp hx hb xd_Z_give_11 ?_
  refine lv_if_ge (tgt := 17) hx hb xd_Z_give_12 rfl (fun h3 => ?_) (fun h3 => ?_)
  · have hv := xit_v h3 hv
    refine lv_aload_n hx hb xd_Z_give_17 rfl (lv_at hl 1 rfl) ?_
    refine lv_lload hx hb xd_Z_give_18 (lv_at hl 0 rfl) ?_
    refine lv_iload_n hx hb xd_Z_give_20 rfl (lv_at hl 2 rfl) ?_
    refine lv_iload_n hx hb xd_Z_give_21 rfl (lv_at hl 4 rfl) ?_
    obtain ⟨hn5, hv⟩ := xan_v hv
    refine xcW_v (va_runV (As := [.long (q1.1), .int p0, .int p2]) (rest := []) ⟨hx, hb, hml, hown, htg⟩ (c_Z_putBytes l D z k b H.size q1.2 q1.1 p0 p2 hn5) (cwV 3 htg (xg_V0 xkin_Z_putBytes xw_1022 xw_1024 xsel_Z_putBytes xw_9) rfl rfl rfl (by decide +kernel) ⟨Nat.le_of_ble_eq_true rfl, Nat.le_of_ble_eq_true rfl⟩) ⟨xB_blind, xrecv_Z hK hP, fun U hU hW => xB_mk hP hK hD hE hS (xsubW hD hA hS) hU hW⟩ rfl rfl hl.1 rfl (lv_room (Nat.le_of_ble_eq_true rfl)) xd_Z_give_22 ⟨Nat.le_of_ble_eq_true rfl, Nat.le_of_ble_eq_true rfl⟩) hD hA hS (fun u1 H locs hw hP hD hS => ?_)
    obtain ⟨q4, hq4⟩ : ∃ q, q = xf_Z_putBytes q1.2 q1.1 p0 p2 := ⟨_, rfl⟩
    rw [← hq4] at hw
    obtain rfl : q4 = u1 := hw.symm
    have hP : va_P D xCl (xWZ k b q4) H := hP
    have hD : va_D A (xWZ k b q4) := hD
    have hv := xlt_v hq4 hv
    refine lv_iconst (v := 1) hx hb xd_Z_give_25 (by decide) ?_
    exact hret _ q4 H locs ls _ rfl (by unfold xf_Z_give; exact (xlt_e hq1 (xit h3 (xlt_e hq4 rfl)))) hP hD hS xd_Z_give_26
  · have hv := xif_v h3 hv
    refine lv_iconst (v := 0) hx hb xd_Z_give_15 (by decide) ?_
    exact hret _ q1.2 H locs ls _ rfl (by unfold xf_Z_give; exact (xlt_e hq1 (xif h3 rfl))) hP hD hS xd_Z_give_16
theorem xt01_Z_give (u : XZ) (p0 : Int32) (p1 : Int32) (p2 : Int32) : X01p (xf_Z_give u p0 p1 p2) := by unfold xf_Z_give; exact (xlt_01p (fun q1 hq1 => (xit_01p (xlt_01p (fun q4 hq4 => (Or.inr rfl))) (Or.inl rfl))))

noncomputable def xf_Z_asIfVirtual (u : XZ) (p0 : Int32) (p1 : Int32) (p2 : Int32) (p3 : Int32) : Int32 × XZ :=
  xlt (xf_Z_isIn (xus p0 (25 : Int32)) (48 : Int32) (52 : Int32) : Int32) fun r1 =>
  xlt (if r1 = 0 then (0) else (if ((xus p0 (25 : Int32)) - (xus p0 (25 : Int32)) / (2 : Int32) * (2 : Int32)) = 0 then (if ((p0 >>> ((20 : Int32) &&& 31)) &&& (31 : Int32)) = 0 then (1) else (if ((p0 >>> ((20 : Int32) &&& 31)) &&& (31 : Int32)) = 1 then (if ((1 : Int32) <<< ((((xus p0 (25 : Int32)) - (48 : Int32)) / (2 : Int32)) &&& 31)) < 4 then (1) else (if ((p0 >>> ((20 : Int32) &&& 31)) &&& (31 : Int32)) = 3 then (if ((1 : Int32) <<< ((((xus p0 (25 : Int32)) - (48 : Int32)) / (2 : Int32)) &&& 31)) ≤ 1 then (0) else (1)) else (0))) else (if ((p0 >>> ((20 : Int32) &&& 31)) &&& (31 : Int32)) = 3 then (if ((1 : Int32) <<< ((((xus p0 (25 : Int32)) - (48 : Int32)) / (2 : Int32)) &&& 31)) ≤ 1 then (0) else (1)) else (0)))) else (0)) : Int32) fun v11 =>
  xlt (xf_Z_isIn (xus p0 (25 : Int32)) (49 : Int32) (53 : Int32) : Int32) fun r13 =>
  xlt (if r13 = 0 then (0) else (if ((xus p0 (25 : Int32)) - (xus p0 (25 : Int32)) / (2 : Int32) * (2 : Int32)) = 1 then (if p1 = 0 then (1) else (0)) else (0)) : Int32) fun v17 =>
  if v11 = 0 then
    if v17 = 0 then
      xlt (xf_Z_illegal u p0 : Int32 × XZ) fun q197 =>
      (q197.1, q197.2)
    else
      xlt (xf_Z_isVirtual u : Int32) fun q109 =>
      if q109 = 0 then
        if (xg_Z_mode u) = 0 then
          xlt (xf_Z_bit u (1536 : Int32) (9 : Int32) : Int32) fun q153 =>
          if q153 = 0 then
            xlt (xf_Z_notThere u p0 : Int32 × XZ) fun q195 =>
            (q195.1, q195.2)
          else
            xlt (if v11 = 0 then (2) else (1) : Int32) fun v157 =>
            xlt (xf_Z_bit u (1536 : Int32) (8 : Int32) : Int32) fun q159 =>
            xlt (if q159 = 0 then (1) else (0) : Int32) fun v162 =>
            xlt (if v11 = 0 then (0) else (if ((p0 >>> ((20 : Int32) &&& 31)) &&& (31 : Int32)) = 3 then (1) else (0)) : Int32) fun v166 =>
            xlt (xf_Z_asMode u v157 (1 : Int32) v162 v166 : XZ) fun q168 =>
            xlt (if v11 = 0 then (xlt (xf_Z_give q168 ((1 : Int32) <<< ((((xus p0 (25 : Int32)) - (48 : Int32)) / (2 : Int32)) &&& 31)) p2 p3 : Int32 × XZ) fun q171 => q171.1) else (xlt (if ((p0 >>> ((20 : Int32) &&& 31)) &&& (31 : Int32)) ≤ 0 then (0) else (1) : Int32) fun v174 => xlt (xf_Z_take q168 p1 ((1 : Int32) <<< ((((xus p0 (25 : Int32)) - (48 : Int32)) / (2 : Int32)) &&& 31)) v174 p2 : Int32 × XZ) fun q176 => q176.1) : Int32) fun v179 =>
            xlt (if v11 = 0 then (xlt (xf_Z_give q168 ((1 : Int32) <<< ((((xus p0 (25 : Int32)) - (48 : Int32)) / (2 : Int32)) &&& 31)) p2 p3 : Int32 × XZ) fun q171 => q171.2) else (xlt (if ((p0 >>> ((20 : Int32) &&& 31)) &&& (31 : Int32)) ≤ 0 then (0) else (1) : Int32) fun v174 => xlt (xf_Z_take q168 p1 ((1 : Int32) <<< ((((xus p0 (25 : Int32)) - (48 : Int32)) / (2 : Int32)) &&& 31)) v174 p2 : Int32 × XZ) fun q176 => q176.2) : XZ) fun v180 =>
            (v179, v180)
        else
          xlt (if v11 = 0 then (2) else (1) : Int32) fun v115 =>
          xlt (xf_Z_bit u (1536 : Int32) (8 : Int32) : Int32) fun q117 =>
          xlt (if q117 = 0 then (1) else (0) : Int32) fun v120 =>
          xlt (if v11 = 0 then (0) else (if ((p0 >>> ((20 : Int32) &&& 31)) &&& (31 : Int32)) = 3 then (1) else (0)) : Int32) fun v124 =>
          xlt (xf_Z_asMode u v115 (1 : Int32) v120 v124 : XZ) fun q126 =>
          xlt (if v11 = 0 then (xlt (xf_Z_give q126 ((1 : Int32) <<< ((((xus p0 (25 : Int32)) - (48 : Int32)) / (2 : Int32)) &&& 31)) p2 p3 : Int32 × XZ) fun q129 => q129.1) else (xlt (if ((p0 >>> ((20 : Int32) &&& 31)) &&& (31 : Int32)) ≤ 0 then (0) else (1) : Int32) fun v132 => xlt (xf_Z_take q126 p1 ((1 : Int32) <<< ((((xus p0 (25 : Int32)) - (48 : Int32)) / (2 : Int32)) &&& 31)) v132 p2 : Int32 × XZ) fun q134 => q134.1) : Int32) fun v137 =>
          xlt (if v11 = 0 then (xlt (xf_Z_give q126 ((1 : Int32) <<< ((((xus p0 (25 : Int32)) - (48 : Int32)) / (2 : Int32)) &&& 31)) p2 p3 : Int32 × XZ) fun q129 => q129.2) else (xlt (if ((p0 >>> ((20 : Int32) &&& 31)) &&& (31 : Int32)) ≤ 0 then (0) else (1) : Int32) fun v132 => xlt (xf_Z_take q126 p1 ((1 : Int32) <<< ((((xus p0 (25 : Int32)) - (48 : Int32)) / (2 : Int32)) &&& 31)) v132 p2 : Int32 × XZ) fun q134 => q134.2) : XZ) fun v138 =>
          (v137, v138)
      else
        xlt (xf_Z_notThere u p0 : Int32 × XZ) fun q111 =>
        (q111.1, q111.2)
  else
    xlt (xf_Z_isVirtual u : Int32) fun q20 =>
    if q20 = 0 then
      if (xg_Z_mode u) = 0 then
        xlt (xf_Z_bit u (1536 : Int32) (9 : Int32) : Int32) fun q64 =>
        if q64 = 0 then
          xlt (xf_Z_notThere u p0 : Int32 × XZ) fun q106 =>
          (q106.1, q106.2)
        else
          xlt (if v11 = 0 then (2) else (1) : Int32) fun v68 =>
          xlt (xf_Z_bit u (1536 : Int32) (8 : Int32) : Int32) fun q70 =>
          xlt (if q70 = 0 then (1) else (0) : Int32) fun v73 =>
          xlt (if v11 = 0 then (0) else (if ((p0 >>> ((20 : Int32) &&& 31)) &&& (31 : Int32)) = 3 then (1) else (0)) : Int32) fun v77 =>
          xlt (xf_Z_asMode u v68 (1 : Int32) v73 v77 : XZ) fun q79 =>
          xlt (if v11 = 0 then (xlt (xf_Z_give q79 ((1 : Int32) <<< ((((xus p0 (25 : Int32)) - (48 : Int32)) / (2 : Int32)) &&& 31)) p2 p3 : Int32 × XZ) fun q82 => q82.1) else (xlt (if ((p0 >>> ((20 : Int32) &&& 31)) &&& (31 : Int32)) ≤ 0 then (0) else (1) : Int32) fun v85 => xlt (xf_Z_take q79 p1 ((1 : Int32) <<< ((((xus p0 (25 : Int32)) - (48 : Int32)) / (2 : Int32)) &&& 31)) v85 p2 : Int32 × XZ) fun q87 => q87.1) : Int32) fun v90 =>
          xlt (if v11 = 0 then (xlt (xf_Z_give q79 ((1 : Int32) <<< ((((xus p0 (25 : Int32)) - (48 : Int32)) / (2 : Int32)) &&& 31)) p2 p3 : Int32 × XZ) fun q82 => q82.2) else (xlt (if ((p0 >>> ((20 : Int32) &&& 31)) &&& (31 : Int32)) ≤ 0 then (0) else (1) : Int32) fun v85 => xlt (xf_Z_take q79 p1 ((1 : Int32) <<< ((((xus p0 (25 : Int32)) - (48 : Int32)) / (2 : Int32)) &&& 31)) v85 p2 : Int32 × XZ) fun q87 => q87.2) : XZ) fun v91 =>
          (v90, v91)
      else
        xlt (if v11 = 0 then (2) else (1) : Int32) fun v26 =>
        xlt (xf_Z_bit u (1536 : Int32) (8 : Int32) : Int32) fun q28 =>
        xlt (if q28 = 0 then (1) else (0) : Int32) fun v31 =>
        xlt (if v11 = 0 then (0) else (if ((p0 >>> ((20 : Int32) &&& 31)) &&& (31 : Int32)) = 3 then (1) else (0)) : Int32) fun v35 =>
        xlt (xf_Z_asMode u v26 (1 : Int32) v31 v35 : XZ) fun q37 =>
        xlt (if v11 = 0 then (xlt (xf_Z_give q37 ((1 : Int32) <<< ((((xus p0 (25 : Int32)) - (48 : Int32)) / (2 : Int32)) &&& 31)) p2 p3 : Int32 × XZ) fun q40 => q40.1) else (xlt (if ((p0 >>> ((20 : Int32) &&& 31)) &&& (31 : Int32)) ≤ 0 then (0) else (1) : Int32) fun v43 => xlt (xf_Z_take q37 p1 ((1 : Int32) <<< ((((xus p0 (25 : Int32)) - (48 : Int32)) / (2 : Int32)) &&& 31)) v43 p2 : Int32 × XZ) fun q45 => q45.1) : Int32) fun v48 =>
        xlt (if v11 = 0 then (xlt (xf_Z_give q37 ((1 : Int32) <<< ((((xus p0 (25 : Int32)) - (48 : Int32)) / (2 : Int32)) &&& 31)) p2 p3 : Int32 × XZ) fun q40 => q40.2) else (xlt (if ((p0 >>> ((20 : Int32) &&& 31)) &&& (31 : Int32)) ≤ 0 then (0) else (1) : Int32) fun v43 => xlt (xf_Z_take q37 p1 ((1 : Int32) <<< ((((xus p0 (25 : Int32)) - (48 : Int32)) / (2 : Int32)) &&& 31)) v43 p2 : Int32 × XZ) fun q45 => q45.2) : XZ) fun v49 =>
        (v48, v49)
    else
      xlt (xf_Z_notThere u p0 : Int32 × XZ) fun q22 =>
      (q22.1, q22.2)
def xv_Z_asIfVirtual (u : XZ) (p0 : Int32) (p1 : Int32) (p2 : Int32) (p3 : Int32) : Prop := XVc (
  xlt (xf_Z_isIn (xus p0 (25 : Int32)) (48 : Int32) (52 : Int32) : Int32) fun r1 =>
  xlt (if r1 = 0 then (0) else (if ((xus p0 (25 : Int32)) - (xus p0 (25 : Int32)) / (2 : Int32) * (2 : Int32)) = 0 then (if ((p0 >>> ((20 : Int32) &&& 31)) &&& (31 : Int32)) = 0 then (1) else (if ((p0 >>> ((20 : Int32) &&& 31)) &&& (31 : Int32)) = 1 then (if ((1 : Int32) <<< ((((xus p0 (25 : Int32)) - (48 : Int32)) / (2 : Int32)) &&& 31)) < 4 then (1) else (if ((p0 >>> ((20 : Int32) &&& 31)) &&& (31 : Int32)) = 3 then (if ((1 : Int32) <<< ((((xus p0 (25 : Int32)) - (48 : Int32)) / (2 : Int32)) &&& 31)) ≤ 1 then (0) else (1)) else (0))) else (if ((p0 >>> ((20 : Int32) &&& 31)) &&& (31 : Int32)) = 3 then (if ((1 : Int32) <<< ((((xus p0 (25 : Int32)) - (48 : Int32)) / (2 : Int32)) &&& 31)) ≤ 1 then (0) else (1)) else (0)))) else (0)) : Int32) fun v11 =>
  xlt (xf_Z_isIn (xus p0 (25 : Int32)) (49 : Int32) (53 : Int32) : Int32) fun r13 =>
  xlt (if r13 = 0 then (0) else (if ((xus p0 (25 : Int32)) - (xus p0 (25 : Int32)) / (2 : Int32) * (2 : Int32)) = 1 then (if p1 = 0 then (1) else (0)) else (0)) : Int32) fun v17 =>
  if v11 = 0 then
    if v17 = 0 then
      (xv_Z_illegal u p0) ∧
      xlt (xf_Z_illegal u p0 : Int32 × XZ) fun q197 =>
      True
    else
      xlt (xf_Z_isVirtual u : Int32) fun q109 =>
      if q109 = 0 then
        if (xg_Z_mode u) = 0 then
          (xv_Z_bit u (1536 : Int32) (9 : Int32)) ∧
          xlt (xf_Z_bit u (1536 : Int32) (9 : Int32) : Int32) fun q153 =>
          if q153 = 0 then
            (xv_Z_notThere u p0) ∧
            xlt (xf_Z_notThere u p0 : Int32 × XZ) fun q195 =>
            True
          else
            xlt (if v11 = 0 then (2) else (1) : Int32) fun v157 =>
            (xv_Z_bit u (1536 : Int32) (8 : Int32)) ∧
            xlt (xf_Z_bit u (1536 : Int32) (8 : Int32) : Int32) fun q159 =>
            xlt (if q159 = 0 then (1) else (0) : Int32) fun v162 =>
            xlt (if v11 = 0 then (0) else (if ((p0 >>> ((20 : Int32) &&& 31)) &&& (31 : Int32)) = 3 then (1) else (0)) : Int32) fun v166 =>
            (xv_Z_asMode u v157 (1 : Int32) v162 v166) ∧
            xlt (xf_Z_asMode u v157 (1 : Int32) v162 v166 : XZ) fun q168 =>
            (if v11 = 0 then ((xv_Z_give q168 ((1 : Int32) <<< ((((xus p0 (25 : Int32)) - (48 : Int32)) / (2 : Int32)) &&& 31)) p2 p3) ∧ (xlt (xf_Z_give q168 ((1 : Int32) <<< ((((xus p0 (25 : Int32)) - (48 : Int32)) / (2 : Int32)) &&& 31)) p2 p3 : Int32 × XZ) fun q171 => True)) else (xlt (if ((p0 >>> ((20 : Int32) &&& 31)) &&& (31 : Int32)) ≤ 0 then (0) else (1) : Int32) fun v174 => (xv_Z_take q168 p1 ((1 : Int32) <<< ((((xus p0 (25 : Int32)) - (48 : Int32)) / (2 : Int32)) &&& 31)) v174 p2) ∧ (xlt (xf_Z_take q168 p1 ((1 : Int32) <<< ((((xus p0 (25 : Int32)) - (48 : Int32)) / (2 : Int32)) &&& 31)) v174 p2 : Int32 × XZ) fun q176 => True))) ∧
            xlt (if v11 = 0 then (xlt (xf_Z_give q168 ((1 : Int32) <<< ((((xus p0 (25 : Int32)) - (48 : Int32)) / (2 : Int32)) &&& 31)) p2 p3 : Int32 × XZ) fun q171 => q171.1) else (xlt (if ((p0 >>> ((20 : Int32) &&& 31)) &&& (31 : Int32)) ≤ 0 then (0) else (1) : Int32) fun v174 => xlt (xf_Z_take q168 p1 ((1 : Int32) <<< ((((xus p0 (25 : Int32)) - (48 : Int32)) / (2 : Int32)) &&& 31)) v174 p2 : Int32 × XZ) fun q176 => q176.1) : Int32) fun v179 =>
            xlt (if v11 = 0 then (xlt (xf_Z_give q168 ((1 : Int32) <<< ((((xus p0 (25 : Int32)) - (48 : Int32)) / (2 : Int32)) &&& 31)) p2 p3 : Int32 × XZ) fun q171 => q171.2) else (xlt (if ((p0 >>> ((20 : Int32) &&& 31)) &&& (31 : Int32)) ≤ 0 then (0) else (1) : Int32) fun v174 => xlt (xf_Z_take q168 p1 ((1 : Int32) <<< ((((xus p0 (25 : Int32)) - (48 : Int32)) / (2 : Int32)) &&& 31)) v174 p2 : Int32 × XZ) fun q176 => q176.2) : XZ) fun v180 =>
            True
        else
          xlt (if v11 = 0 then (2) else (1) : Int32) fun v115 =>
          (xv_Z_bit u (1536 : Int32) (8 : Int32)) ∧
          xlt (xf_Z_bit u (1536 : Int32) (8 : Int32) : Int32) fun q117 =>
          xlt (if q117 = 0 then (1) else (0) : Int32) fun v120 =>
          xlt (if v11 = 0 then (0) else (if ((p0 >>> ((20 : Int32) &&& 31)) &&& (31 : Int32)) = 3 then (1) else (0)) : Int32) fun v124 =>
          (xv_Z_asMode u v115 (1 : Int32) v120 v124) ∧
          xlt (xf_Z_asMode u v115 (1 : Int32) v120 v124 : XZ) fun q126 =>
          (if v11 = 0 then ((xv_Z_give q126 ((1 : Int32) <<< ((((xus p0 (25 : Int32)) - (48 : Int32)) / (2 : Int32)) &&& 31)) p2 p3) ∧ (xlt (xf_Z_give q126 ((1 : Int32) <<< ((((xus p0 (25 : Int32)) - (48 : Int32)) / (2 : Int32)) &&& 31)) p2 p3 : Int32 × XZ) fun q129 => True)) else (xlt (if ((p0 >>> ((20 : Int32) &&& 31)) &&& (31 : Int32)) ≤ 0 then (0) else (1) : Int32) fun v132 => (xv_Z_take q126 p1 ((1 : Int32) <<< ((((xus p0 (25 : Int32)) - (48 : Int32)) / (2 : Int32)) &&& 31)) v132 p2) ∧ (xlt (xf_Z_take q126 p1 ((1 : Int32) <<< ((((xus p0 (25 : Int32)) - (48 : Int32)) / (2 : Int32)) &&& 31)) v132 p2 : Int32 × XZ) fun q134 => True))) ∧
          xlt (if v11 = 0 then (xlt (xf_Z_give q126 ((1 : Int32) <<< ((((xus p0 (25 : Int32)) - (48 : Int32)) / (2 : Int32)) &&& 31)) p2 p3 : Int32 × XZ) fun q129 => q129.1) else (xlt (if ((p0 >>> ((20 : Int32) &&& 31)) &&& (31 : Int32)) ≤ 0 then (0) else (1) : Int32) fun v132 => xlt (xf_Z_take q126 p1 ((1 : Int32) <<< ((((xus p0 (25 : Int32)) - (48 : Int32)) / (2 : Int32)) &&& 31)) v132 p2 : Int32 × XZ) fun q134 => q134.1) : Int32) fun v137 =>
          xlt (if v11 = 0 then (xlt (xf_Z_give q126 ((1 : Int32) <<< ((((xus p0 (25 : Int32)) - (48 : Int32)) / (2 : Int32)) &&& 31)) p2 p3 : Int32 × XZ) fun q129 => q129.2) else (xlt (if ((p0 >>> ((20 : Int32) &&& 31)) &&& (31 : Int32)) ≤ 0 then (0) else (1) : Int32) fun v132 => xlt (xf_Z_take q126 p1 ((1 : Int32) <<< ((((xus p0 (25 : Int32)) - (48 : Int32)) / (2 : Int32)) &&& 31)) v132 p2 : Int32 × XZ) fun q134 => q134.2) : XZ) fun v138 =>
          True
      else
        (xv_Z_notThere u p0) ∧
        xlt (xf_Z_notThere u p0 : Int32 × XZ) fun q111 =>
        True
  else
    xlt (xf_Z_isVirtual u : Int32) fun q20 =>
    if q20 = 0 then
      if (xg_Z_mode u) = 0 then
        (xv_Z_bit u (1536 : Int32) (9 : Int32)) ∧
        xlt (xf_Z_bit u (1536 : Int32) (9 : Int32) : Int32) fun q64 =>
        if q64 = 0 then
          (xv_Z_notThere u p0) ∧
          xlt (xf_Z_notThere u p0 : Int32 × XZ) fun q106 =>
          True
        else
          xlt (if v11 = 0 then (2) else (1) : Int32) fun v68 =>
          (xv_Z_bit u (1536 : Int32) (8 : Int32)) ∧
          xlt (xf_Z_bit u (1536 : Int32) (8 : Int32) : Int32) fun q70 =>
          xlt (if q70 = 0 then (1) else (0) : Int32) fun v73 =>
          xlt (if v11 = 0 then (0) else (if ((p0 >>> ((20 : Int32) &&& 31)) &&& (31 : Int32)) = 3 then (1) else (0)) : Int32) fun v77 =>
          (xv_Z_asMode u v68 (1 : Int32) v73 v77) ∧
          xlt (xf_Z_asMode u v68 (1 : Int32) v73 v77 : XZ) fun q79 =>
          (if v11 = 0 then ((xv_Z_give q79 ((1 : Int32) <<< ((((xus p0 (25 : Int32)) - (48 : Int32)) / (2 : Int32)) &&& 31)) p2 p3) ∧ (xlt (xf_Z_give q79 ((1 : Int32) <<< ((((xus p0 (25 : Int32)) - (48 : Int32)) / (2 : Int32)) &&& 31)) p2 p3 : Int32 × XZ) fun q82 => True)) else (xlt (if ((p0 >>> ((20 : Int32) &&& 31)) &&& (31 : Int32)) ≤ 0 then (0) else (1) : Int32) fun v85 => (xv_Z_take q79 p1 ((1 : Int32) <<< ((((xus p0 (25 : Int32)) - (48 : Int32)) / (2 : Int32)) &&& 31)) v85 p2) ∧ (xlt (xf_Z_take q79 p1 ((1 : Int32) <<< ((((xus p0 (25 : Int32)) - (48 : Int32)) / (2 : Int32)) &&& 31)) v85 p2 : Int32 × XZ) fun q87 => True))) ∧
          xlt (if v11 = 0 then (xlt (xf_Z_give q79 ((1 : Int32) <<< ((((xus p0 (25 : Int32)) - (48 : Int32)) / (2 : Int32)) &&& 31)) p2 p3 : Int32 × XZ) fun q82 => q82.1) else (xlt (if ((p0 >>> ((20 : Int32) &&& 31)) &&& (31 : Int32)) ≤ 0 then (0) else (1) : Int32) fun v85 => xlt (xf_Z_take q79 p1 ((1 : Int32) <<< ((((xus p0 (25 : Int32)) - (48 : Int32)) / (2 : Int32)) &&& 31)) v85 p2 : Int32 × XZ) fun q87 => q87.1) : Int32) fun v90 =>
          xlt (if v11 = 0 then (xlt (xf_Z_give q79 ((1 : Int32) <<< ((((xus p0 (25 : Int32)) - (48 : Int32)) / (2 : Int32)) &&& 31)) p2 p3 : Int32 × XZ) fun q82 => q82.2) else (xlt (if ((p0 >>> ((20 : Int32) &&& 31)) &&& (31 : Int32)) ≤ 0 then (0) else (1) : Int32) fun v85 => xlt (xf_Z_take q79 p1 ((1 : Int32) <<< ((((xus p0 (25 : Int32)) - (48 : Int32)) / (2 : Int32)) &&& 31)) v85 p2 : Int32 × XZ) fun q87 => q87.2) : XZ) fun v91 =>
          True
      else
        xlt (if v11 = 0 then (2) else (1) : Int32) fun v26 =>
        (xv_Z_bit u (1536 : Int32) (8 : Int32)) ∧
        xlt (xf_Z_bit u (1536 : Int32) (8 : Int32) : Int32) fun q28 =>
        xlt (if q28 = 0 then (1) else (0) : Int32) fun v31 =>
        xlt (if v11 = 0 then (0) else (if ((p0 >>> ((20 : Int32) &&& 31)) &&& (31 : Int32)) = 3 then (1) else (0)) : Int32) fun v35 =>
        (xv_Z_asMode u v26 (1 : Int32) v31 v35) ∧
        xlt (xf_Z_asMode u v26 (1 : Int32) v31 v35 : XZ) fun q37 =>
        (if v11 = 0 then ((xv_Z_give q37 ((1 : Int32) <<< ((((xus p0 (25 : Int32)) - (48 : Int32)) / (2 : Int32)) &&& 31)) p2 p3) ∧ (xlt (xf_Z_give q37 ((1 : Int32) <<< ((((xus p0 (25 : Int32)) - (48 : Int32)) / (2 : Int32)) &&& 31)) p2 p3 : Int32 × XZ) fun q40 => True)) else (xlt (if ((p0 >>> ((20 : Int32) &&& 31)) &&& (31 : Int32)) ≤ 0 then (0) else (1) : Int32) fun v43 => (xv_Z_take q37 p1 ((1 : Int32) <<< ((((xus p0 (25 : Int32)) - (48 : Int32)) / (2 : Int32)) &&& 31)) v43 p2) ∧ (xlt (xf_Z_take q37 p1 ((1 : Int32) <<< ((((xus p0 (25 : Int32)) - (48 : Int32)) / (2 : Int32)) &&& 31)) v43 p2 : Int32 × XZ) fun q45 => True))) ∧
        xlt (if v11 = 0 then (xlt (xf_Z_give q37 ((1 : Int32) <<< ((((xus p0 (25 : Int32)) - (48 : Int32)) / (2 : Int32)) &&& 31)) p2 p3 : Int32 × XZ) fun q40 => q40.1) else (xlt (if ((p0 >>> ((20 : Int32) &&& 31)) &&& (31 : Int32)) ≤ 0 then (0) else (1) : Int32) fun v43 => xlt (xf_Z_take q37 p1 ((1 : Int32) <<< ((((xus p0 (25 : Int32)) - (48 : Int32)) / (2 : Int32)) &&& 31)) v43 p2 : Int32 × XZ) fun q45 => q45.1) : Int32) fun v48 =>
        xlt (if v11 = 0 then (xlt (xf_Z_give q37 ((1 : Int32) <<< ((((xus p0 (25 : Int32)) - (48 : Int32)) / (2 : Int32)) &&& 31)) p2 p3 : Int32 × XZ) fun q40 => q40.2) else (xlt (if ((p0 >>> ((20 : Int32) &&& 31)) &&& (31 : Int32)) ≤ 0 then (0) else (1) : Int32) fun v43 => xlt (xf_Z_take q37 p1 ((1 : Int32) <<< ((((xus p0 (25 : Int32)) - (48 : Int32)) / (2 : Int32)) &&& 31)) v43 p2 : Int32 × XZ) fun q45 => q45.2) : XZ) fun v49 =>
        True
    else
      (xv_Z_notThere u p0) ∧
      xlt (xf_Z_notThere u p0 : Int32 × XZ) fun q22 =>
      True)
set_option maxHeartbeats 4000000 in
set_option maxRecDepth 100000 in
theorem c_Z_asIfVirtual (l : Launch) (D : va_G) (z : (Nat → Nat) × (Nat → Nat)) (k : ClassId × ClassId) (b : Nat → Nat) (sz : Nat) (u : XZ) (p0 : Int32) (p1 : Int32) (p2 : Int32) (p3 : Int32) (hv : xv_Z_asIfVirtual u p0 p1 p2 p3) : Met l xy_Z_asIfVirtual (xk_Z_asIfVirtual :: lw_g) { frames := 10, cells := 0, slots := 0, locals := 270 } (va_Pc [.ref ((b 0)), .int p0, .int p1, .int p2, .int p3] (xB D (xTy k) z sz (xWZ k b u))) (va_Qi (fun r (q : XZ) => (r, q) = xf_Z_asIfVirtual u p0 p1 p2 p3) (fun q t => xQ D (xTy k) (xWZ k b q) (va_A (xWZ k b u) sz) t) (va_A (xWZ k b u) sz)) 0 0 (va_A (xWZ k b u) sz) := by
  refine xopen_z (wf := fun q : XZ => xWZ k b q) (lv := [(0, .ref ((b 0))), (1, .int p0), (2, .int p1), (3, .int p2), (4, .int p3)]) (by decide) rfl (Nat.le_of_ble_eq_true rfl) ?_
  intro p e s m args below meth c Q ls A H locs hx hb hml htg hown hin hK hP hD hE hS hA hl hret
  unfold xv_Z_asIfVirtual at hv
  refine lv_iload_n hx hb xd_Z_asIfVirtual_0 rfl (lv_at hl 1 rfl) ?_
  refine lv_bipush (v := 25) hx hb xd_Z_asIfVirtual_1 (by decide) ?_
  refine lv_iushr (v := (xus p0 (25 : Int32))) hx hb xd_Z_asIfVirtual_3 rfl ?_
  refine lv_istore (lv' := [(5, .int ((xus p0 (25 : Int32)))), (0, .ref ((b 0))), (1, .int p0), (2, .int p1), (3, .int p2), (4, .int p3)]) hx hb xd_Z_asIfVirtual_4 hl (by decide) rfl (fun ls hl => ?_)
  refine lv_iload_n hx hb xd_Z_asIfVirtual_6 rfl (lv_at hl 2 rfl) ?_
  refine lv_bipush (v := 20) hx hb xd_Z_asIfVirtual_7 (by decide) ?_
  refine lv_ishr hx hb xd_Z_asIfVirtual_9 ?_
  refine lv_bipush (v := 31) hx hb xd_Z_asIfVirtual_10 (by decide) ?_
  refine lv_iand hx hb xd_Z_asIfVirtual_12 ?_
  refine lv_istore (lv' := [(6, .int (((p0 >>> ((20 : Int32) &&& 31)) &&& (31 : Int32)))), (5, .int ((xus p0 (25 : Int32)))), (0, .ref ((b 0))), (1, .int p0), (2, .int p1), (3, .int p2), (4, .int p3)]) hx hb xd_Z_asIfVirtual_13 hl (by decide) rfl (fun ls hl => ?_)
  refine lv_iconst (v := 1) hx hb xd_Z_asIfVirtual_15 (by decide) ?_
  refine lv_iload hx hb xd_Z_asIfVirtual_16 (lv_at hl 1 rfl) ?_
  refine lv_bipush (v := 48) hx hb xd_Z_asIfVirtual_18 (by decide) ?_
  refine lv_isub hx hb xd_Z_asIfVirtual_20 ?_
  refine lv_iconst (v := 2) hx hb xd_Z_asIfVirtual_21 (by decide) ?_
  refine lv_idiv hx hb xd_Z_asIfVirtual_22 (by decide) ?_
  refine lv_ishl hx hb xd_Z_asIfVirtual_23 ?_
  refine lv_istore (lv' := [(7, .int (((1 : Int32) <<< ((((xus p0 (25 : Int32)) - (48 : Int32)) / (2 : Int32)) &&& 31)))), (6, .int (((p0 >>> ((20 : Int32) &&& 31)) &&& (31 : Int32)))), (5, .int ((xus p0 (25 : Int32)))), (0, .ref ((b 0))), (1, .int p0), (2, .int p1), (3, .int p2), (4, .int p3)]) hx hb xd_Z_asIfVirtual_24 hl (by decide) rfl (fun ls hl => ?_)
  refine lv_iload hx hb xd_Z_asIfVirtual_26 (lv_at hl 2 rfl) ?_
  refine lv_bipush (v := 48) hx hb xd_Z_asIfVirtual_28 (by decide) ?_
  refine lv_bipush (v := 52) hx hb xd_Z_asIfVirtual_30 (by decide) ?_
  refine xc0_i (va_runS (As := [.int ((xus p0 (25 : Int32))), .int 48, .int 52]) (rest := []) ⟨hx, hb, hml, hown, htg⟩ (c_Z_isIn l D (xTy k) z H.size (xus p0 (25 : Int32)) (48 : Int32) (52 : Int32)) (va_cwS 3 htg (xg_S0 xkin_Z_isIn xw_831 xw_832 xw_9) rfl rfl rfl (by decide +kernel) ⟨Nat.le_of_ble_eq_true rfl, Nat.le_of_ble_eq_true rfl⟩) ⟨xB_blind, fun U hU hW => xB_mk va_P0 hK va_D0 hE hS (xsub0 hA hS) hU hW⟩ rfl rfl hl.1 rfl (lv_room (Nat.le_of_ble_eq_true rfl)) xd_Z_asIfVirtual_32 ⟨Nat.le_of_ble_eq_true rfl, Nat.le_of_ble_eq_true rfl⟩) hP hA hS (fun r1 H locs hr1 hP hS => ?_)
  have hv := xlt_v hr1 hv
  have hj12 : ∀ (H : Heap) (locs : List Loc) (ls : Array Slot) (v11 : Int32), v11 = (if r1 = 0 then (0) else (if ((xus p0 (25 : Int32)) - (xus p0 (25 : Int32)) / (2 : Int32) * (2 : Int32)) = 0 then (if ((p0 >>> ((20 : Int32) &&& 31)) &&& (31 : Int32)) = 0 then (1) else (if ((p0 >>> ((20 : Int32) &&& 31)) &&& (31 : Int32)) = 1 then (if ((1 : Int32) <<< ((((xus p0 (25 : Int32)) - (48 : Int32)) / (2 : Int32)) &&& 31)) < 4 then (1) else (if ((p0 >>> ((20 : Int32) &&& 31)) &&& (31 : Int32)) = 3 then (if ((1 : Int32) <<< ((((xus p0 (25 : Int32)) - (48 : Int32)) / (2 : Int32)) &&& 31)) ≤ 1 then (0) else (1)) else (0))) else (if ((p0 >>> ((20 : Int32) &&& 31)) &&& (31 : Int32)) = 3 then (if ((1 : Int32) <<< ((((xus p0 (25 : Int32)) - (48 : Int32)) / (2 : Int32)) &&& 31)) ≤ 1 then (0) else (1)) else (0)))) else (0))) → lv_has ls 10 [(7, .int (((1 : Int32) <<< ((((xus p0 (25 : Int32)) - (48 : Int32)) / (2 : Int32)) &&& 31)))), (6, .int (((p0 >>> ((20 : Int32) &&& 31)) &&& (31 : Int32)))), (5, .int ((xus p0 (25 : Int32)))), (0, .ref ((b 0))), (1, .int p0), (2, .int p1), (3, .int p2), (4, .int p3)] → va_P D xCl (xWZ k b u) H → va_D A (xWZ k b u) → va_S A s.heap H locs → W p l e { frames := 10, cells := 0, slots := 0, locals := 270 } s m args below meth c H locs (0) (0) Q (F0 m 79 ls [.int v11]) := by
    intro H locs ls v11 hv11 hl hP hD hS
    have hv := xlt_v hv11 hv
    refine lv_istore (lv' := [(8, .int v11), (7, .int (((1 : Int32) <<< ((((xus p0 (25 : Int32)) - (48 : Int32)) / (2 : Int32)) &&& 31)))), (6, .int (((p0 >>> ((20 : Int32) &&& 31)) &&& (31 : Int32)))), (5, .int ((xus p0 (25 : Int32)))), (0, .ref ((b 0))), (1, .int p0), (2, .int p1), (3, .int p2), (4, .int p3)]) hx hb xd_Z_asIfVirtual_79 hl (by decide) rfl (fun ls hl => ?_)
    refine lv_iload hx hb xd_Z_asIfVirtual_81 (lv_at hl 3 rfl) ?_
    refine lv_bipush (v := 49) hx hb xd_Z_asIfVirtual_83 (by decide) ?_
    refine lv_bipush (v := 53) hx hb xd_Z_asIfVirtual_85 (by decide) ?_
    refine xc0_i (va_runS (As := [.int ((xus p0 (25 : Int32))), .int 49, .int 53]) (rest := []) ⟨hx, hb, hml, hown, htg⟩ (c_Z_isIn l D (xTy k) z H.size (xus p0 (25 : Int32)) (49 : Int32) (53 : Int32)) (va_cwS 3 htg (xg_S0 xkin_Z_isIn xw_831 xw_832 xw_9) rfl rfl rfl (by decide +kernel) ⟨Nat.le_of_ble_eq_true rfl, Nat.le_of_ble_eq_true rfl⟩) ⟨xB_blind, fun U hU hW => xB_mk va_P0 hK va_D0 hE hS (xsub0 hA hS) hU hW⟩ rfl rfl hl.1 rfl (lv_room (Nat.le_of_ble_eq_true rfl)) xd_Z_asIfVirtual_87 ⟨Nat.le_of_ble_eq_true rfl, Nat.le_of_ble_eq_true rfl⟩) hP hA hS (fun r13 H locs hr13 hP hS => ?_)
    have hv := xlt_v hr13 hv
    have hj18 : ∀ (H : Heap) (locs : List Loc) (ls : Array Slot) (v17 : Int32), v17 = (if r13 = 0 then (0) else (if ((xus p0 (25 : Int32)) - (xus p0 (25 : Int32)) / (2 : Int32) * (2 : Int32)) = 1 then (if p1 = 0 then (1) else (0)) else (0))) → lv_has ls 10 [(8, .int v11), (7, .int (((1 : Int32) <<< ((((xus p0 (25 : Int32)) - (48 : Int32)) / (2 : Int32)) &&& 31)))), (6, .int (((p0 >>> ((20 : Int32) &&& 31)) &&& (31 : Int32)))), (5, .int ((xus p0 (25 : Int32)))), (0, .ref ((b 0))), (1, .int p0), (2, .int p1), (3, .int p2), (4, .int p3)] → va_P D xCl (xWZ k b u) H → va_D A (xWZ k b u) → va_S A s.heap H locs → W p l e { frames := 10, cells := 0, slots := 0, locals := 270 } s m args below meth c H locs (0) (0) Q (F0 m 110 ls [.int v17]) := by
      intro H locs ls v17 hv17 hl hP hD hS
      have hv := xlt_v hv17 hv
      refine lv_istore (lv' := [(9, .int v17), (8, .int v11), (7, .int (((1 : Int32) <<< ((((xus p0 (25 : Int32)) - (48 : Int32)) / (2 : Int32)) &&& 31)))), (6, .int (((p0 >>> ((20 : Int32) &&& 31)) &&& (31 : Int32)))), (5, .int ((xus p0 (25 : Int32)))), (0, .ref ((b 0))), (1, .int p0), (2, .int p1), (3, .int p2), (4, .int p3)]) hx hb xd_Z_asIfVirtual_110 hl (by decide) rfl (fun ls hl => ?_)
      refine lv_iload hx hb xd_Z_asIfVirtual_112 (lv_at hl 1 rfl) ?_
      refine lv_if_ne (tgt := 128) hx hb xd_Z_asIfVirtual_114 rfl (fun h19 => ?_) (fun h19 => ?_)
      · have hv := xif_v h19 hv
        refine lv_aload_n hx hb xd_Z_asIfVirtual_128 rfl (lv_at hl 5 rfl) ?_
        refine xcW_i (va_runV (As := []) (rest := []) ⟨hx, hb, hml, hown, htg⟩ (c_Z_isVirtual l D z k b H.size u) (cwV 0 htg (xg_V0 xkin_Z_isVirtual xw_917 xw_919 xsel_Z_isVirtual xw_9) rfl rfl rfl (by decide +kernel) ⟨Nat.le_of_ble_eq_true rfl, Nat.le_of_ble_eq_true rfl⟩) ⟨xB_blind, xrecv_Z hK hP, fun U hU hW => xB_mk hP hK hD hE hS (xsubW hD hA hS) hU hW⟩ rfl rfl hl.1 rfl (lv_room (Nat.le_of_ble_eq_true rfl)) xd_Z_asIfVirtual_129 ⟨Nat.le_of_ble_eq_true rfl, Nat.le_of_ble_eq_true rfl⟩) hD hA hS (fun r u1 H locs hw hP hD hS => ?_)
        obtain ⟨q20, hq20⟩ : ∃ q, q = xf_Z_isVirtual u := ⟨_, rfl⟩
        obtain ⟨e1, e2⟩ := hw
        rw [← hq20] at e1
        obtain rfl : q20 = r := e1.symm
        obtain rfl : u = u1 := e2.symm
        have hP : va_P D xCl (xWZ k b u) H := hP
        have hD : va_D A (xWZ k b u) := hD
        have hv := xlt_v hq20 hv
        refine lv_if_ne (tgt := 154) hx hb xd_Z_asIfVirtual_132 rfl (fun h21 => ?_) (fun h21 => ?_)
        · have hv := xif_v h21 hv
          refine lv_aload_n hx hb xd_Z_asIfVirtual_154 rfl (lv_at hl 5 rfl) ?_
          refine lv_iload_n hx hb xd_Z_asIfVirtual_155 rfl (lv_at hl 6 rfl) ?_
          obtain ⟨hn23, hv⟩ := xan_v hv
          refine xcW_i (va_runV (As := [.int p0]) (rest := []) ⟨hx, hb, hml, hown, htg⟩ (c_Z_notThere l D z k b H.size u p0 hn23) (cwV 1 htg (xg_V0 xkin_Z_notThere xw_1045 xw_1047 xsel_Z_notThere xw_9) rfl rfl rfl (by decide +kernel) ⟨Nat.le_of_ble_eq_true rfl, Nat.le_of_ble_eq_true rfl⟩) ⟨xB_blind, xrecv_Z hK hP, fun U hU hW => xB_mk hP hK hD hE hS (xsubW hD hA hS) hU hW⟩ rfl rfl hl.1 rfl (lv_room (Nat.le_of_ble_eq_true rfl)) xd_Z_asIfVirtual_156 ⟨Nat.le_of_ble_eq_true rfl, Nat.le_of_ble_eq_true rfl⟩) hD hA hS (fun r u1 H locs hw hP hD hS => ?_)
          obtain ⟨q22, hq22⟩ : ∃ q, q = xf_Z_notThere u p0 := ⟨_, rfl⟩
          rw [← hq22] at hw
          obtain rfl : r = q22.1 := congrArg Prod.fst hw
          obtain rfl : u1 = q22.2 := congrArg Prod.snd hw
          have hP : va_P D xCl (xWZ k b q22.2) H := hP
          have hD : va_D A (xWZ k b q22.2) := hD
          have hv := xlt_v hq22 hv
          exact hret _ q22.2 H locs ls _ (xnar (X01_ofp hq22 (xt01_Z_notThere u p0))) (by unfold xf_Z_asIfVirtual; exact (xlt_e hr1 (xlt_e hv11 (xlt_e hr13 (xlt_e hv17 (xif h19 (xlt_e hq20 (xif h21 (xlt_e hq22 rfl))))))))) hP hD hS xd_Z_asIfVirtual_159
        · have hv := xit_v h21 hv
          refine lv_aload_n hx hb xd_Z_asIfVirtual_135 rfl (lv_at hl 5 rfl) ?_
          refine xget_Z_mode (v := (xg_Z_mode u)) hx hb htg hown hK hP (htg _ xw_731) rfl xd_Z_asIfVirtual_136 ?_
          refine lv_if_ne (tgt := 160) hx hb xd_Z_asIfVirtual_139 rfl (fun h24 => ?_) (fun h24 => ?_)
          · have hv := xif_v h24 hv
            refine lv_aload_n hx hb xd_Z_asIfVirtual_160 rfl (lv_at hl 5 rfl) ?_
            refine lv_iload hx hb xd_Z_asIfVirtual_161 (lv_at hl 1 rfl) ?_
            have hj27 : ∀ (H : Heap) (locs : List Loc) (ls : Array Slot) (v26 : Int32), v26 = (if v11 = 0 then (2) else (1)) → lv_has ls 10 [(9, .int v17), (8, .int v11), (7, .int (((1 : Int32) <<< ((((xus p0 (25 : Int32)) - (48 : Int32)) / (2 : Int32)) &&& 31)))), (6, .int (((p0 >>> ((20 : Int32) &&& 31)) &&& (31 : Int32)))), (5, .int ((xus p0 (25 : Int32)))), (0, .ref ((b 0))), (1, .int p0), (2, .int p1), (3, .int p2), (4, .int p3)] → va_P D xCl (xWZ k b u) H → va_D A (xWZ k b u) → va_S A s.heap H locs → W p l e { frames := 10, cells := 0, slots := 0, locals := 270 } s m args below meth c H locs (0) (0) Q (F0 m 171 ls [.int v26, .ref ((b 0))]) := by
              intro H locs ls v26 hv26 hl hP hD hS
              have hv := xlt_v hv26 hv
              refine lv_iconst (v := 1) hx hb xd_Z_asIfVirtual_171 (by decide) ?_
              refine lv_aload_n hx hb xd_Z_asIfVirtual_172 rfl (lv_at hl 5 rfl) ?_
              refine lv_sipush (v := 1536) hx hb xd_Z_asIfVirtual_173 (by decide) ?_
              refine lv_bipush (v := 8) hx hb xd_Z_asIfVirtual_176 (by decide) ?_
              obtain ⟨hn29, hv⟩ := xan_v hv
              refine xcW_i (va_runV (As := [.int 1536, .int 8]) (rest := [.int 1, .int v26, .ref ((b 0))]) ⟨hx, hb, hml, hown, htg⟩ (c_Z_bit l D z k b H.size u (1536 : Int32) (8 : Int32) hn29) (cwV 2 htg (xg_V0 xkin_Z_bit xw_867 xw_869 xsel_Z_bit xw_9) rfl rfl rfl (by decide +kernel) ⟨Nat.le_of_ble_eq_true rfl, Nat.le_of_ble_eq_true rfl⟩) ⟨xB_blind, xrecv_Z hK hP, fun U hU hW => xB_mk hP hK hD hE hS (xsubW hD hA hS) hU hW⟩ rfl rfl hl.1 rfl (lv_room (Nat.le_of_ble_eq_true rfl)) xd_Z_asIfVirtual_178 ⟨Nat.le_of_ble_eq_true rfl, Nat.le_of_ble_eq_true rfl⟩) hD hA hS (fun r u1 H locs hw hP hD hS => ?_)
              obtain ⟨q28, hq28⟩ : ∃ q, q = xf_Z_bit u (1536 : Int32) (8 : Int32) := ⟨_, rfl⟩
              obtain ⟨e1, e2⟩ := hw
              rw [← hq28] at e1
              obtain rfl : q28 = r := e1.symm
              obtain rfl : u = u1 := e2.symm
              have hP : va_P D xCl (xWZ k b u) H := hP
              have hD : va_D A (xWZ k b u) := hD
              have hv := xlt_v hq28 hv
              have hj32 : ∀ (H : Heap) (locs : List Loc) (ls : Array Slot) (v31 : Int32), v31 = (if q28 = 0 then (1) else (0)) → lv_has ls 10 [(9, .int v17), (8, .int v11), (7, .int (((1 : Int32) <<< ((((xus p0 (25 : Int32)) - (48 : Int32)) / (2 : Int32)) &&& 31)))), (6, .int (((p0 >>> ((20 : Int32) &&& 31)) &&& (31 : Int32)))), (5, .int ((xus p0 (25 : Int32)))), (0, .ref ((b 0))), (1, .int p0), (2, .int p1), (3, .int p2), (4, .int p3)] → va_P D xCl (xWZ k b u) H → va_D A (xWZ k b u) → va_S A s.heap H locs → W p l e { frames := 10, cells := 0, slots := 0, locals := 270 } s m args below meth c H locs (0) (0) Q (F0 m 189 ls [.int v31, .int 1, .int v26, .ref ((b 0))]) := by
                intro H locs ls v31 hv31 hl hP hD hS
                have hv := xlt_v hv31 hv
                refine lv_iload hx hb xd_Z_asIfVirtual_189 (lv_at hl 1 rfl) ?_
                have hj36 : ∀ (H : Heap) (locs : List Loc) (ls : Array Slot) (v35 : Int32), v35 = (if v11 = 0 then (0) else (if ((p0 >>> ((20 : Int32) &&& 31)) &&& (31 : Int32)) = 3 then (1) else (0))) → lv_has ls 10 [(9, .int v17), (8, .int v11), (7, .int (((1 : Int32) <<< ((((xus p0 (25 : Int32)) - (48 : Int32)) / (2 : Int32)) &&& 31)))), (6, .int (((p0 >>> ((20 : Int32) &&& 31)) &&& (31 : Int32)))), (5, .int ((xus p0 (25 : Int32)))), (0, .ref ((b 0))), (1, .int p0), (2, .int p1), (3, .int p2), (4, .int p3)] → va_P D xCl (xWZ k b u) H → va_D A (xWZ k b u) → va_S A s.heap H locs → W p l e { frames := 10, cells := 0, slots := 0, locals := 270 } s m args below meth c H locs (0) (0) Q (F0 m 205 ls [.int v35, .int v31, .int 1, .int v26, .ref ((b 0))]) := by
                  intro H locs ls v35 hv35 hl hP hD hS
                  have hv := xlt_v hv35 hv
                  obtain ⟨hn38, hv⟩ := xan_v hv
                  refine xcW_v (va_runV (As := [.int v26, .int 1, .int v31, .int v35]) (rest := []) ⟨hx, hb, hml, hown, htg⟩ (c_Z_asMode l D z k b H.size u v26 (1 : Int32) v31 v35 hn38) (cwV 4 htg (xg_V0 xkin_Z_asMode xw_925 xw_927 xsel_Z_asMode xw_9) rfl rfl rfl (by decide +kernel) ⟨Nat.le_of_ble_eq_true rfl, Nat.le_of_ble_eq_true rfl⟩) ⟨xB_blind, xrecv_Z hK hP, fun U hU hW => xB_mk hP hK hD hE hS (xsubW hD hA hS) hU hW⟩ rfl rfl hl.1 rfl (lv_room (Nat.le_of_ble_eq_true rfl)) xd_Z_asIfVirtual_205 ⟨Nat.le_of_ble_eq_true rfl, Nat.le_of_ble_eq_true rfl⟩) hD hA hS (fun u1 H locs hw hP hD hS => ?_)
                  obtain ⟨q37, hq37⟩ : ∃ q, q = xf_Z_asMode u v26 (1 : Int32) v31 v35 := ⟨_, rfl⟩
                  rw [← hq37] at hw
                  obtain rfl : q37 = u1 := hw.symm
                  have hP : va_P D xCl (xWZ k b q37) H := hP
                  have hD : va_D A (xWZ k b q37) := hD
                  have hv := xlt_v hq37 hv
                  refine lv_iload hx hb xd_Z_asIfVirtual_208 (lv_at hl 1 rfl) ?_
                  obtain ⟨hva, hv⟩ := xan_v2 hv
                  have hj50 : ∀ (H : Heap) (locs : List Loc) (ls : Array Slot) (v48 : Int32) (v49 : XZ), v48 = (if v11 = 0 then (xlt (xf_Z_give q37 ((1 : Int32) <<< ((((xus p0 (25 : Int32)) - (48 : Int32)) / (2 : Int32)) &&& 31)) p2 p3 : Int32 × XZ) fun q40 => q40.1) else (xlt (if ((p0 >>> ((20 : Int32) &&& 31)) &&& (31 : Int32)) ≤ 0 then (0) else (1) : Int32) fun v43 => xlt (xf_Z_take q37 p1 ((1 : Int32) <<< ((((xus p0 (25 : Int32)) - (48 : Int32)) / (2 : Int32)) &&& 31)) v43 p2 : Int32 × XZ) fun q45 => q45.1)) → v49 = (if v11 = 0 then (xlt (xf_Z_give q37 ((1 : Int32) <<< ((((xus p0 (25 : Int32)) - (48 : Int32)) / (2 : Int32)) &&& 31)) p2 p3 : Int32 × XZ) fun q40 => q40.2) else (xlt (if ((p0 >>> ((20 : Int32) &&& 31)) &&& (31 : Int32)) ≤ 0 then (0) else (1) : Int32) fun v43 => xlt (xf_Z_take q37 p1 ((1 : Int32) <<< ((((xus p0 (25 : Int32)) - (48 : Int32)) / (2 : Int32)) &&& 31)) v43 p2 : Int32 × XZ) fun q45 => q45.2)) → lv_has ls 10 [(9, .int v17), (8, .int v11), (7, .int (((1 : Int32) <<< ((((xus p0 (25 : Int32)) - (48 : Int32)) / (2 : Int32)) &&& 31)))), (6, .int (((p0 >>> ((20 : Int32) &&& 31)) &&& (31 : Int32)))), (5, .int ((xus p0 (25 : Int32)))), (0, .ref ((b 0))), (1, .int p0), (2, .int p1), (3, .int p2), (4, .int p3)] → va_P D xCl (xWZ k b v49) H → va_D A (xWZ k b v49) → va_S A s.heap H locs → W p l e { frames := 10, cells := 0, slots := 0, locals := 270 } s m args below meth c H locs (0) (0) Q (F0 m 243 ls [.int v48]) := by
                    intro H locs ls v48 v49 hv48 hv49 hl hP hD hS
                    have hv := xlt_v hv48 hv
                    have hv := xlt_v hv49 hv
                    exact hret _ v49 H locs ls _ (xnar (X01_of hv48 (xit_01 (xlt_01 (fun q40 hq40 => (X01_ofp hq40 (xt01_Z_give q37 ((1 : Int32) <<< ((((xus p0 (25 : Int32)) - (48 : Int32)) / (2 : Int32)) &&& 31)) p2 p3)))) (xlt_01 (fun v43 hv43 => (xlt_01 (fun q45 hq45 => (X01_ofp hq45 (xt01_Z_take q37 p1 ((1 : Int32) <<< ((((xus p0 (25 : Int32)) - (48 : Int32)) / (2 : Int32)) &&& 31)) v43 p2))))))))) (by unfold xf_Z_asIfVirtual; exact (xlt_e hr1 (xlt_e hv11 (xlt_e hr13 (xlt_e hv17 (xif h19 (xlt_e hq20 (xit h21 (xif h24 (xlt_e hv26 (xlt_e hq28 (xlt_e hv31 (xlt_e hv35 (xlt_e hq37 (xlt_e hv48 (xlt_e hv49 rfl)))))))))))))))) hP hD hS xd_Z_asIfVirtual_243
                  have hv := hva
                  refine lv_if_eq (tgt := 234) hx hb xd_Z_asIfVirtual_210 rfl (fun h51 => ?_) (fun h51 => ?_)
                  · have hv := xit_v h51 hv
                    refine lv_aload_n hx hb xd_Z_asIfVirtual_234 rfl (lv_at hl 5 rfl) ?_
                    refine lv_iload hx hb xd_Z_asIfVirtual_235 (lv_at hl 2 rfl) ?_
                    refine lv_iload_n hx hb xd_Z_asIfVirtual_237 rfl (lv_at hl 8 rfl) ?_
                    refine lv_iload hx hb xd_Z_asIfVirtual_238 (lv_at hl 9 rfl) ?_
                    obtain ⟨hn53, hv⟩ := xan_v hv
                    refine xcW_i (va_runV (As := [.int (((1 : Int32) <<< ((((xus p0 (25 : Int32)) - (48 : Int32)) / (2 : Int32)) &&& 31))), .int p2, .int p3]) (rest := []) ⟨hx, hb, hml, hown, htg⟩ (c_Z_give l D z k b H.size q37 ((1 : Int32) <<< ((((xus p0 (25 : Int32)) - (48 : Int32)) / (2 : Int32)) &&& 31)) p2 p3 hn53) (cwV 3 htg (xg_V0 xkin_Z_give xw_1018 xw_1020 xsel_Z_give xw_9) rfl rfl rfl (by decide +kernel) ⟨Nat.le_of_ble_eq_true rfl, Nat.le_of_ble_eq_true rfl⟩) ⟨xB_blind, xrecv_Z hK hP, fun U hU hW => xB_mk hP hK hD hE hS (xsubW hD hA hS) hU hW⟩ rfl rfl hl.1 rfl (lv_room (Nat.le_of_ble_eq_true rfl)) xd_Z_asIfVirtual_240 ⟨Nat.le_of_ble_eq_true rfl, Nat.le_of_ble_eq_true rfl⟩) hD hA hS (fun r u1 H locs hw hP hD hS => ?_)
                    obtain ⟨q52, hq52⟩ : ∃ q, q = xf_Z_give q37 ((1 : Int32) <<< ((((xus p0 (25 : Int32)) - (48 : Int32)) / (2 : Int32)) &&& 31)) p2 p3 := ⟨_, rfl⟩
                    rw [← hq52] at hw
                    obtain rfl : r = q52.1 := congrArg Prod.fst hw
                    obtain rfl : u1 = q52.2 := congrArg Prod.snd hw
                    have hP : va_P D xCl (xWZ k b q52.2) H := hP
                    have hD : va_D A (xWZ k b q52.2) := hD
                    have hv := xlt_v hq52 hv
                    exact hj50 H locs ls q52.1 q52.2 (xit h51 (xlt_e hq52 rfl)) (xit h51 (xlt_e hq52 rfl)) hl hP hD hS
                  · have hv := xif_v h51 hv
                    refine lv_aload_n hx hb xd_Z_asIfVirtual_213 rfl (lv_at hl 5 rfl) ?_
                    refine lv_iload_n hx hb xd_Z_asIfVirtual_214 rfl (lv_at hl 7 rfl) ?_
                    refine lv_iload hx hb xd_Z_asIfVirtual_215 (lv_at hl 2 rfl) ?_
                    refine lv_iload hx hb xd_Z_asIfVirtual_217 (lv_at hl 3 rfl) ?_
                    have hj56 : ∀ (H : Heap) (locs : List Loc) (ls : Array Slot) (v55 : Int32), v55 = (if ((p0 >>> ((20 : Int32) &&& 31)) &&& (31 : Int32)) ≤ 0 then (0) else (1)) → lv_has ls 10 [(9, .int v17), (8, .int v11), (7, .int (((1 : Int32) <<< ((((xus p0 (25 : Int32)) - (48 : Int32)) / (2 : Int32)) &&& 31)))), (6, .int (((p0 >>> ((20 : Int32) &&& 31)) &&& (31 : Int32)))), (5, .int ((xus p0 (25 : Int32)))), (0, .ref ((b 0))), (1, .int p0), (2, .int p1), (3, .int p2), (4, .int p3)] → va_P D xCl (xWZ k b q37) H → va_D A (xWZ k b q37) → va_S A s.heap H locs → W p l e { frames := 10, cells := 0, slots := 0, locals := 270 } s m args below meth c H locs (0) (0) Q (F0 m 227 ls [.int v55, .int (((1 : Int32) <<< ((((xus p0 (25 : Int32)) - (48 : Int32)) / (2 : Int32)) &&& 31))), .int p1, .ref ((b 0))]) := by
                      intro H locs ls v55 hv55 hl hP hD hS
                      have hv := xlt_v hv55 hv
                      refine lv_iload_n hx hb xd_Z_asIfVirtual_227 rfl (lv_at hl 8 rfl) ?_
                      obtain ⟨hn58, hv⟩ := xan_v hv
                      refine xcW_i (va_runV (As := [.int p1, .int (((1 : Int32) <<< ((((xus p0 (25 : Int32)) - (48 : Int32)) / (2 : Int32)) &&& 31))), .int v55, .int p2]) (rest := []) ⟨hx, hb, hml, hown, htg⟩ (c_Z_take l D z k b H.size q37 p1 ((1 : Int32) <<< ((((xus p0 (25 : Int32)) - (48 : Int32)) / (2 : Int32)) &&& 31)) v55 p2 hn58) (cwV 4 htg (xg_V0 xkin_Z_take xw_1005 xw_1007 xsel_Z_take xw_9) rfl rfl rfl (by decide +kernel) ⟨Nat.le_of_ble_eq_true rfl, Nat.le_of_ble_eq_true rfl⟩) ⟨xB_blind, xrecv_Z hK hP, fun U hU hW => xB_mk hP hK hD hE hS (xsubW hD hA hS) hU hW⟩ rfl rfl hl.1 rfl (lv_room (Nat.le_of_ble_eq_true rfl)) xd_Z_asIfVirtual_228 ⟨Nat.le_of_ble_eq_true rfl, Nat.le_of_ble_eq_true rfl⟩) hD hA hS (fun r u1 H locs hw hP hD hS => ?_)
                      obtain ⟨q57, hq57⟩ : ∃ q, q = xf_Z_take q37 p1 ((1 : Int32) <<< ((((xus p0 (25 : Int32)) - (48 : Int32)) / (2 : Int32)) &&& 31)) v55 p2 := ⟨_, rfl⟩
                      rw [← hq57] at hw
                      obtain rfl : r = q57.1 := congrArg Prod.fst hw
                      obtain rfl : u1 = q57.2 := congrArg Prod.snd hw
                      have hP : va_P D xCl (xWZ k b q57.2) H := hP
                      have hD : va_D A (xWZ k b q57.2) := hD
                      have hv := xlt_v hq57 hv
                      refine lv_goto (tgt := 243) hx hb xd_Z_asIfVirtual_231 rfl ?_
                      exact hj50 H locs ls q57.1 q57.2 (xif h51 (xlt_e hv55 (xlt_e hq57 rfl))) (xif h51 (xlt_e hv55 (xlt_e hq57 rfl))) hl hP hD hS
                    refine lv_if_le (tgt := 226) hx hb xd_Z_asIfVirtual_219 rfl (fun h59 => ?_) (fun h59 => ?_)
                    · refine lv_iconst (v := 0) hx hb xd_Z_asIfVirtual_226 (by decide) ?_
                      exact hj56 H locs ls (0 : Int32) (xit h59 rfl) hl hP hD hS
                    · refine lv_iconst (v := 1) hx hb xd_Z_asIfVirtual_222 (by decide) ?_
                      refine lv_goto (tgt := 227) hx hb xd_Z_asIfVirtual_223 rfl ?_
                      exact hj56 H locs ls (1 : Int32) (xif h59 rfl) hl hP hD hS
                refine lv_if_eq (tgt := 204) hx hb xd_Z_asIfVirtual_191 rfl (fun h60 => ?_) (fun h60 => ?_)
                · refine lv_iconst (v := 0) hx hb xd_Z_asIfVirtual_204 (by decide) ?_
                  exact hj36 H locs ls (0 : Int32) (xit h60 rfl) hl hP hD hS
                · refine lv_iload hx hb xd_Z_asIfVirtual_194 (lv_at hl 3 rfl) ?_
                  refine lv_iconst (v := 3) hx hb xd_Z_asIfVirtual_196 (by decide) ?_
                  refine lv_icmp_ne (tgt := 204) hx hb xd_Z_asIfVirtual_197 rfl (fun h61 => ?_) (fun h61 => ?_)
                  · refine lv_iconst (v := 0) hx hb xd_Z_asIfVirtual_204 (by decide) ?_
                    exact hj36 H locs ls (0 : Int32) (xif h60 (xif h61 rfl)) hl hP hD hS
                  · refine lv_iconst (v := 1) hx hb xd_Z_asIfVirtual_200 (by decide) ?_
                    refine lv_goto (tgt := 205) hx hb xd_Z_asIfVirtual_201 rfl ?_
                    exact hj36 H locs ls (1 : Int32) (xif h60 (xit h61 rfl)) hl hP hD hS
              refine lv_if_ne (tgt := 188) hx hb xd_Z_asIfVirtual_181 rfl (fun h62 => ?_) (fun h62 => ?_)
              · refine lv_iconst (v := 0) hx hb xd_Z_asIfVirtual_188 (by decide) ?_
                exact hj32 H locs ls (0 : Int32) (xif h62 rfl) hl hP hD hS
              · refine lv_iconst (v := 1) hx hb xd_Z_asIfVirtual_184 (by decide) ?_
                refine lv_goto (tgt := 189) hx hb xd_Z_asIfVirtual_185 rfl ?_
                exact hj32 H locs ls (1 : Int32) (xit h62 rfl) hl hP hD hS
            refine lv_if_eq (tgt := 170) hx hb xd_Z_asIfVirtual_163 rfl (fun h63 => ?_) (fun h63 => ?_)
            · refine lv_iconst (v := 2) hx hb xd_Z_asIfVirtual_170 (by decide) ?_
              exact hj27 H locs ls (2 : Int32) (xit h63 rfl) hl hP hD hS
            · refine lv_iconst (v := 1) hx hb xd_Z_asIfVirtual_166 (by decide) ?_
              refine lv_goto (tgt := 171) hx hb xd_Z_asIfVirtual_167 rfl ?_
              exact hj27 H locs ls (1 : Int32) (xif h63 rfl) hl hP hD hS
          · have hv := xit_v h24 hv
            refine lv_aload_n hx hb xd_Z_asIfVirtual_142 rfl (lv_at hl 5 rfl) ?_
            refine lv_sipush (v := 1536) hx hb xd_Z_asIfVirtual_143 (by decide) ?_
            refine lv_bipush (v := 9) hx hb xd_Z_asIfVirtual_146 (by decide) ?_
            obtain ⟨hn65, hv⟩ := xan_v hv
            refine xcW_i (va_runV (As := [.int 1536, .int 9]) (rest := []) ⟨hx, hb, hml, hown, htg⟩ (c_Z_bit l D z k b H.size u (1536 : Int32) (9 : Int32) hn65) (cwV 2 htg (xg_V0 xkin_Z_bit xw_867 xw_869 xsel_Z_bit xw_9) rfl rfl rfl (by decide +kernel) ⟨Nat.le_of_ble_eq_true rfl, Nat.le_of_ble_eq_true rfl⟩) ⟨xB_blind, xrecv_Z hK hP, fun U hU hW => xB_mk hP hK hD hE hS (xsubW hD hA hS) hU hW⟩ rfl rfl hl.1 rfl (lv_room (Nat.le_of_ble_eq_true rfl)) xd_Z_asIfVirtual_148 ⟨Nat.le_of_ble_eq_true rfl, Nat.le_of_ble_eq_true rfl⟩) hD hA hS (fun r u1 H locs hw hP hD hS => ?_)
            obtain ⟨q64, hq64⟩ : ∃ q, q = xf_Z_bit u (1536 : Int32) (9 : Int32) := ⟨_, rfl⟩
            obtain ⟨e1, e2⟩ := hw
            rw [← hq64] at e1
            obtain rfl : q64 = r := e1.symm
            obtain rfl : u = u1 := e2.symm
            have hP : va_P D xCl (xWZ k b u) H := hP
            have hD : va_D A (xWZ k b u) := hD
            have hv := xlt_v hq64 hv
            refine lv_if_ne (tgt := 160) hx hb xd_Z_asIfVirtual_151 rfl (fun h66 => ?_) (fun h66 => ?_)
            · have hv := xif_v h66 hv
              refine lv_aload_n hx hb xd_Z_asIfVirtual_160 rfl (lv_at hl 5 rfl) ?_
              refine lv_iload hx hb xd_Z_asIfVirtual_161 (lv_at hl 1 rfl) ?_
              have hj69 : ∀ (H : Heap) (locs : List Loc) (ls : Array Slot) (v68 : Int32), v68 = (if v11 = 0 then (2) else (1)) → lv_has ls 10 [(9, .int v17), (8, .int v11), (7, .int (((1 : Int32) <<< ((((xus p0 (25 : Int32)) - (48 : Int32)) / (2 : Int32)) &&& 31)))), (6, .int (((p0 >>> ((20 : Int32) &&& 31)) &&& (31 : Int32)))), (5, .int ((xus p0 (25 : Int32)))), (0, .ref ((b 0))), (1, .int p0), (2, .int p1), (3, .int p2), (4, .int p3)] → va_P D xCl (xWZ k b u) H → va_D A (xWZ k b u) → va_S A s.heap H locs → W p l e { frames := 10, cells := 0, slots := 0, locals := 270 } s m args below meth c H locs (0) (0) Q (F0 m 171 ls [.int v68, .ref ((b 0))]) := by
                intro H locs ls v68 hv68 hl hP hD hS
                have hv := xlt_v hv68 hv
                refine lv_iconst (v := 1) hx hb xd_Z_asIfVirtual_171 (by decide) ?_
                refine lv_aload_n hx hb xd_Z_asIfVirtual_172 rfl (lv_at hl 5 rfl) ?_
                refine lv_sipush (v := 1536) hx hb xd_Z_asIfVirtual_173 (by decide) ?_
                refine lv_bipush (v := 8) hx hb xd_Z_asIfVirtual_176 (by decide) ?_
                obtain ⟨hn71, hv⟩ := xan_v hv
                refine xcW_i (va_runV (As := [.int 1536, .int 8]) (rest := [.int 1, .int v68, .ref ((b 0))]) ⟨hx, hb, hml, hown, htg⟩ (c_Z_bit l D z k b H.size u (1536 : Int32) (8 : Int32) hn71) (cwV 2 htg (xg_V0 xkin_Z_bit xw_867 xw_869 xsel_Z_bit xw_9) rfl rfl rfl (by decide +kernel) ⟨Nat.le_of_ble_eq_true rfl, Nat.le_of_ble_eq_true rfl⟩) ⟨xB_blind, xrecv_Z hK hP, fun U hU hW => xB_mk hP hK hD hE hS (xsubW hD hA hS) hU hW⟩ rfl rfl hl.1 rfl (lv_room (Nat.le_of_ble_eq_true rfl)) xd_Z_asIfVirtual_178 ⟨Nat.le_of_ble_eq_true rfl, Nat.le_of_ble_eq_true rfl⟩) hD hA hS (fun r u1 H locs hw hP hD hS => ?_)
                obtain ⟨q70, hq70⟩ : ∃ q, q = xf_Z_bit u (1536 : Int32) (8 : Int32) := ⟨_, rfl⟩
                obtain ⟨e1, e2⟩ := hw
                rw [← hq70] at e1
                obtain rfl : q70 = r := e1.symm
                obtain rfl : u = u1 := e2.symm
                have hP : va_P D xCl (xWZ k b u) H := hP
                have hD : va_D A (xWZ k b u) := hD
                have hv := xlt_v hq70 hv
                have hj74 : ∀ (H : Heap) (locs : List Loc) (ls : Array Slot) (v73 : Int32), v73 = (if q70 = 0 then (1) else (0)) → lv_has ls 10 [(9, .int v17), (8, .int v11), (7, .int (((1 : Int32) <<< ((((xus p0 (25 : Int32)) - (48 : Int32)) / (2 : Int32)) &&& 31)))), (6, .int (((p0 >>> ((20 : Int32) &&& 31)) &&& (31 : Int32)))), (5, .int ((xus p0 (25 : Int32)))), (0, .ref ((b 0))), (1, .int p0), (2, .int p1), (3, .int p2), (4, .int p3)] → va_P D xCl (xWZ k b u) H → va_D A (xWZ k b u) → va_S A s.heap H locs → W p l e { frames := 10, cells := 0, slots := 0, locals := 270 } s m args below meth c H locs (0) (0) Q (F0 m 189 ls [.int v73, .int 1, .int v68, .ref ((b 0))]) := by
                  intro H locs ls v73 hv73 hl hP hD hS
                  have hv := xlt_v hv73 hv
                  refine lv_iload hx hb xd_Z_asIfVirtual_189 (lv_at hl 1 rfl) ?_
                  have hj78 : ∀ (H : Heap) (locs : List Loc) (ls : Array Slot) (v77 : Int32), v77 = (if v11 = 0 then (0) else (if ((p0 >>> ((20 : Int32) &&& 31)) &&& (31 : Int32)) = 3 then (1) else (0))) → lv_has ls 10 [(9, .int v17), (8, .int v11), (7, .int (((1 : Int32) <<< ((((xus p0 (25 : Int32)) - (48 : Int32)) / (2 : Int32)) &&& 31)))), (6, .int (((p0 >>> ((20 : Int32) &&& 31)) &&& (31 : Int32)))), (5, .int ((xus p0 (25 : Int32)))), (0, .ref ((b 0))), (1, .int p0), (2, .int p1), (3, .int p2), (4, .int p3)] → va_P D xCl (xWZ k b u) H → va_D A (xWZ k b u) → va_S A s.heap H locs → W p l e { frames := 10, cells := 0, slots := 0, locals := 270 } s m args below meth c H locs (0) (0) Q (F0 m 205 ls [.int v77, .int v73, .int 1, .int v68, .ref ((b 0))]) := by
                    intro H locs ls v77 hv77 hl hP hD hS
                    have hv := xlt_v hv77 hv
                    obtain ⟨hn80, hv⟩ := xan_v hv
                    refine xcW_v (va_runV (As := [.int v68, .int 1, .int v73, .int v77]) (rest := []) ⟨hx, hb, hml, hown, htg⟩ (c_Z_asMode l D z k b H.size u v68 (1 : Int32) v73 v77 hn80) (cwV 4 htg (xg_V0 xkin_Z_asMode xw_925 xw_927 xsel_Z_asMode xw_9) rfl rfl rfl (by decide +kernel) ⟨Nat.le_of_ble_eq_true rfl, Nat.le_of_ble_eq_true rfl⟩) ⟨xB_blind, xrecv_Z hK hP, fun U hU hW => xB_mk hP hK hD hE hS (xsubW hD hA hS) hU hW⟩ rfl rfl hl.1 rfl (lv_room (Nat.le_of_ble_eq_true rfl)) xd_Z_asIfVirtual_205 ⟨Nat.le_of_ble_eq_true rfl, Nat.le_of_ble_eq_true rfl⟩) hD hA hS (fun u1 H locs hw hP hD hS => ?_)
                    obtain ⟨q79, hq79⟩ : ∃ q, q = xf_Z_asMode u v68 (1 : Int32) v73 v77 := ⟨_, rfl⟩
                    rw [← hq79] at hw
                    obtain rfl : q79 = u1 := hw.symm
                    have hP : va_P D xCl (xWZ k b q79) H := hP
                    have hD : va_D A (xWZ k b q79) := hD
                    have hv := xlt_v hq79 hv
                    refine lv_iload hx hb xd_Z_asIfVirtual_208 (lv_at hl 1 rfl) ?_
                    obtain ⟨hva, hv⟩ := xan_v2 hv
                    have hj92 : ∀ (H : Heap) (locs : List Loc) (ls : Array Slot) (v90 : Int32) (v91 : XZ), v90 = (if v11 = 0 then (xlt (xf_Z_give q79 ((1 : Int32) <<< ((((xus p0 (25 : Int32)) - (48 : Int32)) / (2 : Int32)) &&& 31)) p2 p3 : Int32 × XZ) fun q82 => q82.1) else (xlt (if ((p0 >>> ((20 : Int32) &&& 31)) &&& (31 : Int32)) ≤ 0 then (0) else (1) : Int32) fun v85 => xlt (xf_Z_take q79 p1 ((1 : Int32) <<< ((((xus p0 (25 : Int32)) - (48 : Int32)) / (2 : Int32)) &&& 31)) v85 p2 : Int32 × XZ) fun q87 => q87.1)) → v91 = (if v11 = 0 then (xlt (xf_Z_give q79 ((1 : Int32) <<< ((((xus p0 (25 : Int32)) - (48 : Int32)) / (2 : Int32)) &&& 31)) p2 p3 : Int32 × XZ) fun q82 => q82.2) else (xlt (if ((p0 >>> ((20 : Int32) &&& 31)) &&& (31 : Int32)) ≤ 0 then (0) else (1) : Int32) fun v85 => xlt (xf_Z_take q79 p1 ((1 : Int32) <<< ((((xus p0 (25 : Int32)) - (48 : Int32)) / (2 : Int32)) &&& 31)) v85 p2 : Int32 × XZ) fun q87 => q87.2)) → lv_has ls 10 [(9, .int v17), (8, .int v11), (7, .int (((1 : Int32) <<< ((((xus p0 (25 : Int32)) - (48 : Int32)) / (2 : Int32)) &&& 31)))), (6, .int (((p0 >>> ((20 : Int32) &&& 31)) &&& (31 : Int32)))), (5, .int ((xus p0 (25 : Int32)))), (0, .ref ((b 0))), (1, .int p0), (2, .int p1), (3, .int p2), (4, .int p3)] → va_P D xCl (xWZ k b v91) H → va_D A (xWZ k b v91) → va_S A s.heap H locs → W p l e { frames := 10, cells := 0, slots := 0, locals := 270 } s m args below meth c H locs (0) (0) Q (F0 m 243 ls [.int v90]) := by
                      intro H locs ls v90 v91 hv90 hv91 hl hP hD hS
                      have hv := xlt_v hv90 hv
                      have hv := xlt_v hv91 hv
                      exact hret _ v91 H locs ls _ (xnar (X01_of hv90 (xit_01 (xlt_01 (fun q82 hq82 => (X01_ofp hq82 (xt01_Z_give q79 ((1 : Int32) <<< ((((xus p0 (25 : Int32)) - (48 : Int32)) / (2 : Int32)) &&& 31)) p2 p3)))) (xlt_01 (fun v85 hv85 => (xlt_01 (fun q87 hq87 => (X01_ofp hq87 (xt01_Z_take q79 p1 ((1 : Int32) <<< ((((xus p0 (25 : Int32)) - (48 : Int32)) / (2 : Int32)) &&& 31)) v85 p2))))))))) (by unfold xf_Z_asIfVirtual; exact (xlt_e hr1 (xlt_e hv11 (xlt_e hr13 (xlt_e hv17 (xif h19 (xlt_e hq20 (xit h21 (xit h24 (xlt_e hq64 (xif h66 (xlt_e hv68 (xlt_e hq70 (xlt_e hv73 (xlt_e hv77 (xlt_e hq79 (xlt_e hv90 (xlt_e hv91 rfl)))))))))))))))))) hP hD hS xd_Z_asIfVirtual_243
                    have hv := hva
                    refine lv_if_eq (tgt := 234) hx hb xd_Z_asIfVirtual_210 rfl (fun h93 => ?_) (fun h93 => ?_)
                    · have hv := xit_v h93 hv
                      refine lv_aload_n hx hb xd_Z_asIfVirtual_234 rfl (lv_at hl 5 rfl) ?_
                      refine lv_iload hx hb xd_Z_asIfVirtual_235 (lv_at hl 2 rfl) ?_
                      refine lv_iload_n hx hb xd_Z_asIfVirtual_237 rfl (lv_at hl 8 rfl) ?_
                      refine lv_iload hx hb xd_Z_asIfVirtual_238 (lv_at hl 9 rfl) ?_
                      obtain ⟨hn95, hv⟩ := xan_v hv
                      refine xcW_i (va_runV (As := [.int (((1 : Int32) <<< ((((xus p0 (25 : Int32)) - (48 : Int32)) / (2 : Int32)) &&& 31))), .int p2, .int p3]) (rest := []) ⟨hx, hb, hml, hown, htg⟩ (c_Z_give l D z k b H.size q79 ((1 : Int32) <<< ((((xus p0 (25 : Int32)) - (48 : Int32)) / (2 : Int32)) &&& 31)) p2 p3 hn95) (cwV 3 htg (xg_V0 xkin_Z_give xw_1018 xw_1020 xsel_Z_give xw_9) rfl rfl rfl (by decide +kernel) ⟨Nat.le_of_ble_eq_true rfl, Nat.le_of_ble_eq_true rfl⟩) ⟨xB_blind, xrecv_Z hK hP, fun U hU hW => xB_mk hP hK hD hE hS (xsubW hD hA hS) hU hW⟩ rfl rfl hl.1 rfl (lv_room (Nat.le_of_ble_eq_true rfl)) xd_Z_asIfVirtual_240 ⟨Nat.le_of_ble_eq_true rfl, Nat.le_of_ble_eq_true rfl⟩) hD hA hS (fun r u1 H locs hw hP hD hS => ?_)
                      obtain ⟨q94, hq94⟩ : ∃ q, q = xf_Z_give q79 ((1 : Int32) <<< ((((xus p0 (25 : Int32)) - (48 : Int32)) / (2 : Int32)) &&& 31)) p2 p3 := ⟨_, rfl⟩
                      rw [← hq94] at hw
                      obtain rfl : r = q94.1 := congrArg Prod.fst hw
                      obtain rfl : u1 = q94.2 := congrArg Prod.snd hw
                      have hP : va_P D xCl (xWZ k b q94.2) H := hP
                      have hD : va_D A (xWZ k b q94.2) := hD
                      have hv := xlt_v hq94 hv
                      exact hj92 H locs ls q94.1 q94.2 (xit h93 (xlt_e hq94 rfl)) (xit h93 (xlt_e hq94 rfl)) hl hP hD hS
                    · have hv := xif_v h93 hv
                      refine lv_aload_n hx hb xd_Z_asIfVirtual_213 rfl (lv_at hl 5 rfl) ?_
                      refine lv_iload_n hx hb xd_Z_asIfVirtual_214 rfl (lv_at hl 7 rfl) ?_
                      refine lv_iload hx hb xd_Z_asIfVirtual_215 (lv_at hl 2 rfl) ?_
                      refine lv_iload hx hb xd_Z_asIfVirtual_217 (lv_at hl 3 rfl) ?_
                      have hj98 : ∀ (H : Heap) (locs : List Loc) (ls : Array Slot) (v97 : Int32), v97 = (if ((p0 >>> ((20 : Int32) &&& 31)) &&& (31 : Int32)) ≤ 0 then (0) else (1)) → lv_has ls 10 [(9, .int v17), (8, .int v11), (7, .int (((1 : Int32) <<< ((((xus p0 (25 : Int32)) - (48 : Int32)) / (2 : Int32)) &&& 31)))), (6, .int (((p0 >>> ((20 : Int32) &&& 31)) &&& (31 : Int32)))), (5, .int ((xus p0 (25 : Int32)))), (0, .ref ((b 0))), (1, .int p0), (2, .int p1), (3, .int p2), (4, .int p3)] → va_P D xCl (xWZ k b q79) H → va_D A (xWZ k b q79) → va_S A s.heap H locs → W p l e { frames := 10, cells := 0, slots := 0, locals := 270 } s m args below meth c H locs (0) (0) Q (F0 m 227 ls [.int v97, .int (((1 : Int32) <<< ((((xus p0 (25 : Int32)) - (48 : Int32)) / (2 : Int32)) &&& 31))), .int p1, .ref ((b 0))]) := by
                        intro H locs ls v97 hv97 hl hP hD hS
                        have hv := xlt_v hv97 hv
                        refine lv_iload_n hx hb xd_Z_asIfVirtual_227 rfl (lv_at hl 8 rfl) ?_
                        obtain ⟨hn100, hv⟩ := xan_v hv
                        refine xcW_i (va_runV (As := [.int p1, .int (((1 : Int32) <<< ((((xus p0 (25 : Int32)) - (48 : Int32)) / (2 : Int32)) &&& 31))), .int v97, .int p2]) (rest := []) ⟨hx, hb, hml, hown, htg⟩ (c_Z_take l D z k b H.size q79 p1 ((1 : Int32) <<< ((((xus p0 (25 : Int32)) - (48 : Int32)) / (2 : Int32)) &&& 31)) v97 p2 hn100) (cwV 4 htg (xg_V0 xkin_Z_take xw_1005 xw_1007 xsel_Z_take xw_9) rfl rfl rfl (by decide +kernel) ⟨Nat.le_of_ble_eq_true rfl, Nat.le_of_ble_eq_true rfl⟩) ⟨xB_blind, xrecv_Z hK hP, fun U hU hW => xB_mk hP hK hD hE hS (xsubW hD hA hS) hU hW⟩ rfl rfl hl.1 rfl (lv_room (Nat.le_of_ble_eq_true rfl)) xd_Z_asIfVirtual_228 ⟨Nat.le_of_ble_eq_true rfl, Nat.le_of_ble_eq_true rfl⟩) hD hA hS (fun r u1 H locs hw hP hD hS => ?_)
                        obtain ⟨q99, hq99⟩ : ∃ q, q = xf_Z_take q79 p1 ((1 : Int32) <<< ((((xus p0 (25 : Int32)) - (48 : Int32)) / (2 : Int32)) &&& 31)) v97 p2 := ⟨_, rfl⟩
                        rw [← hq99] at hw
                        obtain rfl : r = q99.1 := congrArg Prod.fst hw
                        obtain rfl : u1 = q99.2 := congrArg Prod.snd hw
                        have hP : va_P D xCl (xWZ k b q99.2) H := hP
                        have hD : va_D A (xWZ k b q99.2) := hD
                        have hv := xlt_v hq99 hv
                        refine lv_goto (tgt := 243) hx hb xd_Z_asIfVirtual_231 rfl ?_
                        exact hj92 H locs ls q99.1 q99.2 (xif h93 (xlt_e hv97 (xlt_e hq99 rfl))) (xif h93 (xlt_e hv97 (xlt_e hq99 rfl))) hl hP hD hS
                      refine lv_if_le (tgt := 226) hx hb xd_Z_asIfVirtual_219 rfl (fun h101 => ?_) (fun h101 => ?_)
                      · refine lv_iconst (v := 0) hx hb xd_Z_asIfVirtual_226 (by decide) ?_
                        exact hj98 H locs ls (0 : Int32) (xit h101 rfl) hl hP hD hS
                      · refine lv_iconst (v := 1) hx hb xd_Z_asIfVirtual_222 (by decide) ?_
                        refine lv_goto (tgt := 227) hx hb xd_Z_asIfVirtual_223 rfl ?_
                        exact hj98 H locs ls (1 : Int32) (xif h101 rfl) hl hP hD hS
                  refine lv_if_eq (tgt := 204) hx hb xd_Z_asIfVirtual_191 rfl (fun h102 => ?_) (fun h102 => ?_)
                  · refine lv_iconst (v := 0) hx hb xd_Z_asIfVirtual_204 (by decide) ?_
                    exact hj78 H locs ls (0 : Int32) (xit h102 rfl) hl hP hD hS
                  · refine lv_iload hx hb xd_Z_asIfVirtual_194 (lv_at hl 3 rfl) ?_
                    refine lv_iconst (v := 3) hx hb xd_Z_asIfVirtual_196 (by decide) ?_
                    refine lv_icmp_ne (tgt := 204) hx hb xd_Z_asIfVirtual_197 rfl (fun h103 => ?_) (fun h103 => ?_)
                    · refine lv_iconst (v := 0) hx hb xd_Z_asIfVirtual_204 (by decide) ?_
                      exact hj78 H locs ls (0 : Int32) (xif h102 (xif h103 rfl)) hl hP hD hS
                    · refine lv_iconst (v := 1) hx hb xd_Z_asIfVirtual_200 (by decide) ?_
                      refine lv_goto (tgt := 205) hx hb xd_Z_asIfVirtual_201 rfl ?_
                      exact hj78 H locs ls (1 : Int32) (xif h102 (xit h103 rfl)) hl hP hD hS
                refine lv_if_ne (tgt := 188) hx hb xd_Z_asIfVirtual_181 rfl (fun h104 => ?_) (fun h104 => ?_)
                · refine lv_iconst (v := 0) hx hb xd_Z_asIfVirtual_188 (by decide) ?_
                  exact hj74 H locs ls (0 : Int32) (xif h104 rfl) hl hP hD hS
                · refine lv_iconst (v := 1) hx hb xd_Z_asIfVirtual_184 (by decide) ?_
                  refine lv_goto (tgt := 189) hx hb xd_Z_asIfVirtual_185 rfl ?_
                  exact hj74 H locs ls (1 : Int32) (xit h104 rfl) hl hP hD hS
              refine lv_if_eq (tgt := 170) hx hb xd_Z_asIfVirtual_163 rfl (fun h105 => ?_) (fun h105 => ?_)
              · refine lv_iconst (v := 2) hx hb xd_Z_asIfVirtual_170 (by decide) ?_
                exact hj69 H locs ls (2 : Int32) (xit h105 rfl) hl hP hD hS
              · refine lv_iconst (v := 1) hx hb xd_Z_asIfVirtual_166 (by decide) ?_
                refine lv_goto (tgt := 171) hx hb xd_Z_asIfVirtual_167 rfl ?_
                exact hj69 H locs ls (1 : Int32) (xif h105 rfl) hl hP hD hS
            · have hv := xit_v h66 hv
              refine lv_aload_n hx hb xd_Z_asIfVirtual_154 rfl (lv_at hl 5 rfl) ?_
              refine lv_iload_n hx hb xd_Z_asIfVirtual_155 rfl (lv_at hl 6 rfl) ?_
              obtain ⟨hn107, hv⟩ := xan_v hv
              refine xcW_i (va_runV (As := [.int p0]) (rest := []) ⟨hx, hb, hml, hown, htg⟩ (c_Z_notThere l D z k b H.size u p0 hn107) (cwV 1 htg (xg_V0 xkin_Z_notThere xw_1045 xw_1047 xsel_Z_notThere xw_9) rfl rfl rfl (by decide +kernel) ⟨Nat.le_of_ble_eq_true rfl, Nat.le_of_ble_eq_true rfl⟩) ⟨xB_blind, xrecv_Z hK hP, fun U hU hW => xB_mk hP hK hD hE hS (xsubW hD hA hS) hU hW⟩ rfl rfl hl.1 rfl (lv_room (Nat.le_of_ble_eq_true rfl)) xd_Z_asIfVirtual_156 ⟨Nat.le_of_ble_eq_true rfl, Nat.le_of_ble_eq_true rfl⟩) hD hA hS (fun r u1 H locs hw hP hD hS => ?_)
              obtain ⟨q106, hq106⟩ : ∃ q, q = xf_Z_notThere u p0 := ⟨_, rfl⟩
              rw [← hq106] at hw
              obtain rfl : r = q106.1 := congrArg Prod.fst hw
              obtain rfl : u1 = q106.2 := congrArg Prod.snd hw
              have hP : va_P D xCl (xWZ k b q106.2) H := hP
              have hD : va_D A (xWZ k b q106.2) := hD
              have hv := xlt_v hq106 hv
              exact hret _ q106.2 H locs ls _ (xnar (X01_ofp hq106 (xt01_Z_notThere u p0))) (by unfold xf_Z_asIfVirtual; exact (xlt_e hr1 (xlt_e hv11 (xlt_e hr13 (xlt_e hv17 (xif h19 (xlt_e hq20 (xit h21 (xit h24 (xlt_e hq64 (xit h66 (xlt_e hq106 rfl)))))))))))) hP hD hS xd_Z_asIfVirtual_159
      · have hv := xit_v h19 hv
        refine lv_iload hx hb xd_Z_asIfVirtual_117 (lv_at hl 0 rfl) ?_
        refine lv_if_ne (tgt := 128) hx hb xd_Z_asIfVirtual_119 rfl (fun h108 => ?_) (fun h108 => ?_)
        · have hv := xif_v h108 hv
          refine lv_aload_n hx hb xd_Z_asIfVirtual_128 rfl (lv_at hl 5 rfl) ?_
          refine xcW_i (va_runV (As := []) (rest := []) ⟨hx, hb, hml, hown, htg⟩ (c_Z_isVirtual l D z k b H.size u) (cwV 0 htg (xg_V0 xkin_Z_isVirtual xw_917 xw_919 xsel_Z_isVirtual xw_9) rfl rfl rfl (by decide +kernel) ⟨Nat.le_of_ble_eq_true rfl, Nat.le_of_ble_eq_true rfl⟩) ⟨xB_blind, xrecv_Z hK hP, fun U hU hW => xB_mk hP hK hD hE hS (xsubW hD hA hS) hU hW⟩ rfl rfl hl.1 rfl (lv_room (Nat.le_of_ble_eq_true rfl)) xd_Z_asIfVirtual_129 ⟨Nat.le_of_ble_eq_true rfl, Nat.le_of_ble_eq_true rfl⟩) hD hA hS (fun r u1 H locs hw hP hD hS => ?_)
          obtain ⟨q109, hq109⟩ : ∃ q, q = xf_Z_isVirtual u := ⟨_, rfl⟩
          obtain ⟨e1, e2⟩ := hw
          rw [← hq109] at e1
          obtain rfl : q109 = r := e1.symm
          obtain rfl : u = u1 := e2.symm
          have hP : va_P D xCl (xWZ k b u) H := hP
          have hD : va_D A (xWZ k b u) := hD
          have hv := xlt_v hq109 hv
          refine lv_if_ne (tgt := 154) hx hb xd_Z_asIfVirtual_132 rfl (fun h110 => ?_) (fun h110 => ?_)
          · have hv := xif_v h110 hv
            refine lv_aload_n hx hb xd_Z_asIfVirtual_154 rfl (lv_at hl 5 rfl) ?_
            refine lv_iload_n hx hb xd_Z_asIfVirtual_155 rfl (lv_at hl 6 rfl) ?_
            obtain ⟨hn112, hv⟩ := xan_v hv
            refine xcW_i (va_runV (As := [.int p0]) (rest := []) ⟨hx, hb, hml, hown, htg⟩ (c_Z_notThere l D z k b H.size u p0 hn112) (cwV 1 htg (xg_V0 xkin_Z_notThere xw_1045 xw_1047 xsel_Z_notThere xw_9) rfl rfl rfl (by decide +kernel) ⟨Nat.le_of_ble_eq_true rfl, Nat.le_of_ble_eq_true rfl⟩) ⟨xB_blind, xrecv_Z hK hP, fun U hU hW => xB_mk hP hK hD hE hS (xsubW hD hA hS) hU hW⟩ rfl rfl hl.1 rfl (lv_room (Nat.le_of_ble_eq_true rfl)) xd_Z_asIfVirtual_156 ⟨Nat.le_of_ble_eq_true rfl, Nat.le_of_ble_eq_true rfl⟩) hD hA hS (fun r u1 H locs hw hP hD hS => ?_)
            obtain ⟨q111, hq111⟩ : ∃ q, q = xf_Z_notThere u p0 := ⟨_, rfl⟩
            rw [← hq111] at hw
            obtain rfl : r = q111.1 := congrArg Prod.fst hw
            obtain rfl : u1 = q111.2 := congrArg Prod.snd hw
            have hP : va_P D xCl (xWZ k b q111.2) H := hP
            have hD : va_D A (xWZ k b q111.2) := hD
            have hv := xlt_v hq111 hv
            exact hret _ q111.2 H locs ls _ (xnar (X01_ofp hq111 (xt01_Z_notThere u p0))) (by unfold xf_Z_asIfVirtual; exact (xlt_e hr1 (xlt_e hv11 (xlt_e hr13 (xlt_e hv17 (xit h19 (xif h108 (xlt_e hq109 (xif h110 (xlt_e hq111 rfl)))))))))) hP hD hS xd_Z_asIfVirtual_159
          · have hv := xit_v h110 hv
            refine lv_aload_n hx hb xd_Z_asIfVirtual_135 rfl (lv_at hl 5 rfl) ?_
            refine xget_Z_mode (v := (xg_Z_mode u)) hx hb htg hown hK hP (htg _ xw_731) rfl xd_Z_asIfVirtual_136 ?_
            refine lv_if_ne (tgt := 160) hx hb xd_Z_asIfVirtual_139 rfl (fun h113 => ?_) (fun h113 => ?_)
            · have hv := xif_v h113 hv
              refine lv_aload_n hx hb xd_Z_asIfVirtual_160 rfl (lv_at hl 5 rfl) ?_
              refine lv_iload hx hb xd_Z_asIfVirtual_161 (lv_at hl 1 rfl) ?_
              have hj116 : ∀ (H : Heap) (locs : List Loc) (ls : Array Slot) (v115 : Int32), v115 = (if v11 = 0 then (2) else (1)) → lv_has ls 10 [(9, .int v17), (8, .int v11), (7, .int (((1 : Int32) <<< ((((xus p0 (25 : Int32)) - (48 : Int32)) / (2 : Int32)) &&& 31)))), (6, .int (((p0 >>> ((20 : Int32) &&& 31)) &&& (31 : Int32)))), (5, .int ((xus p0 (25 : Int32)))), (0, .ref ((b 0))), (1, .int p0), (2, .int p1), (3, .int p2), (4, .int p3)] → va_P D xCl (xWZ k b u) H → va_D A (xWZ k b u) → va_S A s.heap H locs → W p l e { frames := 10, cells := 0, slots := 0, locals := 270 } s m args below meth c H locs (0) (0) Q (F0 m 171 ls [.int v115, .ref ((b 0))]) := by
                intro H locs ls v115 hv115 hl hP hD hS
                have hv := xlt_v hv115 hv
                refine lv_iconst (v := 1) hx hb xd_Z_asIfVirtual_171 (by decide) ?_
                refine lv_aload_n hx hb xd_Z_asIfVirtual_172 rfl (lv_at hl 5 rfl) ?_
                refine lv_sipush (v := 1536) hx hb xd_Z_asIfVirtual_173 (by decide) ?_
                refine lv_bipush (v := 8) hx hb xd_Z_asIfVirtual_176 (by decide) ?_
                obtain ⟨hn118, hv⟩ := xan_v hv
                refine xcW_i (va_runV (As := [.int 1536, .int 8]) (rest := [.int 1, .int v115, .ref ((b 0))]) ⟨hx, hb, hml, hown, htg⟩ (c_Z_bit l D z k b H.size u (1536 : Int32) (8 : Int32) hn118) (cwV 2 htg (xg_V0 xkin_Z_bit xw_867 xw_869 xsel_Z_bit xw_9) rfl rfl rfl (by decide +kernel) ⟨Nat.le_of_ble_eq_true rfl, Nat.le_of_ble_eq_true rfl⟩) ⟨xB_blind, xrecv_Z hK hP, fun U hU hW => xB_mk hP hK hD hE hS (xsubW hD hA hS) hU hW⟩ rfl rfl hl.1 rfl (lv_room (Nat.le_of_ble_eq_true rfl)) xd_Z_asIfVirtual_178 ⟨Nat.le_of_ble_eq_true rfl, Nat.le_of_ble_eq_true rfl⟩) hD hA hS (fun r u1 H locs hw hP hD hS => ?_)
                obtain ⟨q117, hq117⟩ : ∃ q, q = xf_Z_bit u (1536 : Int32) (8 : Int32) := ⟨_, rfl⟩
                obtain ⟨e1, e2⟩ := hw
                rw [← hq117] at e1
                obtain rfl : q117 = r := e1.symm
                obtain rfl : u = u1 := e2.symm
                have hP : va_P D xCl (xWZ k b u) H := hP
                have hD : va_D A (xWZ k b u) := hD
                have hv := xlt_v hq117 hv
                have hj121 : ∀ (H : Heap) (locs : List Loc) (ls : Array Slot) (v120 : Int32), v120 = (if q117 = 0 then (1) else (0)) → lv_has ls 10 [(9, .int v17), (8, .int v11), (7, .int (((1 : Int32) <<< ((((xus p0 (25 : Int32)) - (48 : Int32)) / (2 : Int32)) &&& 31)))), (6, .int (((p0 >>> ((20 : Int32) &&& 31)) &&& (31 : Int32)))), (5, .int ((xus p0 (25 : Int32)))), (0, .ref ((b 0))), (1, .int p0), (2, .int p1), (3, .int p2), (4, .int p3)] → va_P D xCl (xWZ k b u) H → va_D A (xWZ k b u) → va_S A s.heap H locs → W p l e { frames := 10, cells := 0, slots := 0, locals := 270 } s m args below meth c H locs (0) (0) Q (F0 m 189 ls [.int v120, .int 1, .int v115, .ref ((b 0))]) := by
                  intro H locs ls v120 hv120 hl hP hD hS
                  have hv := xlt_v hv120 hv
                  refine lv_iload hx hb xd_Z_asIfVirtual_189 (lv_at hl 1 rfl) ?_
                  have hj125 : ∀ (H : Heap) (locs : List Loc) (ls : Array Slot) (v124 : Int32), v124 = (if v11 = 0 then (0) else (if ((p0 >>> ((20 : Int32) &&& 31)) &&& (31 : Int32)) = 3 then (1) else (0))) → lv_has ls 10 [(9, .int v17), (8, .int v11), (7, .int (((1 : Int32) <<< ((((xus p0 (25 : Int32)) - (48 : Int32)) / (2 : Int32)) &&& 31)))), (6, .int (((p0 >>> ((20 : Int32) &&& 31)) &&& (31 : Int32)))), (5, .int ((xus p0 (25 : Int32)))), (0, .ref ((b 0))), (1, .int p0), (2, .int p1), (3, .int p2), (4, .int p3)] → va_P D xCl (xWZ k b u) H → va_D A (xWZ k b u) → va_S A s.heap H locs → W p l e { frames := 10, cells := 0, slots := 0, locals := 270 } s m args below meth c H locs (0) (0) Q (F0 m 205 ls [.int v124, .int v120, .int 1, .int v115, .ref ((b 0))]) := by
                    intro H locs ls v124 hv124 hl hP hD hS
                    have hv := xlt_v hv124 hv
                    obtain ⟨hn127, hv⟩ := xan_v hv
                    refine xcW_v (va_runV (As := [.int v115, .int 1, .int v120, .int v124]) (rest := []) ⟨hx, hb, hml, hown, htg⟩ (c_Z_asMode l D z k b H.size u v115 (1 : Int32) v120 v124 hn127) (cwV 4 htg (xg_V0 xkin_Z_asMode xw_925 xw_927 xsel_Z_asMode xw_9) rfl rfl rfl (by decide +kernel) ⟨Nat.le_of_ble_eq_true rfl, Nat.le_of_ble_eq_true rfl⟩) ⟨xB_blind, xrecv_Z hK hP, fun U hU hW => xB_mk hP hK hD hE hS (xsubW hD hA hS) hU hW⟩ rfl rfl hl.1 rfl (lv_room (Nat.le_of_ble_eq_true rfl)) xd_Z_asIfVirtual_205 ⟨Nat.le_of_ble_eq_true rfl, Nat.le_of_ble_eq_true rfl⟩) hD hA hS (fun u1 H locs hw hP hD hS => ?_)
                    obtain ⟨q126, hq126⟩ : ∃ q, q = xf_Z_asMode u v115 (1 : Int32) v120 v124 := ⟨_, rfl⟩
                    rw [← hq126] at hw
                    obtain rfl : q126 = u1 := hw.symm
                    have hP : va_P D xCl (xWZ k b q126) H := hP
                    have hD : va_D A (xWZ k b q126) := hD
                    have hv := xlt_v hq126 hv
                    refine lv_iload hx hb xd_Z_asIfVirtual_208 (lv_at hl 1 rfl) ?_
                    obtain ⟨hva, hv⟩ := xan_v2 hv
                    have hj139 : ∀ (H : Heap) (locs : List Loc) (ls : Array Slot) (v137 : Int32) (v138 : XZ), v137 = (if v11 = 0 then (xlt (xf_Z_give q126 ((1 : Int32) <<< ((((xus p0 (25 : Int32)) - (48 : Int32)) / (2 : Int32)) &&& 31)) p2 p3 : Int32 × XZ) fun q129 => q129.1) else (xlt (if ((p0 >>> ((20 : Int32) &&& 31)) &&& (31 : Int32)) ≤ 0 then (0) else (1) : Int32) fun v132 => xlt (xf_Z_take q126 p1 ((1 : Int32) <<< ((((xus p0 (25 : Int32)) - (48 : Int32)) / (2 : Int32)) &&& 31)) v132 p2 : Int32 × XZ) fun q134 => q134.1)) → v138 = (if v11 = 0 then (xlt (xf_Z_give q126 ((1 : Int32) <<< ((((xus p0 (25 : Int32)) - (48 : Int32)) / (2 : Int32)) &&& 31)) p2 p3 : Int32 × XZ) fun q129 => q129.2) else (xlt (if ((p0 >>> ((20 : Int32) &&& 31)) &&& (31 : Int32)) ≤ 0 then (0) else (1) : Int32) fun v132 => xlt (xf_Z_take q126 p1 ((1 : Int32) <<< ((((xus p0 (25 : Int32)) - (48 : Int32)) / (2 : Int32)) &&& 31)) v132 p2 : Int32 × XZ) fun q134 => q134.2)) → lv_has ls 10 [(9, .int v17), (8, .int v11), (7, .int (((1 : Int32) <<< ((((xus p0 (25 : Int32)) - (48 : Int32)) / (2 : Int32)) &&& 31)))), (6, .int (((p0 >>> ((20 : Int32) &&& 31)) &&& (31 : Int32)))), (5, .int ((xus p0 (25 : Int32)))), (0, .ref ((b 0))), (1, .int p0), (2, .int p1), (3, .int p2), (4, .int p3)] → va_P D xCl (xWZ k b v138) H → va_D A (xWZ k b v138) → va_S A s.heap H locs → W p l e { frames := 10, cells := 0, slots := 0, locals := 270 } s m args below meth c H locs (0) (0) Q (F0 m 243 ls [.int v137]) := by
                      intro H locs ls v137 v138 hv137 hv138 hl hP hD hS
                      have hv := xlt_v hv137 hv
                      have hv := xlt_v hv138 hv
                      exact hret _ v138 H locs ls _ (xnar (X01_of hv137 (xit_01 (xlt_01 (fun q129 hq129 => (X01_ofp hq129 (xt01_Z_give q126 ((1 : Int32) <<< ((((xus p0 (25 : Int32)) - (48 : Int32)) / (2 : Int32)) &&& 31)) p2 p3)))) (xlt_01 (fun v132 hv132 => (xlt_01 (fun q134 hq134 => (X01_ofp hq134 (xt01_Z_take q126 p1 ((1 : Int32) <<< ((((xus p0 (25 : Int32)) - (48 : Int32)) / (2 : Int32)) &&& 31)) v132 p2))))))))) (by unfold xf_Z_asIfVirtual; exact (xlt_e hr1 (xlt_e hv11 (xlt_e hr13 (xlt_e hv17 (xit h19 (xif h108 (xlt_e hq109 (xit h110 (xif h113 (xlt_e hv115 (xlt_e hq117 (xlt_e hv120 (xlt_e hv124 (xlt_e hq126 (xlt_e hv137 (xlt_e hv138 rfl))))))))))))))))) hP hD hS xd_Z_asIfVirtual_243
                    have hv := hva
                    refine lv_if_eq (tgt := 234) hx hb xd_Z_asIfVirtual_210 rfl (fun h140 => ?_) (fun h140 => ?_)
                    · have hv := xit_v h140 hv
                      refine lv_aload_n hx hb xd_Z_asIfVirtual_234 rfl (lv_at hl 5 rfl) ?_
                      refine lv_iload hx hb xd_Z_asIfVirtual_235 (lv_at hl 2 rfl) ?_
                      refine lv_iload_n hx hb xd_Z_asIfVirtual_237 rfl (lv_at hl 8 rfl) ?_
                      refine lv_iload hx hb xd_Z_asIfVirtual_238 (lv_at hl 9 rfl) ?_
                      obtain ⟨hn142, hv⟩ := xan_v hv
                      refine xcW_i (va_runV (As := [.int (((1 : Int32) <<< ((((xus p0 (25 : Int32)) - (48 : Int32)) / (2 : Int32)) &&& 31))), .int p2, .int p3]) (rest := []) ⟨hx, hb, hml, hown, htg⟩ (c_Z_give l D z k b H.size q126 ((1 : Int32) <<< ((((xus p0 (25 : Int32)) - (48 : Int32)) / (2 : Int32)) &&& 31)) p2 p3 hn142) (cwV 3 htg (xg_V0 xkin_Z_give xw_1018 xw_1020 xsel_Z_give xw_9) rfl rfl rfl (by decide +kernel) ⟨Nat.le_of_ble_eq_true rfl, Nat.le_of_ble_eq_true rfl⟩) ⟨xB_blind, xrecv_Z hK hP, fun U hU hW => xB_mk hP hK hD hE hS (xsubW hD hA hS) hU hW⟩ rfl rfl hl.1 rfl (lv_room (Nat.le_of_ble_eq_true rfl)) xd_Z_asIfVirtual_240 ⟨Nat.le_of_ble_eq_true rfl, Nat.le_of_ble_eq_true rfl⟩) hD hA hS (fun r u1 H locs hw hP hD hS => ?_)
                      obtain ⟨q141, hq141⟩ : ∃ q, q = xf_Z_give q126 ((1 : Int32) <<< ((((xus p0 (25 : Int32)) - (48 : Int32)) / (2 : Int32)) &&& 31)) p2 p3 := ⟨_, rfl⟩
                      rw [← hq141] at hw
                      obtain rfl : r = q141.1 := congrArg Prod.fst hw
                      obtain rfl : u1 = q141.2 := congrArg Prod.snd hw
                      have hP : va_P D xCl (xWZ k b q141.2) H := hP
                      have hD : va_D A (xWZ k b q141.2) := hD
                      have hv := xlt_v hq141 hv
                      exact hj139 H locs ls q141.1 q141.2 (xit h140 (xlt_e hq141 rfl)) (xit h140 (xlt_e hq141 rfl)) hl hP hD hS
                    · have hv := xif_v h140 hv
                      refine lv_aload_n hx hb xd_Z_asIfVirtual_213 rfl (lv_at hl 5 rfl) ?_
                      refine lv_iload_n hx hb xd_Z_asIfVirtual_214 rfl (lv_at hl 7 rfl) ?_
                      refine lv_iload hx hb xd_Z_asIfVirtual_215 (lv_at hl 2 rfl) ?_
                      refine lv_iload hx hb xd_Z_asIfVirtual_217 (lv_at hl 3 rfl) ?_
                      have hj145 : ∀ (H : Heap) (locs : List Loc) (ls : Array Slot) (v144 : Int32), v144 = (if ((p0 >>> ((20 : Int32) &&& 31)) &&& (31 : Int32)) ≤ 0 then (0) else (1)) → lv_has ls 10 [(9, .int v17), (8, .int v11), (7, .int (((1 : Int32) <<< ((((xus p0 (25 : Int32)) - (48 : Int32)) / (2 : Int32)) &&& 31)))), (6, .int (((p0 >>> ((20 : Int32) &&& 31)) &&& (31 : Int32)))), (5, .int ((xus p0 (25 : Int32)))), (0, .ref ((b 0))), (1, .int p0), (2, .int p1), (3, .int p2), (4, .int p3)] → va_P D xCl (xWZ k b q126) H → va_D A (xWZ k b q126) → va_S A s.heap H locs → W p l e { frames := 10, cells := 0, slots := 0, locals := 270 } s m args below meth c H locs (0) (0) Q (F0 m 227 ls [.int v144, .int (((1 : Int32) <<< ((((xus p0 (25 : Int32)) - (48 : Int32)) / (2 : Int32)) &&& 31))), .int p1, .ref ((b 0))]) := by
                        intro H locs ls v144 hv144 hl hP hD hS
                        have hv := xlt_v hv144 hv
                        refine lv_iload_n hx hb xd_Z_asIfVirtual_227 rfl (lv_at hl 8 rfl) ?_
                        obtain ⟨hn147, hv⟩ := xan_v hv
                        refine xcW_i (va_runV (As := [.int p1, .int (((1 : Int32) <<< ((((xus p0 (25 : Int32)) - (48 : Int32)) / (2 : Int32)) &&& 31))), .int v144, .int p2]) (rest := []) ⟨hx, hb, hml, hown, htg⟩ (c_Z_take l D z k b H.size q126 p1 ((1 : Int32) <<< ((((xus p0 (25 : Int32)) - (48 : Int32)) / (2 : Int32)) &&& 31)) v144 p2 hn147) (cwV 4 htg (xg_V0 xkin_Z_take xw_1005 xw_1007 xsel_Z_take xw_9) rfl rfl rfl (by decide +kernel) ⟨Nat.le_of_ble_eq_true rfl, Nat.le_of_ble_eq_true rfl⟩) ⟨xB_blind, xrecv_Z hK hP, fun U hU hW => xB_mk hP hK hD hE hS (xsubW hD hA hS) hU hW⟩ rfl rfl hl.1 rfl (lv_room (Nat.le_of_ble_eq_true rfl)) xd_Z_asIfVirtual_228 ⟨Nat.le_of_ble_eq_true rfl, Nat.le_of_ble_eq_true rfl⟩) hD hA hS (fun r u1 H locs hw hP hD hS => ?_)
                        obtain ⟨q146, hq146⟩ : ∃ q, q = xf_Z_take q126 p1 ((1 : Int32) <<< ((((xus p0 (25 : Int32)) - (48 : Int32)) / (2 : Int32)) &&& 31)) v144 p2 := ⟨_, rfl⟩
                        rw [← hq146] at hw
                        obtain rfl : r = q146.1 := congrArg Prod.fst hw
                        obtain rfl : u1 = q146.2 := congrArg Prod.snd hw
                        have hP : va_P D xCl (xWZ k b q146.2) H := hP
                        have hD : va_D A (xWZ k b q146.2) := hD
                        have hv := xlt_v hq146 hv
                        refine lv_goto (tgt := 243) hx hb xd_Z_asIfVirtual_231 rfl ?_
                        exact hj139 H locs ls q146.1 q146.2 (xif h140 (xlt_e hv144 (xlt_e hq146 rfl))) (xif h140 (xlt_e hv144 (xlt_e hq146 rfl))) hl hP hD hS
                      refine lv_if_le (tgt := 226) hx hb xd_Z_asIfVirtual_219 rfl (fun h148 => ?_) (fun h148 => ?_)
                      · refine lv_iconst (v := 0) hx hb xd_Z_asIfVirtual_226 (by decide) ?_
                        exact hj145 H locs ls (0 : Int32) (xit h148 rfl) hl hP hD hS
                      · refine lv_iconst (v := 1) hx hb xd_Z_asIfVirtual_222 (by decide) ?_
                        refine lv_goto (tgt := 227) hx hb xd_Z_asIfVirtual_223 rfl ?_
                        exact hj145 H locs ls (1 : Int32) (xif h148 rfl) hl hP hD hS
                  refine lv_if_eq (tgt := 204) hx hb xd_Z_asIfVirtual_191 rfl (fun h149 => ?_) (fun h149 => ?_)
                  · refine lv_iconst (v := 0) hx hb xd_Z_asIfVirtual_204 (by decide) ?_
                    exact hj125 H locs ls (0 : Int32) (xit h149 rfl) hl hP hD hS
                  · refine lv_iload hx hb xd_Z_asIfVirtual_194 (lv_at hl 3 rfl) ?_
                    refine lv_iconst (v := 3) hx hb xd_Z_asIfVirtual_196 (by decide) ?_
                    refine lv_icmp_ne (tgt := 204) hx hb xd_Z_asIfVirtual_197 rfl (fun h150 => ?_) (fun h150 => ?_)
                    · refine lv_iconst (v := 0) hx hb xd_Z_asIfVirtual_204 (by decide) ?_
                      exact hj125 H locs ls (0 : Int32) (xif h149 (xif h150 rfl)) hl hP hD hS
                    · refine lv_iconst (v := 1) hx hb xd_Z_asIfVirtual_200 (by decide) ?_
                      refine lv_goto (tgt := 205) hx hb xd_Z_asIfVirtual_201 rfl ?_
                      exact hj125 H locs ls (1 : Int32) (xif h149 (xit h150 rfl)) hl hP hD hS
                refine lv_if_ne (tgt := 188) hx hb xd_Z_asIfVirtual_181 rfl (fun h151 => ?_) (fun h151 => ?_)
                · refine lv_iconst (v := 0) hx hb xd_Z_asIfVirtual_188 (by decide) ?_
                  exact hj121 H locs ls (0 : Int32) (xif h151 rfl) hl hP hD hS
                · refine lv_iconst (v := 1) hx hb xd_Z_asIfVirtual_184 (by decide) ?_
                  refine lv_goto (tgt := 189) hx hb xd_Z_asIfVirtual_185 rfl ?_
                  exact hj121 H locs ls (1 : Int32) (xit h151 rfl) hl hP hD hS
              refine lv_if_eq (tgt := 170) hx hb xd_Z_asIfVirtual_163 rfl (fun h152 => ?_) (fun h152 => ?_)
              · refine lv_iconst (v := 2) hx hb xd_Z_asIfVirtual_170 (by decide) ?_
                exact hj116 H locs ls (2 : Int32) (xit h152 rfl) hl hP hD hS
              · refine lv_iconst (v := 1) hx hb xd_Z_asIfVirtual_166 (by decide) ?_
                refine lv_goto (tgt := 171) hx hb xd_Z_asIfVirtual_167 rfl ?_
                exact hj116 H locs ls (1 : Int32) (xif h152 rfl) hl hP hD hS
            · have hv := xit_v h113 hv
              refine lv_aload_n hx hb xd_Z_asIfVirtual_142 rfl (lv_at hl 5 rfl) ?_
              refine lv_sipush (v := 1536) hx hb xd_Z_asIfVirtual_143 (by decide) ?_
              refine lv_bipush (v := 9) hx hb xd_Z_asIfVirtual_146 (by decide) ?_
              obtain ⟨hn154, hv⟩ := xan_v hv
              refine xcW_i (va_runV (As := [.int 1536, .int 9]) (rest := []) ⟨hx, hb, hml, hown, htg⟩ (c_Z_bit l D z k b H.size u (1536 : Int32) (9 : Int32) hn154) (cwV 2 htg (xg_V0 xkin_Z_bit xw_867 xw_869 xsel_Z_bit xw_9) rfl rfl rfl (by decide +kernel) ⟨Nat.le_of_ble_eq_true rfl, Nat.le_of_ble_eq_true rfl⟩) ⟨xB_blind, xrecv_Z hK hP, fun U hU hW => xB_mk hP hK hD hE hS (xsubW hD hA hS) hU hW⟩ rfl rfl hl.1 rfl (lv_room (Nat.le_of_ble_eq_true rfl)) xd_Z_asIfVirtual_148 ⟨Nat.le_of_ble_eq_true rfl, Nat.le_of_ble_eq_true rfl⟩) hD hA hS (fun r u1 H locs hw hP hD hS => ?_)
              obtain ⟨q153, hq153⟩ : ∃ q, q = xf_Z_bit u (1536 : Int32) (9 : Int32) := ⟨_, rfl⟩
              obtain ⟨e1, e2⟩ := hw
              rw [← hq153] at e1
              obtain rfl : q153 = r := e1.symm
              obtain rfl : u = u1 := e2.symm
              have hP : va_P D xCl (xWZ k b u) H := hP
              have hD : va_D A (xWZ k b u) := hD
              have hv := xlt_v hq153 hv
              refine lv_if_ne (tgt := 160) hx hb xd_Z_asIfVirtual_151 rfl (fun h155 => ?_) (fun h155 => ?_)
              · have hv := xif_v h155 hv
                refine lv_aload_n hx hb xd_Z_asIfVirtual_160 rfl (lv_at hl 5 rfl) ?_
                refine lv_iload hx hb xd_Z_asIfVirtual_161 (lv_at hl 1 rfl) ?_
                have hj158 : ∀ (H : Heap) (locs : List Loc) (ls : Array Slot) (v157 : Int32), v157 = (if v11 = 0 then (2) else (1)) → lv_has ls 10 [(9, .int v17), (8, .int v11), (7, .int (((1 : Int32) <<< ((((xus p0 (25 : Int32)) - (48 : Int32)) / (2 : Int32)) &&& 31)))), (6, .int (((p0 >>> ((20 : Int32) &&& 31)) &&& (31 : Int32)))), (5, .int ((xus p0 (25 : Int32)))), (0, .ref ((b 0))), (1, .int p0), (2, .int p1), (3, .int p2), (4, .int p3)] → va_P D xCl (xWZ k b u) H → va_D A (xWZ k b u) → va_S A s.heap H locs → W p l e { frames := 10, cells := 0, slots := 0, locals := 270 } s m args below meth c H locs (0) (0) Q (F0 m 171 ls [.int v157, .ref ((b 0))]) := by
                  intro H locs ls v157 hv157 hl hP hD hS
                  have hv := xlt_v hv157 hv
                  refine lv_iconst (v := 1) hx hb xd_Z_asIfVirtual_171 (by decide) ?_
                  refine lv_aload_n hx hb xd_Z_asIfVirtual_172 rfl (lv_at hl 5 rfl) ?_
                  refine lv_sipush (v := 1536) hx hb xd_Z_asIfVirtual_173 (by decide) ?_
                  refine lv_bipush (v := 8) hx hb xd_Z_asIfVirtual_176 (by decide) ?_
                  obtain ⟨hn160, hv⟩ := xan_v hv
                  refine xcW_i (va_runV (As := [.int 1536, .int 8]) (rest := [.int 1, .int v157, .ref ((b 0))]) ⟨hx, hb, hml, hown, htg⟩ (c_Z_bit l D z k b H.size u (1536 : Int32) (8 : Int32) hn160) (cwV 2 htg (xg_V0 xkin_Z_bit xw_867 xw_869 xsel_Z_bit xw_9) rfl rfl rfl (by decide +kernel) ⟨Nat.le_of_ble_eq_true rfl, Nat.le_of_ble_eq_true rfl⟩) ⟨xB_blind, xrecv_Z hK hP, fun U hU hW => xB_mk hP hK hD hE hS (xsubW hD hA hS) hU hW⟩ rfl rfl hl.1 rfl (lv_room (Nat.le_of_ble_eq_true rfl)) xd_Z_asIfVirtual_178 ⟨Nat.le_of_ble_eq_true rfl, Nat.le_of_ble_eq_true rfl⟩) hD hA hS (fun r u1 H locs hw hP hD hS => ?_)
                  obtain ⟨q159, hq159⟩ : ∃ q, q = xf_Z_bit u (1536 : Int32) (8 : Int32) := ⟨_, rfl⟩
                  obtain ⟨e1, e2⟩ := hw
                  rw [← hq159] at e1
                  obtain rfl : q159 = r := e1.symm
                  obtain rfl : u = u1 := e2.symm
                  have hP : va_P D xCl (xWZ k b u) H := hP
                  have hD : va_D A (xWZ k b u) := hD
                  have hv := xlt_v hq159 hv
                  have hj163 : ∀ (H : Heap) (locs : List Loc) (ls : Array Slot) (v162 : Int32), v162 = (if q159 = 0 then (1) else (0)) → lv_has ls 10 [(9, .int v17), (8, .int v11), (7, .int (((1 : Int32) <<< ((((xus p0 (25 : Int32)) - (48 : Int32)) / (2 : Int32)) &&& 31)))), (6, .int (((p0 >>> ((20 : Int32) &&& 31)) &&& (31 : Int32)))), (5, .int ((xus p0 (25 : Int32)))), (0, .ref ((b 0))), (1, .int p0), (2, .int p1), (3, .int p2), (4, .int p3)] → va_P D xCl (xWZ k b u) H → va_D A (xWZ k b u) → va_S A s.heap H locs → W p l e { frames := 10, cells := 0, slots := 0, locals := 270 } s m args below meth c H locs (0) (0) Q (F0 m 189 ls [.int v162, .int 1, .int v157, .ref ((b 0))]) := by
                    intro H locs ls v162 hv162 hl hP hD hS
                    have hv := xlt_v hv162 hv
                    refine lv_iload hx hb xd_Z_asIfVirtual_189 (lv_at hl 1 rfl) ?_
                    have hj167 : ∀ (H : Heap) (locs : List Loc) (ls : Array Slot) (v166 : Int32), v166 = (if v11 = 0 then (0) else (if ((p0 >>> ((20 : Int32) &&& 31)) &&& (31 : Int32)) = 3 then (1) else (0))) → lv_has ls 10 [(9, .int v17), (8, .int v11), (7, .int (((1 : Int32) <<< ((((xus p0 (25 : Int32)) - (48 : Int32)) / (2 : Int32)) &&& 31)))), (6, .int (((p0 >>> ((20 : Int32) &&& 31)) &&& (31 : Int32)))), (5, .int ((xus p0 (25 : Int32)))), (0, .ref ((b 0))), (1, .int p0), (2, .int p1), (3, .int p2), (4, .int p3)] → va_P D xCl (xWZ k b u) H → va_D A (xWZ k b u) → va_S A s.heap H locs → W p l e { frames := 10, cells := 0, slots := 0, locals := 270 } s m args below meth c H locs (0) (0) Q (F0 m 205 ls [.int v166, .int v162, .int 1, .int v157, .ref ((b 0))]) := by
                      intro H locs ls v166 hv166 hl hP hD hS
                      have hv := xlt_v hv166 hv
                      obtain ⟨hn169, hv⟩ := xan_v hv
                      refine xcW_v (va_runV (As := [.int v157, .int 1, .int v162, .int v166]) (rest := []) ⟨hx, hb, hml, hown, htg⟩ (c_Z_asMode l D z k b H.size u v157 (1 : Int32) v162 v166 hn169) (cwV 4 htg (xg_V0 xkin_Z_asMode xw_925 xw_927 xsel_Z_asMode xw_9) rfl rfl rfl (by decide +kernel) ⟨Nat.le_of_ble_eq_true rfl, Nat.le_of_ble_eq_true rfl⟩) ⟨xB_blind, xrecv_Z hK hP, fun U hU hW => xB_mk hP hK hD hE hS (xsubW hD hA hS) hU hW⟩ rfl rfl hl.1 rfl (lv_room (Nat.le_of_ble_eq_true rfl)) xd_Z_asIfVirtual_205 ⟨Nat.le_of_ble_eq_true rfl, Nat.le_of_ble_eq_true rfl⟩) hD hA hS (fun u1 H locs hw hP hD hS => ?_)
                      obtain ⟨q168, hq168⟩ : ∃ q, q = xf_Z_asMode u v157 (1 : Int32) v162 v166 := ⟨_, rfl⟩
                      rw [← hq168] at hw
                      obtain rfl : q168 = u1 := hw.symm
                      have hP : va_P D xCl (xWZ k b q168) H := hP
                      have hD : va_D A (xWZ k b q168) := hD
                      have hv := xlt_v hq168 hv
                      refine lv_iload hx hb xd_Z_asIfVirtual_208 (lv_at hl 1 rfl) ?_
                      obtain ⟨hva, hv⟩ := xan_v2 hv
                      have hj181 : ∀ (H : Heap) (locs : List Loc) (ls : Array Slot) (v179 : Int32) (v180 : XZ), v179 = (if v11 = 0 then (xlt (xf_Z_give q168 ((1 : Int32) <<< ((((xus p0 (25 : Int32)) - (48 : Int32)) / (2 : Int32)) &&& 31)) p2 p3 : Int32 × XZ) fun q171 => q171.1) else (xlt (if ((p0 >>> ((20 : Int32) &&& 31)) &&& (31 : Int32)) ≤ 0 then (0) else (1) : Int32) fun v174 => xlt (xf_Z_take q168 p1 ((1 : Int32) <<< ((((xus p0 (25 : Int32)) - (48 : Int32)) / (2 : Int32)) &&& 31)) v174 p2 : Int32 × XZ) fun q176 => q176.1)) → v180 = (if v11 = 0 then (xlt (xf_Z_give q168 ((1 : Int32) <<< ((((xus p0 (25 : Int32)) - (48 : Int32)) / (2 : Int32)) &&& 31)) p2 p3 : Int32 × XZ) fun q171 => q171.2) else (xlt (if ((p0 >>> ((20 : Int32) &&& 31)) &&& (31 : Int32)) ≤ 0 then (0) else (1) : Int32) fun v174 => xlt (xf_Z_take q168 p1 ((1 : Int32) <<< ((((xus p0 (25 : Int32)) - (48 : Int32)) / (2 : Int32)) &&& 31)) v174 p2 : Int32 × XZ) fun q176 => q176.2)) → lv_has ls 10 [(9, .int v17), (8, .int v11), (7, .int (((1 : Int32) <<< ((((xus p0 (25 : Int32)) - (48 : Int32)) / (2 : Int32)) &&& 31)))), (6, .int (((p0 >>> ((20 : Int32) &&& 31)) &&& (31 : Int32)))), (5, .int ((xus p0 (25 : Int32)))), (0, .ref ((b 0))), (1, .int p0), (2, .int p1), (3, .int p2), (4, .int p3)] → va_P D xCl (xWZ k b v180) H → va_D A (xWZ k b v180) → va_S A s.heap H locs → W p l e { frames := 10, cells := 0, slots := 0, locals := 270 } s m args below meth c H locs (0) (0) Q (F0 m 243 ls [.int v179]) := by
                        intro H locs ls v179 v180 hv179 hv180 hl hP hD hS
                        have hv := xlt_v hv179 hv
                        have hv := xlt_v hv180 hv
                        exact hret _ v180 H locs ls _ (xnar (X01_of hv179 (xit_01 (xlt_01 (fun q171 hq171 => (X01_ofp hq171 (xt01_Z_give q168 ((1 : Int32) <<< ((((xus p0 (25 : Int32)) - (48 : Int32)) / (2 : Int32)) &&& 31)) p2 p3)))) (xlt_01 (fun v174 hv174 => (xlt_01 (fun q176 hq176 => (X01_ofp hq176 (xt01_Z_take q168 p1 ((1 : Int32) <<< ((((xus p0 (25 : Int32)) - (48 : Int32)) / (2 : Int32)) &&& 31)) v174 p2))))))))) (by unfold xf_Z_asIfVirtual; exact (xlt_e hr1 (xlt_e hv11 (xlt_e hr13 (xlt_e hv17 (xit h19 (xif h108 (xlt_e hq109 (xit h110 (xit h113 (xlt_e hq153 (xif h155 (xlt_e hv157 (xlt_e hq159 (xlt_e hv162 (xlt_e hv166 (xlt_e hq168 (xlt_e hv179 (xlt_e hv180 rfl))))))))))))))))))) hP hD hS xd_Z_asIfVirtual_243
                      have hv := hva
                      refine lv_if_eq (tgt := 234) hx hb xd_Z_asIfVirtual_210 rfl (fun h182 => ?_) (fun h182 => ?_)
                      · have hv := xit_v h182 hv
                        refine lv_aload_n hx hb xd_Z_asIfVirtual_234 rfl (lv_at hl 5 rfl) ?_
                        refine lv_iload hx hb xd_Z_asIfVirtual_235 (lv_at hl 2 rfl) ?_
                        refine lv_iload_n hx hb xd_Z_asIfVirtual_237 rfl (lv_at hl 8 rfl) ?_
                        refine lv_iload hx hb xd_Z_asIfVirtual_238 (lv_at hl 9 rfl) ?_
                        obtain ⟨hn184, hv⟩ := xan_v hv
                        refine xcW_i (va_runV (As := [.int (((1 : Int32) <<< ((((xus p0 (25 : Int32)) - (48 : Int32)) / (2 : Int32)) &&& 31))), .int p2, .int p3]) (rest := []) ⟨hx, hb, hml, hown, htg⟩ (c_Z_give l D z k b H.size q168 ((1 : Int32) <<< ((((xus p0 (25 : Int32)) - (48 : Int32)) / (2 : Int32)) &&& 31)) p2 p3 hn184) (cwV 3 htg (xg_V0 xkin_Z_give xw_1018 xw_1020 xsel_Z_give xw_9) rfl rfl rfl (by decide +kernel) ⟨Nat.le_of_ble_eq_true rfl, Nat.le_of_ble_eq_true rfl⟩) ⟨xB_blind, xrecv_Z hK hP, fun U hU hW => xB_mk hP hK hD hE hS (xsubW hD hA hS) hU hW⟩ rfl rfl hl.1 rfl (lv_room (Nat.le_of_ble_eq_true rfl)) xd_Z_asIfVirtual_240 ⟨Nat.le_of_ble_eq_true rfl, Nat.le_of_ble_eq_true rfl⟩) hD hA hS (fun r u1 H locs hw hP hD hS => ?_)
                        obtain ⟨q183, hq183⟩ : ∃ q, q = xf_Z_give q168 ((1 : Int32) <<< ((((xus p0 (25 : Int32)) - (48 : Int32)) / (2 : Int32)) &&& 31)) p2 p3 := ⟨_, rfl⟩
                        rw [← hq183] at hw
                        obtain rfl : r = q183.1 := congrArg Prod.fst hw
                        obtain rfl : u1 = q183.2 := congrArg Prod.snd hw
                        have hP : va_P D xCl (xWZ k b q183.2) H := hP
                        have hD : va_D A (xWZ k b q183.2) := hD
                        have hv := xlt_v hq183 hv
                        exact hj181 H locs ls q183.1 q183.2 (xit h182 (xlt_e hq183 rfl)) (xit h182 (xlt_e hq183 rfl)) hl hP hD hS
                      · have hv := xif_v h182 hv
                        refine lv_aload_n hx hb xd_Z_asIfVirtual_213 rfl (lv_at hl 5 rfl) ?_
                        refine lv_iload_n hx hb xd_Z_asIfVirtual_214 rfl (lv_at hl 7 rfl) ?_
                        refine lv_iload hx hb xd_Z_asIfVirtual_215 (lv_at hl 2 rfl) ?_
                        refine lv_iload hx hb xd_Z_asIfVirtual_217 (lv_at hl 3 rfl) ?_
                        have hj187 : ∀ (H : Heap) (locs : List Loc) (ls : Array Slot) (v186 : Int32), v186 = (if ((p0 >>> ((20 : Int32) &&& 31)) &&& (31 : Int32)) ≤ 0 then (0) else (1)) → lv_has ls 10 [(9, .int v17), (8, .int v11), (7, .int (((1 : Int32) <<< ((((xus p0 (25 : Int32)) - (48 : Int32)) / (2 : Int32)) &&& 31)))), (6, .int (((p0 >>> ((20 : Int32) &&& 31)) &&& (31 : Int32)))), (5, .int ((xus p0 (25 : Int32)))), (0, .ref ((b 0))), (1, .int p0), (2, .int p1), (3, .int p2), (4, .int p3)] → va_P D xCl (xWZ k b q168) H → va_D A (xWZ k b q168) → va_S A s.heap H locs → W p l e { frames := 10, cells := 0, slots := 0, locals := 270 } s m args below meth c H locs (0) (0) Q (F0 m 227 ls [.int v186, .int (((1 : Int32) <<< ((((xus p0 (25 : Int32)) - (48 : Int32)) / (2 : Int32)) &&& 31))), .int p1, .ref ((b 0))]) := by
                          intro H locs ls v186 hv186 hl hP hD hS
                          have hv := xlt_v hv186 hv
                          refine lv_iload_n hx hb xd_Z_asIfVirtual_227 rfl (lv_at hl 8 rfl) ?_
                          obtain ⟨hn189, hv⟩ := xan_v hv
                          refine xcW_i (va_runV (As := [.int p1, .int (((1 : Int32) <<< ((((xus p0 (25 : Int32)) - (48 : Int32)) / (2 : Int32)) &&& 31))), .int v186, .int p2]) (rest := []) ⟨hx, hb, hml, hown, htg⟩ (c_Z_take l D z k b H.size q168 p1 ((1 : Int32) <<< ((((xus p0 (25 : Int32)) - (48 : Int32)) / (2 : Int32)) &&& 31)) v186 p2 hn189) (cwV 4 htg (xg_V0 xkin_Z_take xw_1005 xw_1007 xsel_Z_take xw_9) rfl rfl rfl (by decide +kernel) ⟨Nat.le_of_ble_eq_true rfl, Nat.le_of_ble_eq_true rfl⟩) ⟨xB_blind, xrecv_Z hK hP, fun U hU hW => xB_mk hP hK hD hE hS (xsubW hD hA hS) hU hW⟩ rfl rfl hl.1 rfl (lv_room (Nat.le_of_ble_eq_true rfl)) xd_Z_asIfVirtual_228 ⟨Nat.le_of_ble_eq_true rfl, Nat.le_of_ble_eq_true rfl⟩) hD hA hS (fun r u1 H locs hw hP hD hS => ?_)
                          obtain ⟨q188, hq188⟩ : ∃ q, q = xf_Z_take q168 p1 ((1 : Int32) <<< ((((xus p0 (25 : Int32)) - (48 : Int32)) / (2 : Int32)) &&& 31)) v186 p2 := ⟨_, rfl⟩
                          rw [← hq188] at hw
                          obtain rfl : r = q188.1 := congrArg Prod.fst hw
                          obtain rfl : u1 = q188.2 := congrArg Prod.snd hw
                          have hP : va_P D xCl (xWZ k b q188.2) H := hP
                          have hD : va_D A (xWZ k b q188.2) := hD
                          have hv := xlt_v hq188 hv
                          refine lv_goto (tgt := 243) hx hb xd_Z_asIfVirtual_231 rfl ?_
                          exact hj181 H locs ls q188.1 q188.2 (xif h182 (xlt_e hv186 (xlt_e hq188 rfl))) (xif h182 (xlt_e hv186 (xlt_e hq188 rfl))) hl hP hD hS
                        refine lv_if_le (tgt := 226) hx hb xd_Z_asIfVirtual_219 rfl (fun h190 => ?_) (fun h190 => ?_)
                        · refine lv_iconst (v := 0) hx hb xd_Z_asIfVirtual_226 (by decide) ?_
                          exact hj187 H locs ls (0 : Int32) (xit h190 rfl) hl hP hD hS
                        · refine lv_iconst (v := 1) hx hb xd_Z_asIfVirtual_222 (by decide) ?_
                          refine lv_goto (tgt := 227) hx hb xd_Z_asIfVirtual_223 rfl ?_
                          exact hj187 H locs ls (1 : Int32) (xif h190 rfl) hl hP hD hS
                    refine lv_if_eq (tgt := 204) hx hb xd_Z_asIfVirtual_191 rfl (fun h191 => ?_) (fun h191 => ?_)
                    · refine lv_iconst (v := 0) hx hb xd_Z_asIfVirtual_204 (by decide) ?_
                      exact hj167 H locs ls (0 : Int32) (xit h191 rfl) hl hP hD hS
                    · refine lv_iload hx hb xd_Z_asIfVirtual_194 (lv_at hl 3 rfl) ?_
                      refine lv_iconst (v := 3) hx hb xd_Z_asIfVirtual_196 (by decide) ?_
                      refine lv_icmp_ne (tgt := 204) hx hb xd_Z_asIfVirtual_197 rfl (fun h192 => ?_) (fun h192 => ?_)
                      · refine lv_iconst (v := 0) hx hb xd_Z_asIfVirtual_204 (by decide) ?_
                        exact hj167 H locs ls (0 : Int32) (xif h191 (xif h192 rfl)) hl hP hD hS
                      · refine lv_iconst (v := 1) hx hb xd_Z_asIfVirtual_200 (by decide) ?_
                        refine lv_goto (tgt := 205) hx hb xd_Z_asIfVirtual_201 rfl ?_
                        exact hj167 H locs ls (1 : Int32) (xif h191 (xit h192 rfl)) hl hP hD hS
                  refine lv_if_ne (tgt := 188) hx hb xd_Z_asIfVirtual_181 rfl (fun h193 => ?_) (fun h193 => ?_)
                  · refine lv_iconst (v := 0) hx hb xd_Z_asIfVirtual_188 (by decide) ?_
                    exact hj163 H locs ls (0 : Int32) (xif h193 rfl) hl hP hD hS
                  · refine lv_iconst (v := 1) hx hb xd_Z_asIfVirtual_184 (by decide) ?_
                    refine lv_goto (tgt := 189) hx hb xd_Z_asIfVirtual_185 rfl ?_
                    exact hj163 H locs ls (1 : Int32) (xit h193 rfl) hl hP hD hS
                refine lv_if_eq (tgt := 170) hx hb xd_Z_asIfVirtual_163 rfl (fun h194 => ?_) (fun h194 => ?_)
                · refine lv_iconst (v := 2) hx hb xd_Z_asIfVirtual_170 (by decide) ?_
                  exact hj158 H locs ls (2 : Int32) (xit h194 rfl) hl hP hD hS
                · refine lv_iconst (v := 1) hx hb xd_Z_asIfVirtual_166 (by decide) ?_
                  refine lv_goto (tgt := 171) hx hb xd_Z_asIfVirtual_167 rfl ?_
                  exact hj158 H locs ls (1 : Int32) (xif h194 rfl) hl hP hD hS
              · have hv := xit_v h155 hv
                refine lv_aload_n hx hb xd_Z_asIfVirtual_154 rfl (lv_at hl 5 rfl) ?_
                refine lv_iload_n hx hb xd_Z_asIfVirtual_155 rfl (lv_at hl 6 rfl) ?_
                obtain ⟨hn196, hv⟩ := xan_v hv
                refine xcW_i (va_runV (As := [.int p0]) (rest := []) ⟨hx, hb, hml, hown, htg⟩ (c_Z_notThere l D z k b H.size u p0 hn196) (cwV 1 htg (xg_V0 xkin_Z_notThere xw_1045 xw_1047 xsel_Z_notThere xw_9) rfl rfl rfl (by decide +kernel) ⟨Nat.le_of_ble_eq_true rfl, Nat.le_of_ble_eq_true rfl⟩) ⟨xB_blind, xrecv_Z hK hP, fun U hU hW => xB_mk hP hK hD hE hS (xsubW hD hA hS) hU hW⟩ rfl rfl hl.1 rfl (lv_room (Nat.le_of_ble_eq_true rfl)) xd_Z_asIfVirtual_156 ⟨Nat.le_of_ble_eq_true rfl, Nat.le_of_ble_eq_true rfl⟩) hD hA hS (fun r u1 H locs hw hP hD hS => ?_)
                obtain ⟨q195, hq195⟩ : ∃ q, q = xf_Z_notThere u p0 := ⟨_, rfl⟩
                rw [← hq195] at hw
                obtain rfl : r = q195.1 := congrArg Prod.fst hw
                obtain rfl : u1 = q195.2 := congrArg Prod.snd hw
                have hP : va_P D xCl (xWZ k b q195.2) H := hP
                have hD : va_D A (xWZ k b q195.2) := hD
                have hv := xlt_v hq195 hv
                exact hret _ q195.2 H locs ls _ (xnar (X01_ofp hq195 (xt01_Z_notThere u p0))) (by unfold xf_Z_asIfVirtual; exact (xlt_e hr1 (xlt_e hv11 (xlt_e hr13 (xlt_e hv17 (xit h19 (xif h108 (xlt_e hq109 (xit h110 (xit h113 (xlt_e hq153 (xit h155 (xlt_e hq195 rfl))))))))))))) hP hD hS xd_Z_asIfVirtual_159
        · have hv := xit_v h108 hv
          refine lv_aload_n hx hb xd_Z_asIfVirtual_122 rfl (lv_at hl 5 rfl) ?_
          refine lv_iload_n hx hb xd_Z_asIfVirtual_123 rfl (lv_at hl 6 rfl) ?_
          obtain ⟨hn198, hv⟩ := xan_v hv
          refine xcW_i (va_runV (As := [.int p0]) (rest := []) ⟨hx, hb, hml, hown, htg⟩ (c_Z_illegal l D z k b H.size u p0 hn198) (cwV 1 htg (xg_V0 xkin_Z_illegal xw_990 xw_992 xsel_Z_illegal xw_9) rfl rfl rfl (by decide +kernel) ⟨Nat.le_of_ble_eq_true rfl, Nat.le_of_ble_eq_true rfl⟩) ⟨xB_blind, xrecv_Z hK hP, fun U hU hW => xB_mk hP hK hD hE hS (xsubW hD hA hS) hU hW⟩ rfl rfl hl.1 rfl (lv_room (Nat.le_of_ble_eq_true rfl)) xd_Z_asIfVirtual_124 ⟨Nat.le_of_ble_eq_true rfl, Nat.le_of_ble_eq_true rfl⟩) hD hA hS (fun r u1 H locs hw hP hD hS => ?_)
          obtain ⟨q197, hq197⟩ : ∃ q, q = xf_Z_illegal u p0 := ⟨_, rfl⟩
          rw [← hq197] at hw
          obtain rfl : r = q197.1 := congrArg Prod.fst hw
          obtain rfl : u1 = q197.2 := congrArg Prod.snd hw
          have hP : va_P D xCl (xWZ k b q197.2) H := hP
          have hD : va_D A (xWZ k b q197.2) := hD
          have hv := xlt_v hq197 hv
          exact hret _ q197.2 H locs ls _ (xnar (X01_ofp hq197 (xt01_Z_illegal u p0))) (by unfold xf_Z_asIfVirtual; exact (xlt_e hr1 (xlt_e hv11 (xlt_e hr13 (xlt_e hv17 (xit h19 (xit h108 (xlt_e hq197 rfl)))))))) hP hD hS xd_Z_asIfVirtual_127
    refine lv_if_eq (tgt := 109) hx hb xd_Z_asIfVirtual_90 rfl (fun h199 => ?_) (fun h199 => ?_)
    · refine lv_iconst (v := 0) hx hb xd_Z_asIfVirtual_109 (by decide) ?_
      exact hj18 H locs ls (0 : Int32) (xit h199 rfl) hl hP hD hS
    · refine lv_iload hx hb xd_Z_asIfVirtual_93 (lv_at hl 3 rfl) ?_
      refine lv_iconst (v := 2) hx hb xd_Z_asIfVirtual_95 (by decide) ?_
      refine lv_irem hx hb xd_Z_asIfVirtual_96 (by decide) ?_
      refine lv_iconst (v := 1) hx hb xd_Z_asIfVirtual_97 (by decide) ?_
      refine lv_icmp_ne (tgt := 109) hx hb xd_Z_asIfVirtual_98 rfl (fun h200 => ?_) (fun h200 => ?_)
      · refine lv_iconst (v := 0) hx hb xd_Z_asIfVirtual_109 (by decide) ?_
        exact hj18 H locs ls (0 : Int32) (xif h199 (xif h200 rfl)) hl hP hD hS
      · refine lv_iload_n hx hb xd_Z_asIfVirtual_101 rfl (lv_at hl 6 rfl) ?_
        refine lv_if_ne (tgt := 109) hx hb xd_Z_asIfVirtual_102 rfl (fun h201 => ?_) (fun h201 => ?_)
        · refine lv_iconst (v := 0) hx hb xd_Z_asIfVirtual_109 (by decide) ?_
          exact hj18 H locs ls (0 : Int32) (xif h199 (xit h200 (xif h201 rfl))) hl hP hD hS
        · refine lv_iconst (v := 1) hx hb xd_Z_asIfVirtual_105 (by decide) ?_
          refine lv_goto (tgt := 110) hx hb xd_Z_asIfVirtual_106 rfl ?_
          exact hj18 H locs ls (1 : Int32) (xif h199 (xit h200 (xit h201 rfl))) hl hP hD hS
  refine lv_if_eq (tgt := 78) hx hb xd_Z_asIfVirtual_35 rfl (fun h202 => ?_) (fun h202 => ?_)
  · refine lv_iconst (v := 0) hx hb xd_Z_asIfVirtual_78 (by decide) ?_
    exact hj12 H locs ls (0 : Int32) (xit h202 rfl) hl hP hD hS
  · refine lv_iload hx hb xd_Z_asIfVirtual_38 (lv_at hl 2 rfl) ?_
    refine lv_iconst (v := 2) hx hb xd_Z_asIfVirtual_40 (by decide) ?_
    refine lv_irem hx hb xd_Z_asIfVirtual_41 (by decide) ?_
    refine lv_if_ne (tgt := 78) hx hb xd_Z_asIfVirtual_42 rfl (fun h203 => ?_) (fun h203 => ?_)
    · refine lv_iconst (v := 0) hx hb xd_Z_asIfVirtual_78 (by decide) ?_
      exact hj12 H locs ls (0 : Int32) (xif h202 (xif h203 rfl)) hl hP hD hS
    · refine lv_iload hx hb xd_Z_asIfVirtual_45 (lv_at hl 1 rfl) ?_
      refine lv_if_eq (tgt := 74) hx hb xd_Z_asIfVirtual_47 rfl (fun h204 => ?_) (fun h204 => ?_)
      · refine lv_iconst (v := 1) hx hb xd_Z_asIfVirtual_74 (by decide) ?_
        refine lv_goto (tgt := 79) hx hb xd_Z_asIfVirtual_75 rfl ?_
        exact hj12 H locs ls (1 : Int32) (xif h202 (xit h203 (xit h204 rfl))) hl hP hD hS
      · refine lv_iload hx hb xd_Z_asIfVirtual_50 (lv_at hl 1 rfl) ?_
        refine lv_iconst (v := 1) hx hb xd_Z_asIfVirtual_52 (by decide) ?_
        refine lv_icmp_ne (tgt := 62) hx hb xd_Z_asIfVirtual_53 rfl (fun h205 => ?_) (fun h205 => ?_)
        · refine lv_iload hx hb xd_Z_asIfVirtual_62 (lv_at hl 1 rfl) ?_
          refine lv_iconst (v := 3) hx hb xd_Z_asIfVirtual_64 (by decide) ?_
          refine lv_icmp_ne (tgt := 78) hx hb xd_Z_asIfVirtual_65 rfl (fun h206 => ?_) (fun h206 => ?_)
          · refine lv_iconst (v := 0) hx hb xd_Z_asIfVirtual_78 (by decide) ?_
            exact hj12 H locs ls (0 : Int32) (xif h202 (xit h203 (xif h204 (xif h205 (xif h206 rfl))))) hl hP hD hS
          · refine lv_iload hx hb xd_Z_asIfVirtual_68 (lv_at hl 0 rfl) ?_
            refine lv_iconst (v := 1) hx hb xd_Z_asIfVirtual_70 (by decide) ?_
            refine lv_icmp_le (tgt := 78) hx hb xd_Z_asIfVirtual_71 rfl (fun h207 => ?_) (fun h207 => ?_)
            · refine lv_iconst (v := 0) hx hb xd_Z_asIfVirtual_78 (by decide) ?_
              exact hj12 H locs ls (0 : Int32) (xif h202 (xit h203 (xif h204 (xif h205 (xit h206 (xit h207 rfl)))))) hl hP hD hS
            · refine lv_iconst (v := 1) hx hb xd_Z_asIfVirtual_74 (by decide) ?_
              refine lv_goto (tgt := 79) hx hb xd_Z_asIfVirtual_75 rfl ?_
              exact hj12 H locs ls (1 : Int32) (xif h202 (xit h203 (xif h204 (xif h205 (xit h206 (xif h207 rfl)))))) hl hP hD hS
        · refine lv_iload hx hb xd_Z_asIfVirtual_56 (lv_at hl 0 rfl) ?_
          refine lv_iconst (v := 4) hx hb xd_Z_asIfVirtual_58 (by decide) ?_
          refine lv_icmp_lt (tgt := 74) hx hb xd_Z_asIfVirtual_59 rfl (fun h208 => ?_) (fun h208 => ?_)
          · refine lv_iconst (v := 1) hx hb xd_Z_asIfVirtual_74 (by decide) ?_
            refine lv_goto (tgt := 79) hx hb xd_Z_asIfVirtual_75 rfl ?_
            exact hj12 H locs ls (1 : Int32) (xif h202 (xit h203 (xif h204 (xit h205 (xit h208 rfl))))) hl hP hD hS
          · refine lv_iload hx hb xd_Z_asIfVirtual_62 (lv_at hl 1 rfl) ?_
            refine lv_iconst (v := 3) hx hb xd_Z_asIfVirtual_64 (by decide) ?_
            refine lv_icmp_ne (tgt := 78) hx hb xd_Z_asIfVirtual_65 rfl (fun h209 => ?_) (fun h209 => ?_)
            · refine lv_iconst (v := 0) hx hb xd_Z_asIfVirtual_78 (by decide) ?_
              exact hj12 H locs ls (0 : Int32) (xif h202 (xit h203 (xif h204 (xit h205 (xif h208 (xif h209 rfl)))))) hl hP hD hS
            · refine lv_iload hx hb xd_Z_asIfVirtual_68 (lv_at hl 0 rfl) ?_
              refine lv_iconst (v := 1) hx hb xd_Z_asIfVirtual_70 (by decide) ?_
              refine lv_icmp_le (tgt := 78) hx hb xd_Z_asIfVirtual_71 rfl (fun h210 => ?_) (fun h210 => ?_)
              · refine lv_iconst (v := 0) hx hb xd_Z_asIfVirtual_78 (by decide) ?_
                exact hj12 H locs ls (0 : Int32) (xif h202 (xit h203 (xif h204 (xit h205 (xif h208 (xit h209 (xit h210 rfl))))))) hl hP hD hS
              · refine lv_iconst (v := 1) hx hb xd_Z_asIfVirtual_74 (by decide) ?_
                refine lv_goto (tgt := 79) hx hb xd_Z_asIfVirtual_75 rfl ?_
                exact hj12 H locs ls (1 : Int32) (xif h202 (xit h203 (xif h204 (xit h205 (xif h208 (xit h209 (xif h210 rfl))))))) hl hP hD hS
theorem xt01_Z_asIfVirtual (u : XZ) (p0 : Int32) (p1 : Int32) (p2 : Int32) (p3 : Int32) : X01p (xf_Z_asIfVirtual u p0 p1 p2 p3) := by unfold xf_Z_asIfVirtual; exact (xlt_01p (fun r1 hr1 => (xlt_01p (fun v11 hv11 => (xlt_01p (fun r13 hr13 => (xlt_01p (fun v17 hv17 => (xit_01p (xit_01p (xlt_01p (fun q197 hq197 => (X01_ofp hq197 (xt01_Z_illegal u p0)))) (xlt_01p (fun q109 hq109 => (xit_01p (xit_01p (xlt_01p (fun q153 hq153 => (xit_01p (xlt_01p (fun q195 hq195 => (X01_ofp hq195 (xt01_Z_notThere u p0)))) (xlt_01p (fun v157 hv157 => (xlt_01p (fun q159 hq159 => (xlt_01p (fun v162 hv162 => (xlt_01p (fun v166 hv166 => (xlt_01p (fun q168 hq168 => (xlt_01p (fun v179 hv179 => (xlt_01p (fun v180 hv180 => (X01_of hv179 (xit_01 (xlt_01 (fun q171 hq171 => (X01_ofp hq171 (xt01_Z_give q168 ((1 : Int32) <<< ((((xus p0 (25 : Int32)) - (48 : Int32)) / (2 : Int32)) &&& 31)) p2 p3)))) (xlt_01 (fun v174 hv174 => (xlt_01 (fun q176 hq176 => (X01_ofp hq176 (xt01_Z_take q168 p1 ((1 : Int32) <<< ((((xus p0 (25 : Int32)) - (48 : Int32)) / (2 : Int32)) &&& 31)) v174 p2))))))))))))))))))))))))) (xlt_01p (fun v115 hv115 => (xlt_01p (fun q117 hq117 => (xlt_01p (fun v120 hv120 => (xlt_01p (fun v124 hv124 => (xlt_01p (fun q126 hq126 => (xlt_01p (fun v137 hv137 => (xlt_01p (fun v138 hv138 => (X01_of hv137 (xit_01 (xlt_01 (fun q129 hq129 => (X01_ofp hq129 (xt01_Z_give q126 ((1 : Int32) <<< ((((xus p0 (25 : Int32)) - (48 : Int32)) / (2 : Int32)) &&& 31)) p2 p3)))) (xlt_01 (fun v132 hv132 => (xlt_01 (fun q134 hq134 => (X01_ofp hq134 (xt01_Z_take q126 p1 ((1 : Int32) <<< ((((xus p0 (25 : Int32)) - (48 : Int32)) / (2 : Int32)) &&& 31)) v132 p2))))))))))))))))))))))) (xlt_01p (fun q111 hq111 => (X01_ofp hq111 (xt01_Z_notThere u p0)))))))) (xlt_01p (fun q20 hq20 => (xit_01p (xit_01p (xlt_01p (fun q64 hq64 => (xit_01p (xlt_01p (fun q106 hq106 => (X01_ofp hq106 (xt01_Z_notThere u p0)))) (xlt_01p (fun v68 hv68 => (xlt_01p (fun q70 hq70 => (xlt_01p (fun v73 hv73 => (xlt_01p (fun v77 hv77 => (xlt_01p (fun q79 hq79 => (xlt_01p (fun v90 hv90 => (xlt_01p (fun v91 hv91 => (X01_of hv90 (xit_01 (xlt_01 (fun q82 hq82 => (X01_ofp hq82 (xt01_Z_give q79 ((1 : Int32) <<< ((((xus p0 (25 : Int32)) - (48 : Int32)) / (2 : Int32)) &&& 31)) p2 p3)))) (xlt_01 (fun v85 hv85 => (xlt_01 (fun q87 hq87 => (X01_ofp hq87 (xt01_Z_take q79 p1 ((1 : Int32) <<< ((((xus p0 (25 : Int32)) - (48 : Int32)) / (2 : Int32)) &&& 31)) v85 p2))))))))))))))))))))))))) (xlt_01p (fun v26 hv26 => (xlt_01p (fun q28 hq28 => (xlt_01p (fun v31 hv31 => (xlt_01p (fun v35 hv35 => (xlt_01p (fun q37 hq37 => (xlt_01p (fun v48 hv48 => (xlt_01p (fun v49 hv49 => (X01_of hv48 (xit_01 (xlt_01 (fun q40 hq40 => (X01_ofp hq40 (xt01_Z_give q37 ((1 : Int32) <<< ((((xus p0 (25 : Int32)) - (48 : Int32)) / (2 : Int32)) &&& 31)) p2 p3)))) (xlt_01 (fun v43 hv43 => (xlt_01 (fun q45 hq45 => (X01_ofp hq45 (xt01_Z_take q37 p1 ((1 : Int32) <<< ((((xus p0 (25 : Int32)) - (48 : Int32)) / (2 : Int32)) &&& 31)) v43 p2))))))))))))))))))))))) (xlt_01p (fun q22 hq22 => (X01_ofp hq22 (xt01_Z_notThere u p0))))))))))))))))

noncomputable def xf_Z_load (u : XZ) (p0 : Int32) (p1 : Int32) (p2 : Int32) : Int32 × XZ :=
  xlt (xf_Z_isVirtual u : Int32) fun q1 =>
  xlt (if (xg_Z_mode u) = 0 then (1) else (if (xg_Z_mode u) = 2 then (1) else (0)) : Int32) fun v4 =>
  xlt (xf_Z_asMode u (1 : Int32) q1 v4 (0 : Int32) : XZ) fun q6 =>
  xlt (if p1 ≤ 3 then (0) else (1) : Int32) fun v9 =>
  xlt (xf_Z_take q6 p0 ((1 : Int32) <<< ((p1 - p1 / (4 : Int32) * (4 : Int32)) &&& 31)) v9 p2 : Int32 × XZ) fun q11 =>
  (q11.1, q11.2)
def xv_Z_load (u : XZ) (p0 : Int32) (p1 : Int32) (p2 : Int32) : Prop := XVc (
  xlt (xf_Z_isVirtual u : Int32) fun q1 =>
  xlt (if (xg_Z_mode u) = 0 then (1) else (if (xg_Z_mode u) = 2 then (1) else (0)) : Int32) fun v4 =>
  (xv_Z_asMode u (1 : Int32) q1 v4 (0 : Int32)) ∧
  xlt (xf_Z_asMode u (1 : Int32) q1 v4 (0 : Int32) : XZ) fun q6 =>
  xlt (if p1 ≤ 3 then (0) else (1) : Int32) fun v9 =>
  (xv_Z_take q6 p0 ((1 : Int32) <<< ((p1 - p1 / (4 : Int32) * (4 : Int32)) &&& 31)) v9 p2) ∧
  xlt (xf_Z_take q6 p0 ((1 : Int32) <<< ((p1 - p1 / (4 : Int32) * (4 : Int32)) &&& 31)) v9 p2 : Int32 × XZ) fun q11 =>
  True)
set_option maxHeartbeats 4000000 in
set_option maxRecDepth 100000 in
theorem c_Z_load (l : Launch) (D : va_G) (z : (Nat → Nat) × (Nat → Nat)) (k : ClassId × ClassId) (b : Nat → Nat) (sz : Nat) (u : XZ) (p0 : Int32) (p1 : Int32) (p2 : Int32) (hv : xv_Z_load u p0 p1 p2) : Met l xy_Z_load (xk_Z_load :: lw_g) { frames := 10, cells := 0, slots := 0, locals := 270 } (va_Pc [.ref ((b 0)), .int p0, .int p1, .int p2] (xB D (xTy k) z sz (xWZ k b u))) (va_Qi (fun r (q : XZ) => (r, q) = xf_Z_load u p0 p1 p2) (fun q t => xQ D (xTy k) (xWZ k b q) (va_A (xWZ k b u) sz) t) (va_A (xWZ k b u) sz)) 0 0 (va_A (xWZ k b u) sz) := by
  refine xopen_z (wf := fun q : XZ => xWZ k b q) (lv := [(0, .ref ((b 0))), (1, .int p0), (2, .int p1), (3, .int p2)]) (by decide) rfl (Nat.le_of_ble_eq_true rfl) ?_
  intro p e s m args below meth c Q ls A H locs hx hb hml htg hown hin hK hP hD hE hS hA hl hret
  unfold xv_Z_load at hv
  refine lv_aload_n hx hb xd_Z_load_0 rfl (lv_at hl 0 rfl) ?_
  refine lv_iconst (v := 1) hx hb xd_Z_load_1 (by decide) ?_
  refine lv_aload_n hx hb xd_Z_load_2 rfl (lv_at hl 0 rfl) ?_
  refine xcW_i (va_runV (As := []) (rest := [.int 1, .ref ((b 0))]) ⟨hx, hb, hml, hown, htg⟩ (c_Z_isVirtual l D z k b H.size u) (cwV 0 htg (xg_V0 xkin_Z_isVirtual xw_917 xw_919 xsel_Z_isVirtual xw_9) rfl rfl rfl (by decide +kernel) ⟨Nat.le_of_ble_eq_true rfl, Nat.le_of_ble_eq_true rfl⟩) ⟨xB_blind, xrecv_Z hK hP, fun U hU hW => xB_mk hP hK hD hE hS (xsubW hD hA hS) hU hW⟩ rfl rfl hl.1 rfl (lv_room (Nat.le_of_ble_eq_true rfl)) xd_Z_load_3 ⟨Nat.le_of_ble_eq_true rfl, Nat.le_of_ble_eq_true rfl⟩) hD hA hS (fun r u1 H locs hw hP hD hS => ?_)
  obtain ⟨q1, hq1⟩ : ∃ q, q = xf_Z_isVirtual u := ⟨_, rfl⟩
  obtain ⟨e1, e2⟩ := hw
  rw [← hq1] at e1
  obtain rfl : q1 = r := e1.symm
  obtain rfl : u = u1 := e2.symm
  have hP : va_P D xCl (xWZ k b u) H := hP
  have hD : va_D A (xWZ k b u) := hD
  have hv := xlt_v hq1 hv
  refine lv_aload_n hx hb xd_Z_load_6 rfl (lv_at hl 0 rfl) ?_
  refine xget_Z_mode (v := (xg_Z_mode u)) hx hb htg hown hK hP (htg _ xw_731) rfl xd_Z_load_7 ?_
  have hj5 : ∀ (H : Heap) (locs : List Loc) (ls : Array Slot) (v4 : Int32), v4 = (if (xg_Z_mode u) = 0 then (1) else (if (xg_Z_mode u) = 2 then (1) else (0))) → lv_has ls 4 [(0, .ref ((b 0))), (1, .int p0), (2, .int p1), (3, .int p2)] → va_P D xCl (xWZ k b u) H → va_D A (xWZ k b u) → va_S A s.heap H locs → W p l e { frames := 10, cells := 0, slots := 0, locals := 270 } s m args below meth c H locs (0) (0) Q (F0 m 26 ls [.int v4, .int q1, .int 1, .ref ((b 0))]) := by
    intro H locs ls v4 hv4 hl hP hD hS
    have hv := xlt_v hv4 hv
    refine lv_iconst (v := 0) hx hb xd_Z_load_26 (by decide) ?_
    obtain ⟨hn7, hv⟩ := xan_v hv
    refine xcW_v (va_runV (As := [.int 1, .int q1, .int v4, .int 0]) (rest := []) ⟨hx, hb, hml, hown, htg⟩ (c_Z_asMode l D z k b H.size u (1 : Int32) q1 v4 (0 : Int32) hn7) (cwV 4 htg (xg_V0 xkin_Z_asMode xw_925 xw_927 xsel_Z_asMode xw_9) rfl rfl rfl (by decide +kernel) ⟨Nat.le_of_ble_eq_true rfl, Nat.le_of_ble_eq_true rfl⟩) ⟨xB_blind, xrecv_Z hK hP, fun U hU hW => xB_mk hP hK hD hE hS (xsubW hD hA hS) hU hW⟩ rfl rfl hl.1 rfl (lv_room (Nat.le_of_ble_eq_true rfl)) xd_Z_load_27 ⟨Nat.le_of_ble_eq_true rfl, Nat.le_of_ble_eq_true rfl⟩) hD hA hS (fun u1 H locs hw hP hD hS => ?_)
    obtain ⟨q6, hq6⟩ : ∃ q, q = xf_Z_asMode u (1 : Int32) q1 v4 (0 : Int32) := ⟨_, rfl⟩
    rw [← hq6] at hw
    obtain rfl : q6 = u1 := hw.symm
    have hP : va_P D xCl (xWZ k b q6) H := hP
    have hD : va_D A (xWZ k b q6) := hD
    have hv := xlt_v hq6 hv
    refine lv_aload_n hx hb xd_Z_load_30 rfl (lv_at hl 0 rfl) ?_
    refine lv_iload_n hx hb xd_Z_load_31 rfl (lv_at hl 1 rfl) ?_
    refine lv_iconst (v := 1) hx hb xd_Z_load_32 (by decide) ?_
    refine lv_iload_n hx hb xd_Z_load_33 rfl (lv_at hl 2 rfl) ?_
    refine lv_iconst (v := 4) hx hb xd_Z_load_34 (by decide) ?_
    refine lv_irem hx hb xd_Z_load_35 (by decide) ?_
    refine lv_ishl hx hb xd_Z_load_36 ?_
    refine lv_iload_n hx hb xd_Z_load_37 rfl (lv_at hl 2 rfl) ?_
    refine lv_iconst (v := 3) hx hb xd_Z_load_38 (by decide) ?_
    have hj10 : ∀ (H : Heap) (locs : List Loc) (ls : Array Slot) (v9 : Int32), v9 = (if p1 ≤ 3 then (0) else (1)) → lv_has ls 4 [(0, .ref ((b 0))), (1, .int p0), (2, .int p1), (3, .int p2)] → va_P D xCl (xWZ k b q6) H → va_D A (xWZ k b q6) → va_S A s.heap H locs → W p l e { frames := 10, cells := 0, slots := 0, locals := 270 } s m args below meth c H locs (0) (0) Q (F0 m 47 ls [.int v9, .int (((1 : Int32) <<< ((p1 - p1 / (4 : Int32) * (4 : Int32)) &&& 31))), .int p0, .ref ((b 0))]) := by
      intro H locs ls v9 hv9 hl hP hD hS
      have hv := xlt_v hv9 hv
      refine lv_iload_n hx hb xd_Z_load_47 rfl (lv_at hl 3 rfl) ?_
      obtain ⟨hn12, hv⟩ := xan_v hv
      refine xcW_i (va_runV (As := [.int p0, .int (((1 : Int32) <<< ((p1 - p1 / (4 : Int32) * (4 : Int32)) &&& 31))), .int v9, .int p2]) (rest := []) ⟨hx, hb, hml, hown, htg⟩ (c_Z_take l D z k b H.size q6 p0 ((1 : Int32) <<< ((p1 - p1 / (4 : Int32) * (4 : Int32)) &&& 31)) v9 p2 hn12) (cwV 4 htg (xg_V0 xkin_Z_take xw_1005 xw_1007 xsel_Z_take xw_9) rfl rfl rfl (by decide +kernel) ⟨Nat.le_of_ble_eq_true rfl, Nat.le_of_ble_eq_true rfl⟩) ⟨xB_blind, xrecv_Z hK hP, fun U hU hW => xB_mk hP hK hD hE hS (xsubW hD hA hS) hU hW⟩ rfl rfl hl.1 rfl (lv_room (Nat.le_of_ble_eq_true rfl)) xd_Z_load_48 ⟨Nat.le_of_ble_eq_true rfl, Nat.le_of_ble_eq_true rfl⟩) hD hA hS (fun r u1 H locs hw hP hD hS => ?_)
      obtain ⟨q11, hq11⟩ : ∃ q, q = xf_Z_take q6 p0 ((1 : Int32) <<< ((p1 - p1 / (4 : Int32) * (4 : Int32)) &&& 31)) v9 p2 := ⟨_, rfl⟩
      rw [← hq11] at hw
      obtain rfl : r = q11.1 := congrArg Prod.fst hw
      obtain rfl : u1 = q11.2 := congrArg Prod.snd hw
      have hP : va_P D xCl (xWZ k b q11.2) H := hP
      have hD : va_D A (xWZ k b q11.2) := hD
      have hv := xlt_v hq11 hv
      exact hret _ q11.2 H locs ls _ (xnar (X01_ofp hq11 (xt01_Z_take q6 p0 ((1 : Int32) <<< ((p1 - p1 / (4 : Int32) * (4 : Int32)) &&& 31)) v9 p2))) (by unfold xf_Z_load; exact (xlt_e hq1 (xlt_e hv4 (xlt_e hq6 (xlt_e hv9 (xlt_e hq11 rfl)))))) hP hD hS xd_Z_load_51
    refine lv_icmp_le (tgt := 46) hx hb xd_Z_load_39 rfl (fun h13 => ?_) (fun h13 => ?_)
    · refine lv_iconst (v := 0) hx hb xd_Z_load_46 (by decide) ?_
      exact hj10 H locs ls (0 : Int32) (xit h13 rfl) hl hP hD hS
    · refine lv_iconst (v := 1) hx hb xd_Z_load_42 (by decide) ?_
      refine lv_goto (tgt := 47) hx hb xd_Z_load_43 rfl ?_
      exact hj10 H locs ls (1 : Int32) (xif h13 rfl) hl hP hD hS
  refine lv_if_eq (tgt := 21) hx hb xd_Z_load_10 rfl (fun h14 => ?_) (fun h14 => ?_)
  · refine lv_iconst (v := 1) hx hb xd_Z_load_21 (by decide) ?_
    refine lv_goto (tgt := 26) hx hb xd_Z_load_22 rfl ?_
    exact hj5 H locs ls (1 : Int32) (xit h14 rfl) hl hP hD hS
  · refine lv_aload_n hx hb xd_Z_load_13 rfl (lv_at hl 0 rfl) ?_
    refine xget_Z_mode (v := (xg_Z_mode u)) hx hb htg hown hK hP (htg _ xw_731) rfl xd_Z_load_14 ?_
    refine lv_iconst (v := 2) hx hb xd_Z_load_17 (by decide) ?_
    refine lv_icmp_ne (tgt := 25) hx hb xd_Z_load_18 rfl (fun h15 => ?_) (fun h15 => ?_)
    · refine lv_iconst (v := 0) hx hb xd_Z_load_25 (by decide) ?_
      exact hj5 H locs ls (0 : Int32) (xif h14 (xif h15 rfl)) hl hP hD hS
    · refine lv_iconst (v := 1) hx hb xd_Z_load_21 (by decide) ?_
      refine lv_goto (tgt := 26) hx hb xd_Z_load_22 rfl ?_
      exact hj5 H locs ls (1 : Int32) (xif h14 (xit h15 rfl)) hl hP hD hS
theorem xt01_Z_load (u : XZ) (p0 : Int32) (p1 : Int32) (p2 : Int32) : X01p (xf_Z_load u p0 p1 p2) := by unfold xf_Z_load; exact (xlt_01p (fun q1 hq1 => (xlt_01p (fun v4 hv4 => (xlt_01p (fun q6 hq6 => (xlt_01p (fun v9 hv9 => (xlt_01p (fun q11 hq11 => (X01_ofp hq11 (xt01_Z_take q6 p0 ((1 : Int32) <<< ((p1 - p1 / (4 : Int32) * (4 : Int32)) &&& 31)) v9 p2))))))))))))

noncomputable def xf_Z_store (u : XZ) (p0 : Int32) (p1 : Int32) (p2 : Int32) : Int32 × XZ :=
  xlt (xf_Z_isVirtual u : Int32) fun q1 =>
  xlt (if (xg_Z_mode u) = 0 then (1) else (if (xg_Z_mode u) = 2 then (1) else (0)) : Int32) fun v4 =>
  xlt (xf_Z_asMode u (2 : Int32) q1 v4 (0 : Int32) : XZ) fun q6 =>
  xlt (xf_Z_give q6 p0 p1 p2 : Int32 × XZ) fun q8 =>
  (q8.1, q8.2)
def xv_Z_store (u : XZ) (p0 : Int32) (p1 : Int32) (p2 : Int32) : Prop := XVc (
  xlt (xf_Z_isVirtual u : Int32) fun q1 =>
  xlt (if (xg_Z_mode u) = 0 then (1) else (if (xg_Z_mode u) = 2 then (1) else (0)) : Int32) fun v4 =>
  (xv_Z_asMode u (2 : Int32) q1 v4 (0 : Int32)) ∧
  xlt (xf_Z_asMode u (2 : Int32) q1 v4 (0 : Int32) : XZ) fun q6 =>
  (xv_Z_give q6 p0 p1 p2) ∧
  xlt (xf_Z_give q6 p0 p1 p2 : Int32 × XZ) fun q8 =>
  True)
set_option maxHeartbeats 4000000 in
set_option maxRecDepth 100000 in
theorem c_Z_store (l : Launch) (D : va_G) (z : (Nat → Nat) × (Nat → Nat)) (k : ClassId × ClassId) (b : Nat → Nat) (sz : Nat) (u : XZ) (p0 : Int32) (p1 : Int32) (p2 : Int32) (hv : xv_Z_store u p0 p1 p2) : Met l xy_Z_store (xk_Z_store :: lw_g) { frames := 10, cells := 0, slots := 0, locals := 268 } (va_Pc [.ref ((b 0)), .int p0, .int p1, .int p2] (xB D (xTy k) z sz (xWZ k b u))) (va_Qi (fun r (q : XZ) => (r, q) = xf_Z_store u p0 p1 p2) (fun q t => xQ D (xTy k) (xWZ k b q) (va_A (xWZ k b u) sz) t) (va_A (xWZ k b u) sz)) 0 0 (va_A (xWZ k b u) sz) := by
  refine xopen_z (wf := fun q : XZ => xWZ k b q) (lv := [(0, .ref ((b 0))), (1, .int p0), (2, .int p1), (3, .int p2)]) (by decide) rfl (Nat.le_of_ble_eq_true rfl) ?_
  intro p e s m args below meth c Q ls A H locs hx hb hml htg hown hin hK hP hD hE hS hA hl hret
  unfold xv_Z_store at hv
  refine lv_aload_n hx hb xd_Z_store_0 rfl (lv_at hl 0 rfl) ?_
  refine lv_iconst (v := 2) hx hb xd_Z_store_1 (by decide) ?_
  refine lv_aload_n hx hb xd_Z_store_2 rfl (lv_at hl 0 rfl) ?_
  refine xcW_i (va_runV (As := []) (rest := [.int 2, .ref ((b 0))]) ⟨hx, hb, hml, hown, htg⟩ (c_Z_isVirtual l D z k b H.size u) (cwV 0 htg (xg_V0 xkin_Z_isVirtual xw_917 xw_919 xsel_Z_isVirtual xw_9) rfl rfl rfl (by decide +kernel) ⟨Nat.le_of_ble_eq_true rfl, Nat.le_of_ble_eq_true rfl⟩) ⟨xB_blind, xrecv_Z hK hP, fun U hU hW => xB_mk hP hK hD hE hS (xsubW hD hA hS) hU hW⟩ rfl rfl hl.1 rfl (lv_room (Nat.le_of_ble_eq_true rfl)) xd_Z_store_3 ⟨Nat.le_of_ble_eq_true rfl, Nat.le_of_ble_eq_true rfl⟩) hD hA hS (fun r u1 H locs hw hP hD hS => ?_)
  obtain ⟨q1, hq1⟩ : ∃ q, q = xf_Z_isVirtual u := ⟨_, rfl⟩
  obtain ⟨e1, e2⟩ := hw
  rw [← hq1] at e1
  obtain rfl : q1 = r := e1.symm
  obtain rfl : u = u1 := e2.symm
  have hP : va_P D xCl (xWZ k b u) H := hP
  have hD : va_D A (xWZ k b u) := hD
  have hv := xlt_v hq1 hv
  refine lv_aload_n hx hb xd_Z_store_6 rfl (lv_at hl 0 rfl) ?_
  refine xget_Z_mode (v := (xg_Z_mode u)) hx hb htg hown hK hP (htg _ xw_731) rfl xd_Z_store_7 ?_
  have hj5 : ∀ (H : Heap) (locs : List Loc) (ls : Array Slot) (v4 : Int32), v4 = (if (xg_Z_mode u) = 0 then (1) else (if (xg_Z_mode u) = 2 then (1) else (0))) → lv_has ls 4 [(0, .ref ((b 0))), (1, .int p0), (2, .int p1), (3, .int p2)] → va_P D xCl (xWZ k b u) H → va_D A (xWZ k b u) → va_S A s.heap H locs → W p l e { frames := 10, cells := 0, slots := 0, locals := 268 } s m args below meth c H locs (0) (0) Q (F0 m 26 ls [.int v4, .int q1, .int 2, .ref ((b 0))]) := by
    intro H locs ls v4 hv4 hl hP hD hS
    have hv := xlt_v hv4 hv
    refine lv_iconst (v := 0) hx hb xd_Z_store_26 (by decide) ?_
    obtain ⟨hn7, hv⟩ := xan_v hv
    refine xcW_v (va_runV (As := [.int 2, .int q1, .int v4, .int 0]) (rest := []) ⟨hx, hb, hml, hown, htg⟩ (c_Z_asMode l D z k b H.size u (2 : Int32) q1 v4 (0 : Int32) hn7) (cwV 4 htg (xg_V0 xkin_Z_asMode xw_925 xw_927 xsel_Z_asMode xw_9) rfl rfl rfl (by decide +kernel) ⟨Nat.le_of_ble_eq_true rfl, Nat.le_of_ble_eq_true rfl⟩) ⟨xB_blind, xrecv_Z hK hP, fun U hU hW => xB_mk hP hK hD hE hS (xsubW hD hA hS) hU hW⟩ rfl rfl hl.1 rfl (lv_room (Nat.le_of_ble_eq_true rfl)) xd_Z_store_27 ⟨Nat.le_of_ble_eq_true rfl, Nat.le_of_ble_eq_true rfl⟩) hD hA hS (fun u1 H locs hw hP hD hS => ?_)
    obtain ⟨q6, hq6⟩ : ∃ q, q = xf_Z_asMode u (2 : Int32) q1 v4 (0 : Int32) := ⟨_, rfl⟩
    rw [← hq6] at hw
    obtain rfl : q6 = u1 := hw.symm
    have hP : va_P D xCl (xWZ k b q6) H := hP
    have hD : va_D A (xWZ k b q6) := hD
    have hv := xlt_v hq6 hv
    refine lv_aload_n hx hb xd_Z_store_30 rfl (lv_at hl 0 rfl) ?_
    refine lv_iload_n hx hb xd_Z_store_31 rfl (lv_at hl 1 rfl) ?_
    refine lv_iload_n hx hb xd_Z_store_32 rfl (lv_at hl 2 rfl) ?_
    refine lv_iload_n hx hb xd_Z_store_33 rfl (lv_at hl 3 rfl) ?_
    obtain ⟨hn9, hv⟩ := xan_v hv
    refine xcW_i (va_runV (As := [.int p0, .int p1, .int p2]) (rest := []) ⟨hx, hb, hml, hown, htg⟩ (c_Z_give l D z k b H.size q6 p0 p1 p2 hn9) (cwV 3 htg (xg_V0 xkin_Z_give xw_1018 xw_1020 xsel_Z_give xw_9) rfl rfl rfl (by decide +kernel) ⟨Nat.le_of_ble_eq_true rfl, Nat.le_of_ble_eq_true rfl⟩) ⟨xB_blind, xrecv_Z hK hP, fun U hU hW => xB_mk hP hK hD hE hS (xsubW hD hA hS) hU hW⟩ rfl rfl hl.1 rfl (lv_room (Nat.le_of_ble_eq_true rfl)) xd_Z_store_34 ⟨Nat.le_of_ble_eq_true rfl, Nat.le_of_ble_eq_true rfl⟩) hD hA hS (fun r u1 H locs hw hP hD hS => ?_)
    obtain ⟨q8, hq8⟩ : ∃ q, q = xf_Z_give q6 p0 p1 p2 := ⟨_, rfl⟩
    rw [← hq8] at hw
    obtain rfl : r = q8.1 := congrArg Prod.fst hw
    obtain rfl : u1 = q8.2 := congrArg Prod.snd hw
    have hP : va_P D xCl (xWZ k b q8.2) H := hP
    have hD : va_D A (xWZ k b q8.2) := hD
    have hv := xlt_v hq8 hv
    exact hret _ q8.2 H locs ls _ (xnar (X01_ofp hq8 (xt01_Z_give q6 p0 p1 p2))) (by unfold xf_Z_store; exact (xlt_e hq1 (xlt_e hv4 (xlt_e hq6 (xlt_e hq8 rfl))))) hP hD hS xd_Z_store_37
  refine lv_if_eq (tgt := 21) hx hb xd_Z_store_10 rfl (fun h10 => ?_) (fun h10 => ?_)
  · refine lv_iconst (v := 1) hx hb xd_Z_store_21 (by decide) ?_
    refine lv_goto (tgt := 26) hx hb xd_Z_store_22 rfl ?_
    exact hj5 H locs ls (1 : Int32) (xit h10 rfl) hl hP hD hS
  · refine lv_aload_n hx hb xd_Z_store_13 rfl (lv_at hl 0 rfl) ?_
    refine xget_Z_mode (v := (xg_Z_mode u)) hx hb htg hown hK hP (htg _ xw_731) rfl xd_Z_store_14 ?_
    refine lv_iconst (v := 2) hx hb xd_Z_store_17 (by decide) ?_
    refine lv_icmp_ne (tgt := 25) hx hb xd_Z_store_18 rfl (fun h11 => ?_) (fun h11 => ?_)
    · refine lv_iconst (v := 0) hx hb xd_Z_store_25 (by decide) ?_
      exact hj5 H locs ls (0 : Int32) (xif h10 (xif h11 rfl)) hl hP hD hS
    · refine lv_iconst (v := 1) hx hb xd_Z_store_21 (by decide) ?_
      refine lv_goto (tgt := 26) hx hb xd_Z_store_22 rfl ?_
      exact hj5 H locs ls (1 : Int32) (xif h10 (xit h11 rfl)) hl hP hD hS
theorem xt01_Z_store (u : XZ) (p0 : Int32) (p1 : Int32) (p2 : Int32) : X01p (xf_Z_store u p0 p1 p2) := by unfold xf_Z_store; exact (xlt_01p (fun q1 hq1 => (xlt_01p (fun v4 hv4 => (xlt_01p (fun q6 hq6 => (xlt_01p (fun q8 hq8 => (X01_ofp hq8 (xt01_Z_give q6 p0 p1 p2))))))))))
