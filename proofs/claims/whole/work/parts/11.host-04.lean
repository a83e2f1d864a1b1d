noncomputable def xf_T_firstStage (u : XH) (p0 : Int64) (p1 : Int32) (p2 : Int32) (p3 : Int32) : Int64 × XH :=
  if (xg_V_atp u) < 0 then
    xlt (xf_T_firstPlace (xg_V_atp u) p0 : Int64) fun r2 =>
    xlt (xf_T_walk u (xg_K_hgatp u) r2 (2 : Int32) (81 : Int32) (0 : Int32) : Int64 × XH) fun q3 =>
    if 0 ≤ (lg_cmp q3.1 (0 : Int64)) then
      xlt (xf_M_readWord 64 (xg_M q3.2).1 (Int64.toInt32 q3.1) : Int32 × XM1) fun q6 =>
      xlt (xf_T_isLeaf q6.1 : Int32) fun r7 =>
      if r7 = 0 then
        xlt (xf_T_isPointer q6.1 : Int32) fun r9 =>
        if r9 = 0 then
          ((-1), (xs_M1 q3.2 q6.2))
        else
          xlt (xf_T_nextPlace q6.1 p0 : Int64) fun r11 =>
          xlt (xf_T_walk (xs_M1 q3.2 q6.2) (xg_K_hgatp (xs_M1 q3.2 q6.2)) r11 (2 : Int32) (81 : Int32) (0 : Int32) : Int64 × XH) fun q12 =>
          if 0 ≤ (lg_cmp q12.1 (0 : Int64)) then
            xlt (xf_M_readWord 64 (xg_M q12.2).1 (Int64.toInt32 q12.1) : Int32 × XM1) fun q15 =>
            xlt (xf_T_isLeaf q15.1 : Int32) fun r16 =>
            if r16 = 0 then
              xlt (xf_T_isPointer q15.1 : Int32) fun r18 =>
              if r18 = 0 then
                ((-1), (xs_M1 q12.2 q15.2))
              else
                xlt (xf_T_nextPlace q15.1 p0 : Int64) fun r20 =>
                ((-1), (xs_M1 q12.2 q15.2))
            else
              xlt (xf_T_allows q15.1 (1 : Int32) p1 p2 p3 : Int32) fun r21 =>
              xlt (if r21 = 0 then ((-1)) else (xlt (xf_T_result q15.1 (1 : Int32) p0 : Int64) fun r23 => r23) : Int64) fun v22 =>
              (v22, (xs_M1 q12.2 q15.2))
          else
            xlt (xf_T_guestVerdict q12.2 q12.1 r11 (8192 : Int32) : Int64 × XH) fun q26 =>
            (q26.1, q26.2)
      else
        xlt (xf_T_allows q6.1 (0 : Int32) p1 p2 p3 : Int32) fun r27 =>
        xlt (if r27 = 0 then ((-1)) else (xlt (xf_T_result q6.1 (0 : Int32) p0 : Int64) fun r29 => r29) : Int64) fun v28 =>
        (v28, (xs_M1 q3.2 q6.2))
    else
      xlt (xf_T_guestVerdict q3.2 q3.1 r2 (8192 : Int32) : Int64 × XH) fun q32 =>
      (q32.1, q32.2)
  else
    (p0, u)
set_option maxHeartbeats 4000000 in
set_option maxRecDepth 100000 in
theorem c_T_firstStage (l : Launch) (D : va_G) (z : (Nat → Nat) × (Nat → Nat)) (k : ClassId × ClassId) (a : Nat → Nat) (g : XG) (sz : Nat) (u : XH) (hg : xok k g u) (p0 : Int64) (p1 : Int32) (p2 : Int32) (p3 : Int32) : Met l xy_T_firstStage (xk_T_firstStage :: lw_g) { frames := 2, cells := 0, slots := 0, locals := 55 } (va_Pc [.ref ((a 3)), .long p0, .int p1, .int p2, .int p3] (xB D (xTy k) z sz (xWH k a g u))) (va_Ql (fun r (q : XH × XG) => (r, q.1) = xf_T_firstStage u p0 p1 p2 p3 ∧ xok k q.2 q.1) (fun q t => xQ D (xTy k) (xWH k a q.2 q.1) (va_A (xWH k a g u) sz) t) (va_A (xWH k a g u) sz)) 0 0 (va_A (xWH k a g u) sz) := by
  refine xopen_l (wf := fun q : XH × XG => xWH k a q.2 q.1) (lv := [(0, .ref ((a 3))), (1, .long p0), (3, .int p1), (4, .int p2), (5, .int p3)]) (by decide) rfl (Nat.le_of_ble_eq_true rfl) ?_
  intro p e s m args below meth c Q ls A H locs hx hb hml htg hown hin hK hP hD hE hS hA hl hret
  refine lv_aload_n hx hb xd_T_firstStage_0 rfl (lv_at hl 0 rfl) ?_
  refine xget_T_controls hx hb htg hown hK hP (htg _ xw_188) xd_T_firstStage_1 ?_
  refine xget_K_vs hx hb htg hown hK hP (htg _ xw_104) xd_T_firstStage_4 ?_
  refine xget_V_atp (v := (xg_V_atp u)) hx hb htg hown hK hP (htg _ xw_80) rfl xd_T_firstStage_7 ?_
  refine lv_istore (lv' := [(6, .int ((xg_V_atp u))), (0, .ref ((a 3))), (1, .long p0), (3, .int p1), (4, .int p2), (5, .int p3)]) hx hb xd_T_firstStage_10 hl (by decide) rfl (fun ls hl => ?_)
  refine lv_iload hx hb xd_T_firstStage_12 (lv_at hl 0 rfl) ?_
  refine lv_if_lt (tgt := 19) hx hb xd_T_firstStage_14 rfl (fun h1 => ?_) (fun h1 => ?_)
  · refine lv_iload hx hb xd_T_firstStage_19 (lv_at hl 0 rfl) ?_
    refine lv_lload_n hx hb xd_T_firstStage_21 rfl (lv_at hl 2 rfl) ?_
    refine xc0_l (va_runS (As := [.int ((xg_V_atp u)), .long p0]) (rest := []) ⟨hx, hb, hml, hown, htg⟩ (c_T_firstPlace l D (xTy k) z H.size (xg_V_atp u) p0) (va_cwS 2 htg (xg_S0 xkin_T_firstPlace xw_446 xw_447 xw_4) rfl rfl rfl (by decide +kernel) ⟨Nat.le_of_ble_eq_true rfl, Nat.le_of_ble_eq_true rfl⟩) ⟨xB_blind, fun U hU hW => xB_mk va_P0 hK va_D0 hE hS (xsub0 hA hS) hU hW⟩ rfl rfl hl.1 rfl (lv_room (Nat.le_of_ble_eq_true rfl)) xd_T_firstStage_22 ⟨Nat.le_of_ble_eq_true rfl, Nat.le_of_ble_eq_true rfl⟩) hP hA hS (fun r2 H locs hr2 hP hS => ?_)
    refine lv_lstore (lv' := [(7, .long r2), (6, .int ((xg_V_atp u))), (0, .ref ((a 3))), (1, .long p0), (3, .int p1), (4, .int p2), (5, .int p3)]) hx hb xd_T_firstStage_25 hl (by decide) rfl (fun ls hl => ?_)
    refine lv_iconst (v := 0) hx hb xd_T_firstStage_27 (by decide) ?_
    refine lv_istore (lv' := [(9, .int 0), (7, .long r2), (6, .int ((xg_V_atp u))), (0, .ref ((a 3))), (1, .long p0), (3, .int p1), (4, .int p2), (5, .int p3)]) hx hb xd_T_firstStage_28 hl (by decide) rfl (fun ls hl => ?_)
    refine lv_iload hx hb xd_T_firstStage_30 (lv_at hl 0 rfl) ?_
    refine lv_iconst (v := 2) hx hb xd_T_firstStage_32 (by decide) ?_
    refine lv_icmp_ge (tgt := 150) hx hb xd_T_firstStage_33 rfl (fun h => absurd h (by decide)) (fun _ => ?_)
    refine lv_aload_n hx hb xd_T_firstStage_36 rfl (lv_at hl 3 rfl) ?_
    refine lv_aload_n hx hb xd_T_firstStage_37 rfl (lv_at hl 3 rfl) ?_
    refine xget_T_controls hx hb htg hown hK hP (htg _ xw_188) xd_T_firstStage_38 ?_
    refine xget_K_hgatp (v := (xg_K_hgatp u)) hx hb htg hown hK hP (htg _ xw_116) rfl xd_T_firstStage_41 ?_
    refine lv_lload hx hb xd_T_firstStage_44 (lv_at hl 1 rfl) ?_
    refine lv_iconst (v := 2) hx hb xd_T_firstStage_46 (by decide) ?_
    refine lv_bipush (v := 81) hx hb xd_T_firstStage_47 (by decide) ?_
    refine lv_iconst (v := 0) hx hb xd_T_firstStage_49 (by decide) ?_
    refine xcW_l (va_runV (As := [.int ((xg_K_hgatp u)), .long r2, .int 2, .int 81, .int 0]) (rest := []) ⟨hx, hb, hml, hown, htg⟩ (c_T_walk l D z k a g H.size u hg (xg_K_hgatp u) r2 (2 : Int32) (81 : Int32) (0 : Int32)) (cwV 5 htg (xg_V0 xkin_T_walk xw_451 xw_453 xsel_T_walk xw_4) rfl rfl rfl (by decide +kernel) ⟨Nat.le_of_ble_eq_true rfl, Nat.le_of_ble_eq_true rfl⟩) ⟨xB_blind, xrecv_T hK hP, fun U hU hW => xB_mk hP hK hD hE hS (xsubW hD hA hS) hU hW⟩ rfl rfl hl.1 rfl (lv_room (Nat.le_of_ble_eq_true rfl)) xd_T_firstStage_50 ⟨Nat.le_of_ble_eq_true rfl, Nat.le_of_ble_eq_true rfl⟩) hD hA hS (fun r w1 H locs hw hP hD hS => ?_)
    obtain ⟨u1, g⟩ := w1
    obtain ⟨q3, hq3⟩ : ∃ q, q = xf_T_walk u (xg_K_hgatp u) r2 (2 : Int32) (81 : Int32) (0 : Int32) := ⟨_, rfl⟩
    obtain ⟨e1, hg⟩ := hw
    rw [← hq3] at e1
    obtain rfl : r = q3.1 := congrArg Prod.fst e1
    obtain rfl : u1 = q3.2 := congrArg Prod.snd e1
    have hP : va_P D xCl (xWH k a g q3.2) H := hP
    have hD : va_D A (xWH k a g q3.2) := hD
    have hg : xok k g q3.2 := hg
    refine lv_lstore (lv' := [(10, .long (q3.1)), (9, .int 0), (7, .long r2), (6, .int ((xg_V_atp u))), (0, .ref ((a 3))), (1, .long p0), (3, .int p1), (4, .int p2), (5, .int p3)]) hx hb xd_T_firstStage_53 hl (by decide) rfl (fun ls hl => ?_)
    refine lv_lload hx hb xd_T_firstStage_55 (lv_at hl 0 rfl) ?_
    refine lv_lconst (v := 0) hx hb xd_T_firstStage_57 (by decide) ?_
    refine W.lcmp hx hb xd_T_firstStage_58 ?_
    refine lv_if_ge (tgt := 74) hx hb xd_T_firstStage_59 rfl (fun h4 => ?_) (fun h4 => ?_)
    · refine lv_aload_n hx hb xd_T_firstStage_74 rfl (lv_at hl 4 rfl) ?_
      refine xget_T_memory hx hb htg hown hK hP (htg _ xw_186) xd_T_firstStage_75 ?_
      refine lv_lload hx hb xd_T_firstStage_78 (lv_at hl 0 rfl) ?_
      refine lv_l2i (v := (Int64.toInt32 q3.1)) hx hb xd_T_firstStage_80 rfl ?_
      obtain ⟨q6, hq6⟩ : ∃ q, q = xf_M_readWord 64 (xg_M q3.2).1 (Int64.toInt32 q3.1) := ⟨_, rfl⟩
      refine xcM_i hq6 (va_runV (As := [.int ((Int64.toInt32 q3.1))]) (rest := []) ⟨hx, hb, hml, hown, htg⟩ (c_M_readWord l D z k H.size (a 8) (a 10) 64 (by decide) g.1 (xg_M q3.2).1 hg.1 (Int64.toInt32 q3.1)) (cwV 1 htg (xg_V0 xkin_M_readWord xw_460 xw_310 xsel_M_readWord xw_3) rfl rfl rfl (by decide +kernel) ⟨Nat.le_of_ble_eq_true rfl, Nat.le_of_ble_eq_true rfl⟩) ⟨xB_blind, xrecv_M hK hP, fun U hU hW => xpre_M hP hK hD hE hS hA hU hW⟩ rfl rfl hl.1 rfl (lv_room (Nat.le_of_ble_eq_true rfl)) xd_T_firstStage_81 ⟨Nat.le_of_ble_eq_true rfl, Nat.le_of_ble_eq_true rfl⟩) hP hD hA hS hg (fun g H locs hP hD hS hg => ?_)
      refine lv_istore (lv' := [(12, .int (q6.1)), (10, .long (q3.1)), (9, .int 0), (7, .long r2), (6, .int ((xg_V_atp u))), (0, .ref ((a 3))), (1, .long p0), (3, .int p1), (4, .int p2), (5, .int p3)]) hx hb xd_T_firstStage_84 hl (by decide) rfl (fun ls hl => ?_)
      refine lv_iload hx hb xd_T_firstStage_86 (lv_at hl 0 rfl) ?_
      refine xc0_i (va_runS (As := [.int (q6.1)]) (rest := []) ⟨hx, hb, hml, hown, htg⟩ (c_T_isLeaf l D (xTy k) z H.size q6.1) (va_cwS 1 htg (xg_S0 xkin_T_isLeaf xw_461 xw_462 xw_4) rfl rfl rfl (by decide +kernel) ⟨Nat.le_of_ble_eq_true rfl, Nat.le_of_ble_eq_true rfl⟩) ⟨xB_blind, fun U hU hW => xB_mk va_P0 hK va_D0 hE hS (xsub0 hA hS) hU hW⟩ rfl rfl hl.1 rfl (lv_room (Nat.le_of_ble_eq_true rfl)) xd_T_firstStage_88 ⟨Nat.le_of_ble_eq_true rfl, Nat.le_of_ble_eq_true rfl⟩) hP hA hS (fun r7 H locs hr7 hP hS => ?_)
      refine lv_if_eq (tgt := 124) hx hb xd_T_firstStage_91 rfl (fun h8 => ?_) (fun h8 => ?_)
      · refine lv_iload hx hb xd_T_firstStage_124 (lv_at hl 0 rfl) ?_
        refine xc0_i (va_runS (As := [.int (q6.1)]) (rest := []) ⟨hx, hb, hml, hown, htg⟩ (c_T_isPointer l D (xTy k) z H.size q6.1) (va_cwS 1 htg (xg_S0 xkin_T_isPointer xw_472 xw_473 xw_4) rfl rfl rfl (by decide +kernel) ⟨Nat.le_of_ble_eq_true rfl, Nat.le_of_ble_eq_true rfl⟩) ⟨xB_blind, fun U hU hW => xB_mk va_P0 hK va_D0 hE hS (xsub0 hA hS) hU hW⟩ rfl rfl hl.1 rfl (lv_room (Nat.le_of_ble_eq_true rfl)) xd_T_firstStage_126 ⟨Nat.le_of_ble_eq_true rfl, Nat.le_of_ble_eq_true rfl⟩) hP hA hS (fun r9 H locs hr9 hP hS => ?_)
        refine lv_if_ne (tgt := 136) hx hb xd_T_firstStage_129 rfl (fun h10 => ?_) (fun h10 => ?_)
        · refine lv_iload hx hb xd_T_firstStage_136 (lv_at hl 0 rfl) ?_
          refine lv_lload_n hx hb xd_T_firstStage_138 rfl (lv_at hl 6 rfl) ?_
          refine xc0_l (va_runS (As := [.int (q6.1), .long p0]) (rest := []) ⟨hx, hb, hml, hown, htg⟩ (c_T_nextPlace l D (xTy k) z H.size q6.1 p0) (va_cwS 2 htg (xg_S0 xkin_T_nextPlace xw_475 xw_476 xw_4) rfl rfl rfl (by decide +kernel) ⟨Nat.le_of_ble_eq_true rfl, Nat.le_of_ble_eq_true rfl⟩) ⟨xB_blind, fun U hU hW => xB_mk va_P0 hK va_D0 hE hS (xsub0 hA hS) hU hW⟩ rfl rfl hl.1 rfl (lv_room (Nat.le_of_ble_eq_true rfl)) xd_T_firstStage_139 ⟨Nat.le_of_ble_eq_true rfl, Nat.le_of_ble_eq_true rfl⟩) hP hA hS (fun r11 H locs hr11 hP hS => ?_)
          refine lv_lstore (lv' := [(7, .long r11), (12, .int (q6.1)), (10, .long (q3.1)), (9, .int 0), (6, .int ((xg_V_atp u))), (0, .ref ((a 3))), (1, .long p0), (3, .int p1), (4, .int p2), (5, .int p3)]) hx hb xd_T_firstStage_142 hl (by decide) rfl (fun ls hl => ?_)
          refine lv_iinc (k := 3) (v := 1) (lv' := [(9, .int 1), (7, .long r11), (12, .int (q6.1)), (10, .long (q3.1)), (6, .int ((xg_V_atp u))), (0, .ref ((a 3))), (1, .long p0), (3, .int p1), (4, .int p2), (5, .int p3)]) hx hb xd_T_firstStage_144 hl rfl (by first | rfl | decide) (by decide) rfl (fun ls hl => ?_)
          refine lv_goto (tgt := 30) hx hb xd_T_firstStage_147 rfl ?_
          refine lv_iload hx hb xd_T_firstStage_30 (lv_at hl 0 rfl) ?_
          refine lv_iconst (v := 2) hx hb xd_T_firstStage_32 (by decide) ?_
          refine lv_icmp_ge (tgt := 150) hx hb xd_T_firstStage_33 rfl (fun h => absurd h (by decide)) (fun _ => ?_)
          refine lv_aload_n hx hb xd_T_firstStage_36 rfl (lv_at hl 5 rfl) ?_
          refine lv_aload_n hx hb xd_T_firstStage_37 rfl (lv_at hl 5 rfl) ?_
          refine xget_T_controls hx hb htg hown hK hP (htg _ xw_188) xd_T_firstStage_38 ?_
          refine xget_K_hgatp (v := (xg_K_hgatp (xs_M1 q3.2 q6.2))) hx hb htg hown hK hP (htg _ xw_116) rfl xd_T_firstStage_41 ?_
          refine lv_lload hx hb xd_T_firstStage_44 (lv_at hl 1 rfl) ?_
          refine lv_iconst (v := 2) hx hb xd_T_firstStage_46 (by decide) ?_
          refine lv_bipush (v := 81) hx hb xd_T_firstStage_47 (by decide) ?_
          refine lv_iconst (v := 0) hx hb xd_T_firstStage_49 (by decide) ?_
          refine xcW_l (va_runV (As := [.int ((xg_K_hgatp (xs_M1 q3.2 q6.2))), .long r11, .int 2, .int 81, .int 0]) (rest := []) ⟨hx, hb, hml, hown, htg⟩ (c_T_walk l D z k a g H.size (xs_M1 q3.2 q6.2) hg (xg_K_hgatp (xs_M1 q3.2 q6.2)) r11 (2 : Int32) (81 : Int32) (0 : Int32)) (cwV 5 htg (xg_V0 xkin_T_walk xw_451 xw_453 xsel_T_walk xw_4) rfl rfl rfl (by decide +kernel) ⟨Nat.le_of_ble_eq_true rfl, Nat.le_of_ble_eq_true rfl⟩) ⟨xB_blind, xrecv_T hK hP, fun U hU hW => xB_mk hP hK hD hE hS (xsubW hD hA hS) hU hW⟩ rfl rfl hl.1 rfl (lv_room (Nat.le_of_ble_eq_true rfl)) xd_T_firstStage_50 ⟨Nat.le_of_ble_eq_true rfl, Nat.le_of_ble_eq_true rfl⟩) hD hA hS (fun r w1 H locs hw hP hD hS => ?_)
          obtain ⟨u1, g⟩ := w1
          obtain ⟨q12, hq12⟩ : ∃ q, q = xf_T_walk (xs_M1 q3.2 q6.2) (xg_K_hgatp (xs_M1 q3.2 q6.2)) r11 (2 : Int32) (81 : Int32) (0 : Int32) := ⟨_, rfl⟩
          obtain ⟨e1, hg⟩ := hw
          rw [← hq12] at e1
          obtain rfl : r = q12.1 := congrArg Prod.fst e1
          obtain rfl : u1 = q12.2 := congrArg Prod.snd e1
          have hP : va_P D xCl (xWH k a g q12.2) H := hP
          have hD : va_D A (xWH k a g q12.2) := hD
          have hg : xok k g q12.2 := hg
          refine lv_lstore (lv' := [(10, .long (q12.1)), (9, .int 1), (7, .long r11), (12, .int (q6.1)), (6, .int ((xg_V_atp u))), (0, .ref ((a 3))), (1, .long p0), (3, .int p1), (4, .int p2), (5, .int p3)]) hx hb xd_T_firstStage_53 hl (by decide) rfl (fun ls hl => ?_)
          refine lv_lload hx hb xd_T_firstStage_55 (lv_at hl 0 rfl) ?_
          refine lv_lconst (v := 0) hx hb xd_T_firstStage_57 (by decide) ?_
          refine W.lcmp hx hb xd_T_firstStage_58 ?_
          refine lv_if_ge (tgt := 74) hx hb xd_T_firstStage_59 rfl (fun h13 => ?_) (fun h13 => ?_)
          · refine lv_aload_n hx hb xd_T_firstStage_74 rfl (lv_at hl 5 rfl) ?_
            refine xget_T_memory hx hb htg hown hK hP (htg _ xw_186) xd_T_firstStage_75 ?_
            refine lv_lload hx hb xd_T_firstStage_78 (lv_at hl 0 rfl) ?_
            refine lv_l2i (v := (Int64.toInt32 q12.1)) hx hb xd_T_firstStage_80 rfl ?_
            obtain ⟨q15, hq15⟩ : ∃ q, q = xf_M_readWord 64 (xg_M q12.2).1 (Int64.toInt32 q12.1) := ⟨_, rfl⟩
            refine xcM_i hq15 (va_runV (As := [.int ((Int64.toInt32 q12.1))]) (rest := []) ⟨hx, hb, hml, hown, htg⟩ (c_M_readWord l D z k H.size (a 8) (a 10) 64 (by decide) g.1 (xg_M q12.2).1 hg.1 (Int64.toInt32 q12.1)) (cwV 1 htg (xg_V0 xkin_M_readWord xw_460 xw_310 xsel_M_readWord xw_3) rfl rfl rfl (by decide +kernel) ⟨Nat.le_of_ble_eq_true rfl, Nat.le_of_ble_eq_true rfl⟩) ⟨xB_blind, xrecv_M hK hP, fun U hU hW => xpre_M hP hK hD hE hS hA hU hW⟩ rfl rfl hl.1 rfl (lv_room (Nat.le_of_ble_eq_true rfl)) xd_T_firstStage_81 ⟨Nat.le_of_ble_eq_true rfl, Nat.le_of_ble_eq_true rfl⟩) hP hD hA hS hg (fun g H locs hP hD hS hg => ?_)
            refine lv_istore (lv' := [(12, .int (q15.1)), (10, .long (q12.1)), (9, .int 1), (7, .long r11), (6, .int ((xg_V_atp u))), (0, .ref ((a 3))), (1, .long p0), (3, .int p1), (4, .int p2), (5, .int p3)]) hx hb xd_T_firstStage_84 hl (by decide) rfl (fun ls hl => ?_)
            refine lv_iload hx hb xd_T_firstStage_86 (lv_at hl 0 rfl) ?_
            refine xc0_i (va_runS (As := [.int (q15.1)]) (rest := []) ⟨hx, hb, hml, hown, htg⟩ (c_T_isLeaf l D (xTy k) z H.size q15.1) (va_cwS 1 htg (xg_S0 xkin_T_isLeaf xw_461 xw_462 xw_4) rfl rfl rfl (by decide +kernel) ⟨Nat.le_of_ble_eq_true rfl, Nat.le_of_ble_eq_true rfl⟩) ⟨xB_blind, fun U hU hW => xB_mk va_P0 hK va_D0 hE hS (xsub0 hA hS) hU hW⟩ rfl rfl hl.1 rfl (lv_room (Nat.le_of_ble_eq_true rfl)) xd_T_firstStage_88 ⟨Nat.le_of_ble_eq_true rfl, Nat.le_of_ble_eq_true rfl⟩) hP hA hS (fun r16 H locs hr16 hP hS => ?_)
            refine lv_if_eq (tgt := 124) hx hb xd_T_firstStage_91 rfl (fun h17 => ?_) (fun h17 => ?_)
            · refine lv_iload hx hb xd_T_firstStage_124 (lv_at hl 0 rfl) ?_
              refine xc0_i (va_runS (As := [.int (q15.1)]) (rest := []) ⟨hx, hb, hml, hown, htg⟩ (c_T_isPointer l D (xTy k) z H.size q15.1) (va_cwS 1 htg (xg_S0 xkin_T_isPointer xw_472 xw_473 xw_4) rfl rfl rfl (by decide +kernel) ⟨Nat.le_of_ble_eq_true rfl, Nat.le_of_ble_eq_true rfl⟩) ⟨xB_blind, fun U hU hW => xB_mk va_P0 hK va_D0 hE hS (xsub0 hA hS) hU hW⟩ rfl rfl hl.1 rfl (lv_room (Nat.le_of_ble_eq_true rfl)) xd_T_firstStage_126 ⟨Nat.le_of_ble_eq_true rfl, Nat.le_of_ble_eq_true rfl⟩) hP hA hS (fun r18 H locs hr18 hP hS => ?_)
              refine lv_if_ne (tgt := 136) hx hb xd_T_firstStage_129 rfl (fun h19 => ?_) (fun h19 => ?_)
              · refine lv_iload hx hb xd_T_firstStage_136 (lv_at hl 0 rfl) ?_
                refine lv_lload_n hx hb xd_T_firstStage_138 rfl (lv_at hl 6 rfl) ?_
                refine xc0_l (va_runS (As := [.int (q15.1), .long p0]) (rest := []) ⟨hx, hb, hml, hown, htg⟩ (c_T_nextPlace l D (xTy k) z H.size q15.1 p0) (va_cwS 2 htg (xg_S0 xkin_T_nextPlace xw_475 xw_476 xw_4) rfl rfl rfl (by decide +kernel) ⟨Nat.le_of_ble_eq_true rfl, Nat.le_of_ble_eq_true rfl⟩) ⟨xB_blind, fun U hU hW => xB_mk va_P0 hK va_D0 hE hS (xsub0 hA hS) hU hW⟩ rfl rfl hl.1 rfl (lv_room (Nat.le_of_ble_eq_true rfl)) xd_T_firstStage_139 ⟨Nat.le_of_ble_eq_true rfl, Nat.le_of_ble_eq_true rfl⟩) hP hA hS (fun r20 H locs hr20 hP hS => ?_)
                refine lv_lstore (lv' := [(7, .long r20), (12, .int (q15.1)), (10, .long (q12.1)), (9, .int 1), (6, .int ((xg_V_atp u))), (0, .ref ((a 3))), (1, .long p0), (3, .int p1), (4, .int p2), (5, .int p3)]) hx hb xd_T_firstStage_142 hl (by decide) rfl (fun ls hl => ?_)
                refine lv_iinc (k := 3) (v := 2) (lv' := [(9, .int 2), (7, .long r20), (12, .int (q15.1)), (10, .long (q12.1)), (6, .int ((xg_V_atp u))), (0, .ref ((a 3))), (1, .long p0), (3, .int p1), (4, .int p2), (5, .int p3)]) hx hb xd_T_firstStage_144 hl rfl (by first | rfl | decide) (by decide) rfl (fun ls hl => ?_)
                refine lv_goto (tgt := 30) hx hb xd_T_firstStage_147 rfl ?_
                refine lv_iload hx hb xd_T_firstStage_30 (lv_at hl 0 rfl) ?_
                refine lv_iconst (v := 2) hx hb xd_T_firstStage_32 (by decide) ?_
                refine lv_icmp_ge (tgt := 150) hx hb xd_T_firstStage_33 rfl (fun _ => ?_) (fun h => absurd h (by decide))
                refine lv_ldc2 (v := (-1)) hx hb hown (htg _ xw_471) xd_T_firstStage_150 ?_
                exact hret _ ((xs_M1 q12.2 q15.2), g) H locs ls _ ⟨(by unfold xf_T_firstStage; exact (xit h1 (xlt_e hr2 (xlt_e hq3 (xit h4 (xlt_e hq6 (xlt_e hr7 (xit h8 (xlt_e hr9 (xif h10 (xlt_e hr11 (xlt_e hq12 (xit h13 (xlt_e hq15 (xlt_e hr16 (xit h17 (xlt_e hr18 (xif h19 (xlt_e hr20 rfl))))))))))))))))))), hg⟩ hP hD hS xd_T_firstStage_153
              · refine lv_ldc2 (v := (-1)) hx hb hown (htg _ xw_471) xd_T_firstStage_132 ?_
                exact hret _ ((xs_M1 q12.2 q15.2), g) H locs ls _ ⟨(by unfold xf_T_firstStage; exact (xit h1 (xlt_e hr2 (xlt_e hq3 (xit h4 (xlt_e hq6 (xlt_e hr7 (xit h8 (xlt_e hr9 (xif h10 (xlt_e hr11 (xlt_e hq12 (xit h13 (xlt_e hq15 (xlt_e hr16 (xit h17 (xlt_e hr18 (xit h19 rfl)))))))))))))))))), hg⟩ hP hD hS xd_T_firstStage_135
            · refine lv_iload hx hb xd_T_firstStage_94 (lv_at hl 0 rfl) ?_
              refine lv_iload hx hb xd_T_firstStage_96 (lv_at hl 2 rfl) ?_
              refine lv_iload_n hx hb xd_T_firstStage_98 rfl (lv_at hl 7 rfl) ?_
              refine lv_iload hx hb xd_T_firstStage_99 (lv_at hl 8 rfl) ?_
              refine lv_iload hx hb xd_T_firstStage_101 (lv_at hl 9 rfl) ?_
              refine xc0_i (va_runS (As := [.int (q15.1), .int 1, .int p1, .int p2, .int p3]) (rest := []) ⟨hx, hb, hml, hown, htg⟩ (c_T_allows l D (xTy k) z H.size q15.1 (1 : Int32) p1 p2 p3) (va_cwS 5 htg (xg_S0 xkin_T_allows xw_464 xw_465 xw_4) rfl rfl rfl (by decide +kernel) ⟨Nat.le_of_ble_eq_true rfl, Nat.le_of_ble_eq_true rfl⟩) ⟨xB_blind, fun U hU hW => xB_mk va_P0 hK va_D0 hE hS (xsub0 hA hS) hU hW⟩ rfl rfl hl.1 rfl (lv_room (Nat.le_of_ble_eq_true rfl)) xd_T_firstStage_103 ⟨Nat.le_of_ble_eq_true rfl, Nat.le_of_ble_eq_true rfl⟩) hP hA hS (fun r21 H locs hr21 hP hS => ?_)
              have hj23 : ∀ (H : Heap) (locs : List Loc) (ls : Array Slot) (g : XG) (v22 : Int64), v22 = (if r21 = 0 then ((-1)) else (xlt (xf_T_result q15.1 (1 : Int32) p0 : Int64) fun r23 => r23)) → xok k g (xs_M1 q12.2 q15.2) → lv_has ls 13 [(12, .int (q15.1)), (10, .long (q12.1)), (9, .int 1), (7, .long r11), (6, .int ((xg_V_atp u))), (0, .ref ((a 3))), (1, .long p0), (3, .int p1), (4, .int p2), (5, .int p3)] → va_P D xCl (xWH k a g (xs_M1 q12.2 q15.2)) H → va_D A (xWH k a g (xs_M1 q12.2 q15.2)) → va_S A s.heap H locs → W p l e { frames := 2, cells := 0, slots := 0, locals := 55 } s m args below meth c H locs (0) (0) Q (F0 m 123 ls [.long v22]) := by
                intro H locs ls g v22 hv22 hg hl hP hD hS
                exact hret _ ((xs_M1 q12.2 q15.2), g) H locs ls _ ⟨(by unfold xf_T_firstStage; exact (xit h1 (xlt_e hr2 (xlt_e hq3 (xit h4 (xlt_e hq6 (xlt_e hr7 (xit h8 (xlt_e hr9 (xif h10 (xlt_e hr11 (xlt_e hq12 (xit h13 (xlt_e hq15 (xlt_e hr16 (xif h17 (xlt_e hr21 (xlt_e hv22 rfl)))))))))))))))))), hg⟩ hP hD hS xd_T_firstStage_123
              refine lv_if_eq (tgt := 120) hx hb xd_T_firstStage_106 rfl (fun h24 => ?_) (fun h24 => ?_)
              · refine lv_ldc2 (v := (-1)) hx hb hown (htg _ xw_471) xd_T_firstStage_120 ?_
                exact hj23 H locs ls g (-1 : Int64) (xit h24 rfl) hg hl hP hD hS
              · refine lv_iload hx hb xd_T_firstStage_109 (lv_at hl 0 rfl) ?_
                refine lv_iload hx hb xd_T_firstStage_111 (lv_at hl 2 rfl) ?_
                refine lv_lload_n hx hb xd_T_firstStage_113 rfl (lv_at hl 6 rfl) ?_
                refine xc0_l (va_runS (As := [.int (q15.1), .int 1, .long p0]) (rest := []) ⟨hx, hb, hml, hown, htg⟩ (c_T_result l D (xTy k) z H.size q15.1 (1 : Int32) p0) (va_cwS 3 htg (xg_S0 xkin_T_result xw_468 xw_469 xw_4) rfl rfl rfl (by decide +kernel) ⟨Nat.le_of_ble_eq_true rfl, Nat.le_of_ble_eq_true rfl⟩) ⟨xB_blind, fun U hU hW => xB_mk va_P0 hK va_D0 hE hS (xsub0 hA hS) hU hW⟩ rfl rfl hl.1 rfl (lv_room (Nat.le_of_ble_eq_true rfl)) xd_T_firstStage_114 ⟨Nat.le_of_ble_eq_true rfl, Nat.le_of_ble_eq_true rfl⟩) hP hA hS (fun r25 H locs hr25 hP hS => ?_)
                refine lv_goto (tgt := 123) hx hb xd_T_firstStage_117 rfl ?_
                exact hj23 H locs ls g r25 (xif h24 (xlt_e hr25 rfl)) hg hl hP hD hS
          · refine lv_aload_n hx hb xd_T_firstStage_62 rfl (lv_at hl 5 rfl) ?_
            refine lv_lload hx hb xd_T_firstStage_63 (lv_at hl 0 rfl) ?_
            refine lv_lload hx hb xd_T_firstStage_65 (lv_at hl 2 rfl) ?_
            refine lv_sipush (v := 8192) hx hb xd_T_firstStage_67 (by decide) ?_
            refine xcW_l (va_runV (As := [.long (q12.1), .long r11, .int 8192]) (rest := []) ⟨hx, hb, hml, hown, htg⟩ (c_T_guestVerdict l D z k a g H.size q12.2 hg q12.1 r11 (8192 : Int32)) (cwV 3 htg (xg_V0 xkin_T_guestVerdict xw_479 xw_481 xsel_T_guestVerdict xw_4) rfl rfl rfl (by decide +kernel) ⟨Nat.le_of_ble_eq_true rfl, Nat.le_of_ble_eq_true rfl⟩) ⟨xB_blind, xrecv_T hK hP, fun U hU hW => xB_mk hP hK hD hE hS (xsubW hD hA hS) hU hW⟩ rfl rfl hl.1 rfl (lv_room (Nat.le_of_ble_eq_true rfl)) xd_T_firstStage_70 ⟨Nat.le_of_ble_eq_true rfl, Nat.le_of_ble_eq_true rfl⟩) hD hA hS (fun r w1 H locs hw hP hD hS => ?_)
            obtain ⟨u1, g⟩ := w1
            obtain ⟨q26, hq26⟩ : ∃ q, q = xf_T_guestVerdict q12.2 q12.1 r11 (8192 : Int32) := ⟨_, rfl⟩
            obtain ⟨e1, hg⟩ := hw
            rw [← hq26] at e1
            obtain rfl : r = q26.1 := congrArg Prod.fst e1
            obtain rfl : u1 = q26.2 := congrArg Prod.snd e1
            have hP : va_P D xCl (xWH k a g q26.2) H := hP
            have hD : va_D A (xWH k a g q26.2) := hD
            have hg : xok k g q26.2 := hg
            exact hret _ (q26.2, g) H locs ls _ ⟨(by unfold xf_T_firstStage; exact (xit h1 (xlt_e hr2 (xlt_e hq3 (xit h4 (xlt_e hq6 (xlt_e hr7 (xit h8 (xlt_e hr9 (xif h10 (xlt_e hr11 (xlt_e hq12 (xif h13 (xlt_e hq26 rfl)))))))))))))), hg⟩ hP hD hS xd_T_firstStage_73
        · refine lv_ldc2 (v := (-1)) hx hb hown (htg _ xw_471) xd_T_firstStage_132 ?_
          exact hret _ ((xs_M1 q3.2 q6.2), g) H locs ls _ ⟨(by unfold xf_T_firstStage; exact (xit h1 (xlt_e hr2 (xlt_e hq3 (xit h4 (xlt_e hq6 (xlt_e hr7 (xit h8 (xlt_e hr9 (xit h10 rfl)))))))))), hg⟩ hP hD hS xd_T_firstStage_135
      · refine lv_iload hx hb xd_T_firstStage_94 (lv_at hl 0 rfl) ?_
        refine lv_iload hx hb xd_T_firstStage_96 (lv_at hl 2 rfl) ?_
        refine lv_iload_n hx hb xd_T_firstStage_98 rfl (lv_at hl 7 rfl) ?_
        refine lv_iload hx hb xd_T_firstStage_99 (lv_at hl 8 rfl) ?_
        refine lv_iload hx hb xd_T_firstStage_101 (lv_at hl 9 rfl) ?_
        refine xc0_i (va_runS (As := [.int (q6.1), .int 0, .int p1, .int p2, .int p3]) (rest := []) ⟨hx, hb, hml, hown, htg⟩ (c_T_allows l D (xTy k) z H.size q6.1 (0 : Int32) p1 p2 p3) (va_cwS 5 htg (xg_S0 xkin_T_allows xw_464 xw_465 xw_4) rfl rfl rfl (by decide +kernel) ⟨Nat.le_of_ble_eq_true rfl, Nat.le_of_ble_eq_true rfl⟩) ⟨xB_blind, fun U hU hW => xB_mk va_P0 hK va_D0 hE hS (xsub0 hA hS) hU hW⟩ rfl rfl hl.1 rfl (lv_room (Nat.le_of_ble_eq_true rfl)) xd_T_firstStage_103 ⟨Nat.le_of_ble_eq_true rfl, Nat.le_of_ble_eq_true rfl⟩) hP hA hS (fun r27 H locs hr27 hP hS => ?_)
        have hj29 : ∀ (H : Heap) (locs : List Loc) (ls : Array Slot) (g : XG) (v28 : Int64), v28 = (if r27 = 0 then ((-1)) else (xlt (xf_T_result q6.1 (0 : Int32) p0 : Int64) fun r29 => r29)) → xok k g (xs_M1 q3.2 q6.2) → lv_has ls 13 [(12, .int (q6.1)), (10, .long (q3.1)), (9, .int 0), (7, .long r2), (6, .int ((xg_V_atp u))), (0, .ref ((a 3))), (1, .long p0), (3, .int p1), (4, .int p2), (5, .int p3)] → va_P D xCl (xWH k a g (xs_M1 q3.2 q6.2)) H → va_D A (xWH k a g (xs_M1 q3.2 q6.2)) → va_S A s.heap H locs → W p l e { frames := 2, cells := 0, slots := 0, locals := 55 } s m args below meth c H locs (0) (0) Q (F0 m 123 ls [.long v28]) := by
          intro H locs ls g v28 hv28 hg hl hP hD hS
          exact hret _ ((xs_M1 q3.2 q6.2), g) H locs ls _ ⟨(by unfold xf_T_firstStage; exact (xit h1 (xlt_e hr2 (xlt_e hq3 (xit h4 (xlt_e hq6 (xlt_e hr7 (xif h8 (xlt_e hr27 (xlt_e hv28 rfl)))))))))), hg⟩ hP hD hS xd_T_firstStage_123
        refine lv_if_eq (tgt := 120) hx hb xd_T_firstStage_106 rfl (fun h30 => ?_) (fun h30 => ?_)
        · refine lv_ldc2 (v := (-1)) hx hb hown (htg _ xw_471) xd_T_firstStage_120 ?_
          exact hj29 H locs ls g (-1 : Int64) (xit h30 rfl) hg hl hP hD hS
        · refine lv_iload hx hb xd_T_firstStage_109 (lv_at hl 0 rfl) ?_
          refine lv_iload hx hb xd_T_firstStage_111 (lv_at hl 2 rfl) ?_
          refine lv_lload_n hx hb xd_T_firstStage_113 rfl (lv_at hl 6 rfl) ?_
          refine xc0_l (va_runS (As := [.int (q6.1), .int 0, .long p0]) (rest := []) ⟨hx, hb, hml, hown, htg⟩ (c_T_result l D (xTy k) z H.size q6.1 (0 : Int32) p0) (va_cwS 3 htg (xg_S0 xkin_T_result xw_468 xw_469 xw_4) rfl rfl rfl (by decide +kernel) ⟨Nat.le_of_ble_eq_true rfl, Nat.le_of_ble_eq_true rfl⟩) ⟨xB_blind, fun U hU hW => xB_mk va_P0 hK va_D0 hE hS (xsub0 hA hS) hU hW⟩ rfl rfl hl.1 rfl (lv_room (Nat.le_of_ble_eq_true rfl)) xd_T_firstStage_114 ⟨Nat.le_of_ble_eq_true rfl, Nat.le_of_ble_eq_true rfl⟩) hP hA hS (fun r31 H locs hr31 hP hS => ?_)
          refine lv_goto (tgt := 123) hx hb xd_T_firstStage_117 rfl ?_
          exact hj29 H locs ls g r31 (xif h30 (xlt_e hr31 rfl)) hg hl hP hD hS
    · refine lv_aload_n hx hb xd_T_firstStage_62 rfl (lv_at hl 4 rfl) ?_
      refine lv_lload hx hb xd_T_firstStage_63 (lv_at hl 0 rfl) ?_
      refine lv_lload hx hb xd_T_firstStage_65 (lv_at hl 2 rfl) ?_
      refine lv_sipush (v := 8192) hx hb xd_T_firstStage_67 (by decide) ?_
      refine xcW_l (va_runV (As := [.long (q3.1), .long r2, .int 8192]) (rest := []) ⟨hx, hb, hml, hown, htg⟩ (c_T_guestVerdict l D z k a g H.size q3.2 hg q3.1 r2 (8192 : Int32)) (cwV 3 htg (xg_V0 xkin_T_guestVerdict xw_479 xw_481 xsel_T_guestVerdict xw_4) rfl rfl rfl (by decide +kernel) ⟨Nat.le_of_ble_eq_true rfl, Nat.le_of_ble_eq_true rfl⟩) ⟨xB_blind, xrecv_T hK hP, fun U hU hW => xB_mk hP hK hD hE hS (xsubW hD hA hS) hU hW⟩ rfl rfl hl.1 rfl (lv_room (Nat.le_of_ble_eq_true rfl)) xd_T_firstStage_70 ⟨Nat.le_of_ble_eq_true rfl, Nat.le_of_ble_eq_true rfl⟩) hD hA hS (fun r w1 H locs hw hP hD hS => ?_)
      obtain ⟨u1, g⟩ := w1
      obtain ⟨q32, hq32⟩ : ∃ q, q = xf_T_guestVerdict q3.2 q3.1 r2 (8192 : Int32) := ⟨_, rfl⟩
      obtain ⟨e1, hg⟩ := hw
      rw [← hq32] at e1
      obtain rfl : r = q32.1 := congrArg Prod.fst e1
      obtain rfl : u1 = q32.2 := congrArg Prod.snd e1
      have hP : va_P D xCl (xWH k a g q32.2) H := hP
      have hD : va_D A (xWH k a g q32.2) := hD
      have hg : xok k g q32.2 := hg
      exact hret _ (q32.2, g) H locs ls _ ⟨(by unfold xf_T_firstStage; exact (xit h1 (xlt_e hr2 (xlt_e hq3 (xif h4 (xlt_e hq32 rfl)))))), hg⟩ hP hD hS xd_T_firstStage_73
  · refine lv_lload_n hx hb xd_T_firstStage_17 rfl (lv_at hl 2 rfl) ?_
    exact hret _ (u, g) H locs ls _ ⟨(by unfold xf_T_firstStage; exact (xif h1 rfl)), hg⟩ hP hD hS xd_T_firstStage_18

noncomputable def xf_T_secondStage (u : XH) (p0 : Int64) (p1 : Nat) : Int64 × XH :=
  xlt (if ((xg_S_status u) &&& (524288 : Int32)) = 0 then (0) else (1) : Int32) fun v1 =>
  xlt (xf_A_anyWith p1 v1 : Int32) fun q3 =>
  xlt (xf_T_walk u (xg_K_hgatp u) p0 q3 ((List.getD [65, 65, 65, 193] p1 0) ||| (16 : Int32)) (0 : Int32) : Int64 × XH) fun q4 =>
  xlt (if 0 ≤ (lg_cmp q4.1 (0 : Int64)) then (q4.1) else (xlt (xf_T_guestVerdict q4.2 q4.1 p0 (0 : Int32) : Int64 × XH) fun q6 => q6.1) : Int64) fun v5 =>
  xlt (if 0 ≤ (lg_cmp q4.1 (0 : Int64)) then (q4.2) else (xlt (xf_T_guestVerdict q4.2 q4.1 p0 (0 : Int32) : Int64 × XH) fun q6 => q6.2) : XH) fun v6 =>
  (v5, v6)
set_option maxHeartbeats 4000000 in
set_option maxRecDepth 100000 in
theorem c_T_secondStage (l : Launch) (D : va_G) (z : (Nat → Nat) × (Nat → Nat)) (k : ClassId × ClassId) (a : Nat → Nat) (g : XG) (sz : Nat) (u : XH) (hg : xok k g u) (p0 : Int64) (p1 : Nat) (hac : p1 < 4) : Met l xy_T_secondStage (xk_T_secondStage :: lw_g) { frames := 2, cells := 0, slots := 0, locals := 55 } (va_Pc [.ref ((a 3)), .long p0, .ref ((z.1 p1))] (xB D (xTy k) z sz (xWH k a g u))) (va_Ql (fun r (q : XH × XG) => (r, q.1) = xf_T_secondStage u p0 p1 ∧ xok k q.2 q.1) (fun q t => xQ D (xTy k) (xWH k a q.2 q.1) (va_A (xWH k a g u) sz) t) (va_A (xWH k a g u) sz)) 0 0 (va_A (xWH k a g u) sz) := by
  refine xopen_l (wf := fun q : XH × XG => xWH k a q.2 q.1) (lv := [(0, .ref ((a 3))), (1, .long p0), (3, .ref ((z.1 p1)))]) (by decide) rfl (Nat.le_of_ble_eq_true rfl) ?_
  intro p e s m args below meth c Q ls A H locs hx hb hml htg hown hin hK hP hD hE hS hA hl hret
  refine lv_aload_n hx hb xd_T_secondStage_0 rfl (lv_at hl 2 rfl) ?_
  refine lv_aload_n hx hb xd_T_secondStage_1 rfl (lv_at hl 0 rfl) ?_
  refine xget_T_controls hx hb htg hown hK hP (htg _ xw_188) xd_T_secondStage_2 ?_
  refine xget_K_s hx hb htg hown hK hP (htg _ xw_101) xd_T_secondStage_5 ?_
  refine xget_S_status (v := (xg_S_status u)) hx hb htg hown hK hP (htg _ xw_67) rfl xd_T_secondStage_8 ?_
  refine lv_ldc (v := 524288) hx hb hown (htg _ xw_429) xd_T_secondStage_11 ?_
  refine lv_iand hx hb xd_T_secondStage_13 ?_
  have hj2 : ∀ (H : Heap) (locs : List Loc) (ls : Array Slot) (g : XG) (v1 : Int32), v1 = (if ((xg_S_status u) &&& (524288 : Int32)) = 0 then (0) else (1)) → xok k g u → lv_has ls 7 [(0, .ref ((a 3))), (1, .long p0), (3, .ref ((z.1 p1)))] → va_P D xCl (xWH k a g u) H → va_D A (xWH k a g u) → va_S A s.heap H locs → W p l e { frames := 2, cells := 0, slots := 0, locals := 55 } s m args below meth c H locs (0) (0) Q (F0 m 22 ls [.int v1, .ref ((z.1 p1))]) := by
    intro H locs ls g v1 hv1 hg hl hP hD hS
    refine xc0_i (va_runV (As := [.int v1]) (rest := []) ⟨hx, hb, hml, hown, htg⟩ (c_A_anyWith l D (xTy k) z H.size p1 hac v1) (cwV 1 htg (xg_V0 xkin_A_anyWith xw_430 xw_431 xsel_A_anyWith xw_12) rfl rfl rfl (by decide +kernel) ⟨Nat.le_of_ble_eq_true rfl, Nat.le_of_ble_eq_true rfl⟩) ⟨xB_blind, va_recvE hE.1 hac hS, fun U hU hW => xB_mk va_P0 hK va_D0 hE hS (xsub0 hA hS) hU hW⟩ rfl rfl hl.1 rfl (lv_room (Nat.le_of_ble_eq_true rfl)) xd_T_secondStage_22 ⟨Nat.le_of_ble_eq_true rfl, Nat.le_of_ble_eq_true rfl⟩) hP hA hS (fun q3 H locs hq3 hP hS => ?_)
    refine lv_istore (lv' := [(4, .int q3), (0, .ref ((a 3))), (1, .long p0), (3, .ref ((z.1 p1)))]) hx hb xd_T_secondStage_25 hl (by decide) rfl (fun ls hl => ?_)
    refine lv_aload_n hx hb xd_T_secondStage_27 rfl (lv_at hl 1 rfl) ?_
    refine lv_aload_n hx hb xd_T_secondStage_28 rfl (lv_at hl 1 rfl) ?_
    refine xget_T_controls hx hb htg hown hK hP (htg _ xw_188) xd_T_secondStage_29 ?_
    refine xget_K_hgatp (v := (xg_K_hgatp u)) hx hb htg hown hK hP (htg _ xw_116) rfl xd_T_secondStage_32 ?_
    refine lv_lload_n hx hb xd_T_secondStage_35 rfl (lv_at hl 2 rfl) ?_
    refine lv_iload hx hb xd_T_secondStage_36 (lv_at hl 0 rfl) ?_
    refine lv_aload_n hx hb xd_T_secondStage_38 rfl (lv_at hl 3 rfl) ?_
    refine va_getE (q := ("HyperHost$Access", "all", "I", [65, 65, 65, 193])) hx hb hE.1 hac hS hown (by decide +kernel) (htg _ xw_1083) (fun _ h9 => h9) xd_T_secondStage_39 ?_
    refine lv_bipush (v := 16) hx hb xd_T_secondStage_42 (by decide) ?_
    refine lv_ior hx hb xd_T_secondStage_44 ?_
    refine lv_iconst (v := 0) hx hb xd_T_secondStage_45 (by decide) ?_
    refine xcW_l (va_runV (As := [.int ((xg_K_hgatp u)), .long p0, .int q3, .int (((List.getD [65, 65, 65, 193] p1 0) ||| (16 : Int32))), .int 0]) (rest := []) ⟨hx, hb, hml, hown, htg⟩ (c_T_walk l D z k a g H.size u hg (xg_K_hgatp u) p0 q3 ((List.getD [65, 65, 65, 193] p1 0) ||| (16 : Int32)) (0 : Int32)) (cwV 5 htg (xg_V0 xkin_T_walk xw_451 xw_453 xsel_T_walk xw_4) rfl rfl rfl (by decide +kernel) ⟨Nat.le_of_ble_eq_true rfl, Nat.le_of_ble_eq_true rfl⟩) ⟨xB_blind, xrecv_T hK hP, fun U hU hW => xB_mk hP hK hD hE hS (xsubW hD hA hS) hU hW⟩ rfl rfl hl.1 rfl (lv_room (Nat.le_of_ble_eq_true rfl)) xd_T_secondStage_46 ⟨Nat.le_of_ble_eq_true rfl, Nat.le_of_ble_eq_true rfl⟩) hD hA hS (fun r w1 H locs hw hP hD hS => ?_)
    obtain ⟨u1, g⟩ := w1
    obtain ⟨q4, hq4⟩ : ∃ q, q = xf_T_walk u (xg_K_hgatp u) p0 q3 ((List.getD [65, 65, 65, 193] p1 0) ||| (16 : Int32)) (0 : Int32) := ⟨_, rfl⟩
    obtain ⟨e1, hg⟩ := hw
    rw [← hq4] at e1
    obtain rfl : r = q4.1 := congrArg Prod.fst e1
    obtain rfl : u1 = q4.2 := congrArg Prod.snd e1
    have hP : va_P D xCl (xWH k a g q4.2) H := hP
    have hD : va_D A (xWH k a g q4.2) := hD
    have hg : xok k g q4.2 := hg
    refine lv_lstore (lv' := [(5, .long (q4.1)), (4, .int q3), (0, .ref ((a 3))), (1, .long p0), (3, .ref ((z.1 p1)))]) hx hb xd_T_secondStage_49 hl (by decide) rfl (fun ls hl => ?_)
    refine lv_lload hx hb xd_T_secondStage_51 (lv_at hl 0 rfl) ?_
    refine lv_lconst (v := 0) hx hb xd_T_secondStage_53 (by decide) ?_
    refine W.lcmp hx hb xd_T_secondStage_54 ?_
    have hj7 : ∀ (H : Heap) (locs : List Loc) (ls : Array Slot) (g : XG) (v5 : Int64) (v6 : XH), v5 = (if 0 ≤ (lg_cmp q4.1 (0 : Int64)) then (q4.1) else (xlt (xf_T_guestVerdict q4.2 q4.1 p0 (0 : Int32) : Int64 × XH) fun q6 => q6.1)) → v6 = (if 0 ≤ (lg_cmp q4.1 (0 : Int64)) then (q4.2) else (xlt (xf_T_guestVerdict q4.2 q4.1 p0 (0 : Int32) : Int64 × XH) fun q6 => q6.2)) → xok k g v6 → lv_has ls 7 [(5, .long (q4.1)), (4, .int q3), (0, .ref ((a 3))), (1, .long p0), (3, .ref ((z.1 p1)))] → va_P D xCl (xWH k a g v6) H → va_D A (xWH k a g v6) → va_S A s.heap H locs → W p l e { frames := 2, cells := 0, slots := 0, locals := 55 } s m args below meth c H locs (0) (0) Q (F0 m 71 ls [.long v5]) := by
      intro H locs ls g v5 v6 hv5 hv6 hg hl hP hD hS
      exact hret _ (v6, g) H locs ls _ ⟨(by unfold xf_T_secondStage; exact (xlt_e hv1 (xlt_e hq3 (xlt_e hq4 (xlt_e hv5 (xlt_e hv6 rfl)))))), hg⟩ hP hD hS xd_T_secondStage_71
    refine lv_if_ge (tgt := 69) hx hb xd_T_secondStage_55 rfl (fun h8 => ?_) (fun h8 => ?_)
    · refine lv_lload hx hb xd_T_secondStage_69 (lv_at hl 0 rfl) ?_
      exact hj7 H locs ls g q4.1 q4.2 (xit h8 rfl) (xit h8 rfl) hg hl hP hD hS
    · refine lv_aload_n hx hb xd_T_secondStage_58 rfl (lv_at hl 2 rfl) ?_
      refine lv_lload hx hb xd_T_secondStage_59 (lv_at hl 0 rfl) ?_
      refine lv_lload_n hx hb xd_T_secondStage_61 rfl (lv_at hl 3 rfl) ?_
      refine lv_iconst (v := 0) hx hb xd_T_secondStage_62 (by decide) ?_
      refine xcW_l (va_runV (As := [.long (q4.1), .long p0, .int 0]) (rest := []) ⟨hx, hb, hml, hown, htg⟩ (c_T_guestVerdict l D z k a g H.size q4.2 hg q4.1 p0 (0 : Int32)) (cwV 3 htg (xg_V0 xkin_T_guestVerdict xw_479 xw_481 xsel_T_guestVerdict xw_4) rfl rfl rfl (by decide +kernel) ⟨Nat.le_of_ble_eq_true rfl, Nat.le_of_ble_eq_true rfl⟩) ⟨xB_blind, xrecv_T hK hP, fun U hU hW => xB_mk hP hK hD hE hS (xsubW hD hA hS) hU hW⟩ rfl rfl hl.1 rfl (lv_room (Nat.le_of_ble_eq_true rfl)) xd_T_secondStage_63 ⟨Nat.le_of_ble_eq_true rfl, Nat.le_of_ble_eq_true rfl⟩) hD hA hS (fun r w1 H locs hw hP hD hS => ?_)
      obtain ⟨u1, g⟩ := w1
      obtain ⟨q9, hq9⟩ : ∃ q, q = xf_T_guestVerdict q4.2 q4.1 p0 (0 : Int32) := ⟨_, rfl⟩
      obtain ⟨e1, hg⟩ := hw
      rw [← hq9] at e1
      obtain rfl : r = q9.1 := congrArg Prod.fst e1
      obtain rfl : u1 = q9.2 := congrArg Prod.snd e1
      have hP : va_P D xCl (xWH k a g q9.2) H := hP
      have hD : va_D A (xWH k a g q9.2) := hD
      have hg : xok k g q9.2 := hg
      refine lv_goto (tgt := 71) hx hb xd_T_secondStage_66 rfl ?_
      exact hj7 H locs ls g q9.1 q9.2 (xif h8 (xlt_e hq9 rfl)) (xif h8 (xlt_e hq9 rfl)) hg hl hP hD hS
  refine lv_if_eq (tgt := 21) hx hb xd_T_secondStage_14 rfl (fun h10 => ?_) (fun h10 => ?_)
  · refine lv_iconst (v := 0) hx hb xd_T_secondStage_21 (by decide) ?_
    exact hj2 H locs ls g (0 : Int32) (xit h10 rfl) hg hl hP hD hS
  · refine lv_iconst (v := 1) hx hb xd_T_secondStage_17 (by decide) ?_
    refine lv_goto (tgt := 22) hx hb xd_T_secondStage_18 rfl ?_
    exact hj2 H locs ls g (1 : Int32) (xif h10 rfl) hg hl hP hD hS

noncomputable def xf_C_endStep (u : XH) : XH :=
  xlt (if (xg_P_cause u) = (-1) then ((xs_C_pc u (xg_C_next u))) else (xlt (xf_C_takeTrap u : XH) fun q2 => q2) : XH) fun v1 =>
  (xs_K_time v1 ((xg_K_time v1) + (1 : Int64)))
set_option maxHeartbeats 4000000 in
set_option maxRecDepth 100000 in
theorem c_C_endStep (l : Launch) (D : va_G) (z : (Nat → Nat) × (Nat → Nat)) (k : ClassId × ClassId) (a : Nat → Nat) (g : XG) (sz : Nat) (u : XH) (hg : xok k g u) : Met l xy_C_endStep (xk_C_endStep :: lw_g) { frames := 3, cells := 0, slots := 0, locals := 63 } (va_Pc [.ref ((a 1))] (xB D (xTy k) z sz (xWH k a g u))) (va_Qv (fun q : XH × XG => q.1 = xf_C_endStep u ∧ xok k q.2 q.1) (fun q t => xQ D (xTy k) (xWH k a q.2 q.1) (va_A (xWH k a g u) sz) t) (va_A (xWH k a g u) sz)) 0 0 (va_A (xWH k a g u) sz) := by
  refine xopen_v (wf := fun q : XH × XG => xWH k a q.2 q.1) (lv := [(0, .ref ((a 1)))]) (by decide) rfl (Nat.le_of_ble_eq_true rfl) ?_
  intro p e s m args below meth c Q ls A H locs hx hb hml htg hown hin hK hP hD hE hS hA hl hret
  refine lv_aload_n hx hb xd_C_endStep_0 rfl (lv_at hl 0 rfl) ?_
  refine xget_C_trap hx hb htg hown hK hP (htg _ xw_208) xd_C_endStep_1 ?_
  refine xget_P_cause (v := (xg_P_cause u)) hx hb htg hown hK hP (htg _ xw_159) rfl xd_C_endStep_4 ?_
  refine lv_iconst (v := (-1)) hx hb xd_C_endStep_7 (by decide) ?_
  have hj2 : ∀ (H : Heap) (locs : List Loc) (ls : Array Slot) (g : XG) (v1 : XH), v1 = (if (xg_P_cause u) = (-1) then ((xs_C_pc u (xg_C_next u))) else (xlt (xf_C_takeTrap u : XH) fun q2 => q2)) → xok k g v1 → lv_has ls 1 [(0, .ref ((a 1)))] → va_P D xCl (xWH k a g v1) H → va_D A (xWH k a g v1) → va_S A s.heap H locs → W p l e { frames := 3, cells := 0, slots := 0, locals := 63 } s m args below meth c H locs (0) (0) Q (F0 m 26 ls []) := by
    intro H locs ls g v1 hv1 hg hl hP hD hS
    refine lv_aload_n hx hb xd_C_endStep_26 rfl (lv_at hl 0 rfl) ?_
    refine xget_C_controls hx hb htg hown hK hP (htg _ xw_206) xd_C_endStep_27 ?_
    refine lv_dup hx hb xd_C_endStep_30 rfl ?_
    refine xget_K_time (v := (xg_K_time v1)) hx hb htg hown hK hP (htg _ xw_118) rfl xd_C_endStep_31 ?_
    refine lv_lconst (v := 1) hx hb xd_C_endStep_34 (by decide) ?_
    refine lv_ladd hx hb xd_C_endStep_35 ?_
    refine xput_K_time (v := ((xg_K_time v1) + (1 : Int64))) hx hb htg hown hK hP hD hS hg (htg _ xw_118) xd_C_endStep_36 (fun H locs hP hD hS hg => ?_)
    exact hret ((xs_K_time v1 ((xg_K_time v1) + (1 : Int64))), g) H locs ls _ ⟨(by unfold xf_C_endStep; exact (xlt_e hv1 rfl)), hg⟩ hP hD hS xd_C_endStep_39
  refine lv_icmp_ne (tgt := 22) hx hb xd_C_endStep_8 rfl (fun h3 => ?_) (fun h3 => ?_)
  · refine lv_aload_n hx hb xd_C_endStep_22 rfl (lv_at hl 0 rfl) ?_
    refine xcW_v (va_runV (As := []) (rest := []) ⟨hx, hb, hml, hown, htg⟩ (c_C_takeTrap l D z k a g H.size u hg) (cwV 0 htg (xg_V0 xkin_C_takeTrap xw_677 xw_679 xsel_C_takeTrap xw_2) rfl rfl rfl (by decide +kernel) ⟨Nat.le_of_ble_eq_true rfl, Nat.le_of_ble_eq_true rfl⟩) ⟨xB_blind, xrecv_C hK hP, fun U hU hW => xB_mk hP hK hD hE hS (xsubW hD hA hS) hU hW⟩ rfl rfl hl.1 rfl (lv_room (Nat.le_of_ble_eq_true rfl)) xd_C_endStep_23 ⟨Nat.le_of_ble_eq_true rfl, Nat.le_of_ble_eq_true rfl⟩) hD hA hS (fun w1 H locs hw hP hD hS => ?_)
    obtain ⟨u1, g⟩ := w1
    obtain ⟨q4, hq4⟩ : ∃ q, q = xf_C_takeTrap u := ⟨_, rfl⟩
    obtain ⟨e2, hg⟩ := hw
    rw [← hq4] at e2
    obtain rfl : q4 = u1 := e2.symm
    have hP : va_P D xCl (xWH k a g q4) H := hP
    have hD : va_D A (xWH k a g q4) := hD
    have hg : xok k g q4 := hg
    exact hj2 H locs ls g q4 (xif h3 (xlt_e hq4 rfl)) hg hl hP hD hS
  · refine lv_aload_n hx hb xd_C_endStep_11 rfl (lv_at hl 0 rfl) ?_
    refine lv_aload_n hx hb xd_C_endStep_12 rfl (lv_at hl 0 rfl) ?_
    refine xget_C_next (v := (xg_C_next u)) hx hb htg hown hK hP (htg _ xw_223) rfl xd_C_endStep_13 ?_
    refine xput_C_pc (v := (xg_C_next u)) hx hb htg hown hK hP hD hS hg (htg _ xw_211) xd_C_endStep_16 (fun H locs hP hD hS hg => ?_)
    refine lv_goto (tgt := 26) hx hb xd_C_endStep_19 rfl ?_
    exact hj2 H locs ls g (xs_C_pc u (xg_C_next u)) (xit h3 rfl) hg hl hP hD hS

noncomputable def xf_C_controlOp (u : XH) (p0 : Int32) : XH :=
  xlt (xf_D_a (xg_C_word u) : Int32) fun r1 =>
  xlt (if (p0 &&& (3 : Int32)) = 1 then (1) else (if r1 = 0 then (0) else (1)) : Int32) fun v2 =>
  xlt (xf_K_refusal u (xus (xg_C_word u) (20 : Int32)) v2 (xg_C_mode u) : Int32) fun q4 =>
  if q4 = (-1) then
    xlt (xf_K_meant (xus (xg_C_word u) (20 : Int32)) (xg_C_mode u) : Int32) fun r6 =>
    xlt (xf_K_tell u r6 : Int32) fun q7 =>
    xlt (if p0 ≤ 4 then (((xg_x u) r1.toNatClampNeg)) else (r1) : Int32) fun v8 =>
    xlt (if v2 = 0 then (u) else (xlt (xf_C_changed (p0 &&& (3 : Int32)) q7 v8 : Int32) fun r11 => xlt (xf_K_write u r6 r11 : XH) fun q12 => q12) : XH) fun v10 =>
    xlt (xf_D_d (xg_C_word v10) : Int32) fun r12 =>
    xlt (xf_C_put v10 r12 q7 : XH) fun q13 =>
    q13
  else
    xlt (xf_C_refuse u q4 : XH) fun q18 =>
    q18
set_option maxHeartbeats 4000000 in
set_option maxRecDepth 100000 in
theorem c_C_controlOp (l : Launch) (D : va_G) (z : (Nat → Nat) × (Nat → Nat)) (k : ClassId × ClassId) (a : Nat → Nat) (g : XG) (sz : Nat) (u : XH) (hg : xok k g u) (p0 : Int32) : Met l xy_C_controlOp (xk_C_controlOp :: lw_g) { frames := 2, cells := 0, slots := 0, locals := 44 } (va_Pc [.ref ((a 1)), .int p0] (xB D (xTy k) z sz (xWH k a g u))) (va_Qv (fun q : XH × XG => q.1 = xf_C_controlOp u p0 ∧ xok k q.2 q.1) (fun q t => xQ D (xTy k) (xWH k a q.2 q.1) (va_A (xWH k a g u) sz) t) (va_A (xWH k a g u) sz)) 0 0 (va_A (xWH k a g u) sz) := by
  refine xopen_v (wf := fun q : XH × XG => xWH k a q.2 q.1) (lv := [(0, .ref ((a 1))), (1, .int p0)]) (by decide) rfl (Nat.le_of_ble_eq_true rfl) ?_
  intro p e s m args below meth c Q ls A H locs hx hb hml htg hown hin hK hP hD hE hS hA hl hret
  refine lv_aload_n hx hb xd_C_controlOp_0 rfl (lv_at hl 0 rfl) ?_
  refine xget_C_word (v := (xg_C_word u)) hx hb htg hown hK hP (htg _ xw_224) rfl xd_C_controlOp_1 ?_
  refine xc0_i (va_runS (As := [.int ((xg_C_word u))]) (rest := []) ⟨hx, hb, hml, hown, htg⟩ (c_D_a l D (xTy k) z H.size (xg_C_word u)) (va_cwS 1 htg (xg_S0 xkin_D_a xw_513 xw_514 xw_13) rfl rfl rfl (by decide +kernel) ⟨Nat.le_of_ble_eq_true rfl, Nat.le_of_ble_eq_true rfl⟩) ⟨xB_blind, fun U hU hW => xB_mk va_P0 hK va_D0 hE hS (xsub0 hA hS) hU hW⟩ rfl rfl hl.1 rfl (lv_room (Nat.le_of_ble_eq_true rfl)) xd_C_controlOp_4 ⟨Nat.le_of_ble_eq_true rfl, Nat.le_of_ble_eq_true rfl⟩) hP hA hS (fun r1 H locs hr1 hP hS => ?_)
  refine lv_istore_n (lv' := [(2, .int r1), (0, .ref ((a 1))), (1, .int p0)]) hx hb xd_C_controlOp_7 rfl hl (by decide) rfl (fun ls hl => ?_)
  refine lv_aload_n hx hb xd_C_controlOp_8 rfl (lv_at hl 1 rfl) ?_
  refine xget_C_word (v := (xg_C_word u)) hx hb htg hown hK hP (htg _ xw_224) rfl xd_C_controlOp_9 ?_
  refine lv_bipush (v := 20) hx hb xd_C_controlOp_12 (by decide) ?_
  refine lv_iushr (v := (xus (xg_C_word u) (20 : Int32))) hx hb xd_C_controlOp_14 rfl ?_
  refine lv_istore_n (lv' := [(3, .int ((xus (xg_C_word u) (20 : Int32)))), (2, .int r1), (0, .ref ((a 1))), (1, .int p0)]) hx hb xd_C_controlOp_15 rfl hl (by decide) rfl (fun ls hl => ?_)
  refine lv_iload_n hx hb xd_C_controlOp_16 rfl (lv_at hl 3 rfl) ?_
  refine lv_iconst (v := 3) hx hb xd_C_controlOp_17 (by decide) ?_
  refine lv_iand hx hb xd_C_controlOp_18 ?_
  refine lv_iconst (v := 1) hx hb xd_C_controlOp_19 (by decide) ?_
  have hj3 : ∀ (H : Heap) (locs : List Loc) (ls : Array Slot) (g : XG) (v2 : Int32), v2 = (if (p0 &&& (3 : Int32)) = 1 then (1) else (if r1 = 0 then (0) else (1))) → xok k g u → lv_has ls 9 [(3, .int ((xus (xg_C_word u) (20 : Int32)))), (2, .int r1), (0, .ref ((a 1))), (1, .int p0)] → va_P D xCl (xWH k a g u) H → va_D A (xWH k a g u) → va_S A s.heap H locs → W p l e { frames := 2, cells := 0, slots := 0, locals := 44 } s m args below meth c H locs (0) (0) Q (F0 m 32 ls [.int v2]) := by
    intro H locs ls g v2 hv2 hg hl hP hD hS
    refine lv_istore (lv' := [(4, .int v2), (3, .int ((xus (xg_C_word u) (20 : Int32)))), (2, .int r1), (0, .ref ((a 1))), (1, .int p0)]) hx hb xd_C_controlOp_32 hl (by decide) rfl (fun ls hl => ?_)
    refine lv_aload_n hx hb xd_C_controlOp_34 rfl (lv_at hl 3 rfl) ?_
    refine xget_C_controls hx hb htg hown hK hP (htg _ xw_206) xd_C_controlOp_35 ?_
    refine lv_iload_n hx hb xd_C_controlOp_38 rfl (lv_at hl 1 rfl) ?_
    refine lv_iload hx hb xd_C_controlOp_39 (lv_at hl 0 rfl) ?_
    refine lv_aload_n hx hb xd_C_controlOp_41 rfl (lv_at hl 3 rfl) ?_
    refine xget_C_mode (v := (xg_C_mode u)) hx hb htg hown hK hP (htg _ xw_213) rfl xd_C_controlOp_42 ?_
    refine xcW_i (va_runV (As := [.int ((xus (xg_C_word u) (20 : Int32))), .int v2, .int ((xg_C_mode u))]) (rest := []) ⟨hx, hb, hml, hown, htg⟩ (c_K_refusal l D z k a g H.size u hg (xus (xg_C_word u) (20 : Int32)) v2 (xg_C_mode u)) (cwV 3 htg (xg_V0 xkin_K_refusal xw_664 xw_334 xsel_K_refusal xw_5) rfl rfl rfl (by decide +kernel) ⟨Nat.le_of_ble_eq_true rfl, Nat.le_of_ble_eq_true rfl⟩) ⟨xB_blind, xrecv_K hK hP, fun U hU hW => xB_mk hP hK hD hE hS (xsubW hD hA hS) hU hW⟩ rfl rfl hl.1 rfl (lv_room (Nat.le_of_ble_eq_true rfl)) xd_C_controlOp_45 ⟨Nat.le_of_ble_eq_true rfl, Nat.le_of_ble_eq_true rfl⟩) hD hA hS (fun r w1 H locs hw hP hD hS => ?_)
    obtain ⟨u1, g⟩ := w1
    obtain ⟨q4, hq4⟩ : ∃ q, q = xf_K_refusal u (xus (xg_C_word u) (20 : Int32)) v2 (xg_C_mode u) := ⟨_, rfl⟩
    obtain ⟨e1, e2, hg⟩ := hw
    rw [← hq4] at e1
    obtain rfl : q4 = r := e1.symm
    obtain rfl : u = u1 := e2.symm
    have hP : va_P D xCl (xWH k a g u) H := hP
    have hD : va_D A (xWH k a g u) := hD
    have hg : xok k g u := hg
    refine lv_istore (lv' := [(5, .int q4), (4, .int v2), (3, .int ((xus (xg_C_word u) (20 : Int32)))), (2, .int r1), (0, .ref ((a 1))), (1, .int p0)]) hx hb xd_C_controlOp_48 hl (by decide) rfl (fun ls hl => ?_)
    refine lv_iload hx hb xd_C_controlOp_50 (lv_at hl 0 rfl) ?_
    refine lv_iconst (v := (-1)) hx hb xd_C_controlOp_52 (by decide) ?_
    refine lv_icmp_eq (tgt := 63) hx hb xd_C_controlOp_53 rfl (fun h5 => ?_) (fun h5 => ?_)
    · refine lv_iload_n hx hb xd_C_controlOp_63 rfl (lv_at hl 2 rfl) ?_
      refine lv_aload_n hx hb xd_C_controlOp_64 rfl (lv_at hl 4 rfl) ?_
      refine xget_C_mode (v := (xg_C_mode u)) hx hb htg hown hK hP (htg _ xw_213) rfl xd_C_controlOp_65 ?_
      refine xc0_i (va_runS (As := [.int ((xus (xg_C_word u) (20 : Int32))), .int ((xg_C_mode u))]) (rest := []) ⟨hx, hb, hml, hown, htg⟩ (c_K_meant l D (xTy k) z H.size (xus (xg_C_word u) (20 : Int32)) (xg_C_mode u)) (va_cwS 2 htg (xg_S0 xkin_K_meant xw_665 xw_666 xw_5) rfl rfl rfl (by decide +kernel) ⟨Nat.le_of_ble_eq_true rfl, Nat.le_of_ble_eq_true rfl⟩) ⟨xB_blind, fun U hU hW => xB_mk va_P0 hK va_D0 hE hS (xsub0 hA hS) hU hW⟩ rfl rfl hl.1 rfl (lv_room (Nat.le_of_ble_eq_true rfl)) xd_C_controlOp_68 ⟨Nat.le_of_ble_eq_true rfl, Nat.le_of_ble_eq_true rfl⟩) hP hA hS (fun r6 H locs hr6 hP hS => ?_)
      refine lv_istore (lv' := [(6, .int r6), (5, .int q4), (4, .int v2), (3, .int ((xus (xg_C_word u) (20 : Int32)))), (2, .int r1), (0, .ref ((a 1))), (1, .int p0)]) hx hb xd_C_controlOp_71 hl (by decide) rfl (fun ls hl => ?_)
      refine lv_aload_n hx hb xd_C_controlOp_73 rfl (lv_at hl 5 rfl) ?_
      refine xget_C_controls hx hb htg hown hK hP (htg _ xw_206) xd_C_controlOp_74 ?_
      refine lv_iload hx hb xd_C_controlOp_77 (lv_at hl 0 rfl) ?_
      refine xcW_i (va_runV (As := [.int r6]) (rest := []) ⟨hx, hb, hml, hown, htg⟩ (c_K_tell l D z k a g H.size u hg r6) (cwV 1 htg (xg_V0 xkin_K_tell xw_668 xw_366 xsel_K_tell xw_5) rfl rfl rfl (by decide +kernel) ⟨Nat.le_of_ble_eq_true rfl, Nat.le_of_ble_eq_true rfl⟩) ⟨xB_blind, xrecv_K hK hP, fun U hU hW => xB_mk hP hK hD hE hS (xsubW hD hA hS) hU hW⟩ rfl rfl hl.1 rfl (lv_room (Nat.le_of_ble_eq_true rfl)) xd_C_controlOp_79 ⟨Nat.le_of_ble_eq_true rfl, Nat.le_of_ble_eq_true rfl⟩) hD hA hS (fun r w1 H locs hw hP hD hS => ?_)
      obtain ⟨u1, g⟩ := w1
      obtain ⟨q7, hq7⟩ : ∃ q, q = xf_K_tell u r6 := ⟨_, rfl⟩
      obtain ⟨e1, e2, hg⟩ := hw
      rw [← hq7] at e1
      obtain rfl : q7 = r := e1.symm
      obtain rfl : u = u1 := e2.symm
      have hP : va_P D xCl (xWH k a g u) H := hP
      have hD : va_D A (xWH k a g u) := hD
      have hg : xok k g u := hg
      refine lv_istore (lv' := [(7, .int q7), (6, .int r6), (5, .int q4), (4, .int v2), (3, .int ((xus (xg_C_word u) (20 : Int32)))), (2, .int r1), (0, .ref ((a 1))), (1, .int p0)]) hx hb xd_C_controlOp_82 hl (by decide) rfl (fun ls hl => ?_)
      refine lv_iload_n hx hb xd_C_controlOp_84 rfl (lv_at hl 7 rfl) ?_
      refine lv_iconst (v := 4) hx hb xd_C_controlOp_85 (by decide) ?_
      have hj9 : ∀ (H : Heap) (locs : List Loc) (ls : Array Slot) (g : XG) (v8 : Int32), v8 = (if p0 ≤ 4 then (((xg_x u) r1.toNatClampNeg)) else (r1)) → xok k g u → lv_has ls 9 [(7, .int q7), (6, .int r6), (5, .int q4), (4, .int v2), (3, .int ((xus (xg_C_word u) (20 : Int32)))), (2, .int r1), (0, .ref ((a 1))), (1, .int p0)] → va_P D xCl (xWH k a g u) H → va_D A (xWH k a g u) → va_S A s.heap H locs → W p l e { frames := 2, cells := 0, slots := 0, locals := 44 } s m args below meth c H locs (0) (0) Q (F0 m 99 ls [.int v8]) := by
        intro H locs ls g v8 hv8 hg hl hP hD hS
        refine lv_istore (lv' := [(8, .int v8), (7, .int q7), (6, .int r6), (5, .int q4), (4, .int v2), (3, .int ((xus (xg_C_word u) (20 : Int32)))), (2, .int r1), (0, .ref ((a 1))), (1, .int p0)]) hx hb xd_C_controlOp_99 hl (by decide) rfl (fun ls hl => ?_)
        refine lv_iload hx hb xd_C_controlOp_101 (lv_at hl 4 rfl) ?_
        have hj11 : ∀ (H : Heap) (locs : List Loc) (ls : Array Slot) (g : XG) (v10 : XH), v10 = (if v2 = 0 then (u) else (xlt (xf_C_changed (p0 &&& (3 : Int32)) q7 v8 : Int32) fun r11 => xlt (xf_K_write u r6 r11 : XH) fun q12 => q12)) → xok k g v10 → lv_has ls 9 [(8, .int v8), (7, .int q7), (6, .int r6), (5, .int q4), (4, .int v2), (3, .int ((xus (xg_C_word u) (20 : Int32)))), (2, .int r1), (0, .ref ((a 1))), (1, .int p0)] → va_P D xCl (xWH k a g v10) H → va_D A (xWH k a g v10) → va_S A s.heap H locs → W p l e { frames := 2, cells := 0, slots := 0, locals := 44 } s m args below meth c H locs (0) (0) Q (F0 m 125 ls []) := by
          intro H locs ls g v10 hv10 hg hl hP hD hS
          refine lv_aload_n hx hb xd_C_controlOp_125 rfl (lv_at hl 7 rfl) ?_
          refine lv_aload_n hx hb xd_C_controlOp_126 rfl (lv_at hl 7 rfl) ?_
          refine xget_C_word (v := (xg_C_word v10)) hx hb htg hown hK hP (htg _ xw_224) rfl xd_C_controlOp_127 ?_
          refine xc0_i (va_runS (As := [.int ((xg_C_word v10))]) (rest := [.ref ((a 1))]) ⟨hx, hb, hml, hown, htg⟩ (c_D_d l D (xTy k) z H.size (xg_C_word v10)) (va_cwS 1 htg (xg_S0 xkin_D_d xw_529 xw_530 xw_13) rfl rfl rfl (by decide +kernel) ⟨Nat.le_of_ble_eq_true rfl, Nat.le_of_ble_eq_true rfl⟩) ⟨xB_blind, fun U hU hW => xB_mk va_P0 hK va_D0 hE hS (xsub0 hA hS) hU hW⟩ rfl rfl hl.1 rfl (lv_room (Nat.le_of_ble_eq_true rfl)) xd_C_controlOp_130 ⟨Nat.le_of_ble_eq_true rfl, Nat.le_of_ble_eq_true rfl⟩) hP hA hS (fun r12 H locs hr12 hP hS => ?_)
          refine lv_iload hx hb xd_C_controlOp_133 (lv_at hl 1 rfl) ?_
          refine xcW_v (va_runV (As := [.int r12, .int q7]) (rest := []) ⟨hx, hb, hml, hown, htg⟩ (c_C_put l D z k a g H.size v10 hg r12 q7 (xin_eq hr12 (xin_d _))) (cwV 2 htg (xg_V0 xkin_C_put xw_533 xw_322 xsel_C_put xw_2) rfl rfl rfl (by decide +kernel) ⟨Nat.le_of_ble_eq_true rfl, Nat.le_of_ble_eq_true rfl⟩) ⟨xB_blind, xrecv_C hK hP, fun U hU hW => xB_mk hP hK hD hE hS (xsubW hD hA hS) hU hW⟩ rfl rfl hl.1 rfl (lv_room (Nat.le_of_ble_eq_true rfl)) xd_C_controlOp_135 ⟨Nat.le_of_ble_eq_true rfl, Nat.le_of_ble_eq_true rfl⟩) hD hA hS (fun w1 H locs hw hP hD hS => ?_)
          obtain ⟨u1, g⟩ := w1
          obtain ⟨q13, hq13⟩ : ∃ q, q = xf_C_put v10 r12 q7 := ⟨_, rfl⟩
          obtain ⟨e2, hg⟩ := hw
          rw [← hq13] at e2
          obtain rfl : q13 = u1 := e2.symm
          have hP : va_P D xCl (xWH k a g q13) H := hP
          have hD : va_D A (xWH k a g q13) := hD
          have hg : xok k g q13 := hg
          exact hret (q13, g) H locs ls _ ⟨(by unfold xf_C_controlOp; exact (xlt_e hr1 (xlt_e hv2 (xlt_e hq4 (xit h5 (xlt_e hr6 (xlt_e hq7 (xlt_e hv8 (xlt_e hv10 (xlt_e hr12 (xlt_e hq13 rfl))))))))))), hg⟩ hP hD hS xd_C_controlOp_138
        refine lv_if_eq (tgt := 125) hx hb xd_C_controlOp_103 rfl (fun h14 => ?_) (fun h14 => ?_)
        · exact hj11 H locs ls g u (xit h14 rfl) hg hl hP hD hS
        · refine lv_aload_n hx hb xd_C_controlOp_106 rfl (lv_at hl 7 rfl) ?_
          refine xget_C_controls hx hb htg hown hK hP (htg _ xw_206) xd_C_controlOp_107 ?_
          refine lv_iload hx hb xd_C_controlOp_110 (lv_at hl 2 rfl) ?_
          refine lv_iload_n hx hb xd_C_controlOp_112 rfl (lv_at hl 8 rfl) ?_
          refine lv_iconst (v := 3) hx hb xd_C_controlOp_113 (by decide) ?_
          refine lv_iand hx hb xd_C_controlOp_114 ?_
          refine lv_iload hx hb xd_C_controlOp_115 (lv_at hl 1 rfl) ?_
          refine lv_iload hx hb xd_C_controlOp_117 (lv_at hl 0 rfl) ?_
          refine xc0_i (va_runS (As := [.int ((p0 &&& (3 : Int32))), .int q7, .int v8]) (rest := [.int r6, .ref ((a 4))]) ⟨hx, hb, hml, hown, htg⟩ (c_C_changed l D (xTy k) z H.size (p0 &&& (3 : Int32)) q7 v8) (va_cwS 3 htg (xg_S0 xkin_C_changed xw_669 xw_670 xw_2) rfl rfl rfl (by decide +kernel) ⟨Nat.le_of_ble_eq_true rfl, Nat.le_of_ble_eq_true rfl⟩) ⟨xB_blind, fun U hU hW => xB_mk va_P0 hK va_D0 hE hS (xsub0 hA hS) hU hW⟩ rfl rfl hl.1 rfl (lv_room (Nat.le_of_ble_eq_true rfl)) xd_C_controlOp_119 ⟨Nat.le_of_ble_eq_true rfl, Nat.le_of_ble_eq_true rfl⟩) hP hA hS (fun r15 H locs hr15 hP hS => ?_)
          refine xcW_v (va_runV (As := [.int r6, .int r15]) (rest := []) ⟨hx, hb, hml, hown, htg⟩ (c_K_write l D z k a g H.size u hg r6 r15) (cwV 2 htg (xg_V0 xkin_K_write xw_672 xw_345 xsel_K_write xw_5) rfl rfl rfl (by decide +kernel) ⟨Nat.le_of_ble_eq_true rfl, Nat.le_of_ble_eq_true rfl⟩) ⟨xB_blind, xrecv_K hK hP, fun U hU hW => xB_mk hP hK hD hE hS (xsubW hD hA hS) hU hW⟩ rfl rfl hl.1 rfl (lv_room (Nat.le_of_ble_eq_true rfl)) xd_C_controlOp_122 ⟨Nat.le_of_ble_eq_true rfl, Nat.le_of_ble_eq_true rfl⟩) hD hA hS (fun w1 H locs hw hP hD hS => ?_)
          obtain ⟨u1, g⟩ := w1
          obtain ⟨q16, hq16⟩ : ∃ q, q = xf_K_write u r6 r15 := ⟨_, rfl⟩
          obtain ⟨e2, hg⟩ := hw
          rw [← hq16] at e2
          obtain rfl : q16 = u1 := e2.symm
          have hP : va_P D xCl (xWH k a g q16) H := hP
          have hD : va_D A (xWH k a g q16) := hD
          have hg : xok k g q16 := hg
          exact hj11 H locs ls g q16 (xif h14 (xlt_e hr15 (xlt_e hq16 rfl))) hg hl hP hD hS
      refine lv_icmp_le (tgt := 93) hx hb xd_C_controlOp_86 rfl (fun h17 => ?_) (fun h17 => ?_)
      · refine lv_aload_n hx hb xd_C_controlOp_93 rfl (lv_at hl 6 rfl) ?_
        refine xget_C_x hx hb htg hown hK hP (htg _ xw_199) xd_C_controlOp_94 ?_
        refine lv_iload_n hx hb xd_C_controlOp_97 rfl (lv_at hl 5 rfl) ?_
        refine xald_x (f := (xg_x u)) hx hb hK hP (xin_eq hr1 (xin_a _)) rfl xd_C_controlOp_98 ?_
        exact hj9 H locs ls g ((xg_x u) r1.toNatClampNeg) (xit h17 rfl) hg hl hP hD hS
      · refine lv_iload_n hx hb xd_C_controlOp_89 rfl (lv_at hl 5 rfl) ?_
        refine lv_goto (tgt := 99) hx hb xd_C_controlOp_90 rfl ?_
        exact hj9 H locs ls g r1 (xif h17 rfl) hg hl hP hD hS
    · refine lv_aload_n hx hb xd_C_controlOp_56 rfl (lv_at hl 4 rfl) ?_
      refine lv_iload hx hb xd_C_controlOp_57 (lv_at hl 0 rfl) ?_
      refine xcW_v (va_runV (As := [.int q4]) (rest := []) ⟨hx, hb, hml, hown, htg⟩ (c_C_refuse l D z k a g H.size u hg q4) (cwV 1 htg (xg_V0 xkin_C_refuse xw_509 xw_511 xsel_C_refuse xw_2) rfl rfl rfl (by decide +kernel) ⟨Nat.le_of_ble_eq_true rfl, Nat.le_of_ble_eq_true rfl⟩) ⟨xB_blind, xrecv_C hK hP, fun U hU hW => xB_mk hP hK hD hE hS (xsubW hD hA hS) hU hW⟩ rfl rfl hl.1 rfl (lv_room (Nat.le_of_ble_eq_true rfl)) xd_C_controlOp_59 ⟨Nat.le_of_ble_eq_true rfl, Nat.le_of_ble_eq_true rfl⟩) hD hA hS (fun w1 H locs hw hP hD hS => ?_)
      obtain ⟨u1, g⟩ := w1
      obtain ⟨q18, hq18⟩ : ∃ q, q = xf_C_refuse u q4 := ⟨_, rfl⟩
      obtain ⟨e2, hg⟩ := hw
      rw [← hq18] at e2
      obtain rfl : q18 = u1 := e2.symm
      have hP : va_P D xCl (xWH k a g q18) H := hP
      have hD : va_D A (xWH k a g q18) := hD
      have hg : xok k g q18 := hg
      exact hret (q18, g) H locs ls _ ⟨(by unfold xf_C_controlOp; exact (xlt_e hr1 (xlt_e hv2 (xlt_e hq4 (xif h5 (xlt_e hq18 rfl)))))), hg⟩ hP hD hS xd_C_controlOp_62
  refine lv_icmp_eq (tgt := 27) hx hb xd_C_controlOp_20 rfl (fun h19 => ?_) (fun h19 => ?_)
  · refine lv_iconst (v := 1) hx hb xd_C_controlOp_27 (by decide) ?_
    refine lv_goto (tgt := 32) hx hb xd_C_controlOp_28 rfl ?_
    exact hj3 H locs ls g (1 : Int32) (xit h19 rfl) hg hl hP hD hS
  · refine lv_iload_n hx hb xd_C_controlOp_23 rfl (lv_at hl 1 rfl) ?_
    refine lv_if_eq (tgt := 31) hx hb xd_C_controlOp_24 rfl (fun h20 => ?_) (fun h20 => ?_)
    · refine lv_iconst (v := 0) hx hb xd_C_controlOp_31 (by decide) ?_
      exact hj3 H locs ls g (0 : Int32) (xif h19 (xit h20 rfl)) hg hl hP hD hS
    · refine lv_iconst (v := 1) hx hb xd_C_controlOp_27 (by decide) ?_
      refine lv_goto (tgt := 32) hx hb xd_C_controlOp_28 rfl ?_
      exact hj3 H locs ls g (1 : Int32) (xif h19 (xif h20 rfl)) hg hl hP hD hS

noncomputable def xf_H_setControl (u : XH) (p0 : Int32) (p1 : Int32) : Int32 × XH :=
  xlt (xf_K_refusal u p0 (1 : Int32) (1 : Int32) : Int32) fun q1 =>
  if q1 = (-1) then
    xlt (xf_K_write u p0 p1 : XH) fun q3 =>
    (0, q3)
  else
    ((-1), u)
set_option maxHeartbeats 4000000 in
set_option maxRecDepth 100000 in
theorem c_H_setControl (l : Launch) (D : va_G) (z : (Nat → Nat) × (Nat → Nat)) (k : ClassId × ClassId) (a : Nat → Nat) (g : XG) (sz : Nat) (u : XH) (hg : xok k g u) (p0 : Int32) (p1 : Int32) : Met l xy_H_setControl (xk_H_setControl :: lw_g) { frames := 2, cells := 0, slots := 0, locals := 44 } (va_Pc [.ref ((a 0)), .int p0, .int p1] (xB D (xTy k) z sz (xWH k a g u))) (va_Qi (fun r (q : XH × XG) => (r, q.1) = xf_H_setControl u p0 p1 ∧ xok k q.2 q.1) (fun q t => xQ D (xTy k) (xWH k a q.2 q.1) (va_A (xWH k a g u) sz) t) (va_A (xWH k a g u) sz)) 0 0 (va_A (xWH k a g u) sz) := by
  refine xopen_i (wf := fun q : XH × XG => xWH k a q.2 q.1) (lv := [(0, .ref ((a 0))), (1, .int p0), (2, .int p1)]) (by decide) rfl (Nat.le_of_ble_eq_true rfl) ?_
  intro p e s m args below meth c Q ls A H locs hx hb hml htg hown hin hK hP hD hE hS hA hl hret
  refine lv_aload_n hx hb xd_H_setControl_0 rfl (lv_at hl 0 rfl) ?_
  refine xget_H_core hx hb htg hown hK hP (htg _ xw_277) xd_H_setControl_1 ?_
  refine xget_C_controls hx hb htg hown hK hP (htg _ xw_207) xd_H_setControl_4 ?_
  refine lv_iload_n hx hb xd_H_setControl_7 rfl (lv_at hl 1 rfl) ?_
  refine lv_iconst (v := 1) hx hb xd_H_setControl_8 (by decide) ?_
  refine lv_iconst (v := 1) hx hb xd_H_setControl_9 (by decide) ?_
  refine xcW_i (va_runV (As := [.int p0, .int 1, .int 1]) (rest := []) ⟨hx, hb, hml, hown, htg⟩ (c_K_refusal l D z k a g H.size u hg p0 (1 : Int32) (1 : Int32)) (cwV 3 htg (xg_V0 xkin_K_refusal xw_333 xw_334 xsel_K_refusal xw_5) rfl rfl rfl (by decide +kernel) ⟨Nat.le_of_ble_eq_true rfl, Nat.le_of_ble_eq_true rfl⟩) ⟨xB_blind, xrecv_K hK hP, fun U hU hW => xB_mk hP hK hD hE hS (xsubW hD hA hS) hU hW⟩ rfl rfl hl.1 rfl (lv_room (Nat.le_of_ble_eq_true rfl)) xd_H_setControl_10 ⟨Nat.le_of_ble_eq_true rfl, Nat.le_of_ble_eq_true rfl⟩) hD hA hS (fun r w1 H locs hw hP hD hS => ?_)
  obtain ⟨u1, g⟩ := w1
  obtain ⟨q1, hq1⟩ : ∃ q, q = xf_K_refusal u p0 (1 : Int32) (1 : Int32) := ⟨_, rfl⟩
  obtain ⟨e1, e2, hg⟩ := hw
  rw [← hq1] at e1
  obtain rfl : q1 = r := e1.symm
  obtain rfl : u = u1 := e2.symm
  have hP : va_P D xCl (xWH k a g u) H := hP
  have hD : va_D A (xWH k a g u) := hD
  have hg : xok k g u := hg
  refine lv_iconst (v := (-1)) hx hb xd_H_setControl_13 (by decide) ?_
  refine lv_icmp_eq (tgt := 19) hx hb xd_H_setControl_14 rfl (fun h2 => ?_) (fun h2 => ?_)
  · refine lv_aload_n hx hb xd_H_setControl_19 rfl (lv_at hl 0 rfl) ?_
    refine xget_H_core hx hb htg hown hK hP (htg _ xw_277) xd_H_setControl_20 ?_
    refine xget_C_controls hx hb htg hown hK hP (htg _ xw_207) xd_H_setControl_23 ?_
    refine lv_iload_n hx hb xd_H_setControl_26 rfl (lv_at hl 1 rfl) ?_
    refine lv_iload_n hx hb xd_H_setControl_27 rfl (lv_at hl 2 rfl) ?_
    refine xcW_v (va_runV (As := [.int p0, .int p1]) (rest := []) ⟨hx, hb, hml, hown, htg⟩ (c_K_write l D z k a g H.size u hg p0 p1) (cwV 2 htg (xg_V0 xkin_K_write xw_344 xw_345 xsel_K_write xw_5) rfl rfl rfl (by decide +kernel) ⟨Nat.le_of_ble_eq_true rfl, Nat.le_of_ble_eq_true rfl⟩) ⟨xB_blind, xrecv_K hK hP, fun U hU hW => xB_mk hP hK hD hE hS (xsubW hD hA hS) hU hW⟩ rfl rfl hl.1 rfl (lv_room (Nat.le_of_ble_eq_true rfl)) xd_H_setControl_28 ⟨Nat.le_of_ble_eq_true rfl, Nat.le_of_ble_eq_true rfl⟩) hD hA hS (fun w1 H locs hw hP hD hS => ?_)
    obtain ⟨u1, g⟩ := w1
    obtain ⟨q3, hq3⟩ : ∃ q, q = xf_K_write u p0 p1 := ⟨_, rfl⟩
    obtain ⟨e2, hg⟩ := hw
    rw [← hq3] at e2
    obtain rfl : q3 = u1 := e2.symm
    have hP : va_P D xCl (xWH k a g q3) H := hP
    have hD : va_D A (xWH k a g q3) := hD
    have hg : xok k g q3 := hg
    refine lv_iconst (v := 0) hx hb xd_H_setControl_31 (by decide) ?_
    exact hret _ (q3, g) H locs ls _ ⟨(by unfold xf_H_setControl; exact (xlt_e hq1 (xit h2 (xlt_e hq3 rfl)))), hg⟩ hP hD hS xd_H_setControl_32
  · refine lv_iconst (v := (-1)) hx hb xd_H_setControl_17 (by decide) ?_
    exact hret _ (u, g) H locs ls _ ⟨(by unfold xf_H_setControl; exact (xlt_e hq1 (xif h2 rfl))), hg⟩ hP hD hS xd_H_setControl_18

noncomputable def xf_H_control (u : XH) (p0 : Int32) : Int32 :=
  xlt (xf_K_tell u p0 : Int32) fun q1 =>
  q1
set_option maxHeartbeats 4000000 in
set_option maxRecDepth 100000 in
theorem c_H_control (l : Launch) (D : va_G) (z : (Nat → Nat) × (Nat → Nat)) (k : ClassId × ClassId) (a : Nat → Nat) (g : XG) (sz : Nat) (u : XH) (hg : xok k g u) (p0 : Int32) : Met l xy_H_control (xk_H_control :: lw_g) { frames := 2, cells := 0, slots := 0, locals := 42 } (va_Pc [.ref ((a 0)), .int p0] (xB D (xTy k) z sz (xWH k a g u))) (va_Qi (fun r (q : XH × XG) => r = xf_H_control u p0 ∧ q.1 = u ∧ xok k q.2 q.1) (fun q t => xQ D (xTy k) (xWH k a q.2 q.1) (va_A (xWH k a g u) sz) t) (va_A (xWH k a g u) sz)) 0 0 (va_A (xWH k a g u) sz) := by
  refine xopen_i (wf := fun q : XH × XG => xWH k a q.2 q.1) (lv := [(0, .ref ((a 0))), (1, .int p0)]) (by decide) rfl (Nat.le_of_ble_eq_true rfl) ?_
  intro p e s m args below meth c Q ls A H locs hx hb hml htg hown hin hK hP hD hE hS hA hl hret
  refine lv_aload_n hx hb xd_H_control_0 rfl (lv_at hl 0 rfl) ?_
  refine xget_H_core hx hb htg hown hK hP (htg _ xw_277) xd_H_control_1 ?_
  refine xget_C_controls hx hb htg hown hK hP (htg _ xw_207) xd_H_control_4 ?_
  refine lv_iload_n hx hb xd_H_control_7 rfl (lv_at hl 1 rfl) ?_
  refine xcW_i (va_runV (As := [.int p0]) (rest := []) ⟨hx, hb, hml, hown, htg⟩ (c_K_tell l D z k a g H.size u hg p0) (cwV 1 htg (xg_V0 xkin_K_tell xw_365 xw_366 xsel_K_tell xw_5) rfl rfl rfl (by decide +kernel) ⟨Nat.le_of_ble_eq_true rfl, Nat.le_of_ble_eq_true rfl⟩) ⟨xB_blind, xrecv_K hK hP, fun U hU hW => xB_mk hP hK hD hE hS (xsubW hD hA hS) hU hW⟩ rfl rfl hl.1 rfl (lv_room (Nat.le_of_ble_eq_true rfl)) xd_H_control_8 ⟨Nat.le_of_ble_eq_true rfl, Nat.le_of_ble_eq_true rfl⟩) hD hA hS (fun r w1 H locs hw hP hD hS => ?_)
  obtain ⟨u1, g⟩ := w1
  obtain ⟨q1, hq1⟩ : ∃ q, q = xf_K_tell u p0 := ⟨_, rfl⟩
  obtain ⟨e1, e2, hg⟩ := hw
  rw [← hq1] at e1
  obtain rfl : q1 = r := e1.symm
  obtain rfl : u = u1 := e2.symm
  have hP : va_P D xCl (xWH k a g u) H := hP
  have hD : va_D A (xWH k a g u) := hD
  have hg : xok k g u := hg
  exact hret _ (u, g) H locs ls _ ⟨(by unfold xf_H_control; exact (xlt_e hq1 rfl)), rfl, hg⟩ hP hD hS xd_H_control_11

noncomputable def xf_T_translate (u : XH) (p0 : Int32) (p1 : Int32) (p2 : Nat) (p3 : Int32) : Int32 × XH :=
  if (p0 &&& (((1 : Int32) <<< (p1 &&& 31)) - (1 : Int32))) = 0 then
    xlt (xf_H_isVirtual p3 : Int32) fun r2 =>
    if r2 = 0 then
      xlt (if (((xg_S_status u) ||| (xg_S_status u)) &&& (524288 : Int32)) = 0 then (0) else (1) : Int32) fun v4 =>
      xlt (xf_A_anyWith p2 v4 : Int32) fun q6 =>
      xlt (xf_H_isSupervisor p3 : Int32) fun r7 =>
      xlt (if r7 = 0 then (((List.getD [65, 65, 65, 193] p2 0) ||| (16 : Int32))) else ((List.getD [65, 65, 65, 193] p2 0)) : Int32) fun v8 =>
      xlt (if p2 = 0 then (0) else (if ((xg_S_status u) &&& (262144 : Int32)) = 0 then (0) else (1)) : Int32) fun v10 =>
      xlt (xf_H_isSupervisor p3 : Int32) fun r12 =>
      xlt (if r12 = 0 then (0) else (if v10 = 0 then (16) else (0)) : Int32) fun v13 =>
      xlt (if r2 = 0 then (xlt (xf_T_walk u (xg_S_atp u) ((Int32.toInt64 p0) &&& (4294967295 : Int64)) q6 v8 v13 : Int64 × XH) fun q16 => q16.1) else (xlt (xf_T_firstStage u ((Int32.toInt64 p0) &&& (4294967295 : Int64)) q6 v8 v13 : Int64 × XH) fun q17 => q17.1) : Int64) fun v15 =>
      xlt (if r2 = 0 then (xlt (xf_T_walk u (xg_S_atp u) ((Int32.toInt64 p0) &&& (4294967295 : Int64)) q6 v8 v13 : Int64 × XH) fun q16 => q16.2) else (xlt (xf_T_firstStage u ((Int32.toInt64 p0) &&& (4294967295 : Int64)) q6 v8 v13 : Int64 × XH) fun q17 => q17.2) : XH) fun v16 =>
      xlt (if r2 = 0 then (v15) else (if (lg_cmp v15 (0 : Int64)) < 0 then (v15) else (xlt (xf_T_secondStage v16 v15 p2 : Int64 × XH) fun q20 => q20.1)) : Int64) fun v18 =>
      xlt (if r2 = 0 then (v16) else (if (lg_cmp v15 (0 : Int64)) < 0 then (v16) else (xlt (xf_T_secondStage v16 v15 p2 : Int64 × XH) fun q20 => q20.2)) : XH) fun v19 =>
      xlt (if 0 ≤ (lg_cmp v18 (0 : Int64)) then (v19) else (xlt (xf_A_causeOf p2 v18 : Int32) fun q22 => xlt (xf_P_raise v19 q22 p0 : XH) fun q23 => q23) : XH) fun v21 =>
      ((Int64.toInt32 v18), v21)
    else
      xlt (if (((xg_V_status u) ||| (xg_S_status u)) &&& (524288 : Int32)) = 0 then (0) else (1) : Int32) fun v38 =>
      xlt (xf_A_anyWith p2 v38 : Int32) fun q40 =>
      xlt (xf_H_isSupervisor p3 : Int32) fun r41 =>
      xlt (if r41 = 0 then (((List.getD [65, 65, 65, 193] p2 0) ||| (16 : Int32))) else ((List.getD [65, 65, 65, 193] p2 0)) : Int32) fun v42 =>
      xlt (if p2 = 0 then (0) else (if ((xg_V_status u) &&& (262144 : Int32)) = 0 then (0) else (1)) : Int32) fun v44 =>
      xlt (xf_H_isSupervisor p3 : Int32) fun r46 =>
      xlt (if r46 = 0 then (0) else (if v44 = 0 then (16) else (0)) : Int32) fun v47 =>
      xlt (if r2 = 0 then (xlt (xf_T_walk u (xg_V_atp u) ((Int32.toInt64 p0) &&& (4294967295 : Int64)) q40 v42 v47 : Int64 × XH) fun q50 => q50.1) else (xlt (xf_T_firstStage u ((Int32.toInt64 p0) &&& (4294967295 : Int64)) q40 v42 v47 : Int64 × XH) fun q51 => q51.1) : Int64) fun v49 =>
      xlt (if r2 = 0 then (xlt (xf_T_walk u (xg_V_atp u) ((Int32.toInt64 p0) &&& (4294967295 : Int64)) q40 v42 v47 : Int64 × XH) fun q50 => q50.2) else (xlt (xf_T_firstStage u ((Int32.toInt64 p0) &&& (4294967295 : Int64)) q40 v42 v47 : Int64 × XH) fun q51 => q51.2) : XH) fun v50 =>
      xlt (if r2 = 0 then (v49) else (if (lg_cmp v49 (0 : Int64)) < 0 then (v49) else (xlt (xf_T_secondStage v50 v49 p2 : Int64 × XH) fun q54 => q54.1)) : Int64) fun v52 =>
      xlt (if r2 = 0 then (v50) else (if (lg_cmp v49 (0 : Int64)) < 0 then (v50) else (xlt (xf_T_secondStage v50 v49 p2 : Int64 × XH) fun q54 => q54.2)) : XH) fun v53 =>
      xlt (if 0 ≤ (lg_cmp v52 (0 : Int64)) then (v53) else (xlt (xf_A_causeOf p2 v52 : Int32) fun q56 => xlt (xf_P_raise v53 q56 p0 : XH) fun q57 => q57) : XH) fun v55 =>
      ((Int64.toInt32 v52), v55)
  else
    xlt (xf_P_raise u (List.getD [0, 4, 4, 6] p2 0) p0 : XH) fun q72 =>
    ((-1), q72)
set_option maxHeartbeats 4000000 in
set_option maxRecDepth 100000 in
theorem c_T_translate (l : Launch) (D : va_G) (z : (Nat → Nat) × (Nat → Nat)) (k : ClassId × ClassId) (a : Nat → Nat) (g : XG) (sz : Nat) (u : XH) (hg : xok k g u) (p0 : Int32) (p1 : Int32) (p2 : Nat) (p3 : Int32) (hac : p2 < 4) : Met l xy_T_translate (xk_T_translate :: lw_g) { frames := 3, cells := 0, slots := 0, locals := 87 } (va_Pc [.ref ((a 3)), .int p0, .int p1, .ref ((z.1 p2)), .int p3] (xB D (xTy k) z sz (xWH k a g u))) (va_Qi (fun r (q : XH × XG) => (r, q.1) = xf_T_translate u p0 p1 p2 p3 ∧ xok k q.2 q.1) (fun q t => xQ D (xTy k) (xWH k a q.2 q.1) (va_A (xWH k a g u) sz) t) (va_A (xWH k a g u) sz)) 0 0 (va_A (xWH k a g u) sz) := by
  refine xopen_i (wf := fun q : XH × XG => xWH k a q.2 q.1) (lv := [(0, .ref ((a 3))), (1, .int p0), (2, .int p1), (3, .ref ((z.1 p2))), (4, .int p3)]) (by decide) rfl (Nat.le_of_ble_eq_true rfl) ?_
  intro p e s m args below meth c Q ls A H locs hx hb hml htg hown hin hK hP hD hE hS hA hl hret
  refine lv_iload_n hx hb xd_T_translate_0 rfl (lv_at hl 1 rfl) ?_
  refine lv_iconst (v := 1) hx hb xd_T_translate_1 (by decide) ?_
  refine lv_iload_n hx hb xd_T_translate_2 rfl (lv_at hl 2 rfl) ?_
  refine lv_ishl hx hb xd_T_translate_3 ?_
  refine lv_iconst (v := 1) hx hb xd_T_translate_4 (by decide) ?_
  refine lv_isub hx hb xd_T_translate_5 ?_
  refine lv_iand hx hb xd_T_translate_6 ?_
  refine lv_if_eq (tgt := 24) hx hb xd_T_translate_7 rfl (fun h1 => ?_) (fun h1 => ?_)
  · refine lv_iload hx hb xd_T_translate_24 (lv_at hl 4 rfl) ?_
    refine xc0_i (va_runSN (As := [.int p3]) (rest := []) ⟨hx, hb, hml, hown, htg⟩ (c_H_isVirtual l D (xTy k) z H.size p3) ⟨va_cnB (host := "HyperHost") 1 htg (xg_C0 xkin_H_isVirtual) rfl rfl rfl (xnest hE (by decide +kernel)) (htg _ xw_1) (by decide +kernel) ⟨Nat.le_of_ble_eq_true rfl, Nat.le_of_ble_eq_true rfl⟩, htg _ xw_427, trivial⟩ ⟨xB_blind, fun U hU hW => xB_mk va_P0 hK va_D0 hE hS (xsub0 hA hS) hU hW⟩ rfl rfl hl.1 rfl (lv_room (Nat.le_of_ble_eq_true rfl)) xd_T_translate_26 ⟨Nat.le_of_ble_eq_true rfl, Nat.le_of_ble_eq_true rfl⟩) hP hA hS (fun r2 H locs hr2 hP hS => ?_)
    refine lv_istore (lv' := [(5, .int r2), (0, .ref ((a 3))), (1, .int p0), (2, .int p1), (3, .ref ((z.1 p2))), (4, .int p3)]) hx hb xd_T_translate_29 hl (by decide) rfl (fun ls hl => ?_)
    refine lv_iload hx hb xd_T_translate_31 (lv_at hl 0 rfl) ?_
    refine lv_if_eq (tgt := 46) hx hb xd_T_translate_33 rfl (fun h3 => ?_) (fun h3 => ?_)
    · refine lv_aload_n hx hb xd_T_translate_46 rfl (lv_at hl 1 rfl) ?_
      refine xget_T_controls hx hb htg hown hK hP (htg _ xw_188) xd_T_translate_47 ?_
      refine xget_K_s hx hb htg hown hK hP (htg _ xw_101) xd_T_translate_50 ?_
      refine lv_astore (lv' := [(6, .ref ((a 5))), (5, .int r2), (0, .ref ((a 3))), (1, .int p0), (2, .int p1), (3, .ref ((z.1 p2))), (4, .int p3)]) hx hb xd_T_translate_53 hl (by decide) rfl (fun ls hl => ?_)
      refine lv_aload_n hx hb xd_T_translate_55 rfl (lv_at hl 5 rfl) ?_
      refine lv_aload hx hb xd_T_translate_56 (lv_at hl 0 rfl) ?_
      refine xget_S_status (v := (xg_S_status u)) hx hb htg hown hK hP (htg _ xw_67) rfl xd_T_translate_58 ?_
      refine lv_aload_n hx hb xd_T_translate_61 rfl (lv_at hl 2 rfl) ?_
      refine xget_T_controls hx hb htg hown hK hP (htg _ xw_188) xd_T_translate_62 ?_
      refine xget_K_s hx hb htg hown hK hP (htg _ xw_101) xd_T_translate_65 ?_
      refine xget_S_status (v := (xg_S_status u)) hx hb htg hown hK hP (htg _ xw_67) rfl xd_T_translate_68 ?_
      refine lv_ior hx hb xd_T_translate_71 ?_
      refine lv_ldc (v := 524288) hx hb hown (htg _ xw_429) xd_T_translate_72 ?_
      refine lv_iand hx hb xd_T_translate_74 ?_
      have hj5 : ∀ (H : Heap) (locs : List Loc) (ls : Array Slot) (g : XG) (v4 : Int32), v4 = (if (((xg_S_status u) ||| (xg_S_status u)) &&& (524288 : Int32)) = 0 then (0) else (1)) → xok k g u → lv_has ls 15 [(6, .ref ((a 5))), (5, .int r2), (0, .ref ((a 3))), (1, .int p0), (2, .int p1), (3, .ref ((z.1 p2))), (4, .int p3)] → va_P D xCl (xWH k a g u) H → va_D A (xWH k a g u) → va_S A s.heap H locs → W p l e { frames := 3, cells := 0, slots := 0, locals := 87 } s m args below meth c H locs (0) (0) Q (F0 m 83 ls [.int v4, .ref ((z.1 p2))]) := by
        intro H locs ls g v4 hv4 hg hl hP hD hS
        refine xc0_i (va_runV (As := [.int v4]) (rest := []) ⟨hx, hb, hml, hown, htg⟩ (c_A_anyWith l D (xTy k) z H.size p2 hac v4) (cwV 1 htg (xg_V0 xkin_A_anyWith xw_430 xw_431 xsel_A_anyWith xw_12) rfl rfl rfl (by decide +kernel) ⟨Nat.le_of_ble_eq_true rfl, Nat.le_of_ble_eq_true rfl⟩) ⟨xB_blind, va_recvE hE.1 hac hS, fun U hU hW => xB_mk va_P0 hK va_D0 hE hS (xsub0 hA hS) hU hW⟩ rfl rfl hl.1 rfl (lv_room (Nat.le_of_ble_eq_true rfl)) xd_T_translate_83 ⟨Nat.le_of_ble_eq_true rfl, Nat.le_of_ble_eq_true rfl⟩) hP hA hS (fun q6 H locs hq6 hP hS => ?_)
        refine lv_istore (lv' := [(7, .int q6), (6, .ref ((a 5))), (5, .int r2), (0, .ref ((a 3))), (1, .int p0), (2, .int p1), (3, .ref ((z.1 p2))), (4, .int p3)]) hx hb xd_T_translate_86 hl (by decide) rfl (fun ls hl => ?_)
        refine lv_iload hx hb xd_T_translate_88 (lv_at hl 7 rfl) ?_
        refine xc0_i (va_runSN (As := [.int p3]) (rest := []) ⟨hx, hb, hml, hown, htg⟩ (c_H_isSupervisor l D (xTy k) z H.size p3) ⟨va_cnB (host := "HyperHost") 1 htg (xg_C0 xkin_H_isSupervisor) rfl rfl rfl (xnest hE (by decide +kernel)) (htg _ xw_1) (by decide +kernel) ⟨Nat.le_of_ble_eq_true rfl, Nat.le_of_ble_eq_true rfl⟩, htg _ xw_437, trivial⟩ ⟨xB_blind, fun U hU hW => xB_mk va_P0 hK va_D0 hE hS (xsub0 hA hS) hU hW⟩ rfl rfl hl.1 rfl (lv_room (Nat.le_of_ble_eq_true rfl)) xd_T_translate_90 ⟨Nat.le_of_ble_eq_true rfl, Nat.le_of_ble_eq_true rfl⟩) hP hA hS (fun r7 H locs hr7 hP hS => ?_)
        have hj9 : ∀ (H : Heap) (locs : List Loc) (ls : Array Slot) (g : XG) (v8 : Int32), v8 = (if r7 = 0 then (((List.getD [65, 65, 65, 193] p2 0) ||| (16 : Int32))) else ((List.getD [65, 65, 65, 193] p2 0))) → xok k g u → lv_has ls 15 [(7, .int q6), (6, .ref ((a 5))), (5, .int r2), (0, .ref ((a 3))), (1, .int p0), (2, .int p1), (3, .ref ((z.1 p2))), (4, .int p3)] → va_P D xCl (xWH k a g u) H → va_D A (xWH k a g u) → va_S A s.heap H locs → W p l e { frames := 3, cells := 0, slots := 0, locals := 87 } s m args below meth c H locs (0) (0) Q (F0 m 110 ls [.int v8]) := by
          intro H locs ls g v8 hv8 hg hl hP hD hS
          refine lv_istore (lv' := [(8, .int v8), (7, .int q6), (6, .ref ((a 5))), (5, .int r2), (0, .ref ((a 3))), (1, .int p0), (2, .int p1), (3, .ref ((z.1 p2))), (4, .int p3)]) hx hb xd_T_translate_110 hl (by decide) rfl (fun ls hl => ?_)
          refine lv_aload_n hx hb xd_T_translate_112 rfl (lv_at hl 7 rfl) ?_
          refine va_gets hx hb (hE.1.1 0 (by decide)).1 hS hown (htg _ xw_439) (fun _ h9 => h9) xd_T_translate_113 ?_
          have hj11 : ∀ (H : Heap) (locs : List Loc) (ls : Array Slot) (g : XG) (v10 : Int32), v10 = (if p2 = 0 then (0) else (if ((xg_S_status u) &&& (262144 : Int32)) = 0 then (0) else (1))) → xok k g u → lv_has ls 15 [(8, .int v8), (7, .int q6), (6, .ref ((a 5))), (5, .int r2), (0, .ref ((a 3))), (1, .int p0), (2, .int p1), (3, .ref ((z.1 p2))), (4, .int p3)] → va_P D xCl (xWH k a g u) H → va_D A (xWH k a g u) → va_S A s.heap H locs → W p l e { frames := 3, cells := 0, slots := 0, locals := 87 } s m args below meth c H locs (0) (0) Q (F0 m 135 ls [.int v10]) := by
            intro H locs ls g v10 hv10 hg hl hP hD hS
            refine lv_istore (lv' := [(9, .int v10), (8, .int v8), (7, .int q6), (6, .ref ((a 5))), (5, .int r2), (0, .ref ((a 3))), (1, .int p0), (2, .int p1), (3, .ref ((z.1 p2))), (4, .int p3)]) hx hb xd_T_translate_135 hl (by decide) rfl (fun ls hl => ?_)
            refine lv_iload hx hb xd_T_translate_137 (lv_at hl 9 rfl) ?_
            refine xc0_i (va_runSN (As := [.int p3]) (rest := []) ⟨hx, hb, hml, hown, htg⟩ (c_H_isSupervisor l D (xTy k) z H.size p3) ⟨va_cnB (host := "HyperHost") 1 htg (xg_C0 xkin_H_isSupervisor) rfl rfl rfl (xnest hE (by decide +kernel)) (htg _ xw_1) (by decide +kernel) ⟨Nat.le_of_ble_eq_true rfl, Nat.le_of_ble_eq_true rfl⟩, htg _ xw_437, trivial⟩ ⟨xB_blind, fun U hU hW => xB_mk va_P0 hK va_D0 hE hS (xsub0 hA hS) hU hW⟩ rfl rfl hl.1 rfl (lv_room (Nat.le_of_ble_eq_true rfl)) xd_T_translate_139 ⟨Nat.le_of_ble_eq_true rfl, Nat.le_of_ble_eq_true rfl⟩) hP hA hS (fun r12 H locs hr12 hP hS => ?_)
            have hj14 : ∀ (H : Heap) (locs : List Loc) (ls : Array Slot) (g : XG) (v13 : Int32), v13 = (if r12 = 0 then (0) else (if v10 = 0 then (16) else (0))) → xok k g u → lv_has ls 15 [(9, .int v10), (8, .int v8), (7, .int q6), (6, .ref ((a 5))), (5, .int r2), (0, .ref ((a 3))), (1, .int p0), (2, .int p1), (3, .ref ((z.1 p2))), (4, .int p3)] → va_P D xCl (xWH k a g u) H → va_D A (xWH k a g u) → va_S A s.heap H locs → W p l e { frames := 3, cells := 0, slots := 0, locals := 87 } s m args below meth c H locs (0) (0) Q (F0 m 156 ls [.int v13]) := by
              intro H locs ls g v13 hv13 hg hl hP hD hS
              refine lv_istore (lv' := [(10, .int v13), (9, .int v10), (8, .int v8), (7, .int q6), (6, .ref ((a 5))), (5, .int r2), (0, .ref ((a 3))), (1, .int p0), (2, .int p1), (3, .ref ((z.1 p2))), (4, .int p3)]) hx hb xd_T_translate_156 hl (by decide) rfl (fun ls hl => ?_)
              refine lv_iload_n hx hb xd_T_translate_158 rfl (lv_at hl 7 rfl) ?_
              refine lv_i2l (v := (Int32.toInt64 p0)) hx hb xd_T_translate_159 rfl ?_
              refine lv_ldc2 (v := 4294967295) hx hb hown (htg _ xw_441) xd_T_translate_160 ?_
              refine lv_land hx hb xd_T_translate_163 ?_
              refine lv_lstore (lv' := [(11, .long (((Int32.toInt64 p0) &&& (4294967295 : Int64)))), (10, .int v13), (9, .int v10), (8, .int v8), (7, .int q6), (6, .ref ((a 5))), (5, .int r2), (0, .ref ((a 3))), (1, .int p0), (2, .int p1), (3, .ref ((z.1 p2))), (4, .int p3)]) hx hb xd_T_translate_164 hl (by decide) rfl (fun ls hl => ?_)
              refine lv_iload hx hb xd_T_translate_166 (lv_at hl 6 rfl) ?_
              have hj17 : ∀ (H : Heap) (locs : List Loc) (ls : Array Slot) (g : XG) (v15 : Int64) (v16 : XH), v15 = (if r2 = 0 then (xlt (xf_T_walk u (xg_S_atp u) ((Int32.toInt64 p0) &&& (4294967295 : Int64)) q6 v8 v13 : Int64 × XH) fun q16 => q16.1) else (xlt (xf_T_firstStage u ((Int32.toInt64 p0) &&& (4294967295 : Int64)) q6 v8 v13 : Int64 × XH) fun q17 => q17.1)) → v16 = (if r2 = 0 then (xlt (xf_T_walk u (xg_S_atp u) ((Int32.toInt64 p0) &&& (4294967295 : Int64)) q6 v8 v13 : Int64 × XH) fun q16 => q16.2) else (xlt (xf_T_firstStage u ((Int32.toInt64 p0) &&& (4294967295 : Int64)) q6 v8 v13 : Int64 × XH) fun q17 => q17.2)) → xok k g v16 → lv_has ls 15 [(11, .long (((Int32.toInt64 p0) &&& (4294967295 : Int64)))), (10, .int v13), (9, .int v10), (8, .int v8), (7, .int q6), (6, .ref ((a 5))), (5, .int r2), (0, .ref ((a 3))), (1, .int p0), (2, .int p1), (3, .ref ((z.1 p2))), (4, .int p3)] → va_P D xCl (xWH k a g v16) H → va_D A (xWH k a g v16) → va_S A s.heap H locs → W p l e { frames := 3, cells := 0, slots := 0, locals := 87 } s m args below meth c H locs (0) (0) Q (F0 m 203 ls [.long v15]) := by
                intro H locs ls g v15 v16 hv15 hv16 hg hl hP hD hS
                refine lv_lstore (lv' := [(13, .long v15), (11, .long (((Int32.toInt64 p0) &&& (4294967295 : Int64)))), (10, .int v13), (9, .int v10), (8, .int v8), (7, .int q6), (6, .ref ((a 5))), (5, .int r2), (0, .ref ((a 3))), (1, .int p0), (2, .int p1), (3, .ref ((z.1 p2))), (4, .int p3)]) hx hb xd_T_translate_203 hl (by decide) rfl (fun ls hl => ?_)
                refine lv_iload hx hb xd_T_translate_205 (lv_at hl 7 rfl) ?_
                have hj20 : ∀ (H : Heap) (locs : List Loc) (ls : Array Slot) (g : XG) (v18 : Int64) (v19 : XH), v18 = (if r2 = 0 then (v15) else (if (lg_cmp v15 (0 : Int64)) < 0 then (v15) else (xlt (xf_T_secondStage v16 v15 p2 : Int64 × XH) fun q20 => q20.1))) → v19 = (if r2 = 0 then (v16) else (if (lg_cmp v15 (0 : Int64)) < 0 then (v16) else (xlt (xf_T_secondStage v16 v15 p2 : Int64 × XH) fun q20 => q20.2))) → xok k g v19 → lv_has ls 15 [(13, .long v18), (11, .long (((Int32.toInt64 p0) &&& (4294967295 : Int64)))), (10, .int v13), (9, .int v10), (8, .int v8), (7, .int q6), (6, .ref ((a 5))), (5, .int r2), (0, .ref ((a 3))), (1, .int p0), (2, .int p1), (3, .ref ((z.1 p2))), (4, .int p3)] → va_P D xCl (xWH k a g v19) H → va_D A (xWH k a g v19) → va_S A s.heap H locs → W p l e { frames := 3, cells := 0, slots := 0, locals := 87 } s m args below meth c H locs (0) (0) Q (F0 m 226 ls []) := by
                  intro H locs ls g v18 v19 hv18 hv19 hg hl hP hD hS
                  refine lv_lload hx hb xd_T_translate_226 (lv_at hl 0 rfl) ?_
                  refine lv_lconst (v := 0) hx hb xd_T_translate_228 (by decide) ?_
                  refine W.lcmp hx hb xd_T_translate_229 ?_
                  have hj22 : ∀ (H : Heap) (locs : List Loc) (ls : Array Slot) (g : XG) (v21 : XH), v21 = (if 0 ≤ (lg_cmp v18 (0 : Int64)) then (v19) else (xlt (xf_A_causeOf p2 v18 : Int32) fun q22 => xlt (xf_P_raise v19 q22 p0 : XH) fun q23 => q23)) → xok k g v21 → lv_has ls 15 [(13, .long v18), (11, .long (((Int32.toInt64 p0) &&& (4294967295 : Int64)))), (10, .int v13), (9, .int v10), (8, .int v8), (7, .int q6), (6, .ref ((a 5))), (5, .int r2), (0, .ref ((a 3))), (1, .int p0), (2, .int p1), (3, .ref ((z.1 p2))), (4, .int p3)] → va_P D xCl (xWH k a g v21) H → va_D A (xWH k a g v21) → va_S A s.heap H locs → W p l e { frames := 3, cells := 0, slots := 0, locals := 87 } s m args below meth c H locs (0) (0) Q (F0 m 247 ls []) := by
                    intro H locs ls g v21 hv21 hg hl hP hD hS
                    refine lv_lload hx hb xd_T_translate_247 (lv_at hl 0 rfl) ?_
                    refine lv_l2i (v := (Int64.toInt32 v18)) hx hb xd_T_translate_249 rfl ?_
                    exact hret _ (v21, g) H locs ls _ ⟨(by unfold xf_T_translate; exact (xit h1 (xlt_e hr2 (xit h3 (xlt_e hv4 (xlt_e hq6 (xlt_e hr7 (xlt_e hv8 (xlt_e hv10 (xlt_e hr12 (xlt_e hv13 (xlt_e hv15 (xlt_e hv16 (xlt_e hv18 (xlt_e hv19 (xlt_e hv21 rfl)))))))))))))))), hg⟩ hP hD hS xd_T_translate_250
                  refine lv_if_ge (tgt := 247) hx hb xd_T_translate_230 rfl (fun h23 => ?_) (fun h23 => ?_)
                  · exact hj22 H locs ls g v19 (xit h23 rfl) hg hl hP hD hS
                  · refine lv_aload_n hx hb xd_T_translate_233 rfl (lv_at hl 8 rfl) ?_
                    refine xget_T_trap hx hb htg hown hK hP (htg _ xw_190) xd_T_translate_234 ?_
                    refine lv_aload_n hx hb xd_T_translate_237 rfl (lv_at hl 11 rfl) ?_
                    refine lv_lload hx hb xd_T_translate_238 (lv_at hl 0 rfl) ?_
                    refine xc0_i (va_runV (As := [.long v18]) (rest := [.ref ((a 7))]) ⟨hx, hb, hml, hown, htg⟩ (c_A_causeOf l D (xTy k) z H.size p2 hac v18) (cwV 1 htg (xg_V0 xkin_A_causeOf xw_488 xw_489 xsel_A_causeOf xw_12) rfl rfl rfl (by decide +kernel) ⟨Nat.le_of_ble_eq_true rfl, Nat.le_of_ble_eq_true rfl⟩) ⟨xB_blind, va_recvE hE.1 hac hS, fun U hU hW => xB_mk va_P0 hK va_D0 hE hS (xsub0 hA hS) hU hW⟩ rfl rfl hl.1 rfl (lv_room (Nat.le_of_ble_eq_true rfl)) xd_T_translate_240 ⟨Nat.le_of_ble_eq_true rfl, Nat.le_of_ble_eq_true rfl⟩) hP hA hS (fun q24 H locs hq24 hP hS => ?_)
                    refine lv_iload_n hx hb xd_T_translate_243 rfl (lv_at hl 9 rfl) ?_
                    refine xcW_v (va_runV (As := [.int q24, .int p0]) (rest := []) ⟨hx, hb, hml, hown, htg⟩ (c_P_raise l D z k a g H.size v19 hg q24 p0) (cwV 2 htg (xg_V0 xkin_P_raise xw_425 xw_412 xsel_P_raise xw_7) rfl rfl rfl (by decide +kernel) ⟨Nat.le_of_ble_eq_true rfl, Nat.le_of_ble_eq_true rfl⟩) ⟨xB_blind, xrecv_P hK hP, fun U hU hW => xB_mk hP hK hD hE hS (xsubW hD hA hS) hU hW⟩ rfl rfl hl.1 rfl (lv_room (Nat.le_of_ble_eq_true rfl)) xd_T_translate_244 ⟨Nat.le_of_ble_eq_true rfl, Nat.le_of_ble_eq_true rfl⟩) hD hA hS (fun w1 H locs hw hP hD hS => ?_)
                    obtain ⟨u1, g⟩ := w1
                    obtain ⟨q25, hq25⟩ : ∃ q, q = xf_P_raise v19 q24 p0 := ⟨_, rfl⟩
                    obtain ⟨e2, hg⟩ := hw
                    rw [← hq25] at e2
                    obtain rfl : q25 = u1 := e2.symm
                    have hP : va_P D xCl (xWH k a g q25) H := hP
                    have hD : va_D A (xWH k a g q25) := hD
                    have hg : xok k g q25 := hg
                    exact hj22 H locs ls g q25 (xif h23 (xlt_e hq24 (xlt_e hq25 rfl))) hg hl hP hD hS
                refine lv_if_eq (tgt := 226) hx hb xd_T_translate_207 rfl (fun h26 => ?_) (fun h26 => ?_)
                · exact hj20 H locs ls g v15 v16 (xit h26 rfl) (xit h26 rfl) hg hl hP hD hS
                · refine lv_lload hx hb xd_T_translate_210 (lv_at hl 0 rfl) ?_
                  refine lv_lconst (v := 0) hx hb xd_T_translate_212 (by decide) ?_
                  refine W.lcmp hx hb xd_T_translate_213 ?_
                  refine lv_if_lt (tgt := 226) hx hb xd_T_translate_214 rfl (fun h27 => ?_) (fun h27 => ?_)
                  · exact hj20 H locs ls g v15 v16 (xif h26 (xit h27 rfl)) (xif h26 (xit h27 rfl)) hg hl hP hD hS
                  · refine lv_aload_n hx hb xd_T_translate_217 rfl (lv_at hl 8 rfl) ?_
                    refine lv_lload hx hb xd_T_translate_218 (lv_at hl 0 rfl) ?_
                    refine lv_aload_n hx hb xd_T_translate_220 rfl (lv_at hl 11 rfl) ?_
                    refine xcW_l (va_runV (As := [.long v15, .ref ((z.1 p2))]) (rest := []) ⟨hx, hb, hml, hown, htg⟩ (c_T_secondStage l D z k a g H.size v16 hg v15 p2 hac) (cwV 2 htg (xg_V0 xkin_T_secondStage xw_484 xw_486 xsel_T_secondStage xw_4) rfl rfl rfl (by decide +kernel) ⟨Nat.le_of_ble_eq_true rfl, Nat.le_of_ble_eq_true rfl⟩) ⟨xB_blind, xrecv_T hK hP, fun U hU hW => xB_mk hP hK hD hE hS (xsubW hD hA hS) hU hW⟩ rfl rfl hl.1 rfl (lv_room (Nat.le_of_ble_eq_true rfl)) xd_T_translate_221 ⟨Nat.le_of_ble_eq_true rfl, Nat.le_of_ble_eq_true rfl⟩) hD hA hS (fun r w1 H locs hw hP hD hS => ?_)
                    obtain ⟨u1, g⟩ := w1
                    obtain ⟨q28, hq28⟩ : ∃ q, q = xf_T_secondStage v16 v15 p2 := ⟨_, rfl⟩
                    obtain ⟨e1, hg⟩ := hw
                    rw [← hq28] at e1
                    obtain rfl : r = q28.1 := congrArg Prod.fst e1
                    obtain rfl : u1 = q28.2 := congrArg Prod.snd e1
                    have hP : va_P D xCl (xWH k a g q28.2) H := hP
                    have hD : va_D A (xWH k a g q28.2) := hD
                    have hg : xok k g q28.2 := hg
                    refine lv_lstore (lv' := [(13, .long (q28.1)), (11, .long (((Int32.toInt64 p0) &&& (4294967295 : Int64)))), (10, .int v13), (9, .int v10), (8, .int v8), (7, .int q6), (6, .ref ((a 5))), (5, .int r2), (0, .ref ((a 3))), (1, .int p0), (2, .int p1), (3, .ref ((z.1 p2))), (4, .int p3)]) hx hb xd_T_translate_224 hl (by decide) rfl (fun ls hl => ?_)
                    exact hj20 H locs ls g q28.1 q28.2 (xif h26 (xif h27 (xlt_e hq28 rfl))) (xif h26 (xif h27 (xlt_e hq28 rfl))) hg hl hP hD hS
              refine lv_if_eq (tgt := 186) hx hb xd_T_translate_168 rfl (fun h29 => ?_) (fun h29 => ?_)
              · refine lv_aload_n hx hb xd_T_translate_186 rfl (lv_at hl 7 rfl) ?_
                refine lv_aload hx hb xd_T_translate_187 (lv_at hl 5 rfl) ?_
                refine xget_S_atp (v := (xg_S_atp u)) hx hb htg hown hK hP (htg _ xw_80) rfl xd_T_translate_189 ?_
                refine lv_lload hx hb xd_T_translate_192 (lv_at hl 0 rfl) ?_
                refine lv_iload hx hb xd_T_translate_194 (lv_at hl 4 rfl) ?_
                refine lv_iload hx hb xd_T_translate_196 (lv_at hl 3 rfl) ?_
                refine lv_iload hx hb xd_T_translate_198 (lv_at hl 1 rfl) ?_
                refine xcW_l (va_runV (As := [.int ((xg_S_atp u)), .long (((Int32.toInt64 p0) &&& (4294967295 : Int64))), .int q6, .int v8, .int v13]) (rest := []) ⟨hx, hb, hml, hown, htg⟩ (c_T_walk l D z k a g H.size u hg (xg_S_atp u) ((Int32.toInt64 p0) &&& (4294967295 : Int64)) q6 v8 v13) (cwV 5 htg (xg_V0 xkin_T_walk xw_451 xw_453 xsel_T_walk xw_4) rfl rfl rfl (by decide +kernel) ⟨Nat.le_of_ble_eq_true rfl, Nat.le_of_ble_eq_true rfl⟩) ⟨xB_blind, xrecv_T hK hP, fun U hU hW => xB_mk hP hK hD hE hS (xsubW hD hA hS) hU hW⟩ rfl rfl hl.1 rfl (lv_room (Nat.le_of_ble_eq_true rfl)) xd_T_translate_200 ⟨Nat.le_of_ble_eq_true rfl, Nat.le_of_ble_eq_true rfl⟩) hD hA hS (fun r w1 H locs hw hP hD hS => ?_)
                obtain ⟨u1, g⟩ := w1
                obtain ⟨q30, hq30⟩ : ∃ q, q = xf_T_walk u (xg_S_atp u) ((Int32.toInt64 p0) &&& (4294967295 : Int64)) q6 v8 v13 := ⟨_, rfl⟩
                obtain ⟨e1, hg⟩ := hw
                rw [← hq30] at e1
                obtain rfl : r = q30.1 := congrArg Prod.fst e1
                obtain rfl : u1 = q30.2 := congrArg Prod.snd e1
                have hP : va_P D xCl (xWH k a g q30.2) H := hP
                have hD : va_D A (xWH k a g q30.2) := hD
                have hg : xok k g q30.2 := hg
                exact hj17 H locs ls g q30.1 q30.2 (xit h29 (xlt_e hq30 rfl)) (xit h29 (xlt_e hq30 rfl)) hg hl hP hD hS
              · refine lv_aload_n hx hb xd_T_translate_171 rfl (lv_at hl 7 rfl) ?_
                refine lv_lload hx hb xd_T_translate_172 (lv_at hl 0 rfl) ?_
                refine lv_iload hx hb xd_T_translate_174 (lv_at hl 4 rfl) ?_
                refine lv_iload hx hb xd_T_translate_176 (lv_at hl 3 rfl) ?_
                refine lv_iload hx hb xd_T_translate_178 (lv_at hl 1 rfl) ?_
                refine xcW_l (va_runV (As := [.long (((Int32.toInt64 p0) &&& (4294967295 : Int64))), .int q6, .int v8, .int v13]) (rest := []) ⟨hx, hb, hml, hown, htg⟩ (c_T_firstStage l D z k a g H.size u hg ((Int32.toInt64 p0) &&& (4294967295 : Int64)) q6 v8 v13) (cwV 4 htg (xg_V0 xkin_T_firstStage xw_442 xw_444 xsel_T_firstStage xw_4) rfl rfl rfl (by decide +kernel) ⟨Nat.le_of_ble_eq_true rfl, Nat.le_of_ble_eq_true rfl⟩) ⟨xB_blind, xrecv_T hK hP, fun U hU hW => xB_mk hP hK hD hE hS (xsubW hD hA hS) hU hW⟩ rfl rfl hl.1 rfl (lv_room (Nat.le_of_ble_eq_true rfl)) xd_T_translate_180 ⟨Nat.le_of_ble_eq_true rfl, Nat.le_of_ble_eq_true rfl⟩) hD hA hS (fun r w1 H locs hw hP hD hS => ?_)
                obtain ⟨u1, g⟩ := w1
                obtain ⟨q31, hq31⟩ : ∃ q, q = xf_T_firstStage u ((Int32.toInt64 p0) &&& (4294967295 : Int64)) q6 v8 v13 := ⟨_, rfl⟩
                obtain ⟨e1, hg⟩ := hw
                rw [← hq31] at e1
                obtain rfl : r = q31.1 := congrArg Prod.fst e1
                obtain rfl : u1 = q31.2 := congrArg Prod.snd e1
                have hP : va_P D xCl (xWH k a g q31.2) H := hP
                have hD : va_D A (xWH k a g q31.2) := hD
                have hg : xok k g q31.2 := hg
                refine lv_goto (tgt := 203) hx hb xd_T_translate_183 rfl ?_
                exact hj17 H locs ls g q31.1 q31.2 (xif h29 (xlt_e hq31 rfl)) (xif h29 (xlt_e hq31 rfl)) hg hl hP hD hS
            refine lv_if_eq (tgt := 155) hx hb xd_T_translate_142 rfl (fun h32 => ?_) (fun h32 => ?_)
            · refine lv_iconst (v := 0) hx hb xd_T_translate_155 (by decide) ?_
              exact hj14 H locs ls g (0 : Int32) (xit h32 rfl) hg hl hP hD hS
            · refine lv_iload hx hb xd_T_translate_145 (lv_at hl 0 rfl) ?_
              refine lv_if_ne (tgt := 155) hx hb xd_T_translate_147 rfl (fun h33 => ?_) (fun h33 => ?_)
              · refine lv_iconst (v := 0) hx hb xd_T_translate_155 (by decide) ?_
                exact hj14 H locs ls g (0 : Int32) (xif h32 (xif h33 rfl)) hg hl hP hD hS
              · refine lv_bipush (v := 16) hx hb xd_T_translate_150 (by decide) ?_
                refine lv_goto (tgt := 156) hx hb xd_T_translate_152 rfl ?_
                exact hj14 H locs ls g (16 : Int32) (xif h32 (xit h33 rfl)) hg hl hP hD hS
          refine lv_acmp_eq (rx := some (z.1 p2)) (ry := some (z.1 0)) (tgt := 134) hx hb xd_T_translate_116 rfl (fun h340 => ?_) (fun h340 => ?_)
          · have h34 : p2 = 0 := hE.1.2 p2 0 hac (by decide) (Option.some.inj h340)
            refine lv_iconst (v := 0) hx hb xd_T_translate_134 (by decide) ?_
            exact hj11 H locs ls g (0 : Int32) (xit h34 rfl) hg hl hP hD hS
          · have h34 : ¬ p2 = 0 := fun e9 => h340 (by rw [e9])
            refine lv_aload hx hb xd_T_translate_119 (lv_at hl 2 rfl) ?_
            refine xget_S_status (v := (xg_S_status u)) hx hb htg hown hK hP (htg _ xw_67) rfl xd_T_translate_121 ?_
            refine lv_ldc (v := 262144) hx hb hown (htg _ xw_440) xd_T_translate_124 ?_
            refine lv_iand hx hb xd_T_translate_126 ?_
            refine lv_if_eq (tgt := 134) hx hb xd_T_translate_127 rfl (fun h35 => ?_) (fun h35 => ?_)
            · refine lv_iconst (v := 0) hx hb xd_T_translate_134 (by decide) ?_
              exact hj11 H locs ls g (0 : Int32) (xif h34 (xit h35 rfl)) hg hl hP hD hS
            · refine lv_iconst (v := 1) hx hb xd_T_translate_130 (by decide) ?_
              refine lv_goto (tgt := 135) hx hb xd_T_translate_131 rfl ?_
              exact hj11 H locs ls g (1 : Int32) (xif h34 (xif h35 rfl)) hg hl hP hD hS
        refine lv_if_eq (tgt := 103) hx hb xd_T_translate_93 rfl (fun h36 => ?_) (fun h36 => ?_)
        · refine lv_aload_n hx hb xd_T_translate_103 rfl (lv_at hl 6 rfl) ?_
          refine va_getE (q := ("HyperHost$Access", "all", "I", [65, 65, 65, 193])) hx hb hE.1 hac hS hown (by decide +kernel) (htg _ xw_1083) (fun _ h9 => h9) xd_T_translate_104 ?_
          refine lv_bipush (v := 16) hx hb xd_T_translate_107 (by decide) ?_
          refine lv_ior hx hb xd_T_translate_109 ?_
          exact hj9 H locs ls g ((List.getD [65, 65, 65, 193] p2 0) ||| (16 : Int32)) (xit h36 rfl) hg hl hP hD hS
        · refine lv_aload_n hx hb xd_T_translate_96 rfl (lv_at hl 6 rfl) ?_
          refine va_getE (q := ("HyperHost$Access", "all", "I", [65, 65, 65, 193])) hx hb hE.1 hac hS hown (by decide +kernel) (htg _ xw_1083) (fun _ h9 => h9) xd_T_translate_97 ?_
          refine lv_goto (tgt := 110) hx hb xd_T_translate_100 rfl ?_
          exact hj9 H locs ls g (List.getD [65, 65, 65, 193] p2 0) (xif h36 rfl) hg hl hP hD hS
      refine lv_if_eq (tgt := 82) hx hb xd_T_translate_75 rfl (fun h37 => ?_) (fun h37 => ?_)
      · refine lv_iconst (v := 0) hx hb xd_T_translate_82 (by decide) ?_
        exact hj5 H locs ls g (0 : Int32) (xit h37 rfl) hg hl hP hD hS
      · refine lv_iconst (v := 1) hx hb xd_T_translate_78 (by decide) ?_
        refine lv_goto (tgt := 83) hx hb xd_T_translate_79 rfl ?_
        exact hj5 H locs ls g (1 : Int32) (xif h37 rfl) hg hl hP hD hS
    · refine lv_aload_n hx hb xd_T_translate_36 rfl (lv_at hl 1 rfl) ?_
      refine xget_T_controls hx hb htg hown hK hP (htg _ xw_188) xd_T_translate_37 ?_
      refine xget_K_vs hx hb htg hown hK hP (htg _ xw_104) xd_T_translate_40 ?_
      refine lv_goto (tgt := 53) hx hb xd_T_translate_43 rfl ?_
      refine lv_astore (lv' := [(6, .ref ((a 6))), (5, .int r2), (0, .ref ((a 3))), (1, .int p0), (2, .int p1), (3, .ref ((z.1 p2))), (4, .int p3)]) hx hb xd_T_translate_53 hl (by decide) rfl (fun ls hl => ?_)
      refine lv_aload_n hx hb xd_T_translate_55 rfl (lv_at hl 5 rfl) ?_
      refine lv_aload hx hb xd_T_translate_56 (lv_at hl 0 rfl) ?_
      refine xget_V_status (v := (xg_V_status u)) hx hb htg hown hK hP (htg _ xw_67) rfl xd_T_translate_58 ?_
      refine lv_aload_n hx hb xd_T_translate_61 rfl (lv_at hl 2 rfl) ?_
      refine xget_T_controls hx hb htg hown hK hP (htg _ xw_188) xd_T_translate_62 ?_
      refine xget_K_s hx hb htg hown hK hP (htg _ xw_101) xd_T_translate_65 ?_
      refine xget_S_status (v := (xg_S_status u)) hx hb htg hown hK hP (htg _ xw_67) rfl xd_T_translate_68 ?_
      refine lv_ior hx hb xd_T_translate_71 ?_
      refine lv_ldc (v := 524288) hx hb hown (htg _ xw_429) xd_T_translate_72 ?_
      refine lv_iand hx hb xd_T_translate_74 ?_
      have hj39 : ∀ (H : Heap) (locs : List Loc) (ls : Array Slot) (g : XG) (v38 : Int32), v38 = (if (((xg_V_status u) ||| (xg_S_status u)) &&& (524288 : Int32)) = 0 then (0) else (1)) → xok k g u → lv_has ls 15 [(6, .ref ((a 6))), (5, .int r2), (0, .ref ((a 3))), (1, .int p0), (2, .int p1), (3, .ref ((z.1 p2))), (4, .int p3)] → va_P D xCl (xWH k a g u) H → va_D A (xWH k a g u) → va_S A s.heap H locs → W p l e { frames := 3, cells := 0, slots := 0, locals := 87 } s m args below meth c H locs (0) (0) Q (F0 m 83 ls [.int v38, .ref ((z.1 p2))]) := by
        intro H locs ls g v38 hv38 hg hl hP hD hS
        refine xc0_i (va_runV (As := [.int v38]) (rest := []) ⟨hx, hb, hml, hown, htg⟩ (c_A_anyWith l D (xTy k) z H.size p2 hac v38) (cwV 1 htg (xg_V0 xkin_A_anyWith xw_430 xw_431 xsel_A_anyWith xw_12) rfl rfl rfl (by decide +kernel) ⟨Nat.le_of_ble_eq_true rfl, Nat.le_of_ble_eq_true rfl⟩) ⟨xB_blind, va_recvE hE.1 hac hS, fun U hU hW => xB_mk va_P0 hK va_D0 hE hS (xsub0 hA hS) hU hW⟩ rfl rfl hl.1 rfl (lv_room (Nat.le_of_ble_eq_true rfl)) xd_T_translate_83 ⟨Nat.le_of_ble_eq_true rfl, Nat.le_of_ble_eq_true rfl⟩) hP hA hS (fun q40 H locs hq40 hP hS => ?_)
        refine lv_istore (lv' := [(7, .int q40), (6, .ref ((a 6))), (5, .int r2), (0, .ref ((a 3))), (1, .int p0), (2, .int p1), (3, .ref ((z.1 p2))), (4, .int p3)]) hx hb xd_T_translate_86 hl (by decide) rfl (fun ls hl => ?_)
        refine lv_iload hx hb xd_T_translate_88 (lv_at hl 7 rfl) ?_
        refine xc0_i (va_runSN (As := [.int p3]) (rest := []) ⟨hx, hb, hml, hown, htg⟩ (c_H_isSupervisor l D (xTy k) z H.size p3) ⟨va_cnB (host := "HyperHost") 1 htg (xg_C0 xkin_H_isSupervisor) rfl rfl rfl (xnest hE (by decide +kernel)) (htg _ xw_1) (by decide +kernel) ⟨Nat.le_of_ble_eq_true rfl, Nat.le_of_ble_eq_true rfl⟩, htg _ xw_437, trivial⟩ ⟨xB_blind, fun U hU hW => xB_mk va_P0 hK va_D0 hE hS (xsub0 hA hS) hU hW⟩ rfl rfl hl.1 rfl (lv_room (Nat.le_of_ble_eq_true rfl)) xd_T_translate_90 ⟨Nat.le_of_ble_eq_true rfl, Nat.le_of_ble_eq_true rfl⟩) hP hA hS (fun r41 H locs hr41 hP hS => ?_)
        have hj43 : ∀ (H : Heap) (locs : List Loc) (ls : Array Slot) (g : XG) (v42 : Int32), v42 = (if r41 = 0 then (((List.getD [65, 65, 65, 193] p2 0) ||| (16 : Int32))) else ((List.getD [65, 65, 65, 193] p2 0))) → xok k g u → lv_has ls 15 [(7, .int q40), (6, .ref ((a 6))), (5, .int r2), (0, .ref ((a 3))), (1, .int p0), (2, .int p1), (3, .ref ((z.1 p2))), (4, .int p3)] → va_P D xCl (xWH k a g u) H → va_D A (xWH k a g u) → va_S A s.heap H locs → W p l e { frames := 3, cells := 0, slots := 0, locals := 87 } s m args below meth c H locs (0) (0) Q (F0 m 110 ls [.int v42]) := by
          intro H locs ls g v42 hv42 hg hl hP hD hS
          refine lv_istore (lv' := [(8, .int v42), (7, .int q40), (6, .ref ((a 6))), (5, .int r2), (0, .ref ((a 3))), (1, .int p0), (2, .int p1), (3, .ref ((z.1 p2))), (4, .int p3)]) hx hb xd_T_translate_110 hl (by decide) rfl (fun ls hl => ?_)
          refine lv_aload_n hx hb xd_T_translate_112 rfl (lv_at hl 7 rfl) ?_
          refine va_gets hx hb (hE.1.1 0 (by decide)).1 hS hown (htg _ xw_439) (fun _ h9 => h9) xd_T_translate_113 ?_
          have hj45 : ∀ (H : Heap) (locs : List Loc) (ls : Array Slot) (g : XG) (v44 : Int32), v44 = (if p2 = 0 then (0) else (if ((xg_V_status u) &&& (262144 : Int32)) = 0 then (0) else (1))) → xok k g u → lv_has ls 15 [(8, .int v42), (7, .int q40), (6, .ref ((a 6))), (5, .int r2), (0, .ref ((a 3))), (1, .int p0), (2, .int p1), (3, .ref ((z.1 p2))), (4, .int p3)] → va_P D xCl (xWH k a g u) H → va_D A (xWH k a g u) → va_S A s.heap H locs → W p l e { frames := 3, cells := 0, slots := 0, locals := 87 } s m args below meth c H locs (0) (0) Q (F0 m 135 ls [.int v44]) := by
            intro H locs ls g v44 hv44 hg hl hP hD hS
            refine lv_istore (lv' := [(9, .int v44), (8, .int v42), (7, .int q40), (6, .ref ((a 6))), (5, .int r2), (0, .ref ((a 3))), (1, .int p0), (2, .int p1), (3, .ref ((z.1 p2))), (4, .int p3)]) hx hb xd_T_translate_135 hl (by decide) rfl (fun ls hl => ?_)
            refine lv_iload hx hb xd_T_translate_137 (lv_at hl 9 rfl) ?_
            refine xc0_i (va_runSN (As := [.int p3]) (rest := []) ⟨hx, hb, hml, hown, htg⟩ (c_H_isSupervisor l D (xTy k) z H.size p3) ⟨va_cnB (host := "HyperHost") 1 htg (xg_C0 xkin_H_isSupervisor) rfl rfl rfl (xnest hE (by decide +kernel)) (htg _ xw_1) (by decide +kernel) ⟨Nat.le_of_ble_eq_true rfl, Nat.le_of_ble_eq_true rfl⟩, htg _ xw_437, trivial⟩ ⟨xB_blind, fun U hU hW => xB_mk va_P0 hK va_D0 hE hS (xsub0 hA hS) hU hW⟩ rfl rfl hl.1 rfl (lv_room (Nat.le_of_ble_eq_true rfl)) xd_T_translate_139 ⟨Nat.le_of_ble_eq_true rfl, Nat.le_of_ble_eq_true rfl⟩) hP hA hS (fun r46 H locs hr46 hP hS => ?_)
            have hj48 : ∀ (H : Heap) (locs : List Loc) (ls : Array Slot) (g : XG) (v47 : Int32), v47 = (if r46 = 0 then (0) else (if v44 = 0 then (16) else (0))) → xok k g u → lv_has ls 15 [(9, .int v44), (8, .int v42), (7, .int q40), (6, .ref ((a 6))), (5, .int r2), (0, .ref ((a 3))), (1, .int p0), (2, .int p1), (3, .ref ((z.1 p2))), (4, .int p3)] → va_P D xCl (xWH k a g u) H → va_D A (xWH k a g u) → va_S A s.heap H locs → W p l e { frames := 3, cells := 0, slots := 0, locals := 87 } s m args below meth c H locs (0) (0) Q (F0 m 156 ls [.int v47]) := by
              intro H locs ls g v47 hv47 hg hl hP hD hS
              refine lv_istore (lv' := [(10, .int v47), (9, .int v44), (8, .int v42), (7, .int q40), (6, .ref ((a 6))), (5, .int r2), (0, .ref ((a 3))), (1, .int p0), (2, .int p1), (3, .ref ((z.1 p2))), (4, .int p3)]) hx hb xd_T_translate_156 hl (by decide) rfl (fun ls hl => ?_)
              refine lv_iload_n hx hb xd_T_translate_158 rfl (lv_at hl 7 rfl) ?_
              refine lv_i2l (v := (Int32.toInt64 p0)) hx hb xd_T_translate_159 rfl ?_
              refine lv_ldc2 (v := 4294967295) hx hb hown (htg _ xw_441) xd_T_translate_160 ?_
              refine lv_land hx hb xd_T_translate_163 ?_
              refine lv_lstore (lv' := [(11, .long (((Int32.toInt64 p0) &&& (4294967295 : Int64)))), (10, .int v47), (9, .int v44), (8, .int v42), (7, .int q40), (6, .ref ((a 6))), (5, .int r2), (0, .ref ((a 3))), (1, .int p0), (2, .int p1), (3, .ref ((z.1 p2))), (4, .int p3)]) hx hb xd_T_translate_164 hl (by decide) rfl (fun ls hl => ?_)
              refine lv_iload hx hb xd_T_translate_166 (lv_at hl 6 rfl) ?_
              have hj51 : ∀ (H : Heap) (locs : List Loc) (ls : Array Slot) (g : XG) (v49 : Int64) (v50 : XH), v49 = (if r2 = 0 then (xlt (xf_T_walk u (xg_V_atp u) ((Int32.toInt64 p0) &&& (4294967295 : Int64)) q40 v42 v47 : Int64 × XH) fun q50 => q50.1) else (xlt (xf_T_firstStage u ((Int32.toInt64 p0) &&& (4294967295 : Int64)) q40 v42 v47 : Int64 × XH) fun q51 => q51.1)) → v50 = (if r2 = 0 then (xlt (xf_T_walk u (xg_V_atp u) ((Int32.toInt64 p0) &&& (4294967295 : Int64)) q40 v42 v47 : Int64 × XH) fun q50 => q50.2) else (xlt (xf_T_firstStage u ((Int32.toInt64 p0) &&& (4294967295 : Int64)) q40 v42 v47 : Int64 × XH) fun q51 => q51.2)) → xok k g v50 → lv_has ls 15 [(11, .long (((Int32.toInt64 p0) &&& (4294967295 : Int64)))), (10, .int v47), (9, .int v44), (8, .int v42), (7, .int q40), (6, .ref ((a 6))), (5, .int r2), (0, .ref ((a 3))), (1, .int p0), (2, .int p1), (3, .ref ((z.1 p2))), (4, .int p3)] → va_P D xCl (xWH k a g v50) H → va_D A (xWH k a g v50) → va_S A s.heap H locs → W p l e { frames := 3, cells := 0, slots := 0, locals := 87 } s m args below meth c H locs (0) (0) Q (F0 m 203 ls [.long v49]) := by
                intro H locs ls g v49 v50 hv49 hv50 hg hl hP hD hS
                refine lv_lstore (lv' := [(13, .long v49), (11, .long (((Int32.toInt64 p0) &&& (4294967295 : Int64)))), (10, .int v47), (9, .int v44), (8, .int v42), (7, .int q40), (6, .ref ((a 6))), (5, .int r2), (0, .ref ((a 3))), (1, .int p0), (2, .int p1), (3, .ref ((z.1 p2))), (4, .int p3)]) hx hb xd_T_translate_203 hl (by decide) rfl (fun ls hl => ?_)
                refine lv_iload hx hb xd_T_translate_205 (lv_at hl 7 rfl) ?_
                have hj54 : ∀ (H : Heap) (locs : List Loc) (ls : Array Slot) (g : XG) (v52 : Int64) (v53 : XH), v52 = (if r2 = 0 then (v49) else (if (lg_cmp v49 (0 : Int64)) < 0 then (v49) else (xlt (xf_T_secondStage v50 v49 p2 : Int64 × XH) fun q54 => q54.1))) → v53 = (if r2 = 0 then (v50) else (if (lg_cmp v49 (0 : Int64)) < 0 then (v50) else (xlt (xf_T_secondStage v50 v49 p2 : Int64 × XH) fun q54 => q54.2))) → xok k g v53 → lv_has ls 15 [(13, .long v52), (11, .long (((Int32.toInt64 p0) &&& (4294967295 : Int64)))), (10, .int v47), (9, .int v44), (8, .int v42), (7, .int q40), (6, .ref ((a 6))), (5, .int r2), (0, .ref ((a 3))), (1, .int p0), (2, .int p1), (3, .ref ((z.1 p2))), (4, .int p3)] → va_P D xCl (xWH k a g v53) H → va_D A (xWH k a g v53) → va_S A s.heap H locs → W p l e { frames := 3, cells := 0, slots := 0, locals := 87 } s m args below meth c H locs (0) (0) Q (F0 m 226 ls []) := by
                  intro H locs ls g v52 v53 hv52 hv53 hg hl hP hD hS
                  refine lv_lload hx hb xd_T_translate_226 (lv_at hl 0 rfl) ?_
                  refine lv_lconst (v := 0) hx hb xd_T_translate_228 (by decide) ?_
                  refine W.lcmp hx hb xd_T_translate_229 ?_
                  have hj56 : ∀ (H : Heap) (locs : List Loc) (ls : Array Slot) (g : XG) (v55 : XH), v55 = (if 0 ≤ (lg_cmp v52 (0 : Int64)) then (v53) else (xlt (xf_A_causeOf p2 v52 : Int32) fun q56 => xlt (xf_P_raise v53 q56 p0 : XH) fun q57 => q57)) → xok k g v55 → lv_has ls 15 [(13, .long v52), (11, .long (((Int32.toInt64 p0) &&& (4294967295 : Int64)))), (10, .int v47), (9, .int v44), (8, .int v42), (7, .int q40), (6, .ref ((a 6))), (5, .int r2), (0, .ref ((a 3))), (1, .int p0), (2, .int p1), (3, .ref ((z.1 p2))), (4, .int p3)] → va_P D xCl (xWH k a g v55) H → va_D A (xWH k a g v55) → va_S A s.heap H locs → W p l e { frames := 3, cells := 0, slots := 0, locals := 87 } s m args below meth c H locs (0) (0) Q (F0 m 247 ls []) := by
                    intro H locs ls g v55 hv55 hg hl hP hD hS
                    refine lv_lload hx hb xd_T_translate_247 (lv_at hl 0 rfl) ?_
                    refine lv_l2i (v := (Int64.toInt32 v52)) hx hb xd_T_translate_249 rfl ?_
                    exact hret _ (v55, g) H locs ls _ ⟨(by unfold xf_T_translate; exact (xit h1 (xlt_e hr2 (xif h3 (xlt_e hv38 (xlt_e hq40 (xlt_e hr41 (xlt_e hv42 (xlt_e hv44 (xlt_e hr46 (xlt_e hv47 (xlt_e hv49 (xlt_e hv50 (xlt_e hv52 (xlt_e hv53 (xlt_e hv55 rfl)))))))))))))))), hg⟩ hP hD hS xd_T_translate_250
                  refine lv_if_ge (tgt := 247) hx hb xd_T_translate_230 rfl (fun h57 => ?_) (fun h57 => ?_)
                  · exact hj56 H locs ls g v53 (xit h57 rfl) hg hl hP hD hS
                  · refine lv_aload_n hx hb xd_T_translate_233 rfl (lv_at hl 8 rfl) ?_
                    refine xget_T_trap hx hb htg hown hK hP (htg _ xw_190) xd_T_translate_234 ?_
                    refine lv_aload_n hx hb xd_T_translate_237 rfl (lv_at hl 11 rfl) ?_
                    refine lv_lload hx hb xd_T_translate_238 (lv_at hl 0 rfl) ?_
                    refine xc0_i (va_runV (As := [.long v52]) (rest := [.ref ((a 7))]) ⟨hx, hb, hml, hown, htg⟩ (c_A_causeOf l D (xTy k) z H.size p2 hac v52) (cwV 1 htg (xg_V0 xkin_A_causeOf xw_488 xw_489 xsel_A_causeOf xw_12) rfl rfl rfl (by decide +kernel) ⟨Nat.le_of_ble_eq_true rfl, Nat.le_of_ble_eq_true rfl⟩) ⟨xB_blind, va_recvE hE.1 hac hS, fun U hU hW => xB_mk va_P0 hK va_D0 hE hS (xsub0 hA hS) hU hW⟩ rfl rfl hl.1 rfl (lv_room (Nat.le_of_ble_eq_true rfl)) xd_T_translate_240 ⟨Nat.le_of_ble_eq_true rfl, Nat.le_of_ble_eq_true rfl⟩) hP hA hS (fun q58 H locs hq58 hP hS => ?_)
                    refine lv_iload_n hx hb xd_T_translate_243 rfl (lv_at hl 9 rfl) ?_
                    refine xcW_v (va_runV (As := [.int q58, .int p0]) (rest := []) ⟨hx, hb, hml, hown, htg⟩ (c_P_raise l D z k a g H.size v53 hg q58 p0) (cwV 2 htg (xg_V0 xkin_P_raise xw_425 xw_412 xsel_P_raise xw_7) rfl rfl rfl (by decide +kernel) ⟨Nat.le_of_ble_eq_true rfl, Nat.le_of_ble_eq_true rfl⟩) ⟨xB_blind, xrecv_P hK hP, fun U hU hW => xB_mk hP hK hD hE hS (xsubW hD hA hS) hU hW⟩ rfl rfl hl.1 rfl (lv_room (Nat.le_of_ble_eq_true rfl)) xd_T_translate_244 ⟨Nat.le_of_ble_eq_true rfl, Nat.le_of_ble_eq_true rfl⟩) hD hA hS (fun w1 H locs hw hP hD hS => ?_)
                    obtain ⟨u1, g⟩ := w1
                    obtain ⟨q59, hq59⟩ : ∃ q, q = xf_P_raise v53 q58 p0 := ⟨_, rfl⟩
                    obtain ⟨e2, hg⟩ := hw
                    rw [← hq59] at e2
                    obtain rfl : q59 = u1 := e2.symm
                    have hP : va_P D xCl (xWH k a g q59) H := hP
                    have hD : va_D A (xWH k a g q59) := hD
                    have hg : xok k g q59 := hg
                    exact hj56 H locs ls g q59 (xif h57 (xlt_e hq58 (xlt_e hq59 rfl))) hg hl hP hD hS
                refine lv_if_eq (tgt := 226) hx hb xd_T_translate_207 rfl (fun h60 => ?_) (fun h60 => ?_)
                · exact hj54 H locs ls g v49 v50 (xit h60 rfl) (xit h60 rfl) hg hl hP hD hS
                · refine lv_lload hx hb xd_T_translate_210 (lv_at hl 0 rfl) ?_
                  refine lv_lconst (v := 0) hx hb xd_T_translate_212 (by decide) ?_
                  refine W.lcmp hx hb xd_T_translate_213 ?_
                  refine lv_if_lt (tgt := 226) hx hb xd_T_translate_214 rfl (fun h61 => ?_) (fun h61 => ?_)
                  · exact hj54 H locs ls g v49 v50 (xif h60 (xit h61 rfl)) (xif h60 (xit h61 rfl)) hg hl hP hD hS
                  · refine lv_aload_n hx hb xd_T_translate_217 rfl (lv_at hl 8 rfl) ?_
                    refine lv_lload hx hb xd_T_translate_218 (lv_at hl 0 rfl) ?_
                    refine lv_aload_n hx hb xd_T_translate_220 rfl (lv_at hl 11 rfl) ?_
                    refine xcW_l (va_runV (As := [.long v49, .ref ((z.1 p2))]) (rest := []) ⟨hx, hb, hml, hown, htg⟩ (c_T_secondStage l D z k a g H.size v50 hg v49 p2 hac) (cwV 2 htg (xg_V0 xkin_T_secondStage xw_484 xw_486 xsel_T_secondStage xw_4) rfl rfl rfl (by decide +kernel) ⟨Nat.le_of_ble_eq_true rfl, Nat.le_of_ble_eq_true rfl⟩) ⟨xB_blind, xrecv_T hK hP, fun U hU hW => xB_mk hP hK hD hE hS (xsubW hD hA hS) hU hW⟩ rfl rfl hl.1 rfl (lv_room (Nat.le_of_ble_eq_true rfl)) xd_T_translate_221 ⟨Nat.le_of_ble_eq_true rfl, Nat.le_of_ble_eq_true rfl⟩) hD hA hS (fun r w1 H locs hw hP hD hS => ?_)
                    obtain ⟨u1, g⟩ := w1
                    obtain ⟨q62, hq62⟩ : ∃ q, q = xf_T_secondStage v50 v49 p2 := ⟨_, rfl⟩
                    obtain ⟨e1, hg⟩ := hw
                    rw [← hq62] at e1
                    obtain rfl : r = q62.1 := congrArg Prod.fst e1
                    obtain rfl : u1 = q62.2 := congrArg Prod.snd e1
                    have hP : va_P D xCl (xWH k a g q62.2) H := hP
                    have hD : va_D A (xWH k a g q62.2) := hD
                    have hg : xok k g q62.2 := hg
                    refine lv_lstore (lv' := [(13, .long (q62.1)), (11, .long (((Int32.toInt64 p0) &&& (4294967295 : Int64)))), (10, .int v47), (9, .int v44), (8, .int v42), (7, .int q40), (6, .ref ((a 6))), (5, .int r2), (0, .ref ((a 3))), (1, .int p0), (2, .int p1), (3, .ref ((z.1 p2))), (4, .int p3)]) hx hb xd_T_translate_224 hl (by decide) rfl (fun ls hl => ?_)
                    exact hj54 H locs ls g q62.1 q62.2 (xif h60 (xif h61 (xlt_e hq62 rfl))) (xif h60 (xif h61 (xlt_e hq62 rfl))) hg hl hP hD hS
              refine lv_if_eq (tgt := 186) hx hb xd_T_translate_168 rfl (fun h63 => ?_) (fun h63 => ?_)
              · refine lv_aload_n hx hb xd_T_translate_186 rfl (lv_at hl 7 rfl) ?_
                refine lv_aload hx hb xd_T_translate_187 (lv_at hl 5 rfl) ?_
                refine xget_V_atp (v := (xg_V_atp u)) hx hb htg hown hK hP (htg _ xw_80) rfl xd_T_translate_189 ?_
                refine lv_lload hx hb xd_T_translate_192 (lv_at hl 0 rfl) ?_
                refine lv_iload hx hb xd_T_translate_194 (lv_at hl 4 rfl) ?_
                refine lv_iload hx hb xd_T_translate_196 (lv_at hl 3 rfl) ?_
                refine lv_iload hx hb xd_T_translate_198 (lv_at hl 1 rfl) ?_
                refine xcW_l (va_runV (As := [.int ((xg_V_atp u)), .long (((Int32.toInt64 p0) &&& (4294967295 : Int64))), .int q40, .int v42, .int v47]) (rest := []) ⟨hx, hb, hml, hown, htg⟩ (c_T_walk l D z k a g H.size u hg (xg_V_atp u) ((Int32.toInt64 p0) &&& (4294967295 : Int64)) q40 v42 v47) (cwV 5 htg (xg_V0 xkin_T_walk xw_451 xw_453 xsel_T_walk xw_4) rfl rfl rfl (by decide +kernel) ⟨Nat.le_of_ble_eq_true rfl, Nat.le_of_ble_eq_true rfl⟩) ⟨xB_blind, xrecv_T hK hP, fun U hU hW => xB_mk hP hK hD hE hS (xsubW hD hA hS) hU hW⟩ rfl rfl hl.1 rfl (lv_room (Nat.le_of_ble_eq_true rfl)) xd_T_translate_200 ⟨Nat.le_of_ble_eq_true rfl, Nat.le_of_ble_eq_true rfl⟩) hD hA hS (fun r w1 H locs hw hP hD hS => ?_)
                obtain ⟨u1, g⟩ := w1
                obtain ⟨q64, hq64⟩ : ∃ q, q = xf_T_walk u (xg_V_atp u) ((Int32.toInt64 p0) &&& (4294967295 : Int64)) q40 v42 v47 := ⟨_, rfl⟩
                obtain ⟨e1, hg⟩ := hw
                rw [← hq64] at e1
                obtain rfl : r = q64.1 := congrArg Prod.fst e1
                obtain rfl : u1 = q64.2 := congrArg Prod.snd e1
                have hP : va_P D xCl (xWH k a g q64.2) H := hP
                have hD : va_D A (xWH k a g q64.2) := hD
                have hg : xok k g q64.2 := hg
                exact hj51 H locs ls g q64.1 q64.2 (xit h63 (xlt_e hq64 rfl)) (xit h63 (xlt_e hq64 rfl)) hg hl hP hD hS
              · refine lv_aload_n hx hb xd_T_translate_171 rfl (lv_at hl 7 rfl) ?_
                refine lv_lload hx hb xd_T_translate_172 (lv_at hl 0 rfl) ?_
                refine lv_iload hx hb xd_T_translate_174 (lv_at hl 4 rfl) ?_
                refine lv_iload hx hb xd_T_translate_176 (lv_at hl 3 rfl) ?_
                refine lv_iload hx hb xd_T_translate_178 (lv_at hl 1 rfl) ?_
                refine xcW_l (va_runV (As := [.long (((Int32.toInt64 p0) &&& (4294967295 : Int64))), .int q40, .int v42, .int v47]) (rest := []) ⟨hx, hb, hml, hown, htg⟩ (c_T_firstStage l D z k a g H.size u hg ((Int32.toInt64 p0) &&& (4294967295 : Int64)) q40 v42 v47) (cwV 4 htg (xg_V0 xkin_T_firstStage xw_442 xw_444 xsel_T_firstStage xw_4) rfl rfl rfl (by decide +kernel) ⟨Nat.le_of_ble_eq_true rfl, Nat.le_of_ble_eq_true rfl⟩) ⟨xB_blind, xrecv_T hK hP, fun U hU hW => xB_mk hP hK hD hE hS (xsubW hD hA hS) hU hW⟩ rfl rfl hl.1 rfl (lv_room (Nat.le_of_ble_eq_true rfl)) xd_T_translate_180 ⟨Nat.le_of_ble_eq_true rfl, Nat.le_of_ble_eq_true rfl⟩) hD hA hS (fun r w1 H locs hw hP hD hS => ?_)
                obtain ⟨u1, g⟩ := w1
                obtain ⟨q65, hq65⟩ : ∃ q, q = xf_T_firstStage u ((Int32.toInt64 p0) &&& (4294967295 : Int64)) q40 v42 v47 := ⟨_, rfl⟩
                obtain ⟨e1, hg⟩ := hw
                rw [← hq65] at e1
                obtain rfl : r = q65.1 := congrArg Prod.fst e1
                obtain rfl : u1 = q65.2 := congrArg Prod.snd e1
                have hP : va_P D xCl (xWH k a g q65.2) H := hP
                have hD : va_D A (xWH k a g q65.2) := hD
                have hg : xok k g q65.2 := hg
                refine lv_goto (tgt := 203) hx hb xd_T_translate_183 rfl ?_
                exact hj51 H locs ls g q65.1 q65.2 (xif h63 (xlt_e hq65 rfl)) (xif h63 (xlt_e hq65 rfl)) hg hl hP hD hS
            refine lv_if_eq (tgt := 155) hx hb xd_T_translate_142 rfl (fun h66 => ?_) (fun h66 => ?_)
            · refine lv_iconst (v := 0) hx hb xd_T_translate_155 (by decide) ?_
              exact hj48 H locs ls g (0 : Int32) (xit h66 rfl) hg hl hP hD hS
            · refine lv_iload hx hb xd_T_translate_145 (lv_at hl 0 rfl) ?_
              refine lv_if_ne (tgt := 155) hx hb xd_T_translate_147 rfl (fun h67 => ?_) (fun h67 => ?_)
              · refine lv_iconst (v := 0) hx hb xd_T_translate_155 (by decide) ?_
                exact hj48 H locs ls g (0 : Int32) (xif h66 (xif h67 rfl)) hg hl hP hD hS
              · refine lv_bipush (v := 16) hx hb xd_T_translate_150 (by decide) ?_
                refine lv_goto (tgt := 156) hx hb xd_T_translate_152 rfl ?_
                exact hj48 H locs ls g (16 : Int32) (xif h66 (xit h67 rfl)) hg hl hP hD hS
          refine lv_acmp_eq (rx := some (z.1 p2)) (ry := some (z.1 0)) (tgt := 134) hx hb xd_T_translate_116 rfl (fun h680 => ?_) (fun h680 => ?_)
          · have h68 : p2 = 0 := hE.1.2 p2 0 hac (by decide) (Option.some.inj h680)
            refine lv_iconst (v := 0) hx hb xd_T_translate_134 (by decide) ?_
            exact hj45 H locs ls g (0 : Int32) (xit h68 rfl) hg hl hP hD hS
          · have h68 : ¬ p2 = 0 := fun e9 => h680 (by rw [e9])
            refine lv_aload hx hb xd_T_translate_119 (lv_at hl 2 rfl) ?_
            refine xget_V_status (v := (xg_V_status u)) hx hb htg hown hK hP (htg _ xw_67) rfl xd_T_translate_121 ?_
            refine lv_ldc (v := 262144) hx hb hown (htg _ xw_440) xd_T_translate_124 ?_
            refine lv_iand hx hb xd_T_translate_126 ?_
            refine lv_if_eq (tgt := 134) hx hb xd_T_translate_127 rfl (fun h69 => ?_) (fun h69 => ?_)
            · refine lv_iconst (v := 0) hx hb xd_T_translate_134 (by decide) ?_
              exact hj45 H locs ls g (0 : Int32) (xif h68 (xit h69 rfl)) hg hl hP hD hS
            · refine lv_iconst (v := 1) hx hb xd_T_translate_130 (by decide) ?_
              refine lv_goto (tgt := 135) hx hb xd_T_translate_131 rfl ?_
              exact hj45 H locs ls g (1 : Int32) (xif h68 (xif h69 rfl)) hg hl hP hD hS
        refine lv_if_eq (tgt := 103) hx hb xd_T_translate_93 rfl (fun h70 => ?_) (fun h70 => ?_)
        · refine lv_aload_n hx hb xd_T_translate_103 rfl (lv_at hl 6 rfl) ?_
          refine va_getE (q := ("HyperHost$Access", "all", "I", [65, 65, 65, 193])) hx hb hE.1 hac hS hown (by decide +kernel) (htg _ xw_1083) (fun _ h9 => h9) xd_T_translate_104 ?_
          refine lv_bipush (v := 16) hx hb xd_T_translate_107 (by decide) ?_
          refine lv_ior hx hb xd_T_translate_109 ?_
          exact hj43 H locs ls g ((List.getD [65, 65, 65, 193] p2 0) ||| (16 : Int32)) (xit h70 rfl) hg hl hP hD hS
        · refine lv_aload_n hx hb xd_T_translate_96 rfl (lv_at hl 6 rfl) ?_
          refine va_getE (q := ("HyperHost$Access", "all", "I", [65, 65, 65, 193])) hx hb hE.1 hac hS hown (by decide +kernel) (htg _ xw_1083) (fun _ h9 => h9) xd_T_translate_97 ?_
          refine lv_goto (tgt := 110) hx hb xd_T_translate_100 rfl ?_
          exact hj43 H locs ls g (List.getD [65, 65, 65, 193] p2 0) (xif h70 rfl) hg hl hP hD hS
      refine lv_if_eq (tgt := 82) hx hb xd_T_translate_75 rfl (fun h71 => ?_) (fun h71 => ?_)
      · refine lv_iconst (v := 0) hx hb xd_T_translate_82 (by decide) ?_
        exact hj39 H locs ls g (0 : Int32) (xit h71 rfl) hg hl hP hD hS
      · refine lv_iconst (v := 1) hx hb xd_T_translate_78 (by decide) ?_
        refine lv_goto (tgt := 83) hx hb xd_T_translate_79 rfl ?_
        exact hj39 H locs ls g (1 : Int32) (xif h71 rfl) hg hl hP hD hS
  · refine lv_aload_n hx hb xd_T_translate_10 rfl (lv_at hl 0 rfl) ?_
    refine xget_T_trap hx hb htg hown hK hP (htg _ xw_190) xd_T_translate_11 ?_
    refine lv_aload_n hx hb xd_T_translate_14 rfl (lv_at hl 3 rfl) ?_
    refine va_getE (q := ("HyperHost$Access", "misaligned", "I", [0, 4, 4, 6])) hx hb hE.1 hac hS hown (by decide +kernel) (htg _ xw_1081) (fun _ h9 => h9) xd_T_translate_15 ?_
    refine lv_iload_n hx hb xd_T_translate_18 rfl (lv_at hl 1 rfl) ?_
    refine xcW_v (va_runV (As := [.int ((List.getD [0, 4, 4, 6] p2 0)), .int p0]) (rest := []) ⟨hx, hb, hml, hown, htg⟩ (c_P_raise l D z k a g H.size u hg (List.getD [0, 4, 4, 6] p2 0) p0) (cwV 2 htg (xg_V0 xkin_P_raise xw_425 xw_412 xsel_P_raise xw_7) rfl rfl rfl (by decide +kernel) ⟨Nat.le_of_ble_eq_true rfl, Nat.le_of_ble_eq_true rfl⟩) ⟨xB_blind, xrecv_P hK hP, fun U hU hW => xB_mk hP hK hD hE hS (xsubW hD hA hS) hU hW⟩ rfl rfl hl.1 rfl (lv_room (Nat.le_of_ble_eq_true rfl)) xd_T_translate_19 ⟨Nat.le_of_ble_eq_true rfl, Nat.le_of_ble_eq_true rfl⟩) hD hA hS (fun w1 H locs hw hP hD hS => ?_)
    obtain ⟨u1, g⟩ := w1
    obtain ⟨q72, hq72⟩ : ∃ q, q = xf_P_raise u (List.getD [0, 4, 4, 6] p2 0) p0 := ⟨_, rfl⟩
    obtain ⟨e2, hg⟩ := hw
    rw [← hq72] at e2
    obtain rfl : q72 = u1 := e2.symm
    have hP : va_P D xCl (xWH k a g q72) H := hP
    have hD : va_D A (xWH k a g q72) := hD
    have hg : xok k g q72 := hg
    refine lv_iconst (v := (-1)) hx hb xd_T_translate_22 (by decide) ?_
    exact hret _ (q72, g) H locs ls _ ⟨(by unfold xf_T_translate; exact (xif h1 (xlt_e hq72 rfl))), hg⟩ hP hD hS xd_T_translate_23

noncomputable def xf_C_startStep (u : XH) : Int32 × XH :=
  xlt (xf_P_clear u : XH) fun q1 =>
  xlt (xf_C_interrupted q1 : Int32 × XH) fun q2 =>
  if q2.1 = 0 then
    xlt (xf_T_translate q2.2 (xg_C_pc q2.2) (2 : Int32) 0 (xg_C_mode q2.2) : Int32 × XH) fun q4 =>
    if 0 ≤ q4.1 then
      xlt (xf_M_readWord 64 (xg_M q4.2).1 q4.1 : Int32 × XM1) fun q7 =>
      (1, (xs_C_next (xs_C_word (xs_M1 q4.2 q7.2) q7.1) ((xg_C_pc (xs_C_word (xs_M1 q4.2 q7.2) q7.1)) + (4 : Int32))))
    else
      (0, q4.2)
  else
    (0, q2.2)
set_option maxHeartbeats 4000000 in
set_option maxRecDepth 100000 in
theorem c_C_startStep (l : Launch) (D : va_G) (z : (Nat → Nat) × (Nat → Nat)) (k : ClassId × ClassId) (a : Nat → Nat) (g : XG) (sz : Nat) (u : XH) (hg : xok k g u) : Met l xy_C_startStep (xk_C_startStep :: lw_g) { frames := 4, cells := 0, slots := 0, locals := 121 } (va_Pc [.ref ((a 1))] (xB D (xTy k) z sz (xWH k a g u))) (va_Qi (fun r (q : XH × XG) => (r, q.1) = xf_C_startStep u ∧ xok k q.2 q.1) (fun q t => xQ D (xTy k) (xWH k a q.2 q.1) (va_A (xWH k a g u) sz) t) (va_A (xWH k a g u) sz)) 0 0 (va_A (xWH k a g u) sz) := by
  refine xopen_z (wf := fun q : XH × XG => xWH k a q.2 q.1) (lv := [(0, .ref ((a 1)))]) (by decide) rfl (Nat.le_of_ble_eq_true rfl) ?_
  intro p e s m args below meth c Q ls A H locs hx hb hml htg hown hin hK hP hD hE hS hA hl hret
  refine lv_aload_n hx hb xd_C_startStep_0 rfl (lv_at hl 0 rfl) ?_
  refine xget_C_trap hx hb htg hown hK hP (htg _ xw_208) xd_C_startStep_1 ?_
  refine xcW_v (va_runV (As := []) (rest := []) ⟨hx, hb, hml, hown, htg⟩ (c_P_clear l D z k a g H.size u hg) (cwV 0 htg (xg_V0 xkin_P_clear xw_393 xw_394 xsel_P_clear xw_7) rfl rfl rfl (by decide +kernel) ⟨Nat.le_of_ble_eq_true rfl, Nat.le_of_ble_eq_true rfl⟩) ⟨xB_blind, xrecv_P hK hP, fun U hU hW => xB_mk hP hK hD hE hS (xsubW hD hA hS) hU hW⟩ rfl rfl hl.1 rfl (lv_room (Nat.le_of_ble_eq_true rfl)) xd_C_startStep_4 ⟨Nat.le_of_ble_eq_true rfl, Nat.le_of_ble_eq_true rfl⟩) hD hA hS (fun w1 H locs hw hP hD hS => ?_)
  obtain ⟨u1, g⟩ := w1
  obtain ⟨q1, hq1⟩ : ∃ q, q = xf_P_clear u := ⟨_, rfl⟩
  obtain ⟨e2, hg⟩ := hw
  rw [← hq1] at e2
  obtain rfl : q1 = u1 := e2.symm
  have hP : va_P D xCl (xWH k a g q1) H := hP
  have hD : va_D A (xWH k a g q1) := hD
  have hg : xok k g q1 := hg
  refine lv_aload_n hx hb xd_C_startStep_7 rfl (lv_at hl 0 rfl) ?_
  refine xcW_i (va_runV (As := []) (rest := []) ⟨hx, hb, hml, hown, htg⟩ (c_C_interrupted l D z k a g H.size q1 hg) (cwV 0 htg (xg_V0 xkin_C_interrupted xw_397 xw_399 xsel_C_interrupted xw_2) rfl rfl rfl (by decide +kernel) ⟨Nat.le_of_ble_eq_true rfl, Nat.le_of_ble_eq_true rfl⟩) ⟨xB_blind, xrecv_C hK hP, fun U hU hW => xB_mk hP hK hD hE hS (xsubW hD hA hS) hU hW⟩ rfl rfl hl.1 rfl (lv_room (Nat.le_of_ble_eq_true rfl)) xd_C_startStep_8 ⟨Nat.le_of_ble_eq_true rfl, Nat.le_of_ble_eq_true rfl⟩) hD hA hS (fun r w1 H locs hw hP hD hS => ?_)
  obtain ⟨u1, g⟩ := w1
  obtain ⟨q2, hq2⟩ : ∃ q, q = xf_C_interrupted q1 := ⟨_, rfl⟩
  obtain ⟨e1, hg⟩ := hw
  rw [← hq2] at e1
  obtain rfl : r = q2.1 := congrArg Prod.fst e1
  obtain rfl : u1 = q2.2 := congrArg Prod.snd e1
  have hP : va_P D xCl (xWH k a g q2.2) H := hP
  have hD : va_D A (xWH k a g q2.2) := hD
  have hg : xok k g q2.2 := hg
  refine lv_if_eq (tgt := 16) hx hb xd_C_startStep_11 rfl (fun h3 => ?_) (fun h3 => ?_)
  · refine lv_aload_n hx hb xd_C_startStep_16 rfl (lv_at hl 0 rfl) ?_
    refine xget_C_translator hx hb htg hown hK hP (htg _ xw_203) xd_C_startStep_17 ?_
    refine lv_aload_n hx hb xd_C_startStep_20 rfl (lv_at hl 0 rfl) ?_
    refine xget_C_pc (v := (xg_C_pc q2.2)) hx hb htg hown hK hP (htg _ xw_211) rfl xd_C_startStep_21 ?_
    refine lv_iconst (v := 2) hx hb xd_C_startStep_24 (by decide) ?_
    refine va_gets hx hb (hE.1.1 0 (by decide)).1 hS hown (htg _ xw_419) (fun _ h9 => h9) xd_C_startStep_25 ?_
    refine lv_aload_n hx hb xd_C_startStep_28 rfl (lv_at hl 0 rfl) ?_
    refine xget_C_mode (v := (xg_C_mode q2.2)) hx hb htg hown hK hP (htg _ xw_213) rfl xd_C_startStep_29 ?_
    refine xcW_i (va_runV (As := [.int ((xg_C_pc q2.2)), .int 2, .ref ((z.1 0)), .int ((xg_C_mode q2.2))]) (rest := []) ⟨hx, hb, hml, hown, htg⟩ (c_T_translate l D z k a g H.size q2.2 hg (xg_C_pc q2.2) (2 : Int32) 0 (xg_C_mode q2.2) (by decide)) (cwV 4 htg (xg_V0 xkin_T_translate xw_421 xw_422 xsel_T_translate xw_4) rfl rfl rfl (by decide +kernel) ⟨Nat.le_of_ble_eq_true rfl, Nat.le_of_ble_eq_true rfl⟩) ⟨xB_blind, xrecv_T hK hP, fun U hU hW => xB_mk hP hK hD hE hS (xsubW hD hA hS) hU hW⟩ rfl rfl hl.1 rfl (lv_room (Nat.le_of_ble_eq_true rfl)) xd_C_startStep_32 ⟨Nat.le_of_ble_eq_true rfl, Nat.le_of_ble_eq_true rfl⟩) hD hA hS (fun r w1 H locs hw hP hD hS => ?_)
    obtain ⟨u1, g⟩ := w1
    obtain ⟨q4, hq4⟩ : ∃ q, q = xf_T_translate q2.2 (xg_C_pc q2.2) (2 : Int32) 0 (xg_C_mode q2.2) := ⟨_, rfl⟩
    obtain ⟨e1, hg⟩ := hw
    rw [← hq4] at e1
    obtain rfl : r = q4.1 := congrArg Prod.fst e1
    obtain rfl : u1 = q4.2 := congrArg Prod.snd e1
    have hP : va_P D xCl (xWH k a g q4.2) H := hP
    have hD : va_D A (xWH k a g q4.2) := hD
    have hg : xok k g q4.2 := hg
    refine lv_istore_n (lv' := [(1, .int (q4.1)), (0, .ref ((a 1)))]) hx hb xd_C_startStep_35 rfl hl (by decide) rfl (fun ls hl => ?_)
    refine lv_iload_n hx hb xd_C_startStep_36 rfl (lv_at hl 0 rfl) ?_
    refine lv_if_ge (tgt := 42) hx hb xd_C_startStep_37 rfl (fun h5 => ?_) (fun h5 => ?_)
    · refine lv_aload_n hx hb xd_C_startStep_42 rfl (lv_at hl 1 rfl) ?_
      refine lv_aload_n hx hb xd_C_startStep_43 rfl (lv_at hl 1 rfl) ?_
      refine xget_C_memory hx hb htg hown hK hP (htg _ xw_204) xd_C_startStep_44 ?_
      refine lv_iload_n hx hb xd_C_startStep_47 rfl (lv_at hl 0 rfl) ?_
      obtain ⟨q7, hq7⟩ : ∃ q, q = xf_M_readWord 64 (xg_M q4.2).1 q4.1 := ⟨_, rfl⟩
      refine xcM_i hq7 (va_runV (As := [.int (q4.1)]) (rest := [.ref ((a 1))]) ⟨hx, hb, hml, hown, htg⟩ (c_M_readWord l D z k H.size (a 8) (a 10) 64 (by decide) g.1 (xg_M q4.2).1 hg.1 q4.1) (cwV 1 htg (xg_V0 xkin_M_readWord xw_494 xw_310 xsel_M_readWord xw_3) rfl rfl rfl (by decide +kernel) ⟨Nat.le_of_ble_eq_true rfl, Nat.le_of_ble_eq_true rfl⟩) ⟨xB_blind, xrecv_M hK hP, fun U hU hW => xpre_M hP hK hD hE hS hA hU hW⟩ rfl rfl hl.1 rfl (lv_room (Nat.le_of_ble_eq_true rfl)) xd_C_startStep_48 ⟨Nat.le_of_ble_eq_true rfl, Nat.le_of_ble_eq_true rfl⟩) hP hD hA hS hg (fun g H locs hP hD hS hg => ?_)
      refine xput_C_word (v := q7.1) hx hb htg hown hK hP hD hS hg (htg _ xw_224) xd_C_startStep_51 (fun H locs hP hD hS hg => ?_)
      refine lv_aload_n hx hb xd_C_startStep_54 rfl (lv_at hl 1 rfl) ?_
      refine lv_aload_n hx hb xd_C_startStep_55 rfl (lv_at hl 1 rfl) ?_
      refine xget_C_pc (v := (xg_C_pc (xs_C_word (xs_M1 q4.2 q7.2) q7.1))) hx hb htg hown hK hP (htg _ xw_211) rfl xd_C_startStep_56 ?_
      refine lv_iconst (v := 4) hx hb xd_C_startStep_59 (by decide) ?_
      refine lv_iadd hx hb xd_C_startStep_60 ?_
      refine xput_C_next (v := ((xg_C_pc (xs_C_word (xs_M1 q4.2 q7.2) q7.1)) + (4 : Int32))) hx hb htg hown hK hP hD hS hg (htg _ xw_223) xd_C_startStep_61 (fun H locs hP hD hS hg => ?_)
      refine lv_iconst (v := 1) hx hb xd_C_startStep_64 (by decide) ?_
      exact hret _ ((xs_C_next (xs_C_word (xs_M1 q4.2 q7.2) q7.1) ((xg_C_pc (xs_C_word (xs_M1 q4.2 q7.2) q7.1)) + (4 : Int32))), g) H locs ls _ rfl ⟨(by unfold xf_C_startStep; exact (xlt_e hq1 (xlt_e hq2 (xit h3 (xlt_e hq4 (xit h5 (xlt_e hq7 rfl))))))), hg⟩ hP hD hS xd_C_startStep_65
    · refine lv_iconst (v := 0) hx hb xd_C_startStep_40 (by decide) ?_
      exact hret _ (q4.2, g) H locs ls _ rfl ⟨(by unfold xf_C_startStep; exact (xlt_e hq1 (xlt_e hq2 (xit h3 (xlt_e hq4 (xif h5 rfl)))))), hg⟩ hP hD hS xd_C_startStep_41
  · refine lv_iconst (v := 0) hx hb xd_C_startStep_14 (by decide) ?_
    exact hret _ (q2.2, g) H locs ls _ rfl ⟨(by unfold xf_C_startStep; exact (xlt_e hq1 (xlt_e hq2 (xif h3 rfl)))), hg⟩ hP hD hS xd_C_startStep_15
theorem xt01_C_startStep (u : XH) : X01p (xf_C_startStep u) := by unfold xf_C_startStep; exact (xlt_01p (fun q1 hq1 => (xlt_01p (fun q2 hq2 => (xit_01p (xlt_01p (fun q4 hq4 => (xit_01p (xlt_01p (fun q7 hq7 => (Or.inr rfl))) (Or.inl rfl)))) (Or.inl rfl))))))

noncomputable def xf_C_load (u : XH) (p0 : Int32) (p1 : Int32) (p2 : Int32) (p3 : Nat) (p4 : Int32) : XH :=
  xlt (xf_T_translate u p0 p1 p3 p4 : Int32 × XH) fun q1 =>
  if 0 ≤ q1.1 then
    xlt (xf_M_read 64 (xg_M q1.2).1 q1.1 p1 : Int32 × XM1) fun q4 =>
    xlt (xf_D_d (xg_C_word (xs_M1 q1.2 q4.2)) : Int32) fun r5 =>
    xlt (if p2 = 0 then (q4.1) else (if p1 = 2 then (q4.1) else (xlt (if p1 = 0 then (255) else (65535) : Int32) fun v8 => (q4.1 &&& v8))) : Int32) fun v6 =>
    xlt (xf_C_put (xs_M1 q1.2 q4.2) r5 v6 : XH) fun q8 =>
    q8
  else
    q1.2
set_option maxHeartbeats 4000000 in
set_option maxRecDepth 100000 in
theorem c_C_load (l : Launch) (D : va_G) (z : (Nat → Nat) × (Nat → Nat)) (k : ClassId × ClassId) (a : Nat → Nat) (g : XG) (sz : Nat) (u : XH) (hg : xok k g u) (p0 : Int32) (p1 : Int32) (p2 : Int32) (p3 : Nat) (p4 : Int32) (hac : p3 < 4) : Met l xy_C_load (xk_C_load :: lw_g) { frames := 4, cells := 0, slots := 0, locals := 121 } (va_Pc [.ref ((a 1)), .int p0, .int p1, .int p2, .ref ((z.1 p3)), .int p4] (xB D (xTy k) z sz (xWH k a g u))) (va_Qv (fun q : XH × XG => q.1 = xf_C_load u p0 p1 p2 p3 p4 ∧ xok k q.2 q.1) (fun q t => xQ D (xTy k) (xWH k a q.2 q.1) (va_A (xWH k a g u) sz) t) (va_A (xWH k a g u) sz)) 0 0 (va_A (xWH k a g u) sz) := by
  refine xopen_v (wf := fun q : XH × XG => xWH k a q.2 q.1) (lv := [(0, .ref ((a 1))), (1, .int p0), (2, .int p1), (3, .int p2), (4, .ref ((z.1 p3))), (5, .int p4)]) (by decide) rfl (Nat.le_of_ble_eq_true rfl) ?_
  intro p e s m args below meth c Q ls A H locs hx hb hml htg hown hin hK hP hD hE hS hA hl hret
  refine lv_aload_n hx hb xd_C_load_0 rfl (lv_at hl 0 rfl) ?_
  refine xget_C_translator hx hb htg hown hK hP (htg _ xw_203) xd_C_load_1 ?_
  refine lv_iload_n hx hb xd_C_load_4 rfl (lv_at hl 1 rfl) ?_
  refine lv_iload_n hx hb xd_C_load_5 rfl (lv_at hl 2 rfl) ?_
  refine lv_aload hx hb xd_C_load_6 (lv_at hl 4 rfl) ?_
  refine lv_iload hx hb xd_C_load_8 (lv_at hl 5 rfl) ?_
  refine xcW_i (va_runV (As := [.int p0, .int p1, .ref ((z.1 p3)), .int p4]) (rest := []) ⟨hx, hb, hml, hown, htg⟩ (c_T_translate l D z k a g H.size u hg p0 p1 p3 p4 hac) (cwV 4 htg (xg_V0 xkin_T_translate xw_421 xw_422 xsel_T_translate xw_4) rfl rfl rfl (by decide +kernel) ⟨Nat.le_of_ble_eq_true rfl, Nat.le_of_ble_eq_true rfl⟩) ⟨xB_blind, xrecv_T hK hP, fun U hU hW => xB_mk hP hK hD hE hS (xsubW hD hA hS) hU hW⟩ rfl rfl hl.1 rfl (lv_room (Nat.le_of_ble_eq_true rfl)) xd_C_load_10 ⟨Nat.le_of_ble_eq_true rfl, Nat.le_of_ble_eq_true rfl⟩) hD hA hS (fun r w1 H locs hw hP hD hS => ?_)
  obtain ⟨u1, g⟩ := w1
  obtain ⟨q1, hq1⟩ : ∃ q, q = xf_T_translate u p0 p1 p3 p4 := ⟨_, rfl⟩
  obtain ⟨e1, hg⟩ := hw
  rw [← hq1] at e1
  obtain rfl : r = q1.1 := congrArg Prod.fst e1
  obtain rfl : u1 = q1.2 := congrArg Prod.snd e1
  have hP : va_P D xCl (xWH k a g q1.2) H := hP
  have hD : va_D A (xWH k a g q1.2) := hD
  have hg : xok k g q1.2 := hg
  refine lv_istore (lv' := [(6, .int (q1.1)), (0, .ref ((a 1))), (1, .int p0), (2, .int p1), (3, .int p2), (4, .ref ((z.1 p3))), (5, .int p4)]) hx hb xd_C_load_13 hl (by decide) rfl (fun ls hl => ?_)
  refine lv_iload hx hb xd_C_load_15 (lv_at hl 0 rfl) ?_
  refine lv_if_ge (tgt := 21) hx hb xd_C_load_17 rfl (fun h2 => ?_) (fun h2 => ?_)
  · refine lv_aload_n hx hb xd_C_load_21 rfl (lv_at hl 1 rfl) ?_
    refine xget_C_memory hx hb htg hown hK hP (htg _ xw_204) xd_C_load_22 ?_
    refine lv_iload hx hb xd_C_load_25 (lv_at hl 0 rfl) ?_
    refine lv_iload_n hx hb xd_C_load_27 rfl (lv_at hl 3 rfl) ?_
    obtain ⟨q4, hq4⟩ : ∃ q, q = xf_M_read 64 (xg_M q1.2).1 q1.1 p1 := ⟨_, rfl⟩
    refine xcM_i hq4 (va_runV (As := [.int (q1.1), .int p1]) (rest := []) ⟨hx, hb, hml, hown, htg⟩ (c_M_read l D z k H.size (a 8) (a 10) 64 (by decide) g.1 (xg_M q1.2).1 hg.1 q1.1 p1) (cwV 2 htg (xg_V0 xkin_M_read xw_524 xw_525 xsel_M_read xw_3) rfl rfl rfl (by decide +kernel) ⟨Nat.le_of_ble_eq_true rfl, Nat.le_of_ble_eq_true rfl⟩) ⟨xB_blind, xrecv_M hK hP, fun U hU hW => xpre_M hP hK hD hE hS hA hU hW⟩ rfl rfl hl.1 rfl (lv_room (Nat.le_of_ble_eq_true rfl)) xd_C_load_28 ⟨Nat.le_of_ble_eq_true rfl, Nat.le_of_ble_eq_true rfl⟩) hP hD hA hS hg (fun g H locs hP hD hS hg => ?_)
    refine lv_istore (lv' := [(7, .int (q4.1)), (6, .int (q1.1)), (0, .ref ((a 1))), (1, .int p0), (2, .int p1), (3, .int p2), (4, .ref ((z.1 p3))), (5, .int p4)]) hx hb xd_C_load_31 hl (by decide) rfl (fun ls hl => ?_)
    refine lv_aload_n hx hb xd_C_load_33 rfl (lv_at hl 2 rfl) ?_
    refine lv_aload_n hx hb xd_C_load_34 rfl (lv_at hl 2 rfl) ?_
    refine xget_C_word (v := (xg_C_word (xs_M1 q1.2 q4.2))) hx hb htg hown hK hP (htg _ xw_224) rfl xd_C_load_35 ?_
    refine xc0_i (va_runS (As := [.int ((xg_C_word (xs_M1 q1.2 q4.2)))]) (rest := [.ref ((a 1))]) ⟨hx, hb, hml, hown, htg⟩ (c_D_d l D (xTy k) z H.size (xg_C_word (xs_M1 q1.2 q4.2))) (va_cwS 1 htg (xg_S0 xkin_D_d xw_529 xw_530 xw_13) rfl rfl rfl (by decide +kernel) ⟨Nat.le_of_ble_eq_true rfl, Nat.le_of_ble_eq_true rfl⟩) ⟨xB_blind, fun U hU hW => xB_mk va_P0 hK va_D0 hE hS (xsub0 hA hS) hU hW⟩ rfl rfl hl.1 rfl (lv_room (Nat.le_of_ble_eq_true rfl)) xd_C_load_38 ⟨Nat.le_of_ble_eq_true rfl, Nat.le_of_ble_eq_true rfl⟩) hP hA hS (fun r5 H locs hr5 hP hS => ?_)
    refine lv_iload_n hx hb xd_C_load_41 rfl (lv_at hl 5 rfl) ?_
    have hj7 : ∀ (H : Heap) (locs : List Loc) (ls : Array Slot) (g : XG) (v6 : Int32), v6 = (if p2 = 0 then (q4.1) else (if p1 = 2 then (q4.1) else (xlt (if p1 = 0 then (255) else (65535) : Int32) fun v8 => (q4.1 &&& v8)))) → xok k g (xs_M1 q1.2 q4.2) → lv_has ls 8 [(7, .int (q4.1)), (6, .int (q1.1)), (0, .ref ((a 1))), (1, .int p0), (2, .int p1), (3, .int p2), (4, .ref ((z.1 p3))), (5, .int p4)] → va_P D xCl (xWH k a g (xs_M1 q1.2 q4.2)) H → va_D A (xWH k a g (xs_M1 q1.2 q4.2)) → va_S A s.heap H locs → W p l e { frames := 4, cells := 0, slots := 0, locals := 121 } s m args below meth c H locs (0) (0) Q (F0 m 71 ls [.int v6, .int r5, .ref ((a 1))]) := by
      intro H locs ls g v6 hv6 hg hl hP hD hS
      refine xcW_v (va_runV (As := [.int r5, .int v6]) (rest := []) ⟨hx, hb, hml, hown, htg⟩ (c_C_put l D z k a g H.size (xs_M1 q1.2 q4.2) hg r5 v6 (xin_eq hr5 (xin_d _))) (cwV 2 htg (xg_V0 xkin_C_put xw_533 xw_322 xsel_C_put xw_2) rfl rfl rfl (by decide +kernel) ⟨Nat.le_of_ble_eq_true rfl, Nat.le_of_ble_eq_true rfl⟩) ⟨xB_blind, xrecv_C hK hP, fun U hU hW => xB_mk hP hK hD hE hS (xsubW hD hA hS) hU hW⟩ rfl rfl hl.1 rfl (lv_room (Nat.le_of_ble_eq_true rfl)) xd_C_load_71 ⟨Nat.le_of_ble_eq_true rfl, Nat.le_of_ble_eq_true rfl⟩) hD hA hS (fun w1 H locs hw hP hD hS => ?_)
      obtain ⟨u1, g⟩ := w1
      obtain ⟨q8, hq8⟩ : ∃ q, q = xf_C_put (xs_M1 q1.2 q4.2) r5 v6 := ⟨_, rfl⟩
      obtain ⟨e2, hg⟩ := hw
      rw [← hq8] at e2
      obtain rfl : q8 = u1 := e2.symm
      have hP : va_P D xCl (xWH k a g q8) H := hP
      have hD : va_D A (xWH k a g q8) := hD
      have hg : xok k g q8 := hg
      exact hret (q8, g) H locs ls _ ⟨(by unfold xf_C_load; exact (xlt_e hq1 (xit h2 (xlt_e hq4 (xlt_e hr5 (xlt_e hv6 (xlt_e hq8 rfl))))))), hg⟩ hP hD hS xd_C_load_74
    refine lv_if_eq (tgt := 69) hx hb xd_C_load_42 rfl (fun h9 => ?_) (fun h9 => ?_)
    · refine lv_iload hx hb xd_C_load_69 (lv_at hl 0 rfl) ?_
      exact hj7 H locs ls g q4.1 (xit h9 rfl) hg hl hP hD hS
    · refine lv_iload_n hx hb xd_C_load_45 rfl (lv_at hl 4 rfl) ?_
      refine lv_iconst (v := 2) hx hb xd_C_load_46 (by decide) ?_
      refine lv_icmp_eq (tgt := 69) hx hb xd_C_load_47 rfl (fun h10 => ?_) (fun h10 => ?_)
      · refine lv_iload hx hb xd_C_load_69 (lv_at hl 0 rfl) ?_
        exact hj7 H locs ls g q4.1 (xif h9 (xit h10 rfl)) hg hl hP hD hS
      · refine lv_iload hx hb xd_C_load_50 (lv_at hl 0 rfl) ?_
        refine lv_iload_n hx hb xd_C_load_52 rfl (lv_at hl 4 rfl) ?_
        have hj12 : ∀ (H : Heap) (locs : List Loc) (ls : Array Slot) (g : XG) (v11 : Int32), v11 = (if p1 = 0 then (255) else (65535)) → xok k g (xs_M1 q1.2 q4.2) → lv_has ls 8 [(7, .int (q4.1)), (6, .int (q1.1)), (0, .ref ((a 1))), (1, .int p0), (2, .int p1), (3, .int p2), (4, .ref ((z.1 p3))), (5, .int p4)] → va_P D xCl (xWH k a g (xs_M1 q1.2 q4.2)) H → va_D A (xWH k a g (xs_M1 q1.2 q4.2)) → va_S A s.heap H locs → W p l e { frames := 4, cells := 0, slots := 0, locals := 121 } s m args below meth c H locs (0) (0) Q (F0 m 65 ls [.int v11, .int (q4.1), .int r5, .ref ((a 1))]) := by
          intro H locs ls g v11 hv11 hg hl hP hD hS
          refine lv_iand hx hb xd_C_load_65 ?_
          refine lv_goto (tgt := 71) hx hb xd_C_load_66 rfl ?_
          exact hj7 H locs ls g (q4.1 &&& v11) (xif h9 (xif h10 (xlt_e hv11 rfl))) hg hl hP hD hS
        refine lv_if_ne (tgt := 62) hx hb xd_C_load_53 rfl (fun h13 => ?_) (fun h13 => ?_)
        · refine lv_ldcw (v := 65535) hx hb hown (htg _ xw_532) xd_C_load_62 ?_
          exact hj12 H locs ls g (65535 : Int32) (xif h13 rfl) hg hl hP hD hS
        · refine lv_sipush (v := 255) hx hb xd_C_load_56 (by decide) ?_
          refine lv_goto (tgt := 65) hx hb xd_C_load_59 rfl ?_
          exact hj12 H locs ls g (255 : Int32) (xit h13 rfl) hg hl hP hD hS
  · exact hret (q1.2, g) H locs ls _ ⟨(by unfold xf_C_load; exact (xlt_e hq1 (xif h2 rfl))), hg⟩ hP hD hS xd_C_load_20

noncomputable def xf_C_loadOp (u : XH) : XH :=
  xlt (xf_D_f (xg_C_word u) : Int32) fun r1 =>
  if r1 = 3 then
    xlt (xf_C_refuse u (2 : Int32) : XH) fun q3 =>
    q3
  else
    if r1 ≤ 5 then
      xlt (xf_D_a (xg_C_word u) : Int32) fun r5 =>
      xlt (xf_D_immediate (xg_C_word u) : Int32) fun r6 =>
      xlt (if r1 ≤ 3 then (0) else (1) : Int32) fun v7 =>
      xlt (xf_C_load u (((xg_x u) r5.toNatClampNeg) + r6) (r1 &&& (3 : Int32)) v7 1 (xg_C_mode u) : XH) fun q9 =>
      q9
    else
      xlt (xf_C_refuse u (2 : Int32) : XH) fun q11 =>
      q11
set_option maxHeartbeats 4000000 in
set_option maxRecDepth 100000 in
theorem c_C_loadOp (l : Launch) (D : va_G) (z : (Nat → Nat) × (Nat → Nat)) (k : ClassId × ClassId) (a : Nat → Nat) (g : XG) (sz : Nat) (u : XH) (hg : xok k g u) : Met l xy_C_loadOp (xk_C_loadOp :: lw_g) { frames := 5, cells := 0, slots := 0, locals := 148 } (va_Pc [.ref ((a 1))] (xB D (xTy k) z sz (xWH k a g u))) (va_Qv (fun q : XH × XG => q.1 = xf_C_loadOp u ∧ xok k q.2 q.1) (fun q t => xQ D (xTy k) (xWH k a q.2 q.1) (va_A (xWH k a g u) sz) t) (va_A (xWH k a g u) sz)) 0 0 (va_A (xWH k a g u) sz) := by
  refine xopen_v (wf := fun q : XH × XG => xWH k a q.2 q.1) (lv := [(0, .ref ((a 1)))]) (by decide) rfl (Nat.le_of_ble_eq_true rfl) ?_
  intro p e s m args below meth c Q ls A H locs hx hb hml htg hown hin hK hP hD hE hS hA hl hret
  refine lv_aload_n hx hb xd_C_loadOp_0 rfl (lv_at hl 0 rfl) ?_
  refine xget_C_word (v := (xg_C_word u)) hx hb htg hown hK hP (htg _ xw_224) rfl xd_C_loadOp_1 ?_
  refine xc0_i (va_runS (As := [.int ((xg_C_word u))]) (rest := []) ⟨hx, hb, hml, hown, htg⟩ (c_D_f l D (xTy k) z H.size (xg_C_word u)) (va_cwS 1 htg (xg_S0 xkin_D_f xw_499 xw_500 xw_13) rfl rfl rfl (by decide +kernel) ⟨Nat.le_of_ble_eq_true rfl, Nat.le_of_ble_eq_true rfl⟩) ⟨xB_blind, fun U hU hW => xB_mk va_P0 hK va_D0 hE hS (xsub0 hA hS) hU hW⟩ rfl rfl hl.1 rfl (lv_room (Nat.le_of_ble_eq_true rfl)) xd_C_loadOp_4 ⟨Nat.le_of_ble_eq_true rfl, Nat.le_of_ble_eq_true rfl⟩) hP hA hS (fun r1 H locs hr1 hP hS => ?_)
  refine lv_istore_n (lv' := [(1, .int r1), (0, .ref ((a 1)))]) hx hb xd_C_loadOp_7 rfl hl (by decide) rfl (fun ls hl => ?_)
  refine lv_iload_n hx hb xd_C_loadOp_8 rfl (lv_at hl 0 rfl) ?_
  refine lv_iconst (v := 3) hx hb xd_C_loadOp_9 (by decide) ?_
  refine lv_icmp_eq (tgt := 18) hx hb xd_C_loadOp_10 rfl (fun h2 => ?_) (fun h2 => ?_)
  · refine lv_aload_n hx hb xd_C_loadOp_18 rfl (lv_at hl 1 rfl) ?_
    refine lv_iconst (v := 2) hx hb xd_C_loadOp_19 (by decide) ?_
    refine xcW_v (va_runV (As := [.int 2]) (rest := []) ⟨hx, hb, hml, hown, htg⟩ (c_C_refuse l D z k a g H.size u hg (2 : Int32)) (cwV 1 htg (xg_V0 xkin_C_refuse xw_509 xw_511 xsel_C_refuse xw_2) rfl rfl rfl (by decide +kernel) ⟨Nat.le_of_ble_eq_true rfl, Nat.le_of_ble_eq_true rfl⟩) ⟨xB_blind, xrecv_C hK hP, fun U hU hW => xB_mk hP hK hD hE hS (xsubW hD hA hS) hU hW⟩ rfl rfl hl.1 rfl (lv_room (Nat.le_of_ble_eq_true rfl)) xd_C_loadOp_20 ⟨Nat.le_of_ble_eq_true rfl, Nat.le_of_ble_eq_true rfl⟩) hD hA hS (fun w1 H locs hw hP hD hS => ?_)
    obtain ⟨u1, g⟩ := w1
    obtain ⟨q3, hq3⟩ : ∃ q, q = xf_C_refuse u (2 : Int32) := ⟨_, rfl⟩
    obtain ⟨e2, hg⟩ := hw
    rw [← hq3] at e2
    obtain rfl : q3 = u1 := e2.symm
    have hP : va_P D xCl (xWH k a g q3) H := hP
    have hD : va_D A (xWH k a g q3) := hD
    have hg : xok k g q3 := hg
    exact hret (q3, g) H locs ls _ ⟨(by unfold xf_C_loadOp; exact (xlt_e hr1 (xit h2 (xlt_e hq3 rfl)))), hg⟩ hP hD hS xd_C_loadOp_23
  · refine lv_iload_n hx hb xd_C_loadOp_13 rfl (lv_at hl 0 rfl) ?_
    refine lv_iconst (v := 5) hx hb xd_C_loadOp_14 (by decide) ?_
    refine lv_icmp_le (tgt := 24) hx hb xd_C_loadOp_15 rfl (fun h4 => ?_) (fun h4 => ?_)
    · refine lv_aload_n hx hb xd_C_loadOp_24 rfl (lv_at hl 1 rfl) ?_
      refine lv_aload_n hx hb xd_C_loadOp_25 rfl (lv_at hl 1 rfl) ?_
      refine xget_C_x hx hb htg hown hK hP (htg _ xw_199) xd_C_loadOp_26 ?_
      refine lv_aload_n hx hb xd_C_loadOp_29 rfl (lv_at hl 1 rfl) ?_
      refine xget_C_word (v := (xg_C_word u)) hx hb htg hown hK hP (htg _ xw_224) rfl xd_C_loadOp_30 ?_
      refine xc0_i (va_runS (As := [.int ((xg_C_word u))]) (rest := [.ref ((a 2)), .ref ((a 1))]) ⟨hx, hb, hml, hown, htg⟩ (c_D_a l D (xTy k) z H.size (xg_C_word u)) (va_cwS 1 htg (xg_S0 xkin_D_a xw_513 xw_514 xw_13) rfl rfl rfl (by decide +kernel) ⟨Nat.le_of_ble_eq_true rfl, Nat.le_of_ble_eq_true rfl⟩) ⟨xB_blind, fun U hU hW => xB_mk va_P0 hK va_D0 hE hS (xsub0 hA hS) hU hW⟩ rfl rfl hl.1 rfl (lv_room (Nat.le_of_ble_eq_true rfl)) xd_C_loadOp_33 ⟨Nat.le_of_ble_eq_true rfl, Nat.le_of_ble_eq_true rfl⟩) hP hA hS (fun r5 H locs hr5 hP hS => ?_)
      refine xald_x (f := (xg_x u)) hx hb hK hP (xin_eq hr5 (xin_a _)) rfl xd_C_loadOp_36 ?_
      refine lv_aload_n hx hb xd_C_loadOp_37 rfl (lv_at hl 1 rfl) ?_
      refine xget_C_word (v := (xg_C_word u)) hx hb htg hown hK hP (htg _ xw_224) rfl xd_C_loadOp_38 ?_
      refine xc0_i (va_runS (As := [.int ((xg_C_word u))]) (rest := [.int (((xg_x u) r5.toNatClampNeg)), .ref ((a 1))]) ⟨hx, hb, hml, hown, htg⟩ (c_D_immediate l D (xTy k) z H.size (xg_C_word u)) (va_cwS 1 htg (xg_S0 xkin_D_immediate xw_516 xw_517 xw_13) rfl rfl rfl (by decide +kernel) ⟨Nat.le_of_ble_eq_true rfl, Nat.le_of_ble_eq_true rfl⟩) ⟨xB_blind, fun U hU hW => xB_mk va_P0 hK va_D0 hE hS (xsub0 hA hS) hU hW⟩ rfl rfl hl.1 rfl (lv_room (Nat.le_of_ble_eq_true rfl)) xd_C_loadOp_41 ⟨Nat.le_of_ble_eq_true rfl, Nat.le_of_ble_eq_true rfl⟩) hP hA hS (fun r6 H locs hr6 hP hS => ?_)
      refine lv_iadd hx hb xd_C_loadOp_44 ?_
      refine lv_iload_n hx hb xd_C_loadOp_45 rfl (lv_at hl 0 rfl) ?_
      refine lv_iconst (v := 3) hx hb xd_C_loadOp_46 (by decide) ?_
      refine lv_iand hx hb xd_C_loadOp_47 ?_
      refine lv_iload_n hx hb xd_C_loadOp_48 rfl (lv_at hl 0 rfl) ?_
      refine lv_iconst (v := 3) hx hb xd_C_loadOp_49 (by decide) ?_
      have hj8 : ∀ (H : Heap) (locs : List Loc) (ls : Array Slot) (g : XG) (v7 : Int32), v7 = (if r1 ≤ 3 then (0) else (1)) → xok k g u → lv_has ls 2 [(1, .int r1), (0, .ref ((a 1)))] → va_P D xCl (xWH k a g u) H → va_D A (xWH k a g u) → va_S A s.heap H locs → W p l e { frames := 5, cells := 0, slots := 0, locals := 148 } s m args below meth c H locs (0) (0) Q (F0 m 58 ls [.int v7, .int ((r1 &&& (3 : Int32))), .int ((((xg_x u) r5.toNatClampNeg) + r6)), .ref ((a 1))]) := by
        intro H locs ls g v7 hv7 hg hl hP hD hS
        refine va_gets hx hb (hE.1.1 1 (by decide)).1 hS hown (htg _ xw_519) (fun _ h9 => h9) xd_C_loadOp_58 ?_
        refine lv_aload_n hx hb xd_C_loadOp_61 rfl (lv_at hl 1 rfl) ?_
        refine xget_C_mode (v := (xg_C_mode u)) hx hb htg hown hK hP (htg _ xw_213) rfl xd_C_loadOp_62 ?_
        refine xcW_v (va_runV (As := [.int ((((xg_x u) r5.toNatClampNeg) + r6)), .int ((r1 &&& (3 : Int32))), .int v7, .ref ((z.1 1)), .int ((xg_C_mode u))]) (rest := []) ⟨hx, hb, hml, hown, htg⟩ (c_C_load l D z k a g H.size u hg (((xg_x u) r5.toNatClampNeg) + r6) (r1 &&& (3 : Int32)) v7 1 (xg_C_mode u) (by decide)) (cwV 5 htg (xg_V0 xkin_C_load xw_520 xw_522 xsel_C_load xw_2) rfl rfl rfl (by decide +kernel) ⟨Nat.le_of_ble_eq_true rfl, Nat.le_of_ble_eq_true rfl⟩) ⟨xB_blind, xrecv_C hK hP, fun U hU hW => xB_mk hP hK hD hE hS (xsubW hD hA hS) hU hW⟩ rfl rfl hl.1 rfl (lv_room (Nat.le_of_ble_eq_true rfl)) xd_C_loadOp_65 ⟨Nat.le_of_ble_eq_true rfl, Nat.le_of_ble_eq_true rfl⟩) hD hA hS (fun w1 H locs hw hP hD hS => ?_)
        obtain ⟨u1, g⟩ := w1
        obtain ⟨q9, hq9⟩ : ∃ q, q = xf_C_load u (((xg_x u) r5.toNatClampNeg) + r6) (r1 &&& (3 : Int32)) v7 1 (xg_C_mode u) := ⟨_, rfl⟩
        obtain ⟨e2, hg⟩ := hw
        rw [← hq9] at e2
        obtain rfl : q9 = u1 := e2.symm
        have hP : va_P D xCl (xWH k a g q9) H := hP
        have hD : va_D A (xWH k a g q9) := hD
        have hg : xok k g q9 := hg
        exact hret (q9, g) H locs ls _ ⟨(by unfold xf_C_loadOp; exact (xlt_e hr1 (xif h2 (xit h4 (xlt_e hr5 (xlt_e hr6 (xlt_e hv7 (xlt_e hq9 rfl)))))))), hg⟩ hP hD hS xd_C_loadOp_68
      refine lv_icmp_le (tgt := 57) hx hb xd_C_loadOp_50 rfl (fun h10 => ?_) (fun h10 => ?_)
      · refine lv_iconst (v := 0) hx hb xd_C_loadOp_57 (by decide) ?_
        exact hj8 H locs ls g (0 : Int32) (xit h10 rfl) hg hl hP hD hS
      · refine lv_iconst (v := 1) hx hb xd_C_loadOp_53 (by decide) ?_
        refine lv_goto (tgt := 58) hx hb xd_C_loadOp_54 rfl ?_
        exact hj8 H locs ls g (1 : Int32) (xif h10 rfl) hg hl hP hD hS
    · refine lv_aload_n hx hb xd_C_loadOp_18 rfl (lv_at hl 1 rfl) ?_
      refine lv_iconst (v := 2) hx hb xd_C_loadOp_19 (by decide) ?_
      refine xcW_v (va_runV (As := [.int 2]) (rest := []) ⟨hx, hb, hml, hown, htg⟩ (c_C_refuse l D z k a g H.size u hg (2 : Int32)) (cwV 1 htg (xg_V0 xkin_C_refuse xw_509 xw_511 xsel_C_refuse xw_2) rfl rfl rfl (by decide +kernel) ⟨Nat.le_of_ble_eq_true rfl, Nat.le_of_ble_eq_true rfl⟩) ⟨xB_blind, xrecv_C hK hP, fun U hU hW => xB_mk hP hK hD hE hS (xsubW hD hA hS) hU hW⟩ rfl rfl hl.1 rfl (lv_room (Nat.le_of_ble_eq_true rfl)) xd_C_loadOp_20 ⟨Nat.le_of_ble_eq_true rfl, Nat.le_of_ble_eq_true rfl⟩) hD hA hS (fun w1 H locs hw hP hD hS => ?_)
      obtain ⟨u1, g⟩ := w1
      obtain ⟨q11, hq11⟩ : ∃ q, q = xf_C_refuse u (2 : Int32) := ⟨_, rfl⟩
      obtain ⟨e2, hg⟩ := hw
      rw [← hq11] at e2
      obtain rfl : q11 = u1 := e2.symm
      have hP : va_P D xCl (xWH k a g q11) H := hP
      have hD : va_D A (xWH k a g q11) := hD
      have hg : xok k g q11 := hg
      exact hret (q11, g) H locs ls _ ⟨(by unfold xf_C_loadOp; exact (xlt_e hr1 (xif h2 (xif h4 (xlt_e hq11 rfl))))), hg⟩ hP hD hS xd_C_loadOp_23
