noncomputable def xf_T_walk (u : XH) (p0 : Int32) (p1 : Int64) (p2 : Int32) (p3 : Int32) (p4 : Int32) : Int64 × XH :=
  if p0 < 0 then
    xlt (xf_T_firstPlace p0 p1 : Int64) fun r2 =>
    if (lg_cmp r2 (262144 : Int64)) < 0 then
      xlt (xf_M_readWord 64 (xg_M u).1 (Int64.toInt32 r2) : Int32 × XM1) fun q5 =>
      xlt (xf_T_isLeaf q5.1 : Int32) fun r6 =>
      if r6 = 0 then
        xlt (xf_T_isPointer q5.1 : Int32) fun r8 =>
        if r8 = 0 then
          ((-1), (xs_M1 u q5.2))
        else
          xlt (xf_T_nextPlace q5.1 p1 : Int64) fun r10 =>
          if (lg_cmp r10 (262144 : Int64)) < 0 then
            xlt (xf_M_readWord 64 (xg_M (xs_M1 u q5.2)).1 (Int64.toInt32 r10) : Int32 × XM1) fun q13 =>
            xlt (xf_T_isLeaf q13.1 : Int32) fun r14 =>
            if r14 = 0 then
              xlt (xf_T_isPointer q13.1 : Int32) fun r16 =>
              if r16 = 0 then
                ((-1), (xs_M1 (xs_M1 u q5.2) q13.2))
              else
                xlt (xf_T_nextPlace q13.1 p1 : Int64) fun r18 =>
                ((-1), (xs_M1 (xs_M1 u q5.2) q13.2))
            else
              xlt (xf_T_allows q13.1 (1 : Int32) p2 p3 p4 : Int32) fun r19 =>
              xlt (if r19 = 0 then ((-1)) else (xlt (xf_T_result q13.1 (1 : Int32) p1 : Int64) fun r21 => xlt (xf_T_inMemory r21 : Int64) fun r22 => r22) : Int64) fun v20 =>
              (v20, (xs_M1 (xs_M1 u q5.2) q13.2))
          else
            ((-3), (xs_M1 u q5.2))
      else
        xlt (xf_T_allows q5.1 (0 : Int32) p2 p3 p4 : Int32) fun r25 =>
        xlt (if r25 = 0 then ((-1)) else (xlt (xf_T_result q5.1 (0 : Int32) p1 : Int64) fun r27 => xlt (xf_T_inMemory r27 : Int64) fun r28 => r28) : Int64) fun v26 =>
        (v26, (xs_M1 u q5.2))
    else
      ((-3), u)
  else
    xlt (xf_T_inMemory p1 : Int64) fun r31 =>
    (r31, u)
set_option maxHeartbeats 4000000 in
set_option maxRecDepth 100000 in
theorem c_T_walk (l : Launch) (D : va_G) (z : (Nat → Nat) × (Nat → Nat)) (k : ClassId × ClassId) (a : Nat → Nat) (g : XG) (sz : Nat) (u : XH) (hg : xok k g u) (p0 : Int32) (p1 : Int64) (p2 : Int32) (p3 : Int32) (p4 : Int32) : Met l xy_T_walk (xk_T_walk :: lw_g) { frames := 1, cells := 0, slots := 0, locals := 25 } (va_Pc [.ref ((a 3)), .int p0, .long p1, .int p2, .int p3, .int p4] (xB D (xTy k) z sz (xWH k a g u))) (va_Ql (fun r (q : XH × XG) => (r, q.1) = xf_T_walk u p0 p1 p2 p3 p4 ∧ xok k q.2 q.1) (fun q t => xQ D (xTy k) (xWH k a q.2 q.1) (va_A (xWH k a g u) sz) t) (va_A (xWH k a g u) sz)) 0 0 (va_A (xWH k a g u) sz) := by
  refine xopen_l (wf := fun q : XH × XG => xWH k a q.2 q.1) (lv := [(0, .ref ((a 3))), (1, .int p0), (2, .long p1), (4, .int p2), (5, .int p3), (6, .int p4)]) (by decide) rfl (Nat.le_of_ble_eq_true rfl) ?_
  intro p e s m args below meth c Q ls A H locs hx hb hml htg hown hin hK hP hD hE hS hA hl hret
  refine lv_iload_n hx hb xd_T_walk_0 rfl (lv_at hl 1 rfl) ?_
  refine lv_if_lt (tgt := 9) hx hb xd_T_walk_1 rfl (fun h1 => ?_) (fun h1 => ?_)
  · refine lv_iload_n hx hb xd_T_walk_9 rfl (lv_at hl 1 rfl) ?_
    refine lv_lload_n hx hb xd_T_walk_10 rfl (lv_at hl 2 rfl) ?_
    refine xc0_l (va_runS (As := [.int p0, .long p1]) (rest := []) ⟨hx, hb, hml, hown, htg⟩ (c_T_firstPlace l D (xTy k) z H.size p0 p1) (va_cwS 2 htg (xg_S0 xkin_T_firstPlace xw_446 xw_447 xw_4) rfl rfl rfl (by decide +kernel) ⟨Nat.le_of_ble_eq_true rfl, Nat.le_of_ble_eq_true rfl⟩) ⟨xB_blind, fun U hU hW => xB_mk va_P0 hK va_D0 hE hS (xsub0 hA hS) hU hW⟩ rfl rfl hl.1 rfl (lv_room (Nat.le_of_ble_eq_true rfl)) xd_T_walk_11 ⟨Nat.le_of_ble_eq_true rfl, Nat.le_of_ble_eq_true rfl⟩) hP hA hS (fun r2 H locs hr2 hP hS => ?_)
    refine lv_lstore (lv' := [(7, .long r2), (0, .ref ((a 3))), (1, .int p0), (2, .long p1), (4, .int p2), (5, .int p3), (6, .int p4)]) hx hb xd_T_walk_14 hl (by decide) rfl (fun ls hl => ?_)
    refine lv_iconst (v := 0) hx hb xd_T_walk_16 (by decide) ?_
    refine lv_istore (lv' := [(9, .int 0), (7, .long r2), (0, .ref ((a 3))), (1, .int p0), (2, .long p1), (4, .int p2), (5, .int p3), (6, .int p4)]) hx hb xd_T_walk_17 hl (by decide) rfl (fun ls hl => ?_)
    refine lv_iload hx hb xd_T_walk_19 (lv_at hl 0 rfl) ?_
    refine lv_iconst (v := 2) hx hb xd_T_walk_21 (by decide) ?_
    refine lv_icmp_ge (tgt := 118) hx hb xd_T_walk_22 rfl (fun h => absurd h (by decide)) (fun _ => ?_)
    refine lv_lload hx hb xd_T_walk_25 (lv_at hl 1 rfl) ?_
    refine lv_ldc2 (v := 262144) hx hb hown (htg _ xw_458) xd_T_walk_27 ?_
    refine W.lcmp hx hb xd_T_walk_30 ?_
    refine lv_if_lt (tgt := 38) hx hb xd_T_walk_31 rfl (fun h3 => ?_) (fun h3 => ?_)
    · refine lv_aload_n hx hb xd_T_walk_38 rfl (lv_at hl 2 rfl) ?_
      refine xget_T_memory hx hb htg hown hK hP (htg _ xw_186) xd_T_walk_39 ?_
      refine lv_lload hx hb xd_T_walk_42 (lv_at hl 1 rfl) ?_
      refine lv_l2i (v := (Int64.toInt32 r2)) hx hb xd_T_walk_44 rfl ?_
      obtain ⟨q5, hq5⟩ : ∃ q, q = xf_M_readWord 64 (xg_M u).1 (Int64.toInt32 r2) := ⟨_, rfl⟩
      refine xcM_i hq5 (va_runV (As := [.int ((Int64.toInt32 r2))]) (rest := []) ⟨hx, hb, hml, hown, htg⟩ (c_M_readWord l D z k H.size (a 8) (a 10) 64 (by decide) g.1 (xg_M u).1 hg.1 (Int64.toInt32 r2)) (cwV 1 htg (xg_V0 xkin_M_readWord xw_460 xw_310 xsel_M_readWord xw_3) rfl rfl rfl (by decide +kernel) ⟨Nat.le_of_ble_eq_true rfl, Nat.le_of_ble_eq_true rfl⟩) ⟨xB_blind, xrecv_M hK hP, fun U hU hW => xpre_M hP hK hD hE hS hA hU hW⟩ rfl rfl hl.1 rfl (lv_room (Nat.le_of_ble_eq_true rfl)) xd_T_walk_45 ⟨Nat.le_of_ble_eq_true rfl, Nat.le_of_ble_eq_true rfl⟩) hP hD hA hS hg (fun g H locs hP hD hS hg => ?_)
      refine lv_istore (lv' := [(10, .int (q5.1)), (9, .int 0), (7, .long r2), (0, .ref ((a 3))), (1, .int p0), (2, .long p1), (4, .int p2), (5, .int p3), (6, .int p4)]) hx hb xd_T_walk_48 hl (by decide) rfl (fun ls hl => ?_)
      refine lv_iload hx hb xd_T_walk_50 (lv_at hl 0 rfl) ?_
      refine xc0_i (va_runS (As := [.int (q5.1)]) (rest := []) ⟨hx, hb, hml, hown, htg⟩ (c_T_isLeaf l D (xTy k) z H.size q5.1) (va_cwS 1 htg (xg_S0 xkin_T_isLeaf xw_461 xw_462 xw_4) rfl rfl rfl (by decide +kernel) ⟨Nat.le_of_ble_eq_true rfl, Nat.le_of_ble_eq_true rfl⟩) ⟨xB_blind, fun U hU hW => xB_mk va_P0 hK va_D0 hE hS (xsub0 hA hS) hU hW⟩ rfl rfl hl.1 rfl (lv_room (Nat.le_of_ble_eq_true rfl)) xd_T_walk_52 ⟨Nat.le_of_ble_eq_true rfl, Nat.le_of_ble_eq_true rfl⟩) hP hA hS (fun r6 H locs hr6 hP hS => ?_)
      refine lv_if_eq (tgt := 92) hx hb xd_T_walk_55 rfl (fun h7 => ?_) (fun h7 => ?_)
      · refine lv_iload hx hb xd_T_walk_92 (lv_at hl 0 rfl) ?_
        refine xc0_i (va_runS (As := [.int (q5.1)]) (rest := []) ⟨hx, hb, hml, hown, htg⟩ (c_T_isPointer l D (xTy k) z H.size q5.1) (va_cwS 1 htg (xg_S0 xkin_T_isPointer xw_472 xw_473 xw_4) rfl rfl rfl (by decide +kernel) ⟨Nat.le_of_ble_eq_true rfl, Nat.le_of_ble_eq_true rfl⟩) ⟨xB_blind, fun U hU hW => xB_mk va_P0 hK va_D0 hE hS (xsub0 hA hS) hU hW⟩ rfl rfl hl.1 rfl (lv_room (Nat.le_of_ble_eq_true rfl)) xd_T_walk_94 ⟨Nat.le_of_ble_eq_true rfl, Nat.le_of_ble_eq_true rfl⟩) hP hA hS (fun r8 H locs hr8 hP hS => ?_)
        refine lv_if_ne (tgt := 104) hx hb xd_T_walk_97 rfl (fun h9 => ?_) (fun h9 => ?_)
        · refine lv_iload hx hb xd_T_walk_104 (lv_at hl 0 rfl) ?_
          refine lv_lload_n hx hb xd_T_walk_106 rfl (lv_at hl 5 rfl) ?_
          refine xc0_l (va_runS (As := [.int (q5.1), .long p1]) (rest := []) ⟨hx, hb, hml, hown, htg⟩ (c_T_nextPlace l D (xTy k) z H.size q5.1 p1) (va_cwS 2 htg (xg_S0 xkin_T_nextPlace xw_475 xw_476 xw_4) rfl rfl rfl (by decide +kernel) ⟨Nat.le_of_ble_eq_true rfl, Nat.le_of_ble_eq_true rfl⟩) ⟨xB_blind, fun U hU hW => xB_mk va_P0 hK va_D0 hE hS (xsub0 hA hS) hU hW⟩ rfl rfl hl.1 rfl (lv_room (Nat.le_of_ble_eq_true rfl)) xd_T_walk_107 ⟨Nat.le_of_ble_eq_true rfl, Nat.le_of_ble_eq_true rfl⟩) hP hA hS (fun r10 H locs hr10 hP hS => ?_)
          refine lv_lstore (lv' := [(7, .long r10), (10, .int (q5.1)), (9, .int 0), (0, .ref ((a 3))), (1, .int p0), (2, .long p1), (4, .int p2), (5, .int p3), (6, .int p4)]) hx hb xd_T_walk_110 hl (by decide) rfl (fun ls hl => ?_)
          refine lv_iinc (k := 2) (v := 1) (lv' := [(9, .int 1), (7, .long r10), (10, .int (q5.1)), (0, .ref ((a 3))), (1, .int p0), (2, .long p1), (4, .int p2), (5, .int p3), (6, .int p4)]) hx hb xd_T_walk_112 hl rfl (by first | rfl | decide) (by decide) rfl (fun ls hl => ?_)
          refine lv_goto (tgt := 19) hx hb xd_T_walk_115 rfl ?_
          refine lv_iload hx hb xd_T_walk_19 (lv_at hl 0 rfl) ?_
          refine lv_iconst (v := 2) hx hb xd_T_walk_21 (by decide) ?_
          refine lv_icmp_ge (tgt := 118) hx hb xd_T_walk_22 rfl (fun h => absurd h (by decide)) (fun _ => ?_)
          refine lv_lload hx hb xd_T_walk_25 (lv_at hl 1 rfl) ?_
          refine lv_ldc2 (v := 262144) hx hb hown (htg _ xw_458) xd_T_walk_27 ?_
          refine W.lcmp hx hb xd_T_walk_30 ?_
          refine lv_if_lt (tgt := 38) hx hb xd_T_walk_31 rfl (fun h11 => ?_) (fun h11 => ?_)
          · refine lv_aload_n hx hb xd_T_walk_38 rfl (lv_at hl 3 rfl) ?_
            refine xget_T_memory hx hb htg hown hK hP (htg _ xw_186) xd_T_walk_39 ?_
            refine lv_lload hx hb xd_T_walk_42 (lv_at hl 1 rfl) ?_
            refine lv_l2i (v := (Int64.toInt32 r10)) hx hb xd_T_walk_44 rfl ?_
            obtain ⟨q13, hq13⟩ : ∃ q, q = xf_M_readWord 64 (xg_M (xs_M1 u q5.2)).1 (Int64.toInt32 r10) := ⟨_, rfl⟩
            refine xcM_i hq13 (va_runV (As := [.int ((Int64.toInt32 r10))]) (rest := []) ⟨hx, hb, hml, hown, htg⟩ (c_M_readWord l D z k H.size (a 8) (a 10) 64 (by decide) g.1 (xg_M (xs_M1 u q5.2)).1 hg.1 (Int64.toInt32 r10)) (cwV 1 htg (xg_V0 xkin_M_readWord xw_460 xw_310 xsel_M_readWord xw_3) rfl rfl rfl (by decide +kernel) ⟨Nat.le_of_ble_eq_true rfl, Nat.le_of_ble_eq_true rfl⟩) ⟨xB_blind, xrecv_M hK hP, fun U hU hW => xpre_M hP hK hD hE hS hA hU hW⟩ rfl rfl hl.1 rfl (lv_room (Nat.le_of_ble_eq_true rfl)) xd_T_walk_45 ⟨Nat.le_of_ble_eq_true rfl, Nat.le_of_ble_eq_true rfl⟩) hP hD hA hS hg (fun g H locs hP hD hS hg => ?_)
            refine lv_istore (lv' := [(10, .int (q13.1)), (9, .int 1), (7, .long r10), (0, .ref ((a 3))), (1, .int p0), (2, .long p1), (4, .int p2), (5, .int p3), (6, .int p4)]) hx hb xd_T_walk_48 hl (by decide) rfl (fun ls hl => ?_)
            refine lv_iload hx hb xd_T_walk_50 (lv_at hl 0 rfl) ?_
            refine xc0_i (va_runS (As := [.int (q13.1)]) (rest := []) ⟨hx, hb, hml, hown, htg⟩ (c_T_isLeaf l D (xTy k) z H.size q13.1) (va_cwS 1 htg (xg_S0 xkin_T_isLeaf xw_461 xw_462 xw_4) rfl rfl rfl (by decide +kernel) ⟨Nat.le_of_ble_eq_true rfl, Nat.le_of_ble_eq_true rfl⟩) ⟨xB_blind, fun U hU hW => xB_mk va_P0 hK va_D0 hE hS (xsub0 hA hS) hU hW⟩ rfl rfl hl.1 rfl (lv_room (Nat.le_of_ble_eq_true rfl)) xd_T_walk_52 ⟨Nat.le_of_ble_eq_true rfl, Nat.le_of_ble_eq_true rfl⟩) hP hA hS (fun r14 H locs hr14 hP hS => ?_)
            refine lv_if_eq (tgt := 92) hx hb xd_T_walk_55 rfl (fun h15 => ?_) (fun h15 => ?_)
            · refine lv_iload hx hb xd_T_walk_92 (lv_at hl 0 rfl) ?_
              refine xc0_i (va_runS (As := [.int (q13.1)]) (rest := []) ⟨hx, hb, hml, hown, htg⟩ (c_T_isPointer l D (xTy k) z H.size q13.1) (va_cwS 1 htg (xg_S0 xkin_T_isPointer xw_472 xw_473 xw_4) rfl rfl rfl (by decide +kernel) ⟨Nat.le_of_ble_eq_true rfl, Nat.le_of_ble_eq_true rfl⟩) ⟨xB_blind, fun U hU hW => xB_mk va_P0 hK va_D0 hE hS (xsub0 hA hS) hU hW⟩ rfl rfl hl.1 rfl (lv_room (Nat.le_of_ble_eq_true rfl)) xd_T_walk_94 ⟨Nat.le_of_ble_eq_true rfl, Nat.le_of_ble_eq_true rfl⟩) hP hA hS (fun r16 H locs hr16 hP hS => ?_)
              refine lv_if_ne (tgt := 104) hx hb xd_T_walk_97 rfl (fun h17 => ?_) (fun h17 => ?_)
              · refine lv_iload hx hb xd_T_walk_104 (lv_at hl 0 rfl) ?_
                refine lv_lload_n hx hb xd_T_walk_106 rfl (lv_at hl 5 rfl) ?_
                refine xc0_l (va_runS (As := [.int (q13.1), .long p1]) (rest := []) ⟨hx, hb, hml, hown, htg⟩ (c_T_nextPlace l D (xTy k) z H.size q13.1 p1) (va_cwS 2 htg (xg_S0 xkin_T_nextPlace xw_475 xw_476 xw_4) rfl rfl rfl (by decide +kernel) ⟨Nat.le_of_ble_eq_true rfl, Nat.le_of_ble_eq_true rfl⟩) ⟨xB_blind, fun U hU hW => xB_mk va_P0 hK va_D0 hE hS (xsub0 hA hS) hU hW⟩ rfl rfl hl.1 rfl (lv_room (Nat.le_of_ble_eq_true rfl)) xd_T_walk_107 ⟨Nat.le_of_ble_eq_true rfl, Nat.le_of_ble_eq_true rfl⟩) hP hA hS (fun r18 H locs hr18 hP hS => ?_)
                refine lv_lstore (lv' := [(7, .long r18), (10, .int (q13.1)), (9, .int 1), (0, .ref ((a 3))), (1, .int p0), (2, .long p1), (4, .int p2), (5, .int p3), (6, .int p4)]) hx hb xd_T_walk_110 hl (by decide) rfl (fun ls hl => ?_)
                refine lv_iinc (k := 2) (v := 2) (lv' := [(9, .int 2), (7, .long r18), (10, .int (q13.1)), (0, .ref ((a 3))), (1, .int p0), (2, .long p1), (4, .int p2), (5, .int p3), (6, .int p4)]) hx hb xd_T_walk_112 hl rfl (by first | rfl | decide) (by decide) rfl (fun ls hl => ?_)
                refine lv_goto (tgt := 19) hx hb xd_T_walk_115 rfl ?_
                refine lv_iload hx hb xd_T_walk_19 (lv_at hl 0 rfl) ?_
                refine lv_iconst (v := 2) hx hb xd_T_walk_21 (by decide) ?_
                refine lv_icmp_ge (tgt := 118) hx hb xd_T_walk_22 rfl (fun _ => ?_) (fun h => absurd h (by decide))
                refine lv_ldc2 (v := (-1)) hx hb hown (htg _ xw_471) xd_T_walk_118 ?_
                exact hret _ ((xs_M1 (xs_M1 u q5.2) q13.2), g) H locs ls _ ⟨(by unfold xf_T_walk; exact (xit h1 (xlt_e hr2 (xit h3 (xlt_e hq5 (xlt_e hr6 (xit h7 (xlt_e hr8 (xif h9 (xlt_e hr10 (xit h11 (xlt_e hq13 (xlt_e hr14 (xit h15 (xlt_e hr16 (xif h17 (xlt_e hr18 rfl))))))))))))))))), hg⟩ hP hD hS xd_T_walk_121
              · refine lv_ldc2 (v := (-1)) hx hb hown (htg _ xw_471) xd_T_walk_100 ?_
                exact hret _ ((xs_M1 (xs_M1 u q5.2) q13.2), g) H locs ls _ ⟨(by unfold xf_T_walk; exact (xit h1 (xlt_e hr2 (xit h3 (xlt_e hq5 (xlt_e hr6 (xit h7 (xlt_e hr8 (xif h9 (xlt_e hr10 (xit h11 (xlt_e hq13 (xlt_e hr14 (xit h15 (xlt_e hr16 (xit h17 rfl)))))))))))))))), hg⟩ hP hD hS xd_T_walk_103
            · refine lv_iload hx hb xd_T_walk_58 (lv_at hl 0 rfl) ?_
              refine lv_iload hx hb xd_T_walk_60 (lv_at hl 1 rfl) ?_
              refine lv_iload hx hb xd_T_walk_62 (lv_at hl 6 rfl) ?_
              refine lv_iload hx hb xd_T_walk_64 (lv_at hl 7 rfl) ?_
              refine lv_iload hx hb xd_T_walk_66 (lv_at hl 8 rfl) ?_
              refine xc0_i (va_runS (As := [.int (q13.1), .int 1, .int p2, .int p3, .int p4]) (rest := []) ⟨hx, hb, hml, hown, htg⟩ (c_T_allows l D (xTy k) z H.size q13.1 (1 : Int32) p2 p3 p4) (va_cwS 5 htg (xg_S0 xkin_T_allows xw_464 xw_465 xw_4) rfl rfl rfl (by decide +kernel) ⟨Nat.le_of_ble_eq_true rfl, Nat.le_of_ble_eq_true rfl⟩) ⟨xB_blind, fun U hU hW => xB_mk va_P0 hK va_D0 hE hS (xsub0 hA hS) hU hW⟩ rfl rfl hl.1 rfl (lv_room (Nat.le_of_ble_eq_true rfl)) xd_T_walk_68 ⟨Nat.le_of_ble_eq_true rfl, Nat.le_of_ble_eq_true rfl⟩) hP hA hS (fun r19 H locs hr19 hP hS => ?_)
              have hj21 : ∀ (H : Heap) (locs : List Loc) (ls : Array Slot) (g : XG) (v20 : Int64), v20 = (if r19 = 0 then ((-1)) else (xlt (xf_T_result q13.1 (1 : Int32) p1 : Int64) fun r21 => xlt (xf_T_inMemory r21 : Int64) fun r22 => r22)) → xok k g (xs_M1 (xs_M1 u q5.2) q13.2) → lv_has ls 11 [(10, .int (q13.1)), (9, .int 1), (7, .long r10), (0, .ref ((a 3))), (1, .int p0), (2, .long p1), (4, .int p2), (5, .int p3), (6, .int p4)] → va_P D xCl (xWH k a g (xs_M1 (xs_M1 u q5.2) q13.2)) H → va_D A (xWH k a g (xs_M1 (xs_M1 u q5.2) q13.2)) → va_S A s.heap H locs → W p l e { frames := 1, cells := 0, slots := 0, locals := 25 } s m args below meth c H locs (0) (0) Q (F0 m 91 ls [.long v20]) := by
                intro H locs ls g v20 hv20 hg hl hP hD hS
                exact hret _ ((xs_M1 (xs_M1 u q5.2) q13.2), g) H locs ls _ ⟨(by unfold xf_T_walk; exact (xit h1 (xlt_e hr2 (xit h3 (xlt_e hq5 (xlt_e hr6 (xit h7 (xlt_e hr8 (xif h9 (xlt_e hr10 (xit h11 (xlt_e hq13 (xlt_e hr14 (xif h15 (xlt_e hr19 (xlt_e hv20 rfl)))))))))))))))), hg⟩ hP hD hS xd_T_walk_91
              refine lv_if_eq (tgt := 88) hx hb xd_T_walk_71 rfl (fun h22 => ?_) (fun h22 => ?_)
              · refine lv_ldc2 (v := (-1)) hx hb hown (htg _ xw_471) xd_T_walk_88 ?_
                exact hj21 H locs ls g (-1 : Int64) (xit h22 rfl) hg hl hP hD hS
              · refine lv_iload hx hb xd_T_walk_74 (lv_at hl 0 rfl) ?_
                refine lv_iload hx hb xd_T_walk_76 (lv_at hl 1 rfl) ?_
                refine lv_lload_n hx hb xd_T_walk_78 rfl (lv_at hl 5 rfl) ?_
                refine xc0_l (va_runS (As := [.int (q13.1), .int 1, .long p1]) (rest := []) ⟨hx, hb, hml, hown, htg⟩ (c_T_result l D (xTy k) z H.size q13.1 (1 : Int32) p1) (va_cwS 3 htg (xg_S0 xkin_T_result xw_468 xw_469 xw_4) rfl rfl rfl (by decide +kernel) ⟨Nat.le_of_ble_eq_true rfl, Nat.le_of_ble_eq_true rfl⟩) ⟨xB_blind, fun U hU hW => xB_mk va_P0 hK va_D0 hE hS (xsub0 hA hS) hU hW⟩ rfl rfl hl.1 rfl (lv_room (Nat.le_of_ble_eq_true rfl)) xd_T_walk_79 ⟨Nat.le_of_ble_eq_true rfl, Nat.le_of_ble_eq_true rfl⟩) hP hA hS (fun r23 H locs hr23 hP hS => ?_)
                refine xc0_l (va_runS (As := [.long r23]) (rest := []) ⟨hx, hb, hml, hown, htg⟩ (c_T_inMemory l D (xTy k) z H.size r23) (va_cwS 1 htg (xg_S0 xkin_T_inMemory xw_455 xw_456 xw_4) rfl rfl rfl (by decide +kernel) ⟨Nat.le_of_ble_eq_true rfl, Nat.le_of_ble_eq_true rfl⟩) ⟨xB_blind, fun U hU hW => xB_mk va_P0 hK va_D0 hE hS (xsub0 hA hS) hU hW⟩ rfl rfl hl.1 rfl (lv_room (Nat.le_of_ble_eq_true rfl)) xd_T_walk_82 ⟨Nat.le_of_ble_eq_true rfl, Nat.le_of_ble_eq_true rfl⟩) hP hA hS (fun r24 H locs hr24 hP hS => ?_)
                refine lv_goto (tgt := 91) hx hb xd_T_walk_85 rfl ?_
                exact hj21 H locs ls g r24 (xif h22 (xlt_e hr23 (xlt_e hr24 rfl))) hg hl hP hD hS
          · refine lv_ldc2 (v := (-3)) hx hb hown (htg _ xw_459) xd_T_walk_34 ?_
            exact hret _ ((xs_M1 u q5.2), g) H locs ls _ ⟨(by unfold xf_T_walk; exact (xit h1 (xlt_e hr2 (xit h3 (xlt_e hq5 (xlt_e hr6 (xit h7 (xlt_e hr8 (xif h9 (xlt_e hr10 (xif h11 rfl))))))))))), hg⟩ hP hD hS xd_T_walk_37
        · refine lv_ldc2 (v := (-1)) hx hb hown (htg _ xw_471) xd_T_walk_100 ?_
          exact hret _ ((xs_M1 u q5.2), g) H locs ls _ ⟨(by unfold xf_T_walk; exact (xit h1 (xlt_e hr2 (xit h3 (xlt_e hq5 (xlt_e hr6 (xit h7 (xlt_e hr8 (xit h9 rfl))))))))), hg⟩ hP hD hS xd_T_walk_103
      · refine lv_iload hx hb xd_T_walk_58 (lv_at hl 0 rfl) ?_
        refine lv_iload hx hb xd_T_walk_60 (lv_at hl 1 rfl) ?_
        refine lv_iload hx hb xd_T_walk_62 (lv_at hl 6 rfl) ?_
        refine lv_iload hx hb xd_T_walk_64 (lv_at hl 7 rfl) ?_
        refine lv_iload hx hb xd_T_walk_66 (lv_at hl 8 rfl) ?_
        refine xc0_i (va_runS (As := [.int (q5.1), .int 0, .int p2, .int p3, .int p4]) (rest := []) ⟨hx, hb, hml, hown, htg⟩ (c_T_allows l D (xTy k) z H.size q5.1 (0 : Int32) p2 p3 p4) (va_cwS 5 htg (xg_S0 xkin_T_allows xw_464 xw_465 xw_4) rfl rfl rfl (by decide +kernel) ⟨Nat.le_of_ble_eq_true rfl, Nat.le_of_ble_eq_true rfl⟩) ⟨xB_blind, fun U hU hW => xB_mk va_P0 hK va_D0 hE hS (xsub0 hA hS) hU hW⟩ rfl rfl hl.1 rfl (lv_room (Nat.le_of_ble_eq_true rfl)) xd_T_walk_68 ⟨Nat.le_of_ble_eq_true rfl, Nat.le_of_ble_eq_true rfl⟩) hP hA hS (fun r25 H locs hr25 hP hS => ?_)
        have hj27 : ∀ (H : Heap) (locs : List Loc) (ls : Array Slot) (g : XG) (v26 : Int64), v26 = (if r25 = 0 then ((-1)) else (xlt (xf_T_result q5.1 (0 : Int32) p1 : Int64) fun r27 => xlt (xf_T_inMemory r27 : Int64) fun r28 => r28)) → xok k g (xs_M1 u q5.2) → lv_has ls 11 [(10, .int (q5.1)), (9, .int 0), (7, .long r2), (0, .ref ((a 3))), (1, .int p0), (2, .long p1), (4, .int p2), (5, .int p3), (6, .int p4)] → va_P D xCl (xWH k a g (xs_M1 u q5.2)) H → va_D A (xWH k a g (xs_M1 u q5.2)) → va_S A s.heap H locs → W p l e { frames := 1, cells := 0, slots := 0, locals := 25 } s m args below meth c H locs (0) (0) Q (F0 m 91 ls [.long v26]) := by
          intro H locs ls g v26 hv26 hg hl hP hD hS
          exact hret _ ((xs_M1 u q5.2), g) H locs ls _ ⟨(by unfold xf_T_walk; exact (xit h1 (xlt_e hr2 (xit h3 (xlt_e hq5 (xlt_e hr6 (xif h7 (xlt_e hr25 (xlt_e hv26 rfl))))))))), hg⟩ hP hD hS xd_T_walk_91
        refine lv_if_eq (tgt := 88) hx hb xd_T_walk_71 rfl (fun h28 => ?_) (fun h28 => ?_)
        · refine lv_ldc2 (v := (-1)) hx hb hown (htg _ xw_471) xd_T_walk_88 ?_
          exact hj27 H locs ls g (-1 : Int64) (xit h28 rfl) hg hl hP hD hS
        · refine lv_iload hx hb xd_T_walk_74 (lv_at hl 0 rfl) ?_
          refine lv_iload hx hb xd_T_walk_76 (lv_at hl 1 rfl) ?_
          refine lv_lload_n hx hb xd_T_walk_78 rfl (lv_at hl 5 rfl) ?_
          refine xc0_l (va_runS (As := [.int (q5.1), .int 0, .long p1]) (rest := []) ⟨hx, hb, hml, hown, htg⟩ (c_T_result l D (xTy k) z H.size q5.1 (0 : Int32) p1) (va_cwS 3 htg (xg_S0 xkin_T_result xw_468 xw_469 xw_4) rfl rfl rfl (by decide +kernel) ⟨Nat.le_of_ble_eq_true rfl, Nat.le_of_ble_eq_true rfl⟩) ⟨xB_blind, fun U hU hW => xB_mk va_P0 hK va_D0 hE hS (xsub0 hA hS) hU hW⟩ rfl rfl hl.1 rfl (lv_room (Nat.le_of_ble_eq_true rfl)) xd_T_walk_79 ⟨Nat.le_of_ble_eq_true rfl, Nat.le_of_ble_eq_true rfl⟩) hP hA hS (fun r29 H locs hr29 hP hS => ?_)
          refine xc0_l (va_runS (As := [.long r29]) (rest := []) ⟨hx, hb, hml, hown, htg⟩ (c_T_inMemory l D (xTy k) z H.size r29) (va_cwS 1 htg (xg_S0 xkin_T_inMemory xw_455 xw_456 xw_4) rfl rfl rfl (by decide +kernel) ⟨Nat.le_of_ble_eq_true rfl, Nat.le_of_ble_eq_true rfl⟩) ⟨xB_blind, fun U hU hW => xB_mk va_P0 hK va_D0 hE hS (xsub0 hA hS) hU hW⟩ rfl rfl hl.1 rfl (lv_room (Nat.le_of_ble_eq_true rfl)) xd_T_walk_82 ⟨Nat.le_of_ble_eq_true rfl, Nat.le_of_ble_eq_true rfl⟩) hP hA hS (fun r30 H locs hr30 hP hS => ?_)
          refine lv_goto (tgt := 91) hx hb xd_T_walk_85 rfl ?_
          exact hj27 H locs ls g r30 (xif h28 (xlt_e hr29 (xlt_e hr30 rfl))) hg hl hP hD hS
    · refine lv_ldc2 (v := (-3)) hx hb hown (htg _ xw_459) xd_T_walk_34 ?_
      exact hret _ (u, g) H locs ls _ ⟨(by unfold xf_T_walk; exact (xit h1 (xlt_e hr2 (xif h3 rfl)))), hg⟩ hP hD hS xd_T_walk_37
  · refine lv_lload_n hx hb xd_T_walk_4 rfl (lv_at hl 2 rfl) ?_
    refine xc0_l (va_runS (As := [.long p1]) (rest := []) ⟨hx, hb, hml, hown, htg⟩ (c_T_inMemory l D (xTy k) z H.size p1) (va_cwS 1 htg (xg_S0 xkin_T_inMemory xw_455 xw_456 xw_4) rfl rfl rfl (by decide +kernel) ⟨Nat.le_of_ble_eq_true rfl, Nat.le_of_ble_eq_true rfl⟩) ⟨xB_blind, fun U hU hW => xB_mk va_P0 hK va_D0 hE hS (xsub0 hA hS) hU hW⟩ rfl rfl hl.1 rfl (lv_room (Nat.le_of_ble_eq_true rfl)) xd_T_walk_5 ⟨Nat.le_of_ble_eq_true rfl, Nat.le_of_ble_eq_true rfl⟩) hP hA hS (fun r31 H locs hr31 hP hS => ?_)
    exact hret _ (u, g) H locs ls _ ⟨(by unfold xf_T_walk; exact (xif h1 (xlt_e hr31 rfl))), hg⟩ hP hD hS xd_T_walk_8

noncomputable def xf_C_put (u : XH) (p0 : Int32) (p1 : Int32) : XH :=
  xlt (if p0 = 0 then (u) else ((xs_x u (upd (xg_x u) p0.toNatClampNeg p1))) : XH) fun v1 =>
  v1
set_option maxHeartbeats 4000000 in
set_option maxRecDepth 100000 in
theorem c_C_put (l : Launch) (D : va_G) (z : (Nat → Nat) × (Nat → Nat)) (k : ClassId × ClassId) (a : Nat → Nat) (g : XG) (sz : Nat) (u : XH) (hg : xok k g u) (p0 : Int32) (p1 : Int32) (hi0 : vp_in p0 32) : Met l xy_C_put (xk_C_put :: lw_g) { frames := 0, cells := 0, slots := 0, locals := 0 } (va_Pc [.ref ((a 1)), .int p0, .int p1] (xB D (xTy k) z sz (xWH k a g u))) (va_Qv (fun q : XH × XG => q.1 = xf_C_put u p0 p1 ∧ xok k q.2 q.1) (fun q t => xQ D (xTy k) (xWH k a q.2 q.1) (va_A (xWH k a g u) sz) t) (va_A (xWH k a g u) sz)) 0 0 (va_A (xWH k a g u) sz) := by
  refine xopen_v (wf := fun q : XH × XG => xWH k a q.2 q.1) (lv := [(0, .ref ((a 1))), (1, .int p0), (2, .int p1)]) (by decide) rfl (Nat.le_of_ble_eq_true rfl) ?_
  intro p e s m args below meth c Q ls A H locs hx hb hml htg hown hin hK hP hD hE hS hA hl hret
  refine lv_iload_n hx hb xd_C_put_0 rfl (lv_at hl 1 rfl) ?_
  have hj2 : ∀ (H : Heap) (locs : List Loc) (ls : Array Slot) (g : XG) (v1 : XH), v1 = (if p0 = 0 then (u) else ((xs_x u (upd (xg_x u) p0.toNatClampNeg p1)))) → xok k g v1 → lv_has ls 3 [(0, .ref ((a 1))), (1, .int p0), (2, .int p1)] → va_P D xCl (xWH k a g v1) H → va_D A (xWH k a g v1) → va_S A s.heap H locs → W p l e { frames := 0, cells := 0, slots := 0, locals := 0 } s m args below meth c H locs (0) (0) Q (F0 m 11 ls []) := by
    intro H locs ls g v1 hv1 hg hl hP hD hS
    exact hret (v1, g) H locs ls _ ⟨(by unfold xf_C_put; exact (xlt_e hv1 rfl)), hg⟩ hP hD hS xd_C_put_11
  refine lv_if_eq (tgt := 11) hx hb xd_C_put_1 rfl (fun h3 => ?_) (fun h3 => ?_)
  · exact hj2 H locs ls g u (xit h3 rfl) hg hl hP hD hS
  · refine lv_aload_n hx hb xd_C_put_4 rfl (lv_at hl 0 rfl) ?_
    refine xget_C_x hx hb htg hown hK hP (htg _ xw_199) xd_C_put_5 ?_
    refine lv_iload_n hx hb xd_C_put_8 rfl (lv_at hl 1 rfl) ?_
    refine lv_iload_n hx hb xd_C_put_9 rfl (lv_at hl 2 rfl) ?_
    refine xast_x (f := (xg_x u)) hx hb hK hP hD hS hg hi0 rfl xd_C_put_10 (fun H locs hP hD hS hg => ?_)
    exact hj2 H locs ls g (xs_x u (upd (xg_x u) p0.toNatClampNeg p1)) (xif h3 rfl) hg hl hP hD hS

noncomputable def xf_C_interrupted (u : XH) : Int32 × XH :=
  xlt (xf_K_dueForS u (xg_C_mode u) : Int32) fun q1 =>
  if q1 = (-1) then
    xlt (xf_K_dueForVs u (xg_C_mode u) : Int32) fun q3 =>
    if q3 = (-1) then
      (0, u)
    else
      xlt (xf_P_raise u ((-2147483648 : Int32) ||| (q3 - (1 : Int32))) (0 : Int32) : XH) fun q5 =>
      (1, (xs_P_interruptForVs q5 true))
  else
    xlt (xf_P_raise u ((-2147483648 : Int32) ||| q1) (0 : Int32) : XH) fun q6 =>
    (1, q6)
set_option maxHeartbeats 4000000 in
set_option maxRecDepth 100000 in
theorem c_C_interrupted (l : Launch) (D : va_G) (z : (Nat → Nat) × (Nat → Nat)) (k : ClassId × ClassId) (a : Nat → Nat) (g : XG) (sz : Nat) (u : XH) (hg : xok k g u) : Met l xy_C_interrupted (xk_C_interrupted :: lw_g) { frames := 2, cells := 0, slots := 0, locals := 43 } (va_Pc [.ref ((a 1))] (xB D (xTy k) z sz (xWH k a g u))) (va_Qi (fun r (q : XH × XG) => (r, q.1) = xf_C_interrupted u ∧ xok k q.2 q.1) (fun q t => xQ D (xTy k) (xWH k a q.2 q.1) (va_A (xWH k a g u) sz) t) (va_A (xWH k a g u) sz)) 0 0 (va_A (xWH k a g u) sz) := by
  refine xopen_z (wf := fun q : XH × XG => xWH k a q.2 q.1) (lv := [(0, .ref ((a 1)))]) (by decide) rfl (Nat.le_of_ble_eq_true rfl) ?_
  intro p e s m args below meth c Q ls A H locs hx hb hml htg hown hin hK hP hD hE hS hA hl hret
  refine lv_aload_n hx hb xd_C_interrupted_0 rfl (lv_at hl 0 rfl) ?_
  refine xget_C_controls hx hb htg hown hK hP (htg _ xw_206) xd_C_interrupted_1 ?_
  refine lv_aload_n hx hb xd_C_interrupted_4 rfl (lv_at hl 0 rfl) ?_
  refine xget_C_mode (v := (xg_C_mode u)) hx hb htg hown hK hP (htg _ xw_213) rfl xd_C_interrupted_5 ?_
  refine xcW_i (va_runV (As := [.int ((xg_C_mode u))]) (rest := []) ⟨hx, hb, hml, hown, htg⟩ (c_K_dueForS l D z k a g H.size u hg (xg_C_mode u)) (cwV 1 htg (xg_V0 xkin_K_dueForS xw_401 xw_402 xsel_K_dueForS xw_5) rfl rfl rfl (by decide +kernel) ⟨Nat.le_of_ble_eq_true rfl, Nat.le_of_ble_eq_true rfl⟩) ⟨xB_blind, xrecv_K hK hP, fun U hU hW => xB_mk hP hK hD hE hS (xsubW hD hA hS) hU hW⟩ rfl rfl hl.1 rfl (lv_room (Nat.le_of_ble_eq_true rfl)) xd_C_interrupted_8 ⟨Nat.le_of_ble_eq_true rfl, Nat.le_of_ble_eq_true rfl⟩) hD hA hS (fun r w1 H locs hw hP hD hS => ?_)
  obtain ⟨u1, g⟩ := w1
  obtain ⟨q1, hq1⟩ : ∃ q, q = xf_K_dueForS u (xg_C_mode u) := ⟨_, rfl⟩
  obtain ⟨e1, e2, hg⟩ := hw
  rw [← hq1] at e1
  obtain rfl : q1 = r := e1.symm
  obtain rfl : u = u1 := e2.symm
  have hP : va_P D xCl (xWH k a g u) H := hP
  have hD : va_D A (xWH k a g u) := hD
  have hg : xok k g u := hg
  refine lv_istore_n (lv' := [(1, .int q1), (0, .ref ((a 1)))]) hx hb xd_C_interrupted_11 rfl hl (by decide) rfl (fun ls hl => ?_)
  refine lv_iload_n hx hb xd_C_interrupted_12 rfl (lv_at hl 0 rfl) ?_
  refine lv_iconst (v := (-1)) hx hb xd_C_interrupted_13 (by decide) ?_
  refine lv_icmp_eq (tgt := 31) hx hb xd_C_interrupted_14 rfl (fun h2 => ?_) (fun h2 => ?_)
  · refine lv_aload_n hx hb xd_C_interrupted_31 rfl (lv_at hl 1 rfl) ?_
    refine xget_C_controls hx hb htg hown hK hP (htg _ xw_206) xd_C_interrupted_32 ?_
    refine lv_aload_n hx hb xd_C_interrupted_35 rfl (lv_at hl 1 rfl) ?_
    refine xget_C_mode (v := (xg_C_mode u)) hx hb htg hown hK hP (htg _ xw_213) rfl xd_C_interrupted_36 ?_
    refine xcW_i (va_runV (As := [.int ((xg_C_mode u))]) (rest := []) ⟨hx, hb, hml, hown, htg⟩ (c_K_dueForVs l D z k a g H.size u hg (xg_C_mode u)) (cwV 1 htg (xg_V0 xkin_K_dueForVs xw_415 xw_416 xsel_K_dueForVs xw_5) rfl rfl rfl (by decide +kernel) ⟨Nat.le_of_ble_eq_true rfl, Nat.le_of_ble_eq_true rfl⟩) ⟨xB_blind, xrecv_K hK hP, fun U hU hW => xB_mk hP hK hD hE hS (xsubW hD hA hS) hU hW⟩ rfl rfl hl.1 rfl (lv_room (Nat.le_of_ble_eq_true rfl)) xd_C_interrupted_39 ⟨Nat.le_of_ble_eq_true rfl, Nat.le_of_ble_eq_true rfl⟩) hD hA hS (fun r w1 H locs hw hP hD hS => ?_)
    obtain ⟨u1, g⟩ := w1
    obtain ⟨q3, hq3⟩ : ∃ q, q = xf_K_dueForVs u (xg_C_mode u) := ⟨_, rfl⟩
    obtain ⟨e1, e2, hg⟩ := hw
    rw [← hq3] at e1
    obtain rfl : q3 = r := e1.symm
    obtain rfl : u = u1 := e2.symm
    have hP : va_P D xCl (xWH k a g u) H := hP
    have hD : va_D A (xWH k a g u) := hD
    have hg : xok k g u := hg
    refine lv_istore_n (lv' := [(2, .int q3), (1, .int q1), (0, .ref ((a 1)))]) hx hb xd_C_interrupted_42 rfl hl (by decide) rfl (fun ls hl => ?_)
    refine lv_iload_n hx hb xd_C_interrupted_43 rfl (lv_at hl 0 rfl) ?_
    refine lv_iconst (v := (-1)) hx hb xd_C_interrupted_44 (by decide) ?_
    refine lv_icmp_eq (tgt := 72) hx hb xd_C_interrupted_45 rfl (fun h4 => ?_) (fun h4 => ?_)
    · refine lv_iconst (v := 0) hx hb xd_C_interrupted_72 (by decide) ?_
      exact hret _ (u, g) H locs ls _ rfl ⟨(by unfold xf_C_interrupted; exact (xlt_e hq1 (xit h2 (xlt_e hq3 (xit h4 rfl))))), hg⟩ hP hD hS xd_C_interrupted_73
    · refine lv_aload_n hx hb xd_C_interrupted_48 rfl (lv_at hl 2 rfl) ?_
      refine xget_C_trap hx hb htg hown hK hP (htg _ xw_208) xd_C_interrupted_49 ?_
      refine lv_ldc (v := (-2147483648)) hx hb hown (htg _ xw_410) xd_C_interrupted_52 ?_
      refine lv_iload_n hx hb xd_C_interrupted_54 rfl (lv_at hl 0 rfl) ?_
      refine lv_iconst (v := 1) hx hb xd_C_interrupted_55 (by decide) ?_
      refine lv_isub hx hb xd_C_interrupted_56 ?_
      refine lv_ior hx hb xd_C_interrupted_57 ?_
      refine lv_iconst (v := 0) hx hb xd_C_interrupted_58 (by decide) ?_
      refine xcW_v (va_runV (As := [.int (((-2147483648 : Int32) ||| (q3 - (1 : Int32)))), .int 0]) (rest := []) ⟨hx, hb, hml, hown, htg⟩ (c_P_raise l D z k a g H.size u hg ((-2147483648 : Int32) ||| (q3 - (1 : Int32))) (0 : Int32)) (cwV 2 htg (xg_V0 xkin_P_raise xw_411 xw_412 xsel_P_raise xw_7) rfl rfl rfl (by decide +kernel) ⟨Nat.le_of_ble_eq_true rfl, Nat.le_of_ble_eq_true rfl⟩) ⟨xB_blind, xrecv_P hK hP, fun U hU hW => xB_mk hP hK hD hE hS (xsubW hD hA hS) hU hW⟩ rfl rfl hl.1 rfl (lv_room (Nat.le_of_ble_eq_true rfl)) xd_C_interrupted_59 ⟨Nat.le_of_ble_eq_true rfl, Nat.le_of_ble_eq_true rfl⟩) hD hA hS (fun w1 H locs hw hP hD hS => ?_)
      obtain ⟨u1, g⟩ := w1
      obtain ⟨q5, hq5⟩ : ∃ q, q = xf_P_raise u ((-2147483648 : Int32) ||| (q3 - (1 : Int32))) (0 : Int32) := ⟨_, rfl⟩
      obtain ⟨e2, hg⟩ := hw
      rw [← hq5] at e2
      obtain rfl : q5 = u1 := e2.symm
      have hP : va_P D xCl (xWH k a g q5) H := hP
      have hD : va_D A (xWH k a g q5) := hD
      have hg : xok k g q5 := hg
      refine lv_aload_n hx hb xd_C_interrupted_62 rfl (lv_at hl 2 rfl) ?_
      refine xget_C_trap hx hb htg hown hK hP (htg _ xw_208) xd_C_interrupted_63 ?_
      refine lv_iconst (v := 1) hx hb xd_C_interrupted_66 (by decide) ?_
      refine xput_P_interruptForVs (v := true) hx hb htg hown hK hP hD hS hg (htg _ xw_172) xd_C_interrupted_67 (fun H locs hP hD hS hg => ?_)
      refine lv_iconst (v := 1) hx hb xd_C_interrupted_70 (by decide) ?_
      exact hret _ ((xs_P_interruptForVs q5 true), g) H locs ls _ rfl ⟨(by unfold xf_C_interrupted; exact (xlt_e hq1 (xit h2 (xlt_e hq3 (xif h4 (xlt_e hq5 rfl)))))), hg⟩ hP hD hS xd_C_interrupted_71
  · refine lv_aload_n hx hb xd_C_interrupted_17 rfl (lv_at hl 1 rfl) ?_
    refine xget_C_trap hx hb htg hown hK hP (htg _ xw_208) xd_C_interrupted_18 ?_
    refine lv_ldc (v := (-2147483648)) hx hb hown (htg _ xw_410) xd_C_interrupted_21 ?_
    refine lv_iload_n hx hb xd_C_interrupted_23 rfl (lv_at hl 0 rfl) ?_
    refine lv_ior hx hb xd_C_interrupted_24 ?_
    refine lv_iconst (v := 0) hx hb xd_C_interrupted_25 (by decide) ?_
    refine xcW_v (va_runV (As := [.int (((-2147483648 : Int32) ||| q1)), .int 0]) (rest := []) ⟨hx, hb, hml, hown, htg⟩ (c_P_raise l D z k a g H.size u hg ((-2147483648 : Int32) ||| q1) (0 : Int32)) (cwV 2 htg (xg_V0 xkin_P_raise xw_411 xw_412 xsel_P_raise xw_7) rfl rfl rfl (by decide +kernel) ⟨Nat.le_of_ble_eq_true rfl, Nat.le_of_ble_eq_true rfl⟩) ⟨xB_blind, xrecv_P hK hP, fun U hU hW => xB_mk hP hK hD hE hS (xsubW hD hA hS) hU hW⟩ rfl rfl hl.1 rfl (lv_room (Nat.le_of_ble_eq_true rfl)) xd_C_interrupted_26 ⟨Nat.le_of_ble_eq_true rfl, Nat.le_of_ble_eq_true rfl⟩) hD hA hS (fun w1 H locs hw hP hD hS => ?_)
    obtain ⟨u1, g⟩ := w1
    obtain ⟨q6, hq6⟩ : ∃ q, q = xf_P_raise u ((-2147483648 : Int32) ||| q1) (0 : Int32) := ⟨_, rfl⟩
    obtain ⟨e2, hg⟩ := hw
    rw [← hq6] at e2
    obtain rfl : q6 = u1 := e2.symm
    have hP : va_P D xCl (xWH k a g q6) H := hP
    have hD : va_D A (xWH k a g q6) := hD
    have hg : xok k g q6 := hg
    refine lv_iconst (v := 1) hx hb xd_C_interrupted_29 (by decide) ?_
    exact hret _ (q6, g) H locs ls _ rfl ⟨(by unfold xf_C_interrupted; exact (xlt_e hq1 (xif h2 (xlt_e hq6 rfl)))), hg⟩ hP hD hS xd_C_interrupted_30
theorem xt01_C_interrupted (u : XH) : X01p (xf_C_interrupted u) := by unfold xf_C_interrupted; exact (xlt_01p (fun q1 hq1 => (xit_01p (xlt_01p (fun q3 hq3 => (xit_01p (Or.inl rfl) (xlt_01p (fun q5 hq5 => (Or.inr rfl)))))) (xlt_01p (fun q6 hq6 => (Or.inr rfl))))))

noncomputable def xf_C_takeTrap (u : XH) : XH :=
  xlt (xf_H_isSupervisor (xg_C_mode u) : Int32) fun r1 =>
  xlt (if 0 ≤ (xg_P_cause u) then (u) else ((xs_C_interrupts u ((xg_C_interrupts u) + (1 : Int32)))) : XH) fun v2 =>
  xlt (xf_P_goesToVs v2 (xg_C_mode v2) (xg_K_hedeleg v2) : Int32) fun q4 =>
  xlt (if q4 = 0 then (xlt (xf_K_noteTrap (xs_C_trapsToS v2 ((xg_C_trapsToS v2) + (1 : Int32))) (xg_C_mode (xs_C_trapsToS v2 ((xg_C_trapsToS v2) + (1 : Int32)))) : XH) fun q6 => xlt (xf_B_enter (xg_S q6) (xg_C_pc q6) (xg_P_cause q6) (xg_P_tval q6) r1 : Int32 × XB) fun q7 => (xs_C_mode (xs_C_pc (xs_S q6 q7.2) q7.1) (1 : Int32))) else (xlt (xf_B_enter (xg_V (xs_C_trapsToVs v2 ((xg_C_trapsToVs v2) + (1 : Int32)))) (xg_C_pc (xs_C_trapsToVs v2 ((xg_C_trapsToVs v2) + (1 : Int32)))) (xg_P_cause (xs_C_trapsToVs v2 ((xg_C_trapsToVs v2) + (1 : Int32)))) (xg_P_tval (xs_C_trapsToVs v2 ((xg_C_trapsToVs v2) + (1 : Int32)))) r1 : Int32 × XB) fun q8 => (xs_C_mode (xs_C_pc (xs_V (xs_C_trapsToVs v2 ((xg_C_trapsToVs v2) + (1 : Int32))) q8.2) q8.1) (3 : Int32))) : XH) fun v5 =>
  v5
set_option maxHeartbeats 4000000 in
set_option maxRecDepth 100000 in
theorem c_C_takeTrap (l : Launch) (D : va_G) (z : (Nat → Nat) × (Nat → Nat)) (k : ClassId × ClassId) (a : Nat → Nat) (g : XG) (sz : Nat) (u : XH) (hg : xok k g u) : Met l xy_C_takeTrap (xk_C_takeTrap :: lw_g) { frames := 2, cells := 0, slots := 0, locals := 42 } (va_Pc [.ref ((a 1))] (xB D (xTy k) z sz (xWH k a g u))) (va_Qv (fun q : XH × XG => q.1 = xf_C_takeTrap u ∧ xok k q.2 q.1) (fun q t => xQ D (xTy k) (xWH k a q.2 q.1) (va_A (xWH k a g u) sz) t) (va_A (xWH k a g u) sz)) 0 0 (va_A (xWH k a g u) sz) := by
  refine xopen_v (wf := fun q : XH × XG => xWH k a q.2 q.1) (lv := [(0, .ref ((a 1)))]) (by decide) rfl (Nat.le_of_ble_eq_true rfl) ?_
  intro p e s m args below meth c Q ls A H locs hx hb hml htg hown hin hK hP hD hE hS hA hl hret
  refine lv_aload_n hx hb xd_C_takeTrap_0 rfl (lv_at hl 0 rfl) ?_
  refine xget_C_mode (v := (xg_C_mode u)) hx hb htg hown hK hP (htg _ xw_213) rfl xd_C_takeTrap_1 ?_
  refine xc0_i (va_runSN (As := [.int ((xg_C_mode u))]) (rest := []) ⟨hx, hb, hml, hown, htg⟩ (c_H_isSupervisor l D (xTy k) z H.size (xg_C_mode u)) ⟨va_cnB (host := "HyperHost") 1 htg (xg_C0 xkin_H_isSupervisor) rfl rfl rfl (xnest hE (by decide +kernel)) (htg _ xw_1) (by decide +kernel) ⟨Nat.le_of_ble_eq_true rfl, Nat.le_of_ble_eq_true rfl⟩, htg _ xw_437, trivial⟩ ⟨xB_blind, fun U hU hW => xB_mk va_P0 hK va_D0 hE hS (xsub0 hA hS) hU hW⟩ rfl rfl hl.1 rfl (lv_room (Nat.le_of_ble_eq_true rfl)) xd_C_takeTrap_4 ⟨Nat.le_of_ble_eq_true rfl, Nat.le_of_ble_eq_true rfl⟩) hP hA hS (fun r1 H locs hr1 hP hS => ?_)
  refine lv_istore_n (lv' := [(1, .int r1), (0, .ref ((a 1)))]) hx hb xd_C_takeTrap_7 rfl hl (by decide) rfl (fun ls hl => ?_)
  refine lv_aload_n hx hb xd_C_takeTrap_8 rfl (lv_at hl 1 rfl) ?_
  refine xget_C_trap hx hb htg hown hK hP (htg _ xw_208) xd_C_takeTrap_9 ?_
  refine xget_P_cause (v := (xg_P_cause u)) hx hb htg hown hK hP (htg _ xw_159) rfl xd_C_takeTrap_12 ?_
  have hj3 : ∀ (H : Heap) (locs : List Loc) (ls : Array Slot) (g : XG) (v2 : XH), v2 = (if 0 ≤ (xg_P_cause u) then (u) else ((xs_C_interrupts u ((xg_C_interrupts u) + (1 : Int32))))) → xok k g v2 → lv_has ls 2 [(1, .int r1), (0, .ref ((a 1)))] → va_P D xCl (xWH k a g v2) H → va_D A (xWH k a g v2) → va_S A s.heap H locs → W p l e { frames := 2, cells := 0, slots := 0, locals := 42 } s m args below meth c H locs (0) (0) Q (F0 m 28 ls []) := by
    intro H locs ls g v2 hv2 hg hl hP hD hS
    refine lv_aload_n hx hb xd_C_takeTrap_28 rfl (lv_at hl 1 rfl) ?_
    refine xget_C_trap hx hb htg hown hK hP (htg _ xw_208) xd_C_takeTrap_29 ?_
    refine lv_aload_n hx hb xd_C_takeTrap_32 rfl (lv_at hl 1 rfl) ?_
    refine xget_C_mode (v := (xg_C_mode v2)) hx hb htg hown hK hP (htg _ xw_213) rfl xd_C_takeTrap_33 ?_
    refine lv_aload_n hx hb xd_C_takeTrap_36 rfl (lv_at hl 1 rfl) ?_
    refine xget_C_controls hx hb htg hown hK hP (htg _ xw_206) xd_C_takeTrap_37 ?_
    refine xget_K_hedeleg (v := (xg_K_hedeleg v2)) hx hb htg hown hK hP (htg _ xw_109) rfl xd_C_takeTrap_40 ?_
    refine xcW_i (va_runV (As := [.int ((xg_C_mode v2)), .int ((xg_K_hedeleg v2))]) (rest := []) ⟨hx, hb, hml, hown, htg⟩ (c_P_goesToVs l D z k a g H.size v2 hg (xg_C_mode v2) (xg_K_hedeleg v2)) (cwV 2 htg (xg_V0 xkin_P_goesToVs xw_682 xw_683 xsel_P_goesToVs xw_7) rfl rfl rfl (by decide +kernel) ⟨Nat.le_of_ble_eq_true rfl, Nat.le_of_ble_eq_true rfl⟩) ⟨xB_blind, xrecv_P hK hP, fun U hU hW => xB_mk hP hK hD hE hS (xsubW hD hA hS) hU hW⟩ rfl rfl hl.1 rfl (lv_room (Nat.le_of_ble_eq_true rfl)) xd_C_takeTrap_43 ⟨Nat.le_of_ble_eq_true rfl, Nat.le_of_ble_eq_true rfl⟩) hD hA hS (fun r w1 H locs hw hP hD hS => ?_)
    obtain ⟨u1, g⟩ := w1
    obtain ⟨q4, hq4⟩ : ∃ q, q = xf_P_goesToVs v2 (xg_C_mode v2) (xg_K_hedeleg v2) := ⟨_, rfl⟩
    obtain ⟨e1, e2, hg⟩ := hw
    rw [← hq4] at e1
    obtain rfl : q4 = r := e1.symm
    obtain rfl : v2 = u1 := e2.symm
    have hP : va_P D xCl (xWH k a g v2) H := hP
    have hD : va_D A (xWH k a g v2) := hD
    have hg : xok k g v2 := hg
    have hj6 : ∀ (H : Heap) (locs : List Loc) (ls : Array Slot) (g : XG) (v5 : XH), v5 = (if q4 = 0 then (xlt (xf_K_noteTrap (xs_C_trapsToS v2 ((xg_C_trapsToS v2) + (1 : Int32))) (xg_C_mode (xs_C_trapsToS v2 ((xg_C_trapsToS v2) + (1 : Int32)))) : XH) fun q6 => xlt (xf_B_enter (xg_S q6) (xg_C_pc q6) (xg_P_cause q6) (xg_P_tval q6) r1 : Int32 × XB) fun q7 => (xs_C_mode (xs_C_pc (xs_S q6 q7.2) q7.1) (1 : Int32))) else (xlt (xf_B_enter (xg_V (xs_C_trapsToVs v2 ((xg_C_trapsToVs v2) + (1 : Int32)))) (xg_C_pc (xs_C_trapsToVs v2 ((xg_C_trapsToVs v2) + (1 : Int32)))) (xg_P_cause (xs_C_trapsToVs v2 ((xg_C_trapsToVs v2) + (1 : Int32)))) (xg_P_tval (xs_C_trapsToVs v2 ((xg_C_trapsToVs v2) + (1 : Int32)))) r1 : Int32 × XB) fun q8 => (xs_C_mode (xs_C_pc (xs_V (xs_C_trapsToVs v2 ((xg_C_trapsToVs v2) + (1 : Int32))) q8.2) q8.1) (3 : Int32)))) → xok k g v5 → lv_has ls 2 [(1, .int r1), (0, .ref ((a 1)))] → va_P D xCl (xWH k a g v5) H → va_D A (xWH k a g v5) → va_S A s.heap H locs → W p l e { frames := 2, cells := 0, slots := 0, locals := 42 } s m args below meth c H locs (0) (0) Q (F0 m 163 ls []) := by
      intro H locs ls g v5 hv5 hg hl hP hD hS
      exact hret (v5, g) H locs ls _ ⟨(by unfold xf_C_takeTrap; exact (xlt_e hr1 (xlt_e hv2 (xlt_e hq4 (xlt_e hv5 rfl))))), hg⟩ hP hD hS xd_C_takeTrap_163
    refine lv_if_eq (tgt := 100) hx hb xd_C_takeTrap_46 rfl (fun h7 => ?_) (fun h7 => ?_)
    · refine lv_aload_n hx hb xd_C_takeTrap_100 rfl (lv_at hl 1 rfl) ?_
      refine lv_dup hx hb xd_C_takeTrap_101 rfl ?_
      refine xget_C_trapsToS (v := (xg_C_trapsToS v2)) hx hb htg hown hK hP (htg _ xw_217) rfl xd_C_takeTrap_102 ?_
      refine lv_iconst (v := 1) hx hb xd_C_takeTrap_105 (by decide) ?_
      refine lv_iadd hx hb xd_C_takeTrap_106 ?_
      refine xput_C_trapsToS (v := ((xg_C_trapsToS v2) + (1 : Int32))) hx hb htg hown hK hP hD hS hg (htg _ xw_217) xd_C_takeTrap_107 (fun H locs hP hD hS hg => ?_)
      refine lv_aload_n hx hb xd_C_takeTrap_110 rfl (lv_at hl 1 rfl) ?_
      refine xget_C_controls hx hb htg hown hK hP (htg _ xw_206) xd_C_takeTrap_111 ?_
      refine lv_aload_n hx hb xd_C_takeTrap_114 rfl (lv_at hl 1 rfl) ?_
      refine xget_C_trap hx hb htg hown hK hP (htg _ xw_208) xd_C_takeTrap_115 ?_
      refine lv_aload_n hx hb xd_C_takeTrap_118 rfl (lv_at hl 1 rfl) ?_
      refine xget_C_mode (v := (xg_C_mode (xs_C_trapsToS v2 ((xg_C_trapsToS v2) + (1 : Int32))))) hx hb htg hown hK hP (htg _ xw_213) rfl xd_C_takeTrap_119 ?_
      refine xcW_v (va_runV (As := [.ref ((a 7)), .int ((xg_C_mode (xs_C_trapsToS v2 ((xg_C_trapsToS v2) + (1 : Int32)))))]) (rest := []) ⟨hx, hb, hml, hown, htg⟩ (c_K_noteTrap l D z k a g H.size (xs_C_trapsToS v2 ((xg_C_trapsToS v2) + (1 : Int32))) hg (xg_C_mode (xs_C_trapsToS v2 ((xg_C_trapsToS v2) + (1 : Int32))))) (cwV 2 htg (xg_V0 xkin_K_noteTrap xw_692 xw_693 xsel_K_noteTrap xw_5) rfl rfl rfl (by decide +kernel) ⟨Nat.le_of_ble_eq_true rfl, Nat.le_of_ble_eq_true rfl⟩) ⟨xB_blind, xrecv_K hK hP, fun U hU hW => xB_mk hP hK hD hE hS (xsubW hD hA hS) hU hW⟩ rfl rfl hl.1 rfl (lv_room (Nat.le_of_ble_eq_true rfl)) xd_C_takeTrap_122 ⟨Nat.le_of_ble_eq_true rfl, Nat.le_of_ble_eq_true rfl⟩) hD hA hS (fun w1 H locs hw hP hD hS => ?_)
      obtain ⟨u1, g⟩ := w1
      obtain ⟨q8, hq8⟩ : ∃ q, q = xf_K_noteTrap (xs_C_trapsToS v2 ((xg_C_trapsToS v2) + (1 : Int32))) (xg_C_mode (xs_C_trapsToS v2 ((xg_C_trapsToS v2) + (1 : Int32)))) := ⟨_, rfl⟩
      obtain ⟨e2, hg⟩ := hw
      rw [← hq8] at e2
      obtain rfl : q8 = u1 := e2.symm
      have hP : va_P D xCl (xWH k a g q8) H := hP
      have hD : va_D A (xWH k a g q8) := hD
      have hg : xok k g q8 := hg
      refine lv_aload_n hx hb xd_C_takeTrap_125 rfl (lv_at hl 1 rfl) ?_
      refine lv_aload_n hx hb xd_C_takeTrap_126 rfl (lv_at hl 1 rfl) ?_
      refine xget_C_controls hx hb htg hown hK hP (htg _ xw_206) xd_C_takeTrap_127 ?_
      refine xget_K_s hx hb htg hown hK hP (htg _ xw_102) xd_C_takeTrap_130 ?_
      refine lv_aload_n hx hb xd_C_takeTrap_133 rfl (lv_at hl 1 rfl) ?_
      refine xget_C_pc (v := (xg_C_pc q8)) hx hb htg hown hK hP (htg _ xw_211) rfl xd_C_takeTrap_134 ?_
      refine lv_aload_n hx hb xd_C_takeTrap_137 rfl (lv_at hl 1 rfl) ?_
      refine xget_C_trap hx hb htg hown hK hP (htg _ xw_208) xd_C_takeTrap_138 ?_
      refine xget_P_cause (v := (xg_P_cause q8)) hx hb htg hown hK hP (htg _ xw_159) rfl xd_C_takeTrap_141 ?_
      refine lv_aload_n hx hb xd_C_takeTrap_144 rfl (lv_at hl 1 rfl) ?_
      refine xget_C_trap hx hb htg hown hK hP (htg _ xw_208) xd_C_takeTrap_145 ?_
      refine xget_P_tval (v := (xg_P_tval q8)) hx hb htg hown hK hP (htg _ xw_161) rfl xd_C_takeTrap_148 ?_
      refine lv_iload_n hx hb xd_C_takeTrap_151 rfl (lv_at hl 0 rfl) ?_
      refine xcb_S_i (b0 := (xg_S q8)) rfl (va_runV (As := [.int ((xg_C_pc q8)), .int ((xg_P_cause q8)), .int ((xg_P_tval q8)), .int r1]) (rest := [.ref ((a 1))]) ⟨hx, hb, hml, hown, htg⟩ (c_B_enter l D (xTy k) z H.size (a 5) (xg_S q8) (xg_C_pc q8) (xg_P_cause q8) (xg_P_tval q8) r1) (cwV 4 htg (xg_V0 xkin_B_enter xw_687 xw_688 xsel_B_enter xw_6) rfl rfl rfl (by decide +kernel) ⟨Nat.le_of_ble_eq_true rfl, Nat.le_of_ble_eq_true rfl⟩) ⟨xB_blind, xrecv_S hK hP, fun U hU hW => xpre_S hP hK hD hE hS hA hU hW⟩ rfl rfl hl.1 rfl (lv_room (Nat.le_of_ble_eq_true rfl)) xd_C_takeTrap_152 ⟨Nat.le_of_ble_eq_true rfl, Nat.le_of_ble_eq_true rfl⟩) hP hD hA hS (fun r u1 H locs hw hP hD hS => ?_)
      obtain ⟨q9, hq9⟩ : ∃ q, q = xf_B_enter (xg_S q8) (xg_C_pc q8) (xg_P_cause q8) (xg_P_tval q8) r1 := ⟨_, rfl⟩
      rw [← hq9] at hw
      obtain rfl : r = q9.1 := congrArg Prod.fst hw
      obtain rfl : u1 = q9.2 := congrArg Prod.snd hw
      have hg := xok_S (b := q9.2) hg
      refine xput_C_pc (v := q9.1) hx hb htg hown hK hP hD hS hg (htg _ xw_211) xd_C_takeTrap_155 (fun H locs hP hD hS hg => ?_)
      refine lv_aload_n hx hb xd_C_takeTrap_158 rfl (lv_at hl 1 rfl) ?_
      refine lv_iconst (v := 1) hx hb xd_C_takeTrap_159 (by decide) ?_
      refine xput_C_mode (v := (1 : Int32)) hx hb htg hown hK hP hD hS hg (htg _ xw_213) xd_C_takeTrap_160 (fun H locs hP hD hS hg => ?_)
      exact hj6 H locs ls g (xs_C_mode (xs_C_pc (xs_S q8 q9.2) q9.1) (1 : Int32)) (xit h7 (xlt_e hq8 (xlt_e hq9 rfl))) hg hl hP hD hS
    · refine lv_aload_n hx hb xd_C_takeTrap_49 rfl (lv_at hl 1 rfl) ?_
      refine lv_dup hx hb xd_C_takeTrap_50 rfl ?_
      refine xget_C_trapsToVs (v := (xg_C_trapsToVs v2)) hx hb htg hown hK hP (htg _ xw_219) rfl xd_C_takeTrap_51 ?_
      refine lv_iconst (v := 1) hx hb xd_C_takeTrap_54 (by decide) ?_
      refine lv_iadd hx hb xd_C_takeTrap_55 ?_
      refine xput_C_trapsToVs (v := ((xg_C_trapsToVs v2) + (1 : Int32))) hx hb htg hown hK hP hD hS hg (htg _ xw_219) xd_C_takeTrap_56 (fun H locs hP hD hS hg => ?_)
      refine lv_aload_n hx hb xd_C_takeTrap_59 rfl (lv_at hl 1 rfl) ?_
      refine lv_aload_n hx hb xd_C_takeTrap_60 rfl (lv_at hl 1 rfl) ?_
      refine xget_C_controls hx hb htg hown hK hP (htg _ xw_206) xd_C_takeTrap_61 ?_
      refine xget_K_vs hx hb htg hown hK hP (htg _ xw_105) xd_C_takeTrap_64 ?_
      refine lv_aload_n hx hb xd_C_takeTrap_67 rfl (lv_at hl 1 rfl) ?_
      refine xget_C_pc (v := (xg_C_pc (xs_C_trapsToVs v2 ((xg_C_trapsToVs v2) + (1 : Int32))))) hx hb htg hown hK hP (htg _ xw_211) rfl xd_C_takeTrap_68 ?_
      refine lv_aload_n hx hb xd_C_takeTrap_71 rfl (lv_at hl 1 rfl) ?_
      refine xget_C_trap hx hb htg hown hK hP (htg _ xw_208) xd_C_takeTrap_72 ?_
      refine xget_P_cause (v := (xg_P_cause (xs_C_trapsToVs v2 ((xg_C_trapsToVs v2) + (1 : Int32))))) hx hb htg hown hK hP (htg _ xw_159) rfl xd_C_takeTrap_75 ?_
      refine lv_aload_n hx hb xd_C_takeTrap_78 rfl (lv_at hl 1 rfl) ?_
      refine xget_C_trap hx hb htg hown hK hP (htg _ xw_208) xd_C_takeTrap_79 ?_
      refine xget_P_tval (v := (xg_P_tval (xs_C_trapsToVs v2 ((xg_C_trapsToVs v2) + (1 : Int32))))) hx hb htg hown hK hP (htg _ xw_161) rfl xd_C_takeTrap_82 ?_
      refine lv_iload_n hx hb xd_C_takeTrap_85 rfl (lv_at hl 0 rfl) ?_
      refine xcb_V_i (b0 := (xg_V (xs_C_trapsToVs v2 ((xg_C_trapsToVs v2) + (1 : Int32))))) rfl (va_runV (As := [.int ((xg_C_pc (xs_C_trapsToVs v2 ((xg_C_trapsToVs v2) + (1 : Int32))))), .int ((xg_P_cause (xs_C_trapsToVs v2 ((xg_C_trapsToVs v2) + (1 : Int32))))), .int ((xg_P_tval (xs_C_trapsToVs v2 ((xg_C_trapsToVs v2) + (1 : Int32))))), .int r1]) (rest := [.ref ((a 1))]) ⟨hx, hb, hml, hown, htg⟩ (c_B_enter l D (xTy k) z H.size (a 6) (xg_V (xs_C_trapsToVs v2 ((xg_C_trapsToVs v2) + (1 : Int32)))) (xg_C_pc (xs_C_trapsToVs v2 ((xg_C_trapsToVs v2) + (1 : Int32)))) (xg_P_cause (xs_C_trapsToVs v2 ((xg_C_trapsToVs v2) + (1 : Int32)))) (xg_P_tval (xs_C_trapsToVs v2 ((xg_C_trapsToVs v2) + (1 : Int32)))) r1) (cwV 4 htg (xg_V0 xkin_B_enter xw_687 xw_688 xsel_B_enter xw_6) rfl rfl rfl (by decide +kernel) ⟨Nat.le_of_ble_eq_true rfl, Nat.le_of_ble_eq_true rfl⟩) ⟨xB_blind, xrecv_V hK hP, fun U hU hW => xpre_V hP hK hD hE hS hA hU hW⟩ rfl rfl hl.1 rfl (lv_room (Nat.le_of_ble_eq_true rfl)) xd_C_takeTrap_86 ⟨Nat.le_of_ble_eq_true rfl, Nat.le_of_ble_eq_true rfl⟩) hP hD hA hS (fun r u1 H locs hw hP hD hS => ?_)
      obtain ⟨q10, hq10⟩ : ∃ q, q = xf_B_enter (xg_V (xs_C_trapsToVs v2 ((xg_C_trapsToVs v2) + (1 : Int32)))) (xg_C_pc (xs_C_trapsToVs v2 ((xg_C_trapsToVs v2) + (1 : Int32)))) (xg_P_cause (xs_C_trapsToVs v2 ((xg_C_trapsToVs v2) + (1 : Int32)))) (xg_P_tval (xs_C_trapsToVs v2 ((xg_C_trapsToVs v2) + (1 : Int32)))) r1 := ⟨_, rfl⟩
      rw [← hq10] at hw
      obtain rfl : r = q10.1 := congrArg Prod.fst hw
      obtain rfl : u1 = q10.2 := congrArg Prod.snd hw
      have hg := xok_V (b := q10.2) hg
      refine xput_C_pc (v := q10.1) hx hb htg hown hK hP hD hS hg (htg _ xw_211) xd_C_takeTrap_89 (fun H locs hP hD hS hg => ?_)
      refine lv_aload_n hx hb xd_C_takeTrap_92 rfl (lv_at hl 1 rfl) ?_
      refine lv_iconst (v := 3) hx hb xd_C_takeTrap_93 (by decide) ?_
      refine xput_C_mode (v := (3 : Int32)) hx hb htg hown hK hP hD hS hg (htg _ xw_213) xd_C_takeTrap_94 (fun H locs hP hD hS hg => ?_)
      refine lv_goto (tgt := 163) hx hb xd_C_takeTrap_97 rfl ?_
      exact hj6 H locs ls g (xs_C_mode (xs_C_pc (xs_V (xs_C_trapsToVs v2 ((xg_C_trapsToVs v2) + (1 : Int32))) q10.2) q10.1) (3 : Int32)) (xif h7 (xlt_e hq10 rfl)) hg hl hP hD hS
  refine lv_if_ge (tgt := 28) hx hb xd_C_takeTrap_15 rfl (fun h11 => ?_) (fun h11 => ?_)
  · exact hj3 H locs ls g u (xit h11 rfl) hg hl hP hD hS
  · refine lv_aload_n hx hb xd_C_takeTrap_18 rfl (lv_at hl 1 rfl) ?_
    refine lv_dup hx hb xd_C_takeTrap_19 rfl ?_
    refine xget_C_interrupts (v := (xg_C_interrupts u)) hx hb htg hown hK hP (htg _ xw_221) rfl xd_C_takeTrap_20 ?_
    refine lv_iconst (v := 1) hx hb xd_C_takeTrap_23 (by decide) ?_
    refine lv_iadd hx hb xd_C_takeTrap_24 ?_
    refine xput_C_interrupts (v := ((xg_C_interrupts u) + (1 : Int32))) hx hb htg hown hK hP hD hS hg (htg _ xw_221) xd_C_takeTrap_25 (fun H locs hP hD hS hg => ?_)
    exact hj3 H locs ls g (xs_C_interrupts u ((xg_C_interrupts u) + (1 : Int32))) (xif h11 rfl) hg hl hP hD hS

noncomputable def xf_C_refuse (u : XH) (p0 : Int32) : XH :=
  xlt (xf_P_raise u p0 (xg_C_word u) : XH) fun q1 =>
  q1
set_option maxHeartbeats 4000000 in
set_option maxRecDepth 100000 in
theorem c_C_refuse (l : Launch) (D : va_G) (z : (Nat → Nat) × (Nat → Nat)) (k : ClassId × ClassId) (a : Nat → Nat) (g : XG) (sz : Nat) (u : XH) (hg : xok k g u) (p0 : Int32) : Met l xy_C_refuse (xk_C_refuse :: lw_g) { frames := 1, cells := 0, slots := 0, locals := 22 } (va_Pc [.ref ((a 1)), .int p0] (xB D (xTy k) z sz (xWH k a g u))) (va_Qv (fun q : XH × XG => q.1 = xf_C_refuse u p0 ∧ xok k q.2 q.1) (fun q t => xQ D (xTy k) (xWH k a q.2 q.1) (va_A (xWH k a g u) sz) t) (va_A (xWH k a g u) sz)) 0 0 (va_A (xWH k a g u) sz) := by
  refine xopen_v (wf := fun q : XH × XG => xWH k a q.2 q.1) (lv := [(0, .ref ((a 1))), (1, .int p0)]) (by decide) rfl (Nat.le_of_ble_eq_true rfl) ?_
  intro p e s m args below meth c Q ls A H locs hx hb hml htg hown hin hK hP hD hE hS hA hl hret
  refine lv_aload_n hx hb xd_C_refuse_0 rfl (lv_at hl 0 rfl) ?_
  refine xget_C_trap hx hb htg hown hK hP (htg _ xw_208) xd_C_refuse_1 ?_
  refine lv_iload_n hx hb xd_C_refuse_4 rfl (lv_at hl 1 rfl) ?_
  refine lv_aload_n hx hb xd_C_refuse_5 rfl (lv_at hl 0 rfl) ?_
  refine xget_C_word (v := (xg_C_word u)) hx hb htg hown hK hP (htg _ xw_224) rfl xd_C_refuse_6 ?_
  refine xcW_v (va_runV (As := [.int p0, .int ((xg_C_word u))]) (rest := []) ⟨hx, hb, hml, hown, htg⟩ (c_P_raise l D z k a g H.size u hg p0 (xg_C_word u)) (cwV 2 htg (xg_V0 xkin_P_raise xw_411 xw_412 xsel_P_raise xw_7) rfl rfl rfl (by decide +kernel) ⟨Nat.le_of_ble_eq_true rfl, Nat.le_of_ble_eq_true rfl⟩) ⟨xB_blind, xrecv_P hK hP, fun U hU hW => xB_mk hP hK hD hE hS (xsubW hD hA hS) hU hW⟩ rfl rfl hl.1 rfl (lv_room (Nat.le_of_ble_eq_true rfl)) xd_C_refuse_9 ⟨Nat.le_of_ble_eq_true rfl, Nat.le_of_ble_eq_true rfl⟩) hD hA hS (fun w1 H locs hw hP hD hS => ?_)
  obtain ⟨u1, g⟩ := w1
  obtain ⟨q1, hq1⟩ : ∃ q, q = xf_P_raise u p0 (xg_C_word u) := ⟨_, rfl⟩
  obtain ⟨e2, hg⟩ := hw
  rw [← hq1] at e2
  obtain rfl : q1 = u1 := e2.symm
  have hP : va_P D xCl (xWH k a g q1) H := hP
  have hD : va_D A (xWH k a g q1) := hD
  have hg : xok k g q1 := hg
  exact hret (q1, g) H locs ls _ ⟨(by unfold xf_C_refuse; exact (xlt_e hq1 rfl)), hg⟩ hP hD hS xd_C_refuse_12

noncomputable def xf_C_jump (u : XH) (p0 : Int32) (p1 : Int32) : XH :=
  if (p0 &&& (3 : Int32)) = 0 then
    xlt (xf_C_put (xs_C_next u p0) p1 ((xg_C_pc (xs_C_next u p0)) + (4 : Int32)) : XH) fun q2 =>
    q2
  else
    xlt (xf_P_raise u (0 : Int32) p0 : XH) fun q3 =>
    q3
set_option maxHeartbeats 4000000 in
set_option maxRecDepth 100000 in
theorem c_C_jump (l : Launch) (D : va_G) (z : (Nat → Nat) × (Nat → Nat)) (k : ClassId × ClassId) (a : Nat → Nat) (g : XG) (sz : Nat) (u : XH) (hg : xok k g u) (p0 : Int32) (p1 : Int32) (hi0 : vp_in p1 32) : Met l xy_C_jump (xk_C_jump :: lw_g) { frames := 1, cells := 0, slots := 0, locals := 22 } (va_Pc [.ref ((a 1)), .int p0, .int p1] (xB D (xTy k) z sz (xWH k a g u))) (va_Qv (fun q : XH × XG => q.1 = xf_C_jump u p0 p1 ∧ xok k q.2 q.1) (fun q t => xQ D (xTy k) (xWH k a q.2 q.1) (va_A (xWH k a g u) sz) t) (va_A (xWH k a g u) sz)) 0 0 (va_A (xWH k a g u) sz) := by
  refine xopen_v (wf := fun q : XH × XG => xWH k a q.2 q.1) (lv := [(0, .ref ((a 1))), (1, .int p0), (2, .int p1)]) (by decide) rfl (Nat.le_of_ble_eq_true rfl) ?_
  intro p e s m args below meth c Q ls A H locs hx hb hml htg hown hin hK hP hD hE hS hA hl hret
  refine lv_iload_n hx hb xd_C_jump_0 rfl (lv_at hl 1 rfl) ?_
  refine lv_iconst (v := 3) hx hb xd_C_jump_1 (by decide) ?_
  refine lv_iand hx hb xd_C_jump_2 ?_
  refine lv_if_eq (tgt := 16) hx hb xd_C_jump_3 rfl (fun h1 => ?_) (fun h1 => ?_)
  · refine lv_aload_n hx hb xd_C_jump_16 rfl (lv_at hl 0 rfl) ?_
    refine lv_iload_n hx hb xd_C_jump_17 rfl (lv_at hl 1 rfl) ?_
    refine xput_C_next (v := p0) hx hb htg hown hK hP hD hS hg (htg _ xw_223) xd_C_jump_18 (fun H locs hP hD hS hg => ?_)
    refine lv_aload_n hx hb xd_C_jump_21 rfl (lv_at hl 0 rfl) ?_
    refine lv_iload_n hx hb xd_C_jump_22 rfl (lv_at hl 2 rfl) ?_
    refine lv_aload_n hx hb xd_C_jump_23 rfl (lv_at hl 0 rfl) ?_
    refine xget_C_pc (v := (xg_C_pc (xs_C_next u p0))) hx hb htg hown hK hP (htg _ xw_211) rfl xd_C_jump_24 ?_
    refine lv_iconst (v := 4) hx hb xd_C_jump_27 (by decide) ?_
    refine lv_iadd hx hb xd_C_jump_28 ?_
    refine xcW_v (va_runV (As := [.int p1, .int (((xg_C_pc (xs_C_next u p0)) + (4 : Int32)))]) (rest := []) ⟨hx, hb, hml, hown, htg⟩ (c_C_put l D z k a g H.size (xs_C_next u p0) hg p1 ((xg_C_pc (xs_C_next u p0)) + (4 : Int32)) hi0) (cwV 2 htg (xg_V0 xkin_C_put xw_533 xw_322 xsel_C_put xw_2) rfl rfl rfl (by decide +kernel) ⟨Nat.le_of_ble_eq_true rfl, Nat.le_of_ble_eq_true rfl⟩) ⟨xB_blind, xrecv_C hK hP, fun U hU hW => xB_mk hP hK hD hE hS (xsubW hD hA hS) hU hW⟩ rfl rfl hl.1 rfl (lv_room (Nat.le_of_ble_eq_true rfl)) xd_C_jump_29 ⟨Nat.le_of_ble_eq_true rfl, Nat.le_of_ble_eq_true rfl⟩) hD hA hS (fun w1 H locs hw hP hD hS => ?_)
    obtain ⟨u1, g⟩ := w1
    obtain ⟨q2, hq2⟩ : ∃ q, q = xf_C_put (xs_C_next u p0) p1 ((xg_C_pc (xs_C_next u p0)) + (4 : Int32)) := ⟨_, rfl⟩
    obtain ⟨e2, hg⟩ := hw
    rw [← hq2] at e2
    obtain rfl : q2 = u1 := e2.symm
    have hP : va_P D xCl (xWH k a g q2) H := hP
    have hD : va_D A (xWH k a g q2) := hD
    have hg : xok k g q2 := hg
    exact hret (q2, g) H locs ls _ ⟨(by unfold xf_C_jump; exact (xit h1 (xlt_e hq2 rfl))), hg⟩ hP hD hS xd_C_jump_32
  · refine lv_aload_n hx hb xd_C_jump_6 rfl (lv_at hl 0 rfl) ?_
    refine xget_C_trap hx hb htg hown hK hP (htg _ xw_208) xd_C_jump_7 ?_
    refine lv_iconst (v := 0) hx hb xd_C_jump_10 (by decide) ?_
    refine lv_iload_n hx hb xd_C_jump_11 rfl (lv_at hl 1 rfl) ?_
    refine xcW_v (va_runV (As := [.int 0, .int p0]) (rest := []) ⟨hx, hb, hml, hown, htg⟩ (c_P_raise l D z k a g H.size u hg (0 : Int32) p0) (cwV 2 htg (xg_V0 xkin_P_raise xw_411 xw_412 xsel_P_raise xw_7) rfl rfl rfl (by decide +kernel) ⟨Nat.le_of_ble_eq_true rfl, Nat.le_of_ble_eq_true rfl⟩) ⟨xB_blind, xrecv_P hK hP, fun U hU hW => xB_mk hP hK hD hE hS (xsubW hD hA hS) hU hW⟩ rfl rfl hl.1 rfl (lv_room (Nat.le_of_ble_eq_true rfl)) xd_C_jump_12 ⟨Nat.le_of_ble_eq_true rfl, Nat.le_of_ble_eq_true rfl⟩) hD hA hS (fun w1 H locs hw hP hD hS => ?_)
    obtain ⟨u1, g⟩ := w1
    obtain ⟨q3, hq3⟩ : ∃ q, q = xf_P_raise u (0 : Int32) p0 := ⟨_, rfl⟩
    obtain ⟨e2, hg⟩ := hw
    rw [← hq3] at e2
    obtain rfl : q3 = u1 := e2.symm
    have hP : va_P D xCl (xWH k a g q3) H := hP
    have hD : va_D A (xWH k a g q3) := hD
    have hg : xok k g q3 := hg
    exact hret (q3, g) H locs ls _ ⟨(by unfold xf_C_jump; exact (xif h1 (xlt_e hq3 rfl))), hg⟩ hP hD hS xd_C_jump_15

noncomputable def xf_C_jumpToRegisterOp (u : XH) : XH :=
  xlt (xf_D_f (xg_C_word u) : Int32) fun r1 =>
  if r1 = 0 then
    xlt (xf_D_a (xg_C_word u) : Int32) fun r3 =>
    xlt (xf_D_immediate (xg_C_word u) : Int32) fun r4 =>
    xlt (xf_D_d (xg_C_word u) : Int32) fun r5 =>
    xlt (xf_C_jump u ((((xg_x u) r3.toNatClampNeg) + r4) &&& (-2 : Int32)) r5 : XH) fun q6 =>
    q6
  else
    xlt (xf_C_refuse u (2 : Int32) : XH) fun q7 =>
    q7
set_option maxHeartbeats 4000000 in
set_option maxRecDepth 100000 in
theorem c_C_jumpToRegisterOp (l : Launch) (D : va_G) (z : (Nat → Nat) × (Nat → Nat)) (k : ClassId × ClassId) (a : Nat → Nat) (g : XG) (sz : Nat) (u : XH) (hg : xok k g u) : Met l xy_C_jumpToRegisterOp (xk_C_jumpToRegisterOp :: lw_g) { frames := 2, cells := 0, slots := 0, locals := 44 } (va_Pc [.ref ((a 1))] (xB D (xTy k) z sz (xWH k a g u))) (va_Qv (fun q : XH × XG => q.1 = xf_C_jumpToRegisterOp u ∧ xok k q.2 q.1) (fun q t => xQ D (xTy k) (xWH k a q.2 q.1) (va_A (xWH k a g u) sz) t) (va_A (xWH k a g u) sz)) 0 0 (va_A (xWH k a g u) sz) := by
  refine xopen_v (wf := fun q : XH × XG => xWH k a q.2 q.1) (lv := [(0, .ref ((a 1)))]) (by decide) rfl (Nat.le_of_ble_eq_true rfl) ?_
  intro p e s m args below meth c Q ls A H locs hx hb hml htg hown hin hK hP hD hE hS hA hl hret
  refine lv_aload_n hx hb xd_C_jumpToRegisterOp_0 rfl (lv_at hl 0 rfl) ?_
  refine xget_C_word (v := (xg_C_word u)) hx hb htg hown hK hP (htg _ xw_224) rfl xd_C_jumpToRegisterOp_1 ?_
  refine xc0_i (va_runS (As := [.int ((xg_C_word u))]) (rest := []) ⟨hx, hb, hml, hown, htg⟩ (c_D_f l D (xTy k) z H.size (xg_C_word u)) (va_cwS 1 htg (xg_S0 xkin_D_f xw_499 xw_500 xw_13) rfl rfl rfl (by decide +kernel) ⟨Nat.le_of_ble_eq_true rfl, Nat.le_of_ble_eq_true rfl⟩) ⟨xB_blind, fun U hU hW => xB_mk va_P0 hK va_D0 hE hS (xsub0 hA hS) hU hW⟩ rfl rfl hl.1 rfl (lv_room (Nat.le_of_ble_eq_true rfl)) xd_C_jumpToRegisterOp_4 ⟨Nat.le_of_ble_eq_true rfl, Nat.le_of_ble_eq_true rfl⟩) hP hA hS (fun r1 H locs hr1 hP hS => ?_)
  refine lv_if_eq (tgt := 16) hx hb xd_C_jumpToRegisterOp_7 rfl (fun h2 => ?_) (fun h2 => ?_)
  · refine lv_aload_n hx hb xd_C_jumpToRegisterOp_16 rfl (lv_at hl 0 rfl) ?_
    refine lv_aload_n hx hb xd_C_jumpToRegisterOp_17 rfl (lv_at hl 0 rfl) ?_
    refine xget_C_x hx hb htg hown hK hP (htg _ xw_199) xd_C_jumpToRegisterOp_18 ?_
    refine lv_aload_n hx hb xd_C_jumpToRegisterOp_21 rfl (lv_at hl 0 rfl) ?_
    refine xget_C_word (v := (xg_C_word u)) hx hb htg hown hK hP (htg _ xw_224) rfl xd_C_jumpToRegisterOp_22 ?_
    refine xc0_i (va_runS (As := [.int ((xg_C_word u))]) (rest := [.ref ((a 2)), .ref ((a 1))]) ⟨hx, hb, hml, hown, htg⟩ (c_D_a l D (xTy k) z H.size (xg_C_word u)) (va_cwS 1 htg (xg_S0 xkin_D_a xw_513 xw_514 xw_13) rfl rfl rfl (by decide +kernel) ⟨Nat.le_of_ble_eq_true rfl, Nat.le_of_ble_eq_true rfl⟩) ⟨xB_blind, fun U hU hW => xB_mk va_P0 hK va_D0 hE hS (xsub0 hA hS) hU hW⟩ rfl rfl hl.1 rfl (lv_room (Nat.le_of_ble_eq_true rfl)) xd_C_jumpToRegisterOp_25 ⟨Nat.le_of_ble_eq_true rfl, Nat.le_of_ble_eq_true rfl⟩) hP hA hS (fun r3 H locs hr3 hP hS => ?_)
    refine xald_x (f := (xg_x u)) hx hb hK hP (xin_eq hr3 (xin_a _)) rfl xd_C_jumpToRegisterOp_28 ?_
    refine lv_aload_n hx hb xd_C_jumpToRegisterOp_29 rfl (lv_at hl 0 rfl) ?_
    refine xget_C_word (v := (xg_C_word u)) hx hb htg hown hK hP (htg _ xw_224) rfl xd_C_jumpToRegisterOp_30 ?_
    refine xc0_i (va_runS (As := [.int ((xg_C_word u))]) (rest := [.int (((xg_x u) r3.toNatClampNeg)), .ref ((a 1))]) ⟨hx, hb, hml, hown, htg⟩ (c_D_immediate l D (xTy k) z H.size (xg_C_word u)) (va_cwS 1 htg (xg_S0 xkin_D_immediate xw_516 xw_517 xw_13) rfl rfl rfl (by decide +kernel) ⟨Nat.le_of_ble_eq_true rfl, Nat.le_of_ble_eq_true rfl⟩) ⟨xB_blind, fun U hU hW => xB_mk va_P0 hK va_D0 hE hS (xsub0 hA hS) hU hW⟩ rfl rfl hl.1 rfl (lv_room (Nat.le_of_ble_eq_true rfl)) xd_C_jumpToRegisterOp_33 ⟨Nat.le_of_ble_eq_true rfl, Nat.le_of_ble_eq_true rfl⟩) hP hA hS (fun r4 H locs hr4 hP hS => ?_)
    refine lv_iadd hx hb xd_C_jumpToRegisterOp_36 ?_
    refine lv_bipush (v := (-2)) hx hb xd_C_jumpToRegisterOp_37 (by decide) ?_
    refine lv_iand hx hb xd_C_jumpToRegisterOp_39 ?_
    refine lv_aload_n hx hb xd_C_jumpToRegisterOp_40 rfl (lv_at hl 0 rfl) ?_
    refine xget_C_word (v := (xg_C_word u)) hx hb htg hown hK hP (htg _ xw_224) rfl xd_C_jumpToRegisterOp_41 ?_
    refine xc0_i (va_runS (As := [.int ((xg_C_word u))]) (rest := [.int (((((xg_x u) r3.toNatClampNeg) + r4) &&& (-2 : Int32))), .ref ((a 1))]) ⟨hx, hb, hml, hown, htg⟩ (c_D_d l D (xTy k) z H.size (xg_C_word u)) (va_cwS 1 htg (xg_S0 xkin_D_d xw_529 xw_530 xw_13) rfl rfl rfl (by decide +kernel) ⟨Nat.le_of_ble_eq_true rfl, Nat.le_of_ble_eq_true rfl⟩) ⟨xB_blind, fun U hU hW => xB_mk va_P0 hK va_D0 hE hS (xsub0 hA hS) hU hW⟩ rfl rfl hl.1 rfl (lv_room (Nat.le_of_ble_eq_true rfl)) xd_C_jumpToRegisterOp_44 ⟨Nat.le_of_ble_eq_true rfl, Nat.le_of_ble_eq_true rfl⟩) hP hA hS (fun r5 H locs hr5 hP hS => ?_)
    refine xcW_v (va_runV (As := [.int (((((xg_x u) r3.toNatClampNeg) + r4) &&& (-2 : Int32))), .int r5]) (rest := []) ⟨hx, hb, hml, hown, htg⟩ (c_C_jump l D z k a g H.size u hg ((((xg_x u) r3.toNatClampNeg) + r4) &&& (-2 : Int32)) r5 (xin_eq hr5 (xin_d _))) (cwV 2 htg (xg_V0 xkin_C_jump xw_601 xw_603 xsel_C_jump xw_2) rfl rfl rfl (by decide +kernel) ⟨Nat.le_of_ble_eq_true rfl, Nat.le_of_ble_eq_true rfl⟩) ⟨xB_blind, xrecv_C hK hP, fun U hU hW => xB_mk hP hK hD hE hS (xsubW hD hA hS) hU hW⟩ rfl rfl hl.1 rfl (lv_room (Nat.le_of_ble_eq_true rfl)) xd_C_jumpToRegisterOp_47 ⟨Nat.le_of_ble_eq_true rfl, Nat.le_of_ble_eq_true rfl⟩) hD hA hS (fun w1 H locs hw hP hD hS => ?_)
    obtain ⟨u1, g⟩ := w1
    obtain ⟨q6, hq6⟩ : ∃ q, q = xf_C_jump u ((((xg_x u) r3.toNatClampNeg) + r4) &&& (-2 : Int32)) r5 := ⟨_, rfl⟩
    obtain ⟨e2, hg⟩ := hw
    rw [← hq6] at e2
    obtain rfl : q6 = u1 := e2.symm
    have hP : va_P D xCl (xWH k a g q6) H := hP
    have hD : va_D A (xWH k a g q6) := hD
    have hg : xok k g q6 := hg
    exact hret (q6, g) H locs ls _ ⟨(by unfold xf_C_jumpToRegisterOp; exact (xlt_e hr1 (xit h2 (xlt_e hr3 (xlt_e hr4 (xlt_e hr5 (xlt_e hq6 rfl))))))), hg⟩ hP hD hS xd_C_jumpToRegisterOp_50
  · refine lv_aload_n hx hb xd_C_jumpToRegisterOp_10 rfl (lv_at hl 0 rfl) ?_
    refine lv_iconst (v := 2) hx hb xd_C_jumpToRegisterOp_11 (by decide) ?_
    refine xcW_v (va_runV (As := [.int 2]) (rest := []) ⟨hx, hb, hml, hown, htg⟩ (c_C_refuse l D z k a g H.size u hg (2 : Int32)) (cwV 1 htg (xg_V0 xkin_C_refuse xw_509 xw_511 xsel_C_refuse xw_2) rfl rfl rfl (by decide +kernel) ⟨Nat.le_of_ble_eq_true rfl, Nat.le_of_ble_eq_true rfl⟩) ⟨xB_blind, xrecv_C hK hP, fun U hU hW => xB_mk hP hK hD hE hS (xsubW hD hA hS) hU hW⟩ rfl rfl hl.1 rfl (lv_room (Nat.le_of_ble_eq_true rfl)) xd_C_jumpToRegisterOp_12 ⟨Nat.le_of_ble_eq_true rfl, Nat.le_of_ble_eq_true rfl⟩) hD hA hS (fun w1 H locs hw hP hD hS => ?_)
    obtain ⟨u1, g⟩ := w1
    obtain ⟨q7, hq7⟩ : ∃ q, q = xf_C_refuse u (2 : Int32) := ⟨_, rfl⟩
    obtain ⟨e2, hg⟩ := hw
    rw [← hq7] at e2
    obtain rfl : q7 = u1 := e2.symm
    have hP : va_P D xCl (xWH k a g q7) H := hP
    have hD : va_D A (xWH k a g q7) := hD
    have hg : xok k g q7 := hg
    exact hret (q7, g) H locs ls _ ⟨(by unfold xf_C_jumpToRegisterOp; exact (xlt_e hr1 (xif h2 (xlt_e hq7 rfl)))), hg⟩ hP hD hS xd_C_jumpToRegisterOp_15

noncomputable def xf_C_branchOp (u : XH) : XH :=
  xlt (xf_D_f (xg_C_word u) : Int32) fun r1 =>
  xlt (xf_R_isComparison r1 : Int32) fun r2 =>
  xlt (if r2 = 0 then (xlt (xf_C_refuse u (2 : Int32) : XH) fun q10 => q10) else (xlt (xf_D_a (xg_C_word u) : Int32) fun r4 => xlt (xf_D_b (xg_C_word u) : Int32) fun r5 => xlt (xf_R_holds r1 ((xg_x u) r4.toNatClampNeg) ((xg_x u) r5.toNatClampNeg) : Int32) fun r6 => if r6 = 0 then (u) else (xlt (xf_D_branchOffset (xg_C_word u) : Int32) fun r8 => xlt (xf_C_jump u ((xg_C_pc u) + r8) (0 : Int32) : XH) fun q9 => q9)) : XH) fun v3 =>
  v3
set_option maxHeartbeats 4000000 in
set_option maxRecDepth 100000 in
theorem c_C_branchOp (l : Launch) (D : va_G) (z : (Nat → Nat) × (Nat → Nat)) (k : ClassId × ClassId) (a : Nat → Nat) (g : XG) (sz : Nat) (u : XH) (hg : xok k g u) : Met l xy_C_branchOp (xk_C_branchOp :: lw_g) { frames := 2, cells := 0, slots := 0, locals := 44 } (va_Pc [.ref ((a 1))] (xB D (xTy k) z sz (xWH k a g u))) (va_Qv (fun q : XH × XG => q.1 = xf_C_branchOp u ∧ xok k q.2 q.1) (fun q t => xQ D (xTy k) (xWH k a q.2 q.1) (va_A (xWH k a g u) sz) t) (va_A (xWH k a g u) sz)) 0 0 (va_A (xWH k a g u) sz) := by
  refine xopen_v (wf := fun q : XH × XG => xWH k a q.2 q.1) (lv := [(0, .ref ((a 1)))]) (by decide) rfl (Nat.le_of_ble_eq_true rfl) ?_
  intro p e s m args below meth c Q ls A H locs hx hb hml htg hown hin hK hP hD hE hS hA hl hret
  refine lv_aload_n hx hb xd_C_branchOp_0 rfl (lv_at hl 0 rfl) ?_
  refine xget_C_word (v := (xg_C_word u)) hx hb htg hown hK hP (htg _ xw_224) rfl xd_C_branchOp_1 ?_
  refine xc0_i (va_runS (As := [.int ((xg_C_word u))]) (rest := []) ⟨hx, hb, hml, hown, htg⟩ (c_D_f l D (xTy k) z H.size (xg_C_word u)) (va_cwS 1 htg (xg_S0 xkin_D_f xw_499 xw_500 xw_13) rfl rfl rfl (by decide +kernel) ⟨Nat.le_of_ble_eq_true rfl, Nat.le_of_ble_eq_true rfl⟩) ⟨xB_blind, fun U hU hW => xB_mk va_P0 hK va_D0 hE hS (xsub0 hA hS) hU hW⟩ rfl rfl hl.1 rfl (lv_room (Nat.le_of_ble_eq_true rfl)) xd_C_branchOp_4 ⟨Nat.le_of_ble_eq_true rfl, Nat.le_of_ble_eq_true rfl⟩) hP hA hS (fun r1 H locs hr1 hP hS => ?_)
  refine lv_istore_n (lv' := [(1, .int r1), (0, .ref ((a 1)))]) hx hb xd_C_branchOp_7 rfl hl (by decide) rfl (fun ls hl => ?_)
  refine lv_iload_n hx hb xd_C_branchOp_8 rfl (lv_at hl 0 rfl) ?_
  refine xc0_i (va_runS (As := [.int r1]) (rest := []) ⟨hx, hb, hml, hown, htg⟩ (c_R_isComparison l D (xTy k) z H.size r1) (va_cwS 1 htg (xg_S0 xkin_R_isComparison xw_592 xw_593 xw_14) rfl rfl rfl (by decide +kernel) ⟨Nat.le_of_ble_eq_true rfl, Nat.le_of_ble_eq_true rfl⟩) ⟨xB_blind, fun U hU hW => xB_mk va_P0 hK va_D0 hE hS (xsub0 hA hS) hU hW⟩ rfl rfl hl.1 rfl (lv_room (Nat.le_of_ble_eq_true rfl)) xd_C_branchOp_9 ⟨Nat.le_of_ble_eq_true rfl, Nat.le_of_ble_eq_true rfl⟩) hP hA hS (fun r2 H locs hr2 hP hS => ?_)
  have hj4 : ∀ (H : Heap) (locs : List Loc) (ls : Array Slot) (g : XG) (v3 : XH), v3 = (if r2 = 0 then (xlt (xf_C_refuse u (2 : Int32) : XH) fun q10 => q10) else (xlt (xf_D_a (xg_C_word u) : Int32) fun r4 => xlt (xf_D_b (xg_C_word u) : Int32) fun r5 => xlt (xf_R_holds r1 ((xg_x u) r4.toNatClampNeg) ((xg_x u) r5.toNatClampNeg) : Int32) fun r6 => if r6 = 0 then (u) else (xlt (xf_D_branchOffset (xg_C_word u) : Int32) fun r8 => xlt (xf_C_jump u ((xg_C_pc u) + r8) (0 : Int32) : XH) fun q9 => q9))) → xok k g v3 → lv_has ls 2 [(1, .int r1), (0, .ref ((a 1)))] → va_P D xCl (xWH k a g v3) H → va_D A (xWH k a g v3) → va_S A s.heap H locs → W p l e { frames := 2, cells := 0, slots := 0, locals := 44 } s m args below meth c H locs (0) (0) Q (F0 m 71 ls []) := by
    intro H locs ls g v3 hv3 hg hl hP hD hS
    exact hret (v3, g) H locs ls _ ⟨(by unfold xf_C_branchOp; exact (xlt_e hr1 (xlt_e hr2 (xlt_e hv3 rfl)))), hg⟩ hP hD hS xd_C_branchOp_71
  refine lv_if_ne (tgt := 23) hx hb xd_C_branchOp_12 rfl (fun h5 => ?_) (fun h5 => ?_)
  · refine lv_iload_n hx hb xd_C_branchOp_23 rfl (lv_at hl 0 rfl) ?_
    refine lv_aload_n hx hb xd_C_branchOp_24 rfl (lv_at hl 1 rfl) ?_
    refine xget_C_x hx hb htg hown hK hP (htg _ xw_199) xd_C_branchOp_25 ?_
    refine lv_aload_n hx hb xd_C_branchOp_28 rfl (lv_at hl 1 rfl) ?_
    refine xget_C_word (v := (xg_C_word u)) hx hb htg hown hK hP (htg _ xw_224) rfl xd_C_branchOp_29 ?_
    refine xc0_i (va_runS (As := [.int ((xg_C_word u))]) (rest := [.ref ((a 2)), .int r1]) ⟨hx, hb, hml, hown, htg⟩ (c_D_a l D (xTy k) z H.size (xg_C_word u)) (va_cwS 1 htg (xg_S0 xkin_D_a xw_513 xw_514 xw_13) rfl rfl rfl (by decide +kernel) ⟨Nat.le_of_ble_eq_true rfl, Nat.le_of_ble_eq_true rfl⟩) ⟨xB_blind, fun U hU hW => xB_mk va_P0 hK va_D0 hE hS (xsub0 hA hS) hU hW⟩ rfl rfl hl.1 rfl (lv_room (Nat.le_of_ble_eq_true rfl)) xd_C_branchOp_32 ⟨Nat.le_of_ble_eq_true rfl, Nat.le_of_ble_eq_true rfl⟩) hP hA hS (fun r6 H locs hr6 hP hS => ?_)
    refine xald_x (f := (xg_x u)) hx hb hK hP (xin_eq hr6 (xin_a _)) rfl xd_C_branchOp_35 ?_
    refine lv_aload_n hx hb xd_C_branchOp_36 rfl (lv_at hl 1 rfl) ?_
    refine xget_C_x hx hb htg hown hK hP (htg _ xw_199) xd_C_branchOp_37 ?_
    refine lv_aload_n hx hb xd_C_branchOp_40 rfl (lv_at hl 1 rfl) ?_
    refine xget_C_word (v := (xg_C_word u)) hx hb htg hown hK hP (htg _ xw_224) rfl xd_C_branchOp_41 ?_
    refine xc0_i (va_runS (As := [.int ((xg_C_word u))]) (rest := [.ref ((a 2)), .int (((xg_x u) r6.toNatClampNeg)), .int r1]) ⟨hx, hb, hml, hown, htg⟩ (c_D_b l D (xTy k) z H.size (xg_C_word u)) (va_cwS 1 htg (xg_S0 xkin_D_b xw_545 xw_546 xw_13) rfl rfl rfl (by decide +kernel) ⟨Nat.le_of_ble_eq_true rfl, Nat.le_of_ble_eq_true rfl⟩) ⟨xB_blind, fun U hU hW => xB_mk va_P0 hK va_D0 hE hS (xsub0 hA hS) hU hW⟩ rfl rfl hl.1 rfl (lv_room (Nat.le_of_ble_eq_true rfl)) xd_C_branchOp_44 ⟨Nat.le_of_ble_eq_true rfl, Nat.le_of_ble_eq_true rfl⟩) hP hA hS (fun r7 H locs hr7 hP hS => ?_)
    refine xald_x (f := (xg_x u)) hx hb hK hP (xin_eq hr7 (xin_b _)) rfl xd_C_branchOp_47 ?_
    refine xc0_i (va_runS (As := [.int r1, .int (((xg_x u) r6.toNatClampNeg)), .int (((xg_x u) r7.toNatClampNeg))]) (rest := []) ⟨hx, hb, hml, hown, htg⟩ (c_R_holds l D (xTy k) z H.size r1 ((xg_x u) r6.toNatClampNeg) ((xg_x u) r7.toNatClampNeg)) (va_cwS 3 htg (xg_S0 xkin_R_holds xw_595 xw_596 xw_14) rfl rfl rfl (by decide +kernel) ⟨Nat.le_of_ble_eq_true rfl, Nat.le_of_ble_eq_true rfl⟩) ⟨xB_blind, fun U hU hW => xB_mk va_P0 hK va_D0 hE hS (xsub0 hA hS) hU hW⟩ rfl rfl hl.1 rfl (lv_room (Nat.le_of_ble_eq_true rfl)) xd_C_branchOp_48 ⟨Nat.le_of_ble_eq_true rfl, Nat.le_of_ble_eq_true rfl⟩) hP hA hS (fun r8 H locs hr8 hP hS => ?_)
    refine lv_if_eq (tgt := 71) hx hb xd_C_branchOp_51 rfl (fun h9 => ?_) (fun h9 => ?_)
    · exact hj4 H locs ls g u (xif h5 (xlt_e hr6 (xlt_e hr7 (xlt_e hr8 (xit h9 rfl))))) hg hl hP hD hS
    · refine lv_aload_n hx hb xd_C_branchOp_54 rfl (lv_at hl 1 rfl) ?_
      refine lv_aload_n hx hb xd_C_branchOp_55 rfl (lv_at hl 1 rfl) ?_
      refine xget_C_pc (v := (xg_C_pc u)) hx hb htg hown hK hP (htg _ xw_211) rfl xd_C_branchOp_56 ?_
      refine lv_aload_n hx hb xd_C_branchOp_59 rfl (lv_at hl 1 rfl) ?_
      refine xget_C_word (v := (xg_C_word u)) hx hb htg hown hK hP (htg _ xw_224) rfl xd_C_branchOp_60 ?_
      refine xc0_i (va_runS (As := [.int ((xg_C_word u))]) (rest := [.int ((xg_C_pc u)), .ref ((a 1))]) ⟨hx, hb, hml, hown, htg⟩ (c_D_branchOffset l D (xTy k) z H.size (xg_C_word u)) (va_cwS 1 htg (xg_S0 xkin_D_branchOffset xw_598 xw_599 xw_13) rfl rfl rfl (by decide +kernel) ⟨Nat.le_of_ble_eq_true rfl, Nat.le_of_ble_eq_true rfl⟩) ⟨xB_blind, fun U hU hW => xB_mk va_P0 hK va_D0 hE hS (xsub0 hA hS) hU hW⟩ rfl rfl hl.1 rfl (lv_room (Nat.le_of_ble_eq_true rfl)) xd_C_branchOp_63 ⟨Nat.le_of_ble_eq_true rfl, Nat.le_of_ble_eq_true rfl⟩) hP hA hS (fun r10 H locs hr10 hP hS => ?_)
      refine lv_iadd hx hb xd_C_branchOp_66 ?_
      refine lv_iconst (v := 0) hx hb xd_C_branchOp_67 (by decide) ?_
      refine xcW_v (va_runV (As := [.int (((xg_C_pc u) + r10)), .int 0]) (rest := []) ⟨hx, hb, hml, hown, htg⟩ (c_C_jump l D z k a g H.size u hg ((xg_C_pc u) + r10) (0 : Int32) (vp_in_iff.mpr (by decide))) (cwV 2 htg (xg_V0 xkin_C_jump xw_601 xw_603 xsel_C_jump xw_2) rfl rfl rfl (by decide +kernel) ⟨Nat.le_of_ble_eq_true rfl, Nat.le_of_ble_eq_true rfl⟩) ⟨xB_blind, xrecv_C hK hP, fun U hU hW => xB_mk hP hK hD hE hS (xsubW hD hA hS) hU hW⟩ rfl rfl hl.1 rfl (lv_room (Nat.le_of_ble_eq_true rfl)) xd_C_branchOp_68 ⟨Nat.le_of_ble_eq_true rfl, Nat.le_of_ble_eq_true rfl⟩) hD hA hS (fun w1 H locs hw hP hD hS => ?_)
      obtain ⟨u1, g⟩ := w1
      obtain ⟨q11, hq11⟩ : ∃ q, q = xf_C_jump u ((xg_C_pc u) + r10) (0 : Int32) := ⟨_, rfl⟩
      obtain ⟨e2, hg⟩ := hw
      rw [← hq11] at e2
      obtain rfl : q11 = u1 := e2.symm
      have hP : va_P D xCl (xWH k a g q11) H := hP
      have hD : va_D A (xWH k a g q11) := hD
      have hg : xok k g q11 := hg
      exact hj4 H locs ls g q11 (xif h5 (xlt_e hr6 (xlt_e hr7 (xlt_e hr8 (xif h9 (xlt_e hr10 (xlt_e hq11 rfl))))))) hg hl hP hD hS
  · refine lv_aload_n hx hb xd_C_branchOp_15 rfl (lv_at hl 1 rfl) ?_
    refine lv_iconst (v := 2) hx hb xd_C_branchOp_16 (by decide) ?_
    refine xcW_v (va_runV (As := [.int 2]) (rest := []) ⟨hx, hb, hml, hown, htg⟩ (c_C_refuse l D z k a g H.size u hg (2 : Int32)) (cwV 1 htg (xg_V0 xkin_C_refuse xw_509 xw_511 xsel_C_refuse xw_2) rfl rfl rfl (by decide +kernel) ⟨Nat.le_of_ble_eq_true rfl, Nat.le_of_ble_eq_true rfl⟩) ⟨xB_blind, xrecv_C hK hP, fun U hU hW => xB_mk hP hK hD hE hS (xsubW hD hA hS) hU hW⟩ rfl rfl hl.1 rfl (lv_room (Nat.le_of_ble_eq_true rfl)) xd_C_branchOp_17 ⟨Nat.le_of_ble_eq_true rfl, Nat.le_of_ble_eq_true rfl⟩) hD hA hS (fun w1 H locs hw hP hD hS => ?_)
    obtain ⟨u1, g⟩ := w1
    obtain ⟨q12, hq12⟩ : ∃ q, q = xf_C_refuse u (2 : Int32) := ⟨_, rfl⟩
    obtain ⟨e2, hg⟩ := hw
    rw [← hq12] at e2
    obtain rfl : q12 = u1 := e2.symm
    have hP : va_P D xCl (xWH k a g q12) H := hP
    have hD : va_D A (xWH k a g q12) := hD
    have hg : xok k g q12 := hg
    refine lv_goto (tgt := 71) hx hb xd_C_branchOp_20 rfl ?_
    exact hj4 H locs ls g q12 (xit h5 (xlt_e hq12 rfl)) hg hl hP hD hS

noncomputable def xf_C_fenceOp (u : XH) : XH :=
  xlt (xf_D_f (xg_C_word u) : Int32) fun r1 =>
  xlt (if r1 ≤ 1 then (u) else (xlt (xf_C_refuse u (2 : Int32) : XH) fun q3 => q3) : XH) fun v2 =>
  v2
set_option maxHeartbeats 4000000 in
set_option maxRecDepth 100000 in
theorem c_C_fenceOp (l : Launch) (D : va_G) (z : (Nat → Nat) × (Nat → Nat)) (k : ClassId × ClassId) (a : Nat → Nat) (g : XG) (sz : Nat) (u : XH) (hg : xok k g u) : Met l xy_C_fenceOp (xk_C_fenceOp :: lw_g) { frames := 2, cells := 0, slots := 0, locals := 43 } (va_Pc [.ref ((a 1))] (xB D (xTy k) z sz (xWH k a g u))) (va_Qv (fun q : XH × XG => q.1 = xf_C_fenceOp u ∧ xok k q.2 q.1) (fun q t => xQ D (xTy k) (xWH k a q.2 q.1) (va_A (xWH k a g u) sz) t) (va_A (xWH k a g u) sz)) 0 0 (va_A (xWH k a g u) sz) := by
  refine xopen_v (wf := fun q : XH × XG => xWH k a q.2 q.1) (lv := [(0, .ref ((a 1)))]) (by decide) rfl (Nat.le_of_ble_eq_true rfl) ?_
  intro p e s m args below meth c Q ls A H locs hx hb hml htg hown hin hK hP hD hE hS hA hl hret
  refine lv_aload_n hx hb xd_C_fenceOp_0 rfl (lv_at hl 0 rfl) ?_
  refine xget_C_word (v := (xg_C_word u)) hx hb htg hown hK hP (htg _ xw_224) rfl xd_C_fenceOp_1 ?_
  refine xc0_i (va_runS (As := [.int ((xg_C_word u))]) (rest := []) ⟨hx, hb, hml, hown, htg⟩ (c_D_f l D (xTy k) z H.size (xg_C_word u)) (va_cwS 1 htg (xg_S0 xkin_D_f xw_499 xw_500 xw_13) rfl rfl rfl (by decide +kernel) ⟨Nat.le_of_ble_eq_true rfl, Nat.le_of_ble_eq_true rfl⟩) ⟨xB_blind, fun U hU hW => xB_mk va_P0 hK va_D0 hE hS (xsub0 hA hS) hU hW⟩ rfl rfl hl.1 rfl (lv_room (Nat.le_of_ble_eq_true rfl)) xd_C_fenceOp_4 ⟨Nat.le_of_ble_eq_true rfl, Nat.le_of_ble_eq_true rfl⟩) hP hA hS (fun r1 H locs hr1 hP hS => ?_)
  refine lv_iconst (v := 1) hx hb xd_C_fenceOp_7 (by decide) ?_
  have hj3 : ∀ (H : Heap) (locs : List Loc) (ls : Array Slot) (g : XG) (v2 : XH), v2 = (if r1 ≤ 1 then (u) else (xlt (xf_C_refuse u (2 : Int32) : XH) fun q3 => q3)) → xok k g v2 → lv_has ls 1 [(0, .ref ((a 1)))] → va_P D xCl (xWH k a g v2) H → va_D A (xWH k a g v2) → va_S A s.heap H locs → W p l e { frames := 2, cells := 0, slots := 0, locals := 43 } s m args below meth c H locs (0) (0) Q (F0 m 16 ls []) := by
    intro H locs ls g v2 hv2 hg hl hP hD hS
    exact hret (v2, g) H locs ls _ ⟨(by unfold xf_C_fenceOp; exact (xlt_e hr1 (xlt_e hv2 rfl))), hg⟩ hP hD hS xd_C_fenceOp_16
  refine lv_icmp_le (tgt := 16) hx hb xd_C_fenceOp_8 rfl (fun h4 => ?_) (fun h4 => ?_)
  · exact hj3 H locs ls g u (xit h4 rfl) hg hl hP hD hS
  · refine lv_aload_n hx hb xd_C_fenceOp_11 rfl (lv_at hl 0 rfl) ?_
    refine lv_iconst (v := 2) hx hb xd_C_fenceOp_12 (by decide) ?_
    refine xcW_v (va_runV (As := [.int 2]) (rest := []) ⟨hx, hb, hml, hown, htg⟩ (c_C_refuse l D z k a g H.size u hg (2 : Int32)) (cwV 1 htg (xg_V0 xkin_C_refuse xw_509 xw_511 xsel_C_refuse xw_2) rfl rfl rfl (by decide +kernel) ⟨Nat.le_of_ble_eq_true rfl, Nat.le_of_ble_eq_true rfl⟩) ⟨xB_blind, xrecv_C hK hP, fun U hU hW => xB_mk hP hK hD hE hS (xsubW hD hA hS) hU hW⟩ rfl rfl hl.1 rfl (lv_room (Nat.le_of_ble_eq_true rfl)) xd_C_fenceOp_13 ⟨Nat.le_of_ble_eq_true rfl, Nat.le_of_ble_eq_true rfl⟩) hD hA hS (fun w1 H locs hw hP hD hS => ?_)
    obtain ⟨u1, g⟩ := w1
    obtain ⟨q5, hq5⟩ : ∃ q, q = xf_C_refuse u (2 : Int32) := ⟨_, rfl⟩
    obtain ⟨e2, hg⟩ := hw
    rw [← hq5] at e2
    obtain rfl : q5 = u1 := e2.symm
    have hP : va_P D xCl (xWH k a g q5) H := hP
    have hD : va_D A (xWH k a g q5) := hD
    have hg : xok k g q5 := hg
    exact hj3 H locs ls g q5 (xif h4 (xlt_e hq5 rfl)) hg hl hP hD hS

noncomputable def xf_C_immediateOp (u : XH) : XH :=
  xlt (xf_D_f (xg_C_word u) : Int32) fun r1 =>
  xlt (xf_D_g (xg_C_word u) : Int32) fun r2 =>
  xlt (xf_D_a (xg_C_word u) : Int32) fun r3 =>
  xlt (if r1 = 5 then (if r2 = 32 then (xlt (xf_D_d (xg_C_word u) : Int32) fun r42 => xlt (xf_D_b (xg_C_word u) : Int32) fun r43 => xlt (xf_C_put u r42 (((xg_x u) r3.toNatClampNeg) >>> (r43 &&& 31)) : XH) fun q44 => q44) else (if r1 = 1 then (if r2 = 0 then (xlt (xf_D_d (xg_C_word u) : Int32) fun r26 => xlt (xf_D_immediate (xg_C_word u) : Int32) fun r27 => xlt (xf_R_combine r1 ((xg_x u) r3.toNatClampNeg) r27 : Int32) fun r28 => xlt (xf_C_put u r26 r28 : XH) fun q29 => q29) else (xlt (xf_C_refuse u (2 : Int32) : XH) fun q30 => q30)) else (if r1 = 5 then (if r2 = 0 then (xlt (xf_D_d (xg_C_word u) : Int32) fun r37 => xlt (xf_D_immediate (xg_C_word u) : Int32) fun r38 => xlt (xf_R_combine r1 ((xg_x u) r3.toNatClampNeg) r38 : Int32) fun r39 => xlt (xf_C_put u r37 r39 : XH) fun q40 => q40) else (xlt (xf_C_refuse u (2 : Int32) : XH) fun q41 => q41)) else (xlt (xf_D_d (xg_C_word u) : Int32) fun r32 => xlt (xf_D_immediate (xg_C_word u) : Int32) fun r33 => xlt (xf_R_combine r1 ((xg_x u) r3.toNatClampNeg) r33 : Int32) fun r34 => xlt (xf_C_put u r32 r34 : XH) fun q35 => q35)))) else (if r1 = 1 then (if r2 = 0 then (xlt (xf_D_d (xg_C_word u) : Int32) fun r7 => xlt (xf_D_immediate (xg_C_word u) : Int32) fun r8 => xlt (xf_R_combine r1 ((xg_x u) r3.toNatClampNeg) r8 : Int32) fun r9 => xlt (xf_C_put u r7 r9 : XH) fun q10 => q10) else (xlt (xf_C_refuse u (2 : Int32) : XH) fun q11 => q11)) else (if r1 = 5 then (if r2 = 0 then (xlt (xf_D_d (xg_C_word u) : Int32) fun r18 => xlt (xf_D_immediate (xg_C_word u) : Int32) fun r19 => xlt (xf_R_combine r1 ((xg_x u) r3.toNatClampNeg) r19 : Int32) fun r20 => xlt (xf_C_put u r18 r20 : XH) fun q21 => q21) else (xlt (xf_C_refuse u (2 : Int32) : XH) fun q22 => q22)) else (xlt (xf_D_d (xg_C_word u) : Int32) fun r13 => xlt (xf_D_immediate (xg_C_word u) : Int32) fun r14 => xlt (xf_R_combine r1 ((xg_x u) r3.toNatClampNeg) r14 : Int32) fun r15 => xlt (xf_C_put u r13 r15 : XH) fun q16 => q16))) : XH) fun v4 =>
  v4
set_option maxHeartbeats 4000000 in
set_option maxRecDepth 100000 in
theorem c_C_immediateOp (l : Launch) (D : va_G) (z : (Nat → Nat) × (Nat → Nat)) (k : ClassId × ClassId) (a : Nat → Nat) (g : XG) (sz : Nat) (u : XH) (hg : xok k g u) : Met l xy_C_immediateOp (xk_C_immediateOp :: lw_g) { frames := 2, cells := 0, slots := 0, locals := 43 } (va_Pc [.ref ((a 1))] (xB D (xTy k) z sz (xWH k a g u))) (va_Qv (fun q : XH × XG => q.1 = xf_C_immediateOp u ∧ xok k q.2 q.1) (fun q t => xQ D (xTy k) (xWH k a q.2 q.1) (va_A (xWH k a g u) sz) t) (va_A (xWH k a g u) sz)) 0 0 (va_A (xWH k a g u) sz) := by
  refine xopen_v (wf := fun q : XH × XG => xWH k a q.2 q.1) (lv := [(0, .ref ((a 1)))]) (by decide) rfl (Nat.le_of_ble_eq_true rfl) ?_
  intro p e s m args below meth c Q ls A H locs hx hb hml htg hown hin hK hP hD hE hS hA hl hret
  refine lv_aload_n hx hb xd_C_immediateOp_0 rfl (lv_at hl 0 rfl) ?_
  refine xget_C_word (v := (xg_C_word u)) hx hb htg hown hK hP (htg _ xw_224) rfl xd_C_immediateOp_1 ?_
  refine xc0_i (va_runS (As := [.int ((xg_C_word u))]) (rest := []) ⟨hx, hb, hml, hown, htg⟩ (c_D_f l D (xTy k) z H.size (xg_C_word u)) (va_cwS 1 htg (xg_S0 xkin_D_f xw_499 xw_500 xw_13) rfl rfl rfl (by decide +kernel) ⟨Nat.le_of_ble_eq_true rfl, Nat.le_of_ble_eq_true rfl⟩) ⟨xB_blind, fun U hU hW => xB_mk va_P0 hK va_D0 hE hS (xsub0 hA hS) hU hW⟩ rfl rfl hl.1 rfl (lv_room (Nat.le_of_ble_eq_true rfl)) xd_C_immediateOp_4 ⟨Nat.le_of_ble_eq_true rfl, Nat.le_of_ble_eq_true rfl⟩) hP hA hS (fun r1 H locs hr1 hP hS => ?_)
  refine lv_istore_n (lv' := [(1, .int r1), (0, .ref ((a 1)))]) hx hb xd_C_immediateOp_7 rfl hl (by decide) rfl (fun ls hl => ?_)
  refine lv_aload_n hx hb xd_C_immediateOp_8 rfl (lv_at hl 1 rfl) ?_
  refine xget_C_word (v := (xg_C_word u)) hx hb htg hown hK hP (htg _ xw_224) rfl xd_C_immediateOp_9 ?_
  refine xc0_i (va_runS (As := [.int ((xg_C_word u))]) (rest := []) ⟨hx, hb, hml, hown, htg⟩ (c_D_g l D (xTy k) z H.size (xg_C_word u)) (va_cwS 1 htg (xg_S0 xkin_D_g xw_542 xw_543 xw_13) rfl rfl rfl (by decide +kernel) ⟨Nat.le_of_ble_eq_true rfl, Nat.le_of_ble_eq_true rfl⟩) ⟨xB_blind, fun U hU hW => xB_mk va_P0 hK va_D0 hE hS (xsub0 hA hS) hU hW⟩ rfl rfl hl.1 rfl (lv_room (Nat.le_of_ble_eq_true rfl)) xd_C_immediateOp_12 ⟨Nat.le_of_ble_eq_true rfl, Nat.le_of_ble_eq_true rfl⟩) hP hA hS (fun r2 H locs hr2 hP hS => ?_)
  refine lv_istore_n (lv' := [(2, .int r2), (1, .int r1), (0, .ref ((a 1)))]) hx hb xd_C_immediateOp_15 rfl hl (by decide) rfl (fun ls hl => ?_)
  refine lv_aload_n hx hb xd_C_immediateOp_16 rfl (lv_at hl 2 rfl) ?_
  refine xget_C_x hx hb htg hown hK hP (htg _ xw_199) xd_C_immediateOp_17 ?_
  refine lv_aload_n hx hb xd_C_immediateOp_20 rfl (lv_at hl 2 rfl) ?_
  refine xget_C_word (v := (xg_C_word u)) hx hb htg hown hK hP (htg _ xw_224) rfl xd_C_immediateOp_21 ?_
  refine xc0_i (va_runS (As := [.int ((xg_C_word u))]) (rest := [.ref ((a 2))]) ⟨hx, hb, hml, hown, htg⟩ (c_D_a l D (xTy k) z H.size (xg_C_word u)) (va_cwS 1 htg (xg_S0 xkin_D_a xw_513 xw_514 xw_13) rfl rfl rfl (by decide +kernel) ⟨Nat.le_of_ble_eq_true rfl, Nat.le_of_ble_eq_true rfl⟩) ⟨xB_blind, fun U hU hW => xB_mk va_P0 hK va_D0 hE hS (xsub0 hA hS) hU hW⟩ rfl rfl hl.1 rfl (lv_room (Nat.le_of_ble_eq_true rfl)) xd_C_immediateOp_24 ⟨Nat.le_of_ble_eq_true rfl, Nat.le_of_ble_eq_true rfl⟩) hP hA hS (fun r3 H locs hr3 hP hS => ?_)
  refine xald_x (f := (xg_x u)) hx hb hK hP (xin_eq hr3 (xin_a _)) rfl xd_C_immediateOp_27 ?_
  refine lv_istore_n (lv' := [(3, .int (((xg_x u) r3.toNatClampNeg))), (2, .int r2), (1, .int r1), (0, .ref ((a 1)))]) hx hb xd_C_immediateOp_28 rfl hl (by decide) rfl (fun ls hl => ?_)
  refine lv_iload_n hx hb xd_C_immediateOp_29 rfl (lv_at hl 2 rfl) ?_
  refine lv_iconst (v := 5) hx hb xd_C_immediateOp_30 (by decide) ?_
  have hj5 : ∀ (H : Heap) (locs : List Loc) (ls : Array Slot) (g : XG) (v4 : XH), v4 = (if r1 = 5 then (if r2 = 32 then (xlt (xf_D_d (xg_C_word u) : Int32) fun r42 => xlt (xf_D_b (xg_C_word u) : Int32) fun r43 => xlt (xf_C_put u r42 (((xg_x u) r3.toNatClampNeg) >>> (r43 &&& 31)) : XH) fun q44 => q44) else (if r1 = 1 then (if r2 = 0 then (xlt (xf_D_d (xg_C_word u) : Int32) fun r26 => xlt (xf_D_immediate (xg_C_word u) : Int32) fun r27 => xlt (xf_R_combine r1 ((xg_x u) r3.toNatClampNeg) r27 : Int32) fun r28 => xlt (xf_C_put u r26 r28 : XH) fun q29 => q29) else (xlt (xf_C_refuse u (2 : Int32) : XH) fun q30 => q30)) else (if r1 = 5 then (if r2 = 0 then (xlt (xf_D_d (xg_C_word u) : Int32) fun r37 => xlt (xf_D_immediate (xg_C_word u) : Int32) fun r38 => xlt (xf_R_combine r1 ((xg_x u) r3.toNatClampNeg) r38 : Int32) fun r39 => xlt (xf_C_put u r37 r39 : XH) fun q40 => q40) else (xlt (xf_C_refuse u (2 : Int32) : XH) fun q41 => q41)) else (xlt (xf_D_d (xg_C_word u) : Int32) fun r32 => xlt (xf_D_immediate (xg_C_word u) : Int32) fun r33 => xlt (xf_R_combine r1 ((xg_x u) r3.toNatClampNeg) r33 : Int32) fun r34 => xlt (xf_C_put u r32 r34 : XH) fun q35 => q35)))) else (if r1 = 1 then (if r2 = 0 then (xlt (xf_D_d (xg_C_word u) : Int32) fun r7 => xlt (xf_D_immediate (xg_C_word u) : Int32) fun r8 => xlt (xf_R_combine r1 ((xg_x u) r3.toNatClampNeg) r8 : Int32) fun r9 => xlt (xf_C_put u r7 r9 : XH) fun q10 => q10) else (xlt (xf_C_refuse u (2 : Int32) : XH) fun q11 => q11)) else (if r1 = 5 then (if r2 = 0 then (xlt (xf_D_d (xg_C_word u) : Int32) fun r18 => xlt (xf_D_immediate (xg_C_word u) : Int32) fun r19 => xlt (xf_R_combine r1 ((xg_x u) r3.toNatClampNeg) r19 : Int32) fun r20 => xlt (xf_C_put u r18 r20 : XH) fun q21 => q21) else (xlt (xf_C_refuse u (2 : Int32) : XH) fun q22 => q22)) else (xlt (xf_D_d (xg_C_word u) : Int32) fun r13 => xlt (xf_D_immediate (xg_C_word u) : Int32) fun r14 => xlt (xf_R_combine r1 ((xg_x u) r3.toNatClampNeg) r14 : Int32) fun r15 => xlt (xf_C_put u r13 r15 : XH) fun q16 => q16)))) → xok k g v4 → lv_has ls 4 [(3, .int (((xg_x u) r3.toNatClampNeg))), (2, .int r2), (1, .int r1), (0, .ref ((a 1)))] → va_P D xCl (xWH k a g v4) H → va_D A (xWH k a g v4) → va_S A s.heap H locs → W p l e { frames := 2, cells := 0, slots := 0, locals := 43 } s m args below meth c H locs (0) (0) Q (F0 m 108 ls []) := by
    intro H locs ls g v4 hv4 hg hl hP hD hS
    exact hret (v4, g) H locs ls _ ⟨(by unfold xf_C_immediateOp; exact (xlt_e hr1 (xlt_e hr2 (xlt_e hr3 (xlt_e hv4 rfl))))), hg⟩ hP hD hS xd_C_immediateOp_108
  refine lv_icmp_ne (tgt := 63) hx hb xd_C_immediateOp_31 rfl (fun h6 => ?_) (fun h6 => ?_)
  · refine lv_iload_n hx hb xd_C_immediateOp_63 rfl (lv_at hl 2 rfl) ?_
    refine lv_iconst (v := 1) hx hb xd_C_immediateOp_64 (by decide) ?_
    refine lv_icmp_eq (tgt := 73) hx hb xd_C_immediateOp_65 rfl (fun h7 => ?_) (fun h7 => ?_)
    · refine lv_iload_n hx hb xd_C_immediateOp_73 rfl (lv_at hl 1 rfl) ?_
      refine lv_if_eq (tgt := 85) hx hb xd_C_immediateOp_74 rfl (fun h8 => ?_) (fun h8 => ?_)
      · refine lv_aload_n hx hb xd_C_immediateOp_85 rfl (lv_at hl 3 rfl) ?_
        refine lv_aload_n hx hb xd_C_immediateOp_86 rfl (lv_at hl 3 rfl) ?_
        refine xget_C_word (v := (xg_C_word u)) hx hb htg hown hK hP (htg _ xw_224) rfl xd_C_immediateOp_87 ?_
        refine xc0_i (va_runS (As := [.int ((xg_C_word u))]) (rest := [.ref ((a 1))]) ⟨hx, hb, hml, hown, htg⟩ (c_D_d l D (xTy k) z H.size (xg_C_word u)) (va_cwS 1 htg (xg_S0 xkin_D_d xw_529 xw_530 xw_13) rfl rfl rfl (by decide +kernel) ⟨Nat.le_of_ble_eq_true rfl, Nat.le_of_ble_eq_true rfl⟩) ⟨xB_blind, fun U hU hW => xB_mk va_P0 hK va_D0 hE hS (xsub0 hA hS) hU hW⟩ rfl rfl hl.1 rfl (lv_room (Nat.le_of_ble_eq_true rfl)) xd_C_immediateOp_90 ⟨Nat.le_of_ble_eq_true rfl, Nat.le_of_ble_eq_true rfl⟩) hP hA hS (fun r9 H locs hr9 hP hS => ?_)
        refine lv_iload_n hx hb xd_C_immediateOp_93 rfl (lv_at hl 2 rfl) ?_
        refine lv_iload_n hx hb xd_C_immediateOp_94 rfl (lv_at hl 0 rfl) ?_
        refine lv_aload_n hx hb xd_C_immediateOp_95 rfl (lv_at hl 3 rfl) ?_
        refine xget_C_word (v := (xg_C_word u)) hx hb htg hown hK hP (htg _ xw_224) rfl xd_C_immediateOp_96 ?_
        refine xc0_i (va_runS (As := [.int ((xg_C_word u))]) (rest := [.int (((xg_x u) r3.toNatClampNeg)), .int r1, .int r9, .ref ((a 1))]) ⟨hx, hb, hml, hown, htg⟩ (c_D_immediate l D (xTy k) z H.size (xg_C_word u)) (va_cwS 1 htg (xg_S0 xkin_D_immediate xw_516 xw_517 xw_13) rfl rfl rfl (by decide +kernel) ⟨Nat.le_of_ble_eq_true rfl, Nat.le_of_ble_eq_true rfl⟩) ⟨xB_blind, fun U hU hW => xB_mk va_P0 hK va_D0 hE hS (xsub0 hA hS) hU hW⟩ rfl rfl hl.1 rfl (lv_room (Nat.le_of_ble_eq_true rfl)) xd_C_immediateOp_99 ⟨Nat.le_of_ble_eq_true rfl, Nat.le_of_ble_eq_true rfl⟩) hP hA hS (fun r10 H locs hr10 hP hS => ?_)
        refine xc0_i (va_runS (As := [.int r1, .int (((xg_x u) r3.toNatClampNeg)), .int r10]) (rest := [.int r9, .ref ((a 1))]) ⟨hx, hb, hml, hown, htg⟩ (c_R_combine l D (xTy k) z H.size r1 ((xg_x u) r3.toNatClampNeg) r10) (va_cwS 3 htg (xg_S0 xkin_R_combine xw_548 xw_549 xw_14) rfl rfl rfl (by decide +kernel) ⟨Nat.le_of_ble_eq_true rfl, Nat.le_of_ble_eq_true rfl⟩) ⟨xB_blind, fun U hU hW => xB_mk va_P0 hK va_D0 hE hS (xsub0 hA hS) hU hW⟩ rfl rfl hl.1 rfl (lv_room (Nat.le_of_ble_eq_true rfl)) xd_C_immediateOp_102 ⟨Nat.le_of_ble_eq_true rfl, Nat.le_of_ble_eq_true rfl⟩) hP hA hS (fun r11 H locs hr11 hP hS => ?_)
        refine xcW_v (va_runV (As := [.int r9, .int r11]) (rest := []) ⟨hx, hb, hml, hown, htg⟩ (c_C_put l D z k a g H.size u hg r9 r11 (xin_eq hr9 (xin_d _))) (cwV 2 htg (xg_V0 xkin_C_put xw_533 xw_322 xsel_C_put xw_2) rfl rfl rfl (by decide +kernel) ⟨Nat.le_of_ble_eq_true rfl, Nat.le_of_ble_eq_true rfl⟩) ⟨xB_blind, xrecv_C hK hP, fun U hU hW => xB_mk hP hK hD hE hS (xsubW hD hA hS) hU hW⟩ rfl rfl hl.1 rfl (lv_room (Nat.le_of_ble_eq_true rfl)) xd_C_immediateOp_105 ⟨Nat.le_of_ble_eq_true rfl, Nat.le_of_ble_eq_true rfl⟩) hD hA hS (fun w1 H locs hw hP hD hS => ?_)
        obtain ⟨u1, g⟩ := w1
        obtain ⟨q12, hq12⟩ : ∃ q, q = xf_C_put u r9 r11 := ⟨_, rfl⟩
        obtain ⟨e2, hg⟩ := hw
        rw [← hq12] at e2
        obtain rfl : q12 = u1 := e2.symm
        have hP : va_P D xCl (xWH k a g q12) H := hP
        have hD : va_D A (xWH k a g q12) := hD
        have hg : xok k g q12 := hg
        exact hj5 H locs ls g q12 (xif h6 (xit h7 (xit h8 (xlt_e hr9 (xlt_e hr10 (xlt_e hr11 (xlt_e hq12 rfl))))))) hg hl hP hD hS
      · refine lv_aload_n hx hb xd_C_immediateOp_77 rfl (lv_at hl 3 rfl) ?_
        refine lv_iconst (v := 2) hx hb xd_C_immediateOp_78 (by decide) ?_
        refine xcW_v (va_runV (As := [.int 2]) (rest := []) ⟨hx, hb, hml, hown, htg⟩ (c_C_refuse l D z k a g H.size u hg (2 : Int32)) (cwV 1 htg (xg_V0 xkin_C_refuse xw_509 xw_511 xsel_C_refuse xw_2) rfl rfl rfl (by decide +kernel) ⟨Nat.le_of_ble_eq_true rfl, Nat.le_of_ble_eq_true rfl⟩) ⟨xB_blind, xrecv_C hK hP, fun U hU hW => xB_mk hP hK hD hE hS (xsubW hD hA hS) hU hW⟩ rfl rfl hl.1 rfl (lv_room (Nat.le_of_ble_eq_true rfl)) xd_C_immediateOp_79 ⟨Nat.le_of_ble_eq_true rfl, Nat.le_of_ble_eq_true rfl⟩) hD hA hS (fun w1 H locs hw hP hD hS => ?_)
        obtain ⟨u1, g⟩ := w1
        obtain ⟨q13, hq13⟩ : ∃ q, q = xf_C_refuse u (2 : Int32) := ⟨_, rfl⟩
        obtain ⟨e2, hg⟩ := hw
        rw [← hq13] at e2
        obtain rfl : q13 = u1 := e2.symm
        have hP : va_P D xCl (xWH k a g q13) H := hP
        have hD : va_D A (xWH k a g q13) := hD
        have hg : xok k g q13 := hg
        refine lv_goto (tgt := 108) hx hb xd_C_immediateOp_82 rfl ?_
        exact hj5 H locs ls g q13 (xif h6 (xit h7 (xif h8 (xlt_e hq13 rfl)))) hg hl hP hD hS
    · refine lv_iload_n hx hb xd_C_immediateOp_68 rfl (lv_at hl 2 rfl) ?_
      refine lv_iconst (v := 5) hx hb xd_C_immediateOp_69 (by decide) ?_
      refine lv_icmp_ne (tgt := 85) hx hb xd_C_immediateOp_70 rfl (fun h14 => ?_) (fun h14 => ?_)
      · refine lv_aload_n hx hb xd_C_immediateOp_85 rfl (lv_at hl 3 rfl) ?_
        refine lv_aload_n hx hb xd_C_immediateOp_86 rfl (lv_at hl 3 rfl) ?_
        refine xget_C_word (v := (xg_C_word u)) hx hb htg hown hK hP (htg _ xw_224) rfl xd_C_immediateOp_87 ?_
        refine xc0_i (va_runS (As := [.int ((xg_C_word u))]) (rest := [.ref ((a 1))]) ⟨hx, hb, hml, hown, htg⟩ (c_D_d l D (xTy k) z H.size (xg_C_word u)) (va_cwS 1 htg (xg_S0 xkin_D_d xw_529 xw_530 xw_13) rfl rfl rfl (by decide +kernel) ⟨Nat.le_of_ble_eq_true rfl, Nat.le_of_ble_eq_true rfl⟩) ⟨xB_blind, fun U hU hW => xB_mk va_P0 hK va_D0 hE hS (xsub0 hA hS) hU hW⟩ rfl rfl hl.1 rfl (lv_room (Nat.le_of_ble_eq_true rfl)) xd_C_immediateOp_90 ⟨Nat.le_of_ble_eq_true rfl, Nat.le_of_ble_eq_true rfl⟩) hP hA hS (fun r15 H locs hr15 hP hS => ?_)
        refine lv_iload_n hx hb xd_C_immediateOp_93 rfl (lv_at hl 2 rfl) ?_
        refine lv_iload_n hx hb xd_C_immediateOp_94 rfl (lv_at hl 0 rfl) ?_
        refine lv_aload_n hx hb xd_C_immediateOp_95 rfl (lv_at hl 3 rfl) ?_
        refine xget_C_word (v := (xg_C_word u)) hx hb htg hown hK hP (htg _ xw_224) rfl xd_C_immediateOp_96 ?_
        refine xc0_i (va_runS (As := [.int ((xg_C_word u))]) (rest := [.int (((xg_x u) r3.toNatClampNeg)), .int r1, .int r15, .ref ((a 1))]) ⟨hx, hb, hml, hown, htg⟩ (c_D_immediate l D (xTy k) z H.size (xg_C_word u)) (va_cwS 1 htg (xg_S0 xkin_D_immediate xw_516 xw_517 xw_13) rfl rfl rfl (by decide +kernel) ⟨Nat.le_of_ble_eq_true rfl, Nat.le_of_ble_eq_true rfl⟩) ⟨xB_blind, fun U hU hW => xB_mk va_P0 hK va_D0 hE hS (xsub0 hA hS) hU hW⟩ rfl rfl hl.1 rfl (lv_room (Nat.le_of_ble_eq_true rfl)) xd_C_immediateOp_99 ⟨Nat.le_of_ble_eq_true rfl, Nat.le_of_ble_eq_true rfl⟩) hP hA hS (fun r16 H locs hr16 hP hS => ?_)
        refine xc0_i (va_runS (As := [.int r1, .int (((xg_x u) r3.toNatClampNeg)), .int r16]) (rest := [.int r15, .ref ((a 1))]) ⟨hx, hb, hml, hown, htg⟩ (c_R_combine l D (xTy k) z H.size r1 ((xg_x u) r3.toNatClampNeg) r16) (va_cwS 3 htg (xg_S0 xkin_R_combine xw_548 xw_549 xw_14) rfl rfl rfl (by decide +kernel) ⟨Nat.le_of_ble_eq_true rfl, Nat.le_of_ble_eq_true rfl⟩) ⟨xB_blind, fun U hU hW => xB_mk va_P0 hK va_D0 hE hS (xsub0 hA hS) hU hW⟩ rfl rfl hl.1 rfl (lv_room (Nat.le_of_ble_eq_true rfl)) xd_C_immediateOp_102 ⟨Nat.le_of_ble_eq_true rfl, Nat.le_of_ble_eq_true rfl⟩) hP hA hS (fun r17 H locs hr17 hP hS => ?_)
        refine xcW_v (va_runV (As := [.int r15, .int r17]) (rest := []) ⟨hx, hb, hml, hown, htg⟩ (c_C_put l D z k a g H.size u hg r15 r17 (xin_eq hr15 (xin_d _))) (cwV 2 htg (xg_V0 xkin_C_put xw_533 xw_322 xsel_C_put xw_2) rfl rfl rfl (by decide +kernel) ⟨Nat.le_of_ble_eq_true rfl, Nat.le_of_ble_eq_true rfl⟩) ⟨xB_blind, xrecv_C hK hP, fun U hU hW => xB_mk hP hK hD hE hS (xsubW hD hA hS) hU hW⟩ rfl rfl hl.1 rfl (lv_room (Nat.le_of_ble_eq_true rfl)) xd_C_immediateOp_105 ⟨Nat.le_of_ble_eq_true rfl, Nat.le_of_ble_eq_true rfl⟩) hD hA hS (fun w1 H locs hw hP hD hS => ?_)
        obtain ⟨u1, g⟩ := w1
        obtain ⟨q18, hq18⟩ : ∃ q, q = xf_C_put u r15 r17 := ⟨_, rfl⟩
        obtain ⟨e2, hg⟩ := hw
        rw [← hq18] at e2
        obtain rfl : q18 = u1 := e2.symm
        have hP : va_P D xCl (xWH k a g q18) H := hP
        have hD : va_D A (xWH k a g q18) := hD
        have hg : xok k g q18 := hg
        exact hj5 H locs ls g q18 (xif h6 (xif h7 (xif h14 (xlt_e hr15 (xlt_e hr16 (xlt_e hr17 (xlt_e hq18 rfl))))))) hg hl hP hD hS
      · refine lv_iload_n hx hb xd_C_immediateOp_73 rfl (lv_at hl 1 rfl) ?_
        refine lv_if_eq (tgt := 85) hx hb xd_C_immediateOp_74 rfl (fun h19 => ?_) (fun h19 => ?_)
        · refine lv_aload_n hx hb xd_C_immediateOp_85 rfl (lv_at hl 3 rfl) ?_
          refine lv_aload_n hx hb xd_C_immediateOp_86 rfl (lv_at hl 3 rfl) ?_
          refine xget_C_word (v := (xg_C_word u)) hx hb htg hown hK hP (htg _ xw_224) rfl xd_C_immediateOp_87 ?_
          refine xc0_i (va_runS (As := [.int ((xg_C_word u))]) (rest := [.ref ((a 1))]) ⟨hx, hb, hml, hown, htg⟩ (c_D_d l D (xTy k) z H.size (xg_C_word u)) (va_cwS 1 htg (xg_S0 xkin_D_d xw_529 xw_530 xw_13) rfl rfl rfl (by decide +kernel) ⟨Nat.le_of_ble_eq_true rfl, Nat.le_of_ble_eq_true rfl⟩) ⟨xB_blind, fun U hU hW => xB_mk va_P0 hK va_D0 hE hS (xsub0 hA hS) hU hW⟩ rfl rfl hl.1 rfl (lv_room (Nat.le_of_ble_eq_true rfl)) xd_C_immediateOp_90 ⟨Nat.le_of_ble_eq_true rfl, Nat.le_of_ble_eq_true rfl⟩) hP hA hS (fun r20 H locs hr20 hP hS => ?_)
          refine lv_iload_n hx hb xd_C_immediateOp_93 rfl (lv_at hl 2 rfl) ?_
          refine lv_iload_n hx hb xd_C_immediateOp_94 rfl (lv_at hl 0 rfl) ?_
          refine lv_aload_n hx hb xd_C_immediateOp_95 rfl (lv_at hl 3 rfl) ?_
          refine xget_C_word (v := (xg_C_word u)) hx hb htg hown hK hP (htg _ xw_224) rfl xd_C_immediateOp_96 ?_
          refine xc0_i (va_runS (As := [.int ((xg_C_word u))]) (rest := [.int (((xg_x u) r3.toNatClampNeg)), .int r1, .int r20, .ref ((a 1))]) ⟨hx, hb, hml, hown, htg⟩ (c_D_immediate l D (xTy k) z H.size (xg_C_word u)) (va_cwS 1 htg (xg_S0 xkin_D_immediate xw_516 xw_517 xw_13) rfl rfl rfl (by decide +kernel) ⟨Nat.le_of_ble_eq_true rfl, Nat.le_of_ble_eq_true rfl⟩) ⟨xB_blind, fun U hU hW => xB_mk va_P0 hK va_D0 hE hS (xsub0 hA hS) hU hW⟩ rfl rfl hl.1 rfl (lv_room (Nat.le_of_ble_eq_true rfl)) xd_C_immediateOp_99 ⟨Nat.le_of_ble_eq_true rfl, Nat.le_of_ble_eq_true rfl⟩) hP hA hS (fun r21 H locs hr21 hP hS => ?_)
          refine xc0_i (va_runS (As := [.int r1, .int (((xg_x u) r3.toNatClampNeg)), .int r21]) (rest := [.int r20, .ref ((a 1))]) ⟨hx, hb, hml, hown, htg⟩ (c_R_combine l D (xTy k) z H.size r1 ((xg_x u) r3.toNatClampNeg) r21) (va_cwS 3 htg (xg_S0 xkin_R_combine xw_548 xw_549 xw_14) rfl rfl rfl (by decide +kernel) ⟨Nat.le_of_ble_eq_true rfl, Nat.le_of_ble_eq_true rfl⟩) ⟨xB_blind, fun U hU hW => xB_mk va_P0 hK va_D0 hE hS (xsub0 hA hS) hU hW⟩ rfl rfl hl.1 rfl (lv_room (Nat.le_of_ble_eq_true rfl)) xd_C_immediateOp_102 ⟨Nat.le_of_ble_eq_true rfl, Nat.le_of_ble_eq_true rfl⟩) hP hA hS (fun r22 H locs hr22 hP hS => ?_)
          refine xcW_v (va_runV (As := [.int r20, .int r22]) (rest := []) ⟨hx, hb, hml, hown, htg⟩ (c_C_put l D z k a g H.size u hg r20 r22 (xin_eq hr20 (xin_d _))) (cwV 2 htg (xg_V0 xkin_C_put xw_533 xw_322 xsel_C_put xw_2) rfl rfl rfl (by decide +kernel) ⟨Nat.le_of_ble_eq_true rfl, Nat.le_of_ble_eq_true rfl⟩) ⟨xB_blind, xrecv_C hK hP, fun U hU hW => xB_mk hP hK hD hE hS (xsubW hD hA hS) hU hW⟩ rfl rfl hl.1 rfl (lv_room (Nat.le_of_ble_eq_true rfl)) xd_C_immediateOp_105 ⟨Nat.le_of_ble_eq_true rfl, Nat.le_of_ble_eq_true rfl⟩) hD hA hS (fun w1 H locs hw hP hD hS => ?_)
          obtain ⟨u1, g⟩ := w1
          obtain ⟨q23, hq23⟩ : ∃ q, q = xf_C_put u r20 r22 := ⟨_, rfl⟩
          obtain ⟨e2, hg⟩ := hw
          rw [← hq23] at e2
          obtain rfl : q23 = u1 := e2.symm
          have hP : va_P D xCl (xWH k a g q23) H := hP
          have hD : va_D A (xWH k a g q23) := hD
          have hg : xok k g q23 := hg
          exact hj5 H locs ls g q23 (xif h6 (xif h7 (xit h14 (xit h19 (xlt_e hr20 (xlt_e hr21 (xlt_e hr22 (xlt_e hq23 rfl)))))))) hg hl hP hD hS
        · refine lv_aload_n hx hb xd_C_immediateOp_77 rfl (lv_at hl 3 rfl) ?_
          refine lv_iconst (v := 2) hx hb xd_C_immediateOp_78 (by decide) ?_
          refine xcW_v (va_runV (As := [.int 2]) (rest := []) ⟨hx, hb, hml, hown, htg⟩ (c_C_refuse l D z k a g H.size u hg (2 : Int32)) (cwV 1 htg (xg_V0 xkin_C_refuse xw_509 xw_511 xsel_C_refuse xw_2) rfl rfl rfl (by decide +kernel) ⟨Nat.le_of_ble_eq_true rfl, Nat.le_of_ble_eq_true rfl⟩) ⟨xB_blind, xrecv_C hK hP, fun U hU hW => xB_mk hP hK hD hE hS (xsubW hD hA hS) hU hW⟩ rfl rfl hl.1 rfl (lv_room (Nat.le_of_ble_eq_true rfl)) xd_C_immediateOp_79 ⟨Nat.le_of_ble_eq_true rfl, Nat.le_of_ble_eq_true rfl⟩) hD hA hS (fun w1 H locs hw hP hD hS => ?_)
          obtain ⟨u1, g⟩ := w1
          obtain ⟨q24, hq24⟩ : ∃ q, q = xf_C_refuse u (2 : Int32) := ⟨_, rfl⟩
          obtain ⟨e2, hg⟩ := hw
          rw [← hq24] at e2
          obtain rfl : q24 = u1 := e2.symm
          have hP : va_P D xCl (xWH k a g q24) H := hP
          have hD : va_D A (xWH k a g q24) := hD
          have hg : xok k g q24 := hg
          refine lv_goto (tgt := 108) hx hb xd_C_immediateOp_82 rfl ?_
          exact hj5 H locs ls g q24 (xif h6 (xif h7 (xit h14 (xif h19 (xlt_e hq24 rfl))))) hg hl hP hD hS
  · refine lv_iload_n hx hb xd_C_immediateOp_34 rfl (lv_at hl 1 rfl) ?_
    refine lv_bipush (v := 32) hx hb xd_C_immediateOp_35 (by decide) ?_
    refine lv_icmp_ne (tgt := 63) hx hb xd_C_immediateOp_37 rfl (fun h25 => ?_) (fun h25 => ?_)
    · refine lv_iload_n hx hb xd_C_immediateOp_63 rfl (lv_at hl 2 rfl) ?_
      refine lv_iconst (v := 1) hx hb xd_C_immediateOp_64 (by decide) ?_
      refine lv_icmp_eq (tgt := 73) hx hb xd_C_immediateOp_65 rfl (fun h26 => ?_) (fun h26 => ?_)
      · refine lv_iload_n hx hb xd_C_immediateOp_73 rfl (lv_at hl 1 rfl) ?_
        refine lv_if_eq (tgt := 85) hx hb xd_C_immediateOp_74 rfl (fun h27 => ?_) (fun h27 => ?_)
        · refine lv_aload_n hx hb xd_C_immediateOp_85 rfl (lv_at hl 3 rfl) ?_
          refine lv_aload_n hx hb xd_C_immediateOp_86 rfl (lv_at hl 3 rfl) ?_
          refine xget_C_word (v := (xg_C_word u)) hx hb htg hown hK hP (htg _ xw_224) rfl xd_C_immediateOp_87 ?_
          refine xc0_i (va_runS (As := [.int ((xg_C_word u))]) (rest := [.ref ((a 1))]) ⟨hx, hb, hml, hown, htg⟩ (c_D_d l D (xTy k) z H.size (xg_C_word u)) (va_cwS 1 htg (xg_S0 xkin_D_d xw_529 xw_530 xw_13) rfl rfl rfl (by decide +kernel) ⟨Nat.le_of_ble_eq_true rfl, Nat.le_of_ble_eq_true rfl⟩) ⟨xB_blind, fun U hU hW => xB_mk va_P0 hK va_D0 hE hS (xsub0 hA hS) hU hW⟩ rfl rfl hl.1 rfl (lv_room (Nat.le_of_ble_eq_true rfl)) xd_C_immediateOp_90 ⟨Nat.le_of_ble_eq_true rfl, Nat.le_of_ble_eq_true rfl⟩) hP hA hS (fun r28 H locs hr28 hP hS => ?_)
          refine lv_iload_n hx hb xd_C_immediateOp_93 rfl (lv_at hl 2 rfl) ?_
          refine lv_iload_n hx hb xd_C_immediateOp_94 rfl (lv_at hl 0 rfl) ?_
          refine lv_aload_n hx hb xd_C_immediateOp_95 rfl (lv_at hl 3 rfl) ?_
          refine xget_C_word (v := (xg_C_word u)) hx hb htg hown hK hP (htg _ xw_224) rfl xd_C_immediateOp_96 ?_
          refine xc0_i (va_runS (As := [.int ((xg_C_word u))]) (rest := [.int (((xg_x u) r3.toNatClampNeg)), .int r1, .int r28, .ref ((a 1))]) ⟨hx, hb, hml, hown, htg⟩ (c_D_immediate l D (xTy k) z H.size (xg_C_word u)) (va_cwS 1 htg (xg_S0 xkin_D_immediate xw_516 xw_517 xw_13) rfl rfl rfl (by decide +kernel) ⟨Nat.le_of_ble_eq_true rfl, Nat.le_of_ble_eq_true rfl⟩) ⟨xB_blind, fun U hU hW => xB_mk va_P0 hK va_D0 hE hS (xsub0 hA hS) hU hW⟩ rfl rfl hl.1 rfl (lv_room (Nat.le_of_ble_eq_true rfl)) xd_C_immediateOp_99 ⟨Nat.le_of_ble_eq_true rfl, Nat.le_of_ble_eq_true rfl⟩) hP hA hS (fun r29 H locs hr29 hP hS => ?_)
          refine xc0_i (va_runS (As := [.int r1, .int (((xg_x u) r3.toNatClampNeg)), .int r29]) (rest := [.int r28, .ref ((a 1))]) ⟨hx, hb, hml, hown, htg⟩ (c_R_combine l D (xTy k) z H.size r1 ((xg_x u) r3.toNatClampNeg) r29) (va_cwS 3 htg (xg_S0 xkin_R_combine xw_548 xw_549 xw_14) rfl rfl rfl (by decide +kernel) ⟨Nat.le_of_ble_eq_true rfl, Nat.le_of_ble_eq_true rfl⟩) ⟨xB_blind, fun U hU hW => xB_mk va_P0 hK va_D0 hE hS (xsub0 hA hS) hU hW⟩ rfl rfl hl.1 rfl (lv_room (Nat.le_of_ble_eq_true rfl)) xd_C_immediateOp_102 ⟨Nat.le_of_ble_eq_true rfl, Nat.le_of_ble_eq_true rfl⟩) hP hA hS (fun r30 H locs hr30 hP hS => ?_)
          refine xcW_v (va_runV (As := [.int r28, .int r30]) (rest := []) ⟨hx, hb, hml, hown, htg⟩ (c_C_put l D z k a g H.size u hg r28 r30 (xin_eq hr28 (xin_d _))) (cwV 2 htg (xg_V0 xkin_C_put xw_533 xw_322 xsel_C_put xw_2) rfl rfl rfl (by decide +kernel) ⟨Nat.le_of_ble_eq_true rfl, Nat.le_of_ble_eq_true rfl⟩) ⟨xB_blind, xrecv_C hK hP, fun U hU hW => xB_mk hP hK hD hE hS (xsubW hD hA hS) hU hW⟩ rfl rfl hl.1 rfl (lv_room (Nat.le_of_ble_eq_true rfl)) xd_C_immediateOp_105 ⟨Nat.le_of_ble_eq_true rfl, Nat.le_of_ble_eq_true rfl⟩) hD hA hS (fun w1 H locs hw hP hD hS => ?_)
          obtain ⟨u1, g⟩ := w1
          obtain ⟨q31, hq31⟩ : ∃ q, q = xf_C_put u r28 r30 := ⟨_, rfl⟩
          obtain ⟨e2, hg⟩ := hw
          rw [← hq31] at e2
          obtain rfl : q31 = u1 := e2.symm
          have hP : va_P D xCl (xWH k a g q31) H := hP
          have hD : va_D A (xWH k a g q31) := hD
          have hg : xok k g q31 := hg
          exact hj5 H locs ls g q31 (xit h6 (xif h25 (xit h26 (xit h27 (xlt_e hr28 (xlt_e hr29 (xlt_e hr30 (xlt_e hq31 rfl)))))))) hg hl hP hD hS
        · refine lv_aload_n hx hb xd_C_immediateOp_77 rfl (lv_at hl 3 rfl) ?_
          refine lv_iconst (v := 2) hx hb xd_C_immediateOp_78 (by decide) ?_
          refine xcW_v (va_runV (As := [.int 2]) (rest := []) ⟨hx, hb, hml, hown, htg⟩ (c_C_refuse l D z k a g H.size u hg (2 : Int32)) (cwV 1 htg (xg_V0 xkin_C_refuse xw_509 xw_511 xsel_C_refuse xw_2) rfl rfl rfl (by decide +kernel) ⟨Nat.le_of_ble_eq_true rfl, Nat.le_of_ble_eq_true rfl⟩) ⟨xB_blind, xrecv_C hK hP, fun U hU hW => xB_mk hP hK hD hE hS (xsubW hD hA hS) hU hW⟩ rfl rfl hl.1 rfl (lv_room (Nat.le_of_ble_eq_true rfl)) xd_C_immediateOp_79 ⟨Nat.le_of_ble_eq_true rfl, Nat.le_of_ble_eq_true rfl⟩) hD hA hS (fun w1 H locs hw hP hD hS => ?_)
          obtain ⟨u1, g⟩ := w1
          obtain ⟨q32, hq32⟩ : ∃ q, q = xf_C_refuse u (2 : Int32) := ⟨_, rfl⟩
          obtain ⟨e2, hg⟩ := hw
          rw [← hq32] at e2
          obtain rfl : q32 = u1 := e2.symm
          have hP : va_P D xCl (xWH k a g q32) H := hP
          have hD : va_D A (xWH k a g q32) := hD
          have hg : xok k g q32 := hg
          refine lv_goto (tgt := 108) hx hb xd_C_immediateOp_82 rfl ?_
          exact hj5 H locs ls g q32 (xit h6 (xif h25 (xit h26 (xif h27 (xlt_e hq32 rfl))))) hg hl hP hD hS
      · refine lv_iload_n hx hb xd_C_immediateOp_68 rfl (lv_at hl 2 rfl) ?_
        refine lv_iconst (v := 5) hx hb xd_C_immediateOp_69 (by decide) ?_
        refine lv_icmp_ne (tgt := 85) hx hb xd_C_immediateOp_70 rfl (fun h33 => ?_) (fun h33 => ?_)
        · refine lv_aload_n hx hb xd_C_immediateOp_85 rfl (lv_at hl 3 rfl) ?_
          refine lv_aload_n hx hb xd_C_immediateOp_86 rfl (lv_at hl 3 rfl) ?_
          refine xget_C_word (v := (xg_C_word u)) hx hb htg hown hK hP (htg _ xw_224) rfl xd_C_immediateOp_87 ?_
          refine xc0_i (va_runS (As := [.int ((xg_C_word u))]) (rest := [.ref ((a 1))]) ⟨hx, hb, hml, hown, htg⟩ (c_D_d l D (xTy k) z H.size (xg_C_word u)) (va_cwS 1 htg (xg_S0 xkin_D_d xw_529 xw_530 xw_13) rfl rfl rfl (by decide +kernel) ⟨Nat.le_of_ble_eq_true rfl, Nat.le_of_ble_eq_true rfl⟩) ⟨xB_blind, fun U hU hW => xB_mk va_P0 hK va_D0 hE hS (xsub0 hA hS) hU hW⟩ rfl rfl hl.1 rfl (lv_room (Nat.le_of_ble_eq_true rfl)) xd_C_immediateOp_90 ⟨Nat.le_of_ble_eq_true rfl, Nat.le_of_ble_eq_true rfl⟩) hP hA hS (fun r34 H locs hr34 hP hS => ?_)
          refine lv_iload_n hx hb xd_C_immediateOp_93 rfl (lv_at hl 2 rfl) ?_
          refine lv_iload_n hx hb xd_C_immediateOp_94 rfl (lv_at hl 0 rfl) ?_
          refine lv_aload_n hx hb xd_C_immediateOp_95 rfl (lv_at hl 3 rfl) ?_
          refine xget_C_word (v := (xg_C_word u)) hx hb htg hown hK hP (htg _ xw_224) rfl xd_C_immediateOp_96 ?_
          refine xc0_i (va_runS (As := [.int ((xg_C_word u))]) (rest := [.int (((xg_x u) r3.toNatClampNeg)), .int r1, .int r34, .ref ((a 1))]) ⟨hx, hb, hml, hown, htg⟩ (c_D_immediate l D (xTy k) z H.size (xg_C_word u)) (va_cwS 1 htg (xg_S0 xkin_D_immediate xw_516 xw_517 xw_13) rfl rfl rfl (by decide +kernel) ⟨Nat.le_of_ble_eq_true rfl, Nat.le_of_ble_eq_true rfl⟩) ⟨xB_blind, fun U hU hW => xB_mk va_P0 hK va_D0 hE hS (xsub0 hA hS) hU hW⟩ rfl rfl hl.1 rfl (lv_room (Nat.le_of_ble_eq_true rfl)) xd_C_immediateOp_99 ⟨Nat.le_of_ble_eq_true rfl, Nat.le_of_ble_eq_true rfl⟩) hP hA hS (fun r35 H locs hr35 hP hS => ?_)
          refine xc0_i (va_runS (As := [.int r1, .int (((xg_x u) r3.toNatClampNeg)), .int r35]) (rest := [.int r34, .ref ((a 1))]) ⟨hx, hb, hml, hown, htg⟩ (c_R_combine l D (xTy k) z H.size r1 ((xg_x u) r3.toNatClampNeg) r35) (va_cwS 3 htg (xg_S0 xkin_R_combine xw_548 xw_549 xw_14) rfl rfl rfl (by decide +kernel) ⟨Nat.le_of_ble_eq_true rfl, Nat.le_of_ble_eq_true rfl⟩) ⟨xB_blind, fun U hU hW => xB_mk va_P0 hK va_D0 hE hS (xsub0 hA hS) hU hW⟩ rfl rfl hl.1 rfl (lv_room (Nat.le_of_ble_eq_true rfl)) xd_C_immediateOp_102 ⟨Nat.le_of_ble_eq_true rfl, Nat.le_of_ble_eq_true rfl⟩) hP hA hS (fun r36 H locs hr36 hP hS => ?_)
          refine xcW_v (va_runV (As := [.int r34, .int r36]) (rest := []) ⟨hx, hb, hml, hown, htg⟩ (c_C_put l D z k a g H.size u hg r34 r36 (xin_eq hr34 (xin_d _))) (cwV 2 htg (xg_V0 xkin_C_put xw_533 xw_322 xsel_C_put xw_2) rfl rfl rfl (by decide +kernel) ⟨Nat.le_of_ble_eq_true rfl, Nat.le_of_ble_eq_true rfl⟩) ⟨xB_blind, xrecv_C hK hP, fun U hU hW => xB_mk hP hK hD hE hS (xsubW hD hA hS) hU hW⟩ rfl rfl hl.1 rfl (lv_room (Nat.le_of_ble_eq_true rfl)) xd_C_immediateOp_105 ⟨Nat.le_of_ble_eq_true rfl, Nat.le_of_ble_eq_true rfl⟩) hD hA hS (fun w1 H locs hw hP hD hS => ?_)
          obtain ⟨u1, g⟩ := w1
          obtain ⟨q37, hq37⟩ : ∃ q, q = xf_C_put u r34 r36 := ⟨_, rfl⟩
          obtain ⟨e2, hg⟩ := hw
          rw [← hq37] at e2
          obtain rfl : q37 = u1 := e2.symm
          have hP : va_P D xCl (xWH k a g q37) H := hP
          have hD : va_D A (xWH k a g q37) := hD
          have hg : xok k g q37 := hg
          exact hj5 H locs ls g q37 (xit h6 (xif h25 (xif h26 (xif h33 (xlt_e hr34 (xlt_e hr35 (xlt_e hr36 (xlt_e hq37 rfl)))))))) hg hl hP hD hS
        · refine lv_iload_n hx hb xd_C_immediateOp_73 rfl (lv_at hl 1 rfl) ?_
          refine lv_if_eq (tgt := 85) hx hb xd_C_immediateOp_74 rfl (fun h38 => ?_) (fun h38 => ?_)
          · refine lv_aload_n hx hb xd_C_immediateOp_85 rfl (lv_at hl 3 rfl) ?_
            refine lv_aload_n hx hb xd_C_immediateOp_86 rfl (lv_at hl 3 rfl) ?_
            refine xget_C_word (v := (xg_C_word u)) hx hb htg hown hK hP (htg _ xw_224) rfl xd_C_immediateOp_87 ?_
            refine xc0_i (va_runS (As := [.int ((xg_C_word u))]) (rest := [.ref ((a 1))]) ⟨hx, hb, hml, hown, htg⟩ (c_D_d l D (xTy k) z H.size (xg_C_word u)) (va_cwS 1 htg (xg_S0 xkin_D_d xw_529 xw_530 xw_13) rfl rfl rfl (by decide +kernel) ⟨Nat.le_of_ble_eq_true rfl, Nat.le_of_ble_eq_true rfl⟩) ⟨xB_blind, fun U hU hW => xB_mk va_P0 hK va_D0 hE hS (xsub0 hA hS) hU hW⟩ rfl rfl hl.1 rfl (lv_room (Nat.le_of_ble_eq_true rfl)) xd_C_immediateOp_90 ⟨Nat.le_of_ble_eq_true rfl, Nat.le_of_ble_eq_true rfl⟩) hP hA hS (fun r39 H locs hr39 hP hS => ?_)
            refine lv_iload_n hx hb xd_C_immediateOp_93 rfl (lv_at hl 2 rfl) ?_
            refine lv_iload_n hx hb xd_C_immediateOp_94 rfl (lv_at hl 0 rfl) ?_
            refine lv_aload_n hx hb xd_C_immediateOp_95 rfl (lv_at hl 3 rfl) ?_
            refine xget_C_word (v := (xg_C_word u)) hx hb htg hown hK hP (htg _ xw_224) rfl xd_C_immediateOp_96 ?_
            refine xc0_i (va_runS (As := [.int ((xg_C_word u))]) (rest := [.int (((xg_x u) r3.toNatClampNeg)), .int r1, .int r39, .ref ((a 1))]) ⟨hx, hb, hml, hown, htg⟩ (c_D_immediate l D (xTy k) z H.size (xg_C_word u)) (va_cwS 1 htg (xg_S0 xkin_D_immediate xw_516 xw_517 xw_13) rfl rfl rfl (by decide +kernel) ⟨Nat.le_of_ble_eq_true rfl, Nat.le_of_ble_eq_true rfl⟩) ⟨xB_blind, fun U hU hW => xB_mk va_P0 hK va_D0 hE hS (xsub0 hA hS) hU hW⟩ rfl rfl hl.1 rfl (lv_room (Nat.le_of_ble_eq_true rfl)) xd_C_immediateOp_99 ⟨Nat.le_of_ble_eq_true rfl, Nat.le_of_ble_eq_true rfl⟩) hP hA hS (fun r40 H locs hr40 hP hS => ?_)
            refine xc0_i (va_runS (As := [.int r1, .int (((xg_x u) r3.toNatClampNeg)), .int r40]) (rest := [.int r39, .ref ((a 1))]) ⟨hx, hb, hml, hown, htg⟩ (c_R_combine l D (xTy k) z H.size r1 ((xg_x u) r3.toNatClampNeg) r40) (va_cwS 3 htg (xg_S0 xkin_R_combine xw_548 xw_549 xw_14) rfl rfl rfl (by decide +kernel) ⟨Nat.le_of_ble_eq_true rfl, Nat.le_of_ble_eq_true rfl⟩) ⟨xB_blind, fun U hU hW => xB_mk va_P0 hK va_D0 hE hS (xsub0 hA hS) hU hW⟩ rfl rfl hl.1 rfl (lv_room (Nat.le_of_ble_eq_true rfl)) xd_C_immediateOp_102 ⟨Nat.le_of_ble_eq_true rfl, Nat.le_of_ble_eq_true rfl⟩) hP hA hS (fun r41 H locs hr41 hP hS => ?_)
            refine xcW_v (va_runV (As := [.int r39, .int r41]) (rest := []) ⟨hx, hb, hml, hown, htg⟩ (c_C_put l D z k a g H.size u hg r39 r41 (xin_eq hr39 (xin_d _))) (cwV 2 htg (xg_V0 xkin_C_put xw_533 xw_322 xsel_C_put xw_2) rfl rfl rfl (by decide +kernel) ⟨Nat.le_of_ble_eq_true rfl, Nat.le_of_ble_eq_true rfl⟩) ⟨xB_blind, xrecv_C hK hP, fun U hU hW => xB_mk hP hK hD hE hS (xsubW hD hA hS) hU hW⟩ rfl rfl hl.1 rfl (lv_room (Nat.le_of_ble_eq_true rfl)) xd_C_immediateOp_105 ⟨Nat.le_of_ble_eq_true rfl, Nat.le_of_ble_eq_true rfl⟩) hD hA hS (fun w1 H locs hw hP hD hS => ?_)
            obtain ⟨u1, g⟩ := w1
            obtain ⟨q42, hq42⟩ : ∃ q, q = xf_C_put u r39 r41 := ⟨_, rfl⟩
            obtain ⟨e2, hg⟩ := hw
            rw [← hq42] at e2
            obtain rfl : q42 = u1 := e2.symm
            have hP : va_P D xCl (xWH k a g q42) H := hP
            have hD : va_D A (xWH k a g q42) := hD
            have hg : xok k g q42 := hg
            exact hj5 H locs ls g q42 (xit h6 (xif h25 (xif h26 (xit h33 (xit h38 (xlt_e hr39 (xlt_e hr40 (xlt_e hr41 (xlt_e hq42 rfl))))))))) hg hl hP hD hS
          · refine lv_aload_n hx hb xd_C_immediateOp_77 rfl (lv_at hl 3 rfl) ?_
            refine lv_iconst (v := 2) hx hb xd_C_immediateOp_78 (by decide) ?_
            refine xcW_v (va_runV (As := [.int 2]) (rest := []) ⟨hx, hb, hml, hown, htg⟩ (c_C_refuse l D z k a g H.size u hg (2 : Int32)) (cwV 1 htg (xg_V0 xkin_C_refuse xw_509 xw_511 xsel_C_refuse xw_2) rfl rfl rfl (by decide +kernel) ⟨Nat.le_of_ble_eq_true rfl, Nat.le_of_ble_eq_true rfl⟩) ⟨xB_blind, xrecv_C hK hP, fun U hU hW => xB_mk hP hK hD hE hS (xsubW hD hA hS) hU hW⟩ rfl rfl hl.1 rfl (lv_room (Nat.le_of_ble_eq_true rfl)) xd_C_immediateOp_79 ⟨Nat.le_of_ble_eq_true rfl, Nat.le_of_ble_eq_true rfl⟩) hD hA hS (fun w1 H locs hw hP hD hS => ?_)
            obtain ⟨u1, g⟩ := w1
            obtain ⟨q43, hq43⟩ : ∃ q, q = xf_C_refuse u (2 : Int32) := ⟨_, rfl⟩
            obtain ⟨e2, hg⟩ := hw
            rw [← hq43] at e2
            obtain rfl : q43 = u1 := e2.symm
            have hP : va_P D xCl (xWH k a g q43) H := hP
            have hD : va_D A (xWH k a g q43) := hD
            have hg : xok k g q43 := hg
            refine lv_goto (tgt := 108) hx hb xd_C_immediateOp_82 rfl ?_
            exact hj5 H locs ls g q43 (xit h6 (xif h25 (xif h26 (xit h33 (xif h38 (xlt_e hq43 rfl)))))) hg hl hP hD hS
    · refine lv_aload_n hx hb xd_C_immediateOp_40 rfl (lv_at hl 3 rfl) ?_
      refine lv_aload_n hx hb xd_C_immediateOp_41 rfl (lv_at hl 3 rfl) ?_
      refine xget_C_word (v := (xg_C_word u)) hx hb htg hown hK hP (htg _ xw_224) rfl xd_C_immediateOp_42 ?_
      refine xc0_i (va_runS (As := [.int ((xg_C_word u))]) (rest := [.ref ((a 1))]) ⟨hx, hb, hml, hown, htg⟩ (c_D_d l D (xTy k) z H.size (xg_C_word u)) (va_cwS 1 htg (xg_S0 xkin_D_d xw_529 xw_530 xw_13) rfl rfl rfl (by decide +kernel) ⟨Nat.le_of_ble_eq_true rfl, Nat.le_of_ble_eq_true rfl⟩) ⟨xB_blind, fun U hU hW => xB_mk va_P0 hK va_D0 hE hS (xsub0 hA hS) hU hW⟩ rfl rfl hl.1 rfl (lv_room (Nat.le_of_ble_eq_true rfl)) xd_C_immediateOp_45 ⟨Nat.le_of_ble_eq_true rfl, Nat.le_of_ble_eq_true rfl⟩) hP hA hS (fun r44 H locs hr44 hP hS => ?_)
      refine lv_iload_n hx hb xd_C_immediateOp_48 rfl (lv_at hl 0 rfl) ?_
      refine lv_aload_n hx hb xd_C_immediateOp_49 rfl (lv_at hl 3 rfl) ?_
      refine xget_C_word (v := (xg_C_word u)) hx hb htg hown hK hP (htg _ xw_224) rfl xd_C_immediateOp_50 ?_
      refine xc0_i (va_runS (As := [.int ((xg_C_word u))]) (rest := [.int (((xg_x u) r3.toNatClampNeg)), .int r44, .ref ((a 1))]) ⟨hx, hb, hml, hown, htg⟩ (c_D_b l D (xTy k) z H.size (xg_C_word u)) (va_cwS 1 htg (xg_S0 xkin_D_b xw_545 xw_546 xw_13) rfl rfl rfl (by decide +kernel) ⟨Nat.le_of_ble_eq_true rfl, Nat.le_of_ble_eq_true rfl⟩) ⟨xB_blind, fun U hU hW => xB_mk va_P0 hK va_D0 hE hS (xsub0 hA hS) hU hW⟩ rfl rfl hl.1 rfl (lv_room (Nat.le_of_ble_eq_true rfl)) xd_C_immediateOp_53 ⟨Nat.le_of_ble_eq_true rfl, Nat.le_of_ble_eq_true rfl⟩) hP hA hS (fun r45 H locs hr45 hP hS => ?_)
      refine lv_ishr hx hb xd_C_immediateOp_56 ?_
      refine xcW_v (va_runV (As := [.int r44, .int ((((xg_x u) r3.toNatClampNeg) >>> (r45 &&& 31)))]) (rest := []) ⟨hx, hb, hml, hown, htg⟩ (c_C_put l D z k a g H.size u hg r44 (((xg_x u) r3.toNatClampNeg) >>> (r45 &&& 31)) (xin_eq hr44 (xin_d _))) (cwV 2 htg (xg_V0 xkin_C_put xw_533 xw_322 xsel_C_put xw_2) rfl rfl rfl (by decide +kernel) ⟨Nat.le_of_ble_eq_true rfl, Nat.le_of_ble_eq_true rfl⟩) ⟨xB_blind, xrecv_C hK hP, fun U hU hW => xB_mk hP hK hD hE hS (xsubW hD hA hS) hU hW⟩ rfl rfl hl.1 rfl (lv_room (Nat.le_of_ble_eq_true rfl)) xd_C_immediateOp_57 ⟨Nat.le_of_ble_eq_true rfl, Nat.le_of_ble_eq_true rfl⟩) hD hA hS (fun w1 H locs hw hP hD hS => ?_)
      obtain ⟨u1, g⟩ := w1
      obtain ⟨q46, hq46⟩ : ∃ q, q = xf_C_put u r44 (((xg_x u) r3.toNatClampNeg) >>> (r45 &&& 31)) := ⟨_, rfl⟩
      obtain ⟨e2, hg⟩ := hw
      rw [← hq46] at e2
      obtain rfl : q46 = u1 := e2.symm
      have hP : va_P D xCl (xWH k a g q46) H := hP
      have hD : va_D A (xWH k a g q46) := hD
      have hg : xok k g q46 := hg
      refine lv_goto (tgt := 108) hx hb xd_C_immediateOp_60 rfl ?_
      exact hj5 H locs ls g q46 (xit h6 (xit h25 (xlt_e hr44 (xlt_e hr45 (xlt_e hq46 rfl))))) hg hl hP hD hS

noncomputable def xf_C_registerOp (u : XH) : XH :=
  xlt (xf_D_f (xg_C_word u) : Int32) fun r1 =>
  xlt (xf_D_g (xg_C_word u) : Int32) fun r2 =>
  xlt (xf_D_d (xg_C_word u) : Int32) fun r3 =>
  xlt (xf_D_a (xg_C_word u) : Int32) fun r4 =>
  xlt (xf_D_b (xg_C_word u) : Int32) fun r5 =>
  xlt (if r2 = 0 then (xlt (xf_R_combine r1 ((xg_x u) r4.toNatClampNeg) ((xg_x u) r5.toNatClampNeg) : Int32) fun r27 => xlt (xf_C_put u r3 r27 : XH) fun q28 => q28) else (if r2 = 1 then (xlt (if 4 ≤ r1 then (xlt (xf_R_divide r1 ((xg_x u) r4.toNatClampNeg) ((xg_x u) r5.toNatClampNeg) : Int32) fun r22 => r22) else (xlt (xf_R_multiply r1 ((xg_x u) r4.toNatClampNeg) ((xg_x u) r5.toNatClampNeg) : Int32) fun r23 => r23) : Int32) fun v21 => xlt (xf_C_put u r3 v21 : XH) fun q23 => q23) else (if r2 = 32 then (if r1 = 0 then (xlt (xf_C_put u r3 (((xg_x u) r4.toNatClampNeg) - ((xg_x u) r5.toNatClampNeg)) : XH) fun q20 => q20) else (if r2 = 32 then (if r1 = 5 then (xlt (xf_C_put u r3 (((xg_x u) r4.toNatClampNeg) >>> ((((xg_x u) r5.toNatClampNeg) &&& (31 : Int32)) &&& 31)) : XH) fun q19 => q19) else (xlt (xf_C_refuse u (2 : Int32) : XH) fun q18 => q18)) else (xlt (xf_C_refuse u (2 : Int32) : XH) fun q16 => q16))) else (if r2 = 32 then (if r1 = 5 then (xlt (xf_C_put u r3 (((xg_x u) r4.toNatClampNeg) >>> ((((xg_x u) r5.toNatClampNeg) &&& (31 : Int32)) &&& 31)) : XH) fun q13 => q13) else (xlt (xf_C_refuse u (2 : Int32) : XH) fun q12 => q12)) else (xlt (xf_C_refuse u (2 : Int32) : XH) fun q10 => q10)))) : XH) fun v6 =>
  v6
set_option maxHeartbeats 4000000 in
set_option maxRecDepth 100000 in
theorem c_C_registerOp (l : Launch) (D : va_G) (z : (Nat → Nat) × (Nat → Nat)) (k : ClassId × ClassId) (a : Nat → Nat) (g : XG) (sz : Nat) (u : XH) (hg : xok k g u) : Met l xy_C_registerOp (xk_C_registerOp :: lw_g) { frames := 2, cells := 0, slots := 0, locals := 43 } (va_Pc [.ref ((a 1))] (xB D (xTy k) z sz (xWH k a g u))) (va_Qv (fun q : XH × XG => q.1 = xf_C_registerOp u ∧ xok k q.2 q.1) (fun q t => xQ D (xTy k) (xWH k a q.2 q.1) (va_A (xWH k a g u) sz) t) (va_A (xWH k a g u) sz)) 0 0 (va_A (xWH k a g u) sz) := by
  refine xopen_v (wf := fun q : XH × XG => xWH k a q.2 q.1) (lv := [(0, .ref ((a 1)))]) (by decide) rfl (Nat.le_of_ble_eq_true rfl) ?_
  intro p e s m args below meth c Q ls A H locs hx hb hml htg hown hin hK hP hD hE hS hA hl hret
  refine lv_aload_n hx hb xd_C_registerOp_0 rfl (lv_at hl 0 rfl) ?_
  refine xget_C_word (v := (xg_C_word u)) hx hb htg hown hK hP (htg _ xw_224) rfl xd_C_registerOp_1 ?_
  refine xc0_i (va_runS (As := [.int ((xg_C_word u))]) (rest := []) ⟨hx, hb, hml, hown, htg⟩ (c_D_f l D (xTy k) z H.size (xg_C_word u)) (va_cwS 1 htg (xg_S0 xkin_D_f xw_499 xw_500 xw_13) rfl rfl rfl (by decide +kernel) ⟨Nat.le_of_ble_eq_true rfl, Nat.le_of_ble_eq_true rfl⟩) ⟨xB_blind, fun U hU hW => xB_mk va_P0 hK va_D0 hE hS (xsub0 hA hS) hU hW⟩ rfl rfl hl.1 rfl (lv_room (Nat.le_of_ble_eq_true rfl)) xd_C_registerOp_4 ⟨Nat.le_of_ble_eq_true rfl, Nat.le_of_ble_eq_true rfl⟩) hP hA hS (fun r1 H locs hr1 hP hS => ?_)
  refine lv_istore_n (lv' := [(1, .int r1), (0, .ref ((a 1)))]) hx hb xd_C_registerOp_7 rfl hl (by decide) rfl (fun ls hl => ?_)
  refine lv_aload_n hx hb xd_C_registerOp_8 rfl (lv_at hl 1 rfl) ?_
  refine xget_C_word (v := (xg_C_word u)) hx hb htg hown hK hP (htg _ xw_224) rfl xd_C_registerOp_9 ?_
  refine xc0_i (va_runS (As := [.int ((xg_C_word u))]) (rest := []) ⟨hx, hb, hml, hown, htg⟩ (c_D_g l D (xTy k) z H.size (xg_C_word u)) (va_cwS 1 htg (xg_S0 xkin_D_g xw_542 xw_543 xw_13) rfl rfl rfl (by decide +kernel) ⟨Nat.le_of_ble_eq_true rfl, Nat.le_of_ble_eq_true rfl⟩) ⟨xB_blind, fun U hU hW => xB_mk va_P0 hK va_D0 hE hS (xsub0 hA hS) hU hW⟩ rfl rfl hl.1 rfl (lv_room (Nat.le_of_ble_eq_true rfl)) xd_C_registerOp_12 ⟨Nat.le_of_ble_eq_true rfl, Nat.le_of_ble_eq_true rfl⟩) hP hA hS (fun r2 H locs hr2 hP hS => ?_)
  refine lv_istore_n (lv' := [(2, .int r2), (1, .int r1), (0, .ref ((a 1)))]) hx hb xd_C_registerOp_15 rfl hl (by decide) rfl (fun ls hl => ?_)
  refine lv_aload_n hx hb xd_C_registerOp_16 rfl (lv_at hl 2 rfl) ?_
  refine xget_C_word (v := (xg_C_word u)) hx hb htg hown hK hP (htg _ xw_224) rfl xd_C_registerOp_17 ?_
  refine xc0_i (va_runS (As := [.int ((xg_C_word u))]) (rest := []) ⟨hx, hb, hml, hown, htg⟩ (c_D_d l D (xTy k) z H.size (xg_C_word u)) (va_cwS 1 htg (xg_S0 xkin_D_d xw_529 xw_530 xw_13) rfl rfl rfl (by decide +kernel) ⟨Nat.le_of_ble_eq_true rfl, Nat.le_of_ble_eq_true rfl⟩) ⟨xB_blind, fun U hU hW => xB_mk va_P0 hK va_D0 hE hS (xsub0 hA hS) hU hW⟩ rfl rfl hl.1 rfl (lv_room (Nat.le_of_ble_eq_true rfl)) xd_C_registerOp_20 ⟨Nat.le_of_ble_eq_true rfl, Nat.le_of_ble_eq_true rfl⟩) hP hA hS (fun r3 H locs hr3 hP hS => ?_)
  refine lv_istore_n (lv' := [(3, .int r3), (2, .int r2), (1, .int r1), (0, .ref ((a 1)))]) hx hb xd_C_registerOp_23 rfl hl (by decide) rfl (fun ls hl => ?_)
  refine lv_aload_n hx hb xd_C_registerOp_24 rfl (lv_at hl 3 rfl) ?_
  refine xget_C_x hx hb htg hown hK hP (htg _ xw_199) xd_C_registerOp_25 ?_
  refine lv_aload_n hx hb xd_C_registerOp_28 rfl (lv_at hl 3 rfl) ?_
  refine xget_C_word (v := (xg_C_word u)) hx hb htg hown hK hP (htg _ xw_224) rfl xd_C_registerOp_29 ?_
  refine xc0_i (va_runS (As := [.int ((xg_C_word u))]) (rest := [.ref ((a 2))]) ⟨hx, hb, hml, hown, htg⟩ (c_D_a l D (xTy k) z H.size (xg_C_word u)) (va_cwS 1 htg (xg_S0 xkin_D_a xw_513 xw_514 xw_13) rfl rfl rfl (by decide +kernel) ⟨Nat.le_of_ble_eq_true rfl, Nat.le_of_ble_eq_true rfl⟩) ⟨xB_blind, fun U hU hW => xB_mk va_P0 hK va_D0 hE hS (xsub0 hA hS) hU hW⟩ rfl rfl hl.1 rfl (lv_room (Nat.le_of_ble_eq_true rfl)) xd_C_registerOp_32 ⟨Nat.le_of_ble_eq_true rfl, Nat.le_of_ble_eq_true rfl⟩) hP hA hS (fun r4 H locs hr4 hP hS => ?_)
  refine xald_x (f := (xg_x u)) hx hb hK hP (xin_eq hr4 (xin_a _)) rfl xd_C_registerOp_35 ?_
  refine lv_istore (lv' := [(4, .int (((xg_x u) r4.toNatClampNeg))), (3, .int r3), (2, .int r2), (1, .int r1), (0, .ref ((a 1)))]) hx hb xd_C_registerOp_36 hl (by decide) rfl (fun ls hl => ?_)
  refine lv_aload_n hx hb xd_C_registerOp_38 rfl (lv_at hl 4 rfl) ?_
  refine xget_C_x hx hb htg hown hK hP (htg _ xw_199) xd_C_registerOp_39 ?_
  refine lv_aload_n hx hb xd_C_registerOp_42 rfl (lv_at hl 4 rfl) ?_
  refine xget_C_word (v := (xg_C_word u)) hx hb htg hown hK hP (htg _ xw_224) rfl xd_C_registerOp_43 ?_
  refine xc0_i (va_runS (As := [.int ((xg_C_word u))]) (rest := [.ref ((a 2))]) ⟨hx, hb, hml, hown, htg⟩ (c_D_b l D (xTy k) z H.size (xg_C_word u)) (va_cwS 1 htg (xg_S0 xkin_D_b xw_545 xw_546 xw_13) rfl rfl rfl (by decide +kernel) ⟨Nat.le_of_ble_eq_true rfl, Nat.le_of_ble_eq_true rfl⟩) ⟨xB_blind, fun U hU hW => xB_mk va_P0 hK va_D0 hE hS (xsub0 hA hS) hU hW⟩ rfl rfl hl.1 rfl (lv_room (Nat.le_of_ble_eq_true rfl)) xd_C_registerOp_46 ⟨Nat.le_of_ble_eq_true rfl, Nat.le_of_ble_eq_true rfl⟩) hP hA hS (fun r5 H locs hr5 hP hS => ?_)
  refine xald_x (f := (xg_x u)) hx hb hK hP (xin_eq hr5 (xin_b _)) rfl xd_C_registerOp_49 ?_
  refine lv_istore (lv' := [(5, .int (((xg_x u) r5.toNatClampNeg))), (4, .int (((xg_x u) r4.toNatClampNeg))), (3, .int r3), (2, .int r2), (1, .int r1), (0, .ref ((a 1)))]) hx hb xd_C_registerOp_50 hl (by decide) rfl (fun ls hl => ?_)
  refine lv_iload_n hx hb xd_C_registerOp_52 rfl (lv_at hl 3 rfl) ?_
  have hj7 : ∀ (H : Heap) (locs : List Loc) (ls : Array Slot) (g : XG) (v6 : XH), v6 = (if r2 = 0 then (xlt (xf_R_combine r1 ((xg_x u) r4.toNatClampNeg) ((xg_x u) r5.toNatClampNeg) : Int32) fun r27 => xlt (xf_C_put u r3 r27 : XH) fun q28 => q28) else (if r2 = 1 then (xlt (if 4 ≤ r1 then (xlt (xf_R_divide r1 ((xg_x u) r4.toNatClampNeg) ((xg_x u) r5.toNatClampNeg) : Int32) fun r22 => r22) else (xlt (xf_R_multiply r1 ((xg_x u) r4.toNatClampNeg) ((xg_x u) r5.toNatClampNeg) : Int32) fun r23 => r23) : Int32) fun v21 => xlt (xf_C_put u r3 v21 : XH) fun q23 => q23) else (if r2 = 32 then (if r1 = 0 then (xlt (xf_C_put u r3 (((xg_x u) r4.toNatClampNeg) - ((xg_x u) r5.toNatClampNeg)) : XH) fun q20 => q20) else (if r2 = 32 then (if r1 = 5 then (xlt (xf_C_put u r3 (((xg_x u) r4.toNatClampNeg) >>> ((((xg_x u) r5.toNatClampNeg) &&& (31 : Int32)) &&& 31)) : XH) fun q19 => q19) else (xlt (xf_C_refuse u (2 : Int32) : XH) fun q18 => q18)) else (xlt (xf_C_refuse u (2 : Int32) : XH) fun q16 => q16))) else (if r2 = 32 then (if r1 = 5 then (xlt (xf_C_put u r3 (((xg_x u) r4.toNatClampNeg) >>> ((((xg_x u) r5.toNatClampNeg) &&& (31 : Int32)) &&& 31)) : XH) fun q13 => q13) else (xlt (xf_C_refuse u (2 : Int32) : XH) fun q12 => q12)) else (xlt (xf_C_refuse u (2 : Int32) : XH) fun q10 => q10))))) → xok k g v6 → lv_has ls 6 [(5, .int (((xg_x u) r5.toNatClampNeg))), (4, .int (((xg_x u) r4.toNatClampNeg))), (3, .int r3), (2, .int r2), (1, .int r1), (0, .ref ((a 1)))] → va_P D xCl (xWH k a g v6) H → va_D A (xWH k a g v6) → va_S A s.heap H locs → W p l e { frames := 2, cells := 0, slots := 0, locals := 43 } s m args below meth c H locs (0) (0) Q (F0 m 164 ls []) := by
    intro H locs ls g v6 hv6 hg hl hP hD hS
    exact hret (v6, g) H locs ls _ ⟨(by unfold xf_C_registerOp; exact (xlt_e hr1 (xlt_e hr2 (xlt_e hr3 (xlt_e hr4 (xlt_e hr5 (xlt_e hv6 rfl))))))), hg⟩ hP hD hS xd_C_registerOp_164
  refine lv_if_ne (tgt := 72) hx hb xd_C_registerOp_53 rfl (fun h8 => ?_) (fun h8 => ?_)
  · refine lv_iload_n hx hb xd_C_registerOp_72 rfl (lv_at hl 3 rfl) ?_
    refine lv_iconst (v := 1) hx hb xd_C_registerOp_73 (by decide) ?_
    refine lv_icmp_ne (tgt := 109) hx hb xd_C_registerOp_74 rfl (fun h9 => ?_) (fun h9 => ?_)
    · refine lv_iload_n hx hb xd_C_registerOp_109 rfl (lv_at hl 3 rfl) ?_
      refine lv_bipush (v := 32) hx hb xd_C_registerOp_110 (by decide) ?_
      refine lv_icmp_ne (tgt := 132) hx hb xd_C_registerOp_112 rfl (fun h10 => ?_) (fun h10 => ?_)
      · refine lv_iload_n hx hb xd_C_registerOp_132 rfl (lv_at hl 3 rfl) ?_
        refine lv_bipush (v := 32) hx hb xd_C_registerOp_133 (by decide) ?_
        refine lv_icmp_ne (tgt := 159) hx hb xd_C_registerOp_135 rfl (fun h11 => ?_) (fun h11 => ?_)
        · refine lv_aload_n hx hb xd_C_registerOp_159 rfl (lv_at hl 5 rfl) ?_
          refine lv_iconst (v := 2) hx hb xd_C_registerOp_160 (by decide) ?_
          refine xcW_v (va_runV (As := [.int 2]) (rest := []) ⟨hx, hb, hml, hown, htg⟩ (c_C_refuse l D z k a g H.size u hg (2 : Int32)) (cwV 1 htg (xg_V0 xkin_C_refuse xw_509 xw_511 xsel_C_refuse xw_2) rfl rfl rfl (by decide +kernel) ⟨Nat.le_of_ble_eq_true rfl, Nat.le_of_ble_eq_true rfl⟩) ⟨xB_blind, xrecv_C hK hP, fun U hU hW => xB_mk hP hK hD hE hS (xsubW hD hA hS) hU hW⟩ rfl rfl hl.1 rfl (lv_room (Nat.le_of_ble_eq_true rfl)) xd_C_registerOp_161 ⟨Nat.le_of_ble_eq_true rfl, Nat.le_of_ble_eq_true rfl⟩) hD hA hS (fun w1 H locs hw hP hD hS => ?_)
          obtain ⟨u1, g⟩ := w1
          obtain ⟨q12, hq12⟩ : ∃ q, q = xf_C_refuse u (2 : Int32) := ⟨_, rfl⟩
          obtain ⟨e2, hg⟩ := hw
          rw [← hq12] at e2
          obtain rfl : q12 = u1 := e2.symm
          have hP : va_P D xCl (xWH k a g q12) H := hP
          have hD : va_D A (xWH k a g q12) := hD
          have hg : xok k g q12 := hg
          exact hj7 H locs ls g q12 (xif h8 (xif h9 (xif h10 (xif h11 (xlt_e hq12 rfl))))) hg hl hP hD hS
        · refine lv_iload_n hx hb xd_C_registerOp_138 rfl (lv_at hl 4 rfl) ?_
          refine lv_iconst (v := 5) hx hb xd_C_registerOp_139 (by decide) ?_
          refine lv_icmp_ne (tgt := 159) hx hb xd_C_registerOp_140 rfl (fun h13 => ?_) (fun h13 => ?_)
          · refine lv_aload_n hx hb xd_C_registerOp_159 rfl (lv_at hl 5 rfl) ?_
            refine lv_iconst (v := 2) hx hb xd_C_registerOp_160 (by decide) ?_
            refine xcW_v (va_runV (As := [.int 2]) (rest := []) ⟨hx, hb, hml, hown, htg⟩ (c_C_refuse l D z k a g H.size u hg (2 : Int32)) (cwV 1 htg (xg_V0 xkin_C_refuse xw_509 xw_511 xsel_C_refuse xw_2) rfl rfl rfl (by decide +kernel) ⟨Nat.le_of_ble_eq_true rfl, Nat.le_of_ble_eq_true rfl⟩) ⟨xB_blind, xrecv_C hK hP, fun U hU hW => xB_mk hP hK hD hE hS (xsubW hD hA hS) hU hW⟩ rfl rfl hl.1 rfl (lv_room (Nat.le_of_ble_eq_true rfl)) xd_C_registerOp_161 ⟨Nat.le_of_ble_eq_true rfl, Nat.le_of_ble_eq_true rfl⟩) hD hA hS (fun w1 H locs hw hP hD hS => ?_)
            obtain ⟨u1, g⟩ := w1
            obtain ⟨q14, hq14⟩ : ∃ q, q = xf_C_refuse u (2 : Int32) := ⟨_, rfl⟩
            obtain ⟨e2, hg⟩ := hw
            rw [← hq14] at e2
            obtain rfl : q14 = u1 := e2.symm
            have hP : va_P D xCl (xWH k a g q14) H := hP
            have hD : va_D A (xWH k a g q14) := hD
            have hg : xok k g q14 := hg
            exact hj7 H locs ls g q14 (xif h8 (xif h9 (xif h10 (xit h11 (xif h13 (xlt_e hq14 rfl)))))) hg hl hP hD hS
          · refine lv_aload_n hx hb xd_C_registerOp_143 rfl (lv_at hl 5 rfl) ?_
            refine lv_iload_n hx hb xd_C_registerOp_144 rfl (lv_at hl 2 rfl) ?_
            refine lv_iload hx hb xd_C_registerOp_145 (lv_at hl 1 rfl) ?_
            refine lv_iload hx hb xd_C_registerOp_147 (lv_at hl 0 rfl) ?_
            refine lv_bipush (v := 31) hx hb xd_C_registerOp_149 (by decide) ?_
            refine lv_iand hx hb xd_C_registerOp_151 ?_
            refine lv_ishr hx hb xd_C_registerOp_152 ?_
            refine xcW_v (va_runV (As := [.int r3, .int ((((xg_x u) r4.toNatClampNeg) >>> ((((xg_x u) r5.toNatClampNeg) &&& (31 : Int32)) &&& 31)))]) (rest := []) ⟨hx, hb, hml, hown, htg⟩ (c_C_put l D z k a g H.size u hg r3 (((xg_x u) r4.toNatClampNeg) >>> ((((xg_x u) r5.toNatClampNeg) &&& (31 : Int32)) &&& 31)) (xin_eq hr3 (xin_d _))) (cwV 2 htg (xg_V0 xkin_C_put xw_533 xw_322 xsel_C_put xw_2) rfl rfl rfl (by decide +kernel) ⟨Nat.le_of_ble_eq_true rfl, Nat.le_of_ble_eq_true rfl⟩) ⟨xB_blind, xrecv_C hK hP, fun U hU hW => xB_mk hP hK hD hE hS (xsubW hD hA hS) hU hW⟩ rfl rfl hl.1 rfl (lv_room (Nat.le_of_ble_eq_true rfl)) xd_C_registerOp_153 ⟨Nat.le_of_ble_eq_true rfl, Nat.le_of_ble_eq_true rfl⟩) hD hA hS (fun w1 H locs hw hP hD hS => ?_)
            obtain ⟨u1, g⟩ := w1
            obtain ⟨q15, hq15⟩ : ∃ q, q = xf_C_put u r3 (((xg_x u) r4.toNatClampNeg) >>> ((((xg_x u) r5.toNatClampNeg) &&& (31 : Int32)) &&& 31)) := ⟨_, rfl⟩
            obtain ⟨e2, hg⟩ := hw
            rw [← hq15] at e2
            obtain rfl : q15 = u1 := e2.symm
            have hP : va_P D xCl (xWH k a g q15) H := hP
            have hD : va_D A (xWH k a g q15) := hD
            have hg : xok k g q15 := hg
            refine lv_goto (tgt := 164) hx hb xd_C_registerOp_156 rfl ?_
            exact hj7 H locs ls g q15 (xif h8 (xif h9 (xif h10 (xit h11 (xit h13 (xlt_e hq15 rfl)))))) hg hl hP hD hS
      · refine lv_iload_n hx hb xd_C_registerOp_115 rfl (lv_at hl 4 rfl) ?_
        refine lv_if_ne (tgt := 132) hx hb xd_C_registerOp_116 rfl (fun h16 => ?_) (fun h16 => ?_)
        · refine lv_iload_n hx hb xd_C_registerOp_132 rfl (lv_at hl 3 rfl) ?_
          refine lv_bipush (v := 32) hx hb xd_C_registerOp_133 (by decide) ?_
          refine lv_icmp_ne (tgt := 159) hx hb xd_C_registerOp_135 rfl (fun h17 => ?_) (fun h17 => ?_)
          · refine lv_aload_n hx hb xd_C_registerOp_159 rfl (lv_at hl 5 rfl) ?_
            refine lv_iconst (v := 2) hx hb xd_C_registerOp_160 (by decide) ?_
            refine xcW_v (va_runV (As := [.int 2]) (rest := []) ⟨hx, hb, hml, hown, htg⟩ (c_C_refuse l D z k a g H.size u hg (2 : Int32)) (cwV 1 htg (xg_V0 xkin_C_refuse xw_509 xw_511 xsel_C_refuse xw_2) rfl rfl rfl (by decide +kernel) ⟨Nat.le_of_ble_eq_true rfl, Nat.le_of_ble_eq_true rfl⟩) ⟨xB_blind, xrecv_C hK hP, fun U hU hW => xB_mk hP hK hD hE hS (xsubW hD hA hS) hU hW⟩ rfl rfl hl.1 rfl (lv_room (Nat.le_of_ble_eq_true rfl)) xd_C_registerOp_161 ⟨Nat.le_of_ble_eq_true rfl, Nat.le_of_ble_eq_true rfl⟩) hD hA hS (fun w1 H locs hw hP hD hS => ?_)
            obtain ⟨u1, g⟩ := w1
            obtain ⟨q18, hq18⟩ : ∃ q, q = xf_C_refuse u (2 : Int32) := ⟨_, rfl⟩
            obtain ⟨e2, hg⟩ := hw
            rw [← hq18] at e2
            obtain rfl : q18 = u1 := e2.symm
            have hP : va_P D xCl (xWH k a g q18) H := hP
            have hD : va_D A (xWH k a g q18) := hD
            have hg : xok k g q18 := hg
            exact hj7 H locs ls g q18 (xif h8 (xif h9 (xit h10 (xif h16 (xif h17 (xlt_e hq18 rfl)))))) hg hl hP hD hS
          · refine lv_iload_n hx hb xd_C_registerOp_138 rfl (lv_at hl 4 rfl) ?_
            refine lv_iconst (v := 5) hx hb xd_C_registerOp_139 (by decide) ?_
            refine lv_icmp_ne (tgt := 159) hx hb xd_C_registerOp_140 rfl (fun h19 => ?_) (fun h19 => ?_)
            · refine lv_aload_n hx hb xd_C_registerOp_159 rfl (lv_at hl 5 rfl) ?_
              refine lv_iconst (v := 2) hx hb xd_C_registerOp_160 (by decide) ?_
              refine xcW_v (va_runV (As := [.int 2]) (rest := []) ⟨hx, hb, hml, hown, htg⟩ (c_C_refuse l D z k a g H.size u hg (2 : Int32)) (cwV 1 htg (xg_V0 xkin_C_refuse xw_509 xw_511 xsel_C_refuse xw_2) rfl rfl rfl (by decide +kernel) ⟨Nat.le_of_ble_eq_true rfl, Nat.le_of_ble_eq_true rfl⟩) ⟨xB_blind, xrecv_C hK hP, fun U hU hW => xB_mk hP hK hD hE hS (xsubW hD hA hS) hU hW⟩ rfl rfl hl.1 rfl (lv_room (Nat.le_of_ble_eq_true rfl)) xd_C_registerOp_161 ⟨Nat.le_of_ble_eq_true rfl, Nat.le_of_ble_eq_true rfl⟩) hD hA hS (fun w1 H locs hw hP hD hS => ?_)
              obtain ⟨u1, g⟩ := w1
              obtain ⟨q20, hq20⟩ : ∃ q, q = xf_C_refuse u (2 : Int32) := ⟨_, rfl⟩
              obtain ⟨e2, hg⟩ := hw
              rw [← hq20] at e2
              obtain rfl : q20 = u1 := e2.symm
              have hP : va_P D xCl (xWH k a g q20) H := hP
              have hD : va_D A (xWH k a g q20) := hD
              have hg : xok k g q20 := hg
              exact hj7 H locs ls g q20 (xif h8 (xif h9 (xit h10 (xif h16 (xit h17 (xif h19 (xlt_e hq20 rfl))))))) hg hl hP hD hS
            · refine lv_aload_n hx hb xd_C_registerOp_143 rfl (lv_at hl 5 rfl) ?_
              refine lv_iload_n hx hb xd_C_registerOp_144 rfl (lv_at hl 2 rfl) ?_
              refine lv_iload hx hb xd_C_registerOp_145 (lv_at hl 1 rfl) ?_
              refine lv_iload hx hb xd_C_registerOp_147 (lv_at hl 0 rfl) ?_
              refine lv_bipush (v := 31) hx hb xd_C_registerOp_149 (by decide) ?_
              refine lv_iand hx hb xd_C_registerOp_151 ?_
              refine lv_ishr hx hb xd_C_registerOp_152 ?_
              refine xcW_v (va_runV (As := [.int r3, .int ((((xg_x u) r4.toNatClampNeg) >>> ((((xg_x u) r5.toNatClampNeg) &&& (31 : Int32)) &&& 31)))]) (rest := []) ⟨hx, hb, hml, hown, htg⟩ (c_C_put l D z k a g H.size u hg r3 (((xg_x u) r4.toNatClampNeg) >>> ((((xg_x u) r5.toNatClampNeg) &&& (31 : Int32)) &&& 31)) (xin_eq hr3 (xin_d _))) (cwV 2 htg (xg_V0 xkin_C_put xw_533 xw_322 xsel_C_put xw_2) rfl rfl rfl (by decide +kernel) ⟨Nat.le_of_ble_eq_true rfl, Nat.le_of_ble_eq_true rfl⟩) ⟨xB_blind, xrecv_C hK hP, fun U hU hW => xB_mk hP hK hD hE hS (xsubW hD hA hS) hU hW⟩ rfl rfl hl.1 rfl (lv_room (Nat.le_of_ble_eq_true rfl)) xd_C_registerOp_153 ⟨Nat.le_of_ble_eq_true rfl, Nat.le_of_ble_eq_true rfl⟩) hD hA hS (fun w1 H locs hw hP hD hS => ?_)
              obtain ⟨u1, g⟩ := w1
              obtain ⟨q21, hq21⟩ : ∃ q, q = xf_C_put u r3 (((xg_x u) r4.toNatClampNeg) >>> ((((xg_x u) r5.toNatClampNeg) &&& (31 : Int32)) &&& 31)) := ⟨_, rfl⟩
              obtain ⟨e2, hg⟩ := hw
              rw [← hq21] at e2
              obtain rfl : q21 = u1 := e2.symm
              have hP : va_P D xCl (xWH k a g q21) H := hP
              have hD : va_D A (xWH k a g q21) := hD
              have hg : xok k g q21 := hg
              refine lv_goto (tgt := 164) hx hb xd_C_registerOp_156 rfl ?_
              exact hj7 H locs ls g q21 (xif h8 (xif h9 (xit h10 (xif h16 (xit h17 (xit h19 (xlt_e hq21 rfl))))))) hg hl hP hD hS
        · refine lv_aload_n hx hb xd_C_registerOp_119 rfl (lv_at hl 5 rfl) ?_
          refine lv_iload_n hx hb xd_C_registerOp_120 rfl (lv_at hl 2 rfl) ?_
          refine lv_iload hx hb xd_C_registerOp_121 (lv_at hl 1 rfl) ?_
          refine lv_iload hx hb xd_C_registerOp_123 (lv_at hl 0 rfl) ?_
          refine lv_isub hx hb xd_C_registerOp_125 ?_
          refine xcW_v (va_runV (As := [.int r3, .int ((((xg_x u) r4.toNatClampNeg) - ((xg_x u) r5.toNatClampNeg)))]) (rest := []) ⟨hx, hb, hml, hown, htg⟩ (c_C_put l D z k a g H.size u hg r3 (((xg_x u) r4.toNatClampNeg) - ((xg_x u) r5.toNatClampNeg)) (xin_eq hr3 (xin_d _))) (cwV 2 htg (xg_V0 xkin_C_put xw_533 xw_322 xsel_C_put xw_2) rfl rfl rfl (by decide +kernel) ⟨Nat.le_of_ble_eq_true rfl, Nat.le_of_ble_eq_true rfl⟩) ⟨xB_blind, xrecv_C hK hP, fun U hU hW => xB_mk hP hK hD hE hS (xsubW hD hA hS) hU hW⟩ rfl rfl hl.1 rfl (lv_room (Nat.le_of_ble_eq_true rfl)) xd_C_registerOp_126 ⟨Nat.le_of_ble_eq_true rfl, Nat.le_of_ble_eq_true rfl⟩) hD hA hS (fun w1 H locs hw hP hD hS => ?_)
          obtain ⟨u1, g⟩ := w1
          obtain ⟨q22, hq22⟩ : ∃ q, q = xf_C_put u r3 (((xg_x u) r4.toNatClampNeg) - ((xg_x u) r5.toNatClampNeg)) := ⟨_, rfl⟩
          obtain ⟨e2, hg⟩ := hw
          rw [← hq22] at e2
          obtain rfl : q22 = u1 := e2.symm
          have hP : va_P D xCl (xWH k a g q22) H := hP
          have hD : va_D A (xWH k a g q22) := hD
          have hg : xok k g q22 := hg
          refine lv_goto (tgt := 164) hx hb xd_C_registerOp_129 rfl ?_
          exact hj7 H locs ls g q22 (xif h8 (xif h9 (xit h10 (xit h16 (xlt_e hq22 rfl))))) hg hl hP hD hS
    · refine lv_aload_n hx hb xd_C_registerOp_77 rfl (lv_at hl 5 rfl) ?_
      refine lv_iload_n hx hb xd_C_registerOp_78 rfl (lv_at hl 2 rfl) ?_
      refine lv_iload_n hx hb xd_C_registerOp_79 rfl (lv_at hl 4 rfl) ?_
      refine lv_iconst (v := 4) hx hb xd_C_registerOp_80 (by decide) ?_
      have hj24 : ∀ (H : Heap) (locs : List Loc) (ls : Array Slot) (g : XG) (v23 : Int32), v23 = (if 4 ≤ r1 then (xlt (xf_R_divide r1 ((xg_x u) r4.toNatClampNeg) ((xg_x u) r5.toNatClampNeg) : Int32) fun r24 => r24) else (xlt (xf_R_multiply r1 ((xg_x u) r4.toNatClampNeg) ((xg_x u) r5.toNatClampNeg) : Int32) fun r25 => r25)) → xok k g u → lv_has ls 6 [(5, .int (((xg_x u) r5.toNatClampNeg))), (4, .int (((xg_x u) r4.toNatClampNeg))), (3, .int r3), (2, .int r2), (1, .int r1), (0, .ref ((a 1)))] → va_P D xCl (xWH k a g u) H → va_D A (xWH k a g u) → va_S A s.heap H locs → W p l e { frames := 2, cells := 0, slots := 0, locals := 43 } s m args below meth c H locs (0) (0) Q (F0 m 103 ls [.int v23, .int r3, .ref ((a 1))]) := by
        intro H locs ls g v23 hv23 hg hl hP hD hS
        refine xcW_v (va_runV (As := [.int r3, .int v23]) (rest := []) ⟨hx, hb, hml, hown, htg⟩ (c_C_put l D z k a g H.size u hg r3 v23 (xin_eq hr3 (xin_d _))) (cwV 2 htg (xg_V0 xkin_C_put xw_533 xw_322 xsel_C_put xw_2) rfl rfl rfl (by decide +kernel) ⟨Nat.le_of_ble_eq_true rfl, Nat.le_of_ble_eq_true rfl⟩) ⟨xB_blind, xrecv_C hK hP, fun U hU hW => xB_mk hP hK hD hE hS (xsubW hD hA hS) hU hW⟩ rfl rfl hl.1 rfl (lv_room (Nat.le_of_ble_eq_true rfl)) xd_C_registerOp_103 ⟨Nat.le_of_ble_eq_true rfl, Nat.le_of_ble_eq_true rfl⟩) hD hA hS (fun w1 H locs hw hP hD hS => ?_)
        obtain ⟨u1, g⟩ := w1
        obtain ⟨q25, hq25⟩ : ∃ q, q = xf_C_put u r3 v23 := ⟨_, rfl⟩
        obtain ⟨e2, hg⟩ := hw
        rw [← hq25] at e2
        obtain rfl : q25 = u1 := e2.symm
        have hP : va_P D xCl (xWH k a g q25) H := hP
        have hD : va_D A (xWH k a g q25) := hD
        have hg : xok k g q25 := hg
        refine lv_goto (tgt := 164) hx hb xd_C_registerOp_106 rfl ?_
        exact hj7 H locs ls g q25 (xif h8 (xit h9 (xlt_e hv23 (xlt_e hq25 rfl)))) hg hl hP hD hS
      refine lv_icmp_ge (tgt := 95) hx hb xd_C_registerOp_81 rfl (fun h26 => ?_) (fun h26 => ?_)
      · refine lv_iload_n hx hb xd_C_registerOp_95 rfl (lv_at hl 4 rfl) ?_
        refine lv_iload hx hb xd_C_registerOp_96 (lv_at hl 1 rfl) ?_
        refine lv_iload hx hb xd_C_registerOp_98 (lv_at hl 0 rfl) ?_
        refine xc0_i (va_runS (As := [.int r1, .int (((xg_x u) r4.toNatClampNeg)), .int (((xg_x u) r5.toNatClampNeg))]) (rest := [.int r3, .ref ((a 1))]) ⟨hx, hb, hml, hown, htg⟩ (c_R_divide l D (xTy k) z H.size r1 ((xg_x u) r4.toNatClampNeg) ((xg_x u) r5.toNatClampNeg)) (va_cwS 3 htg (xg_S0 xkin_R_divide xw_585 xw_586 xw_14) rfl rfl rfl (by decide +kernel) ⟨Nat.le_of_ble_eq_true rfl, Nat.le_of_ble_eq_true rfl⟩) ⟨xB_blind, fun U hU hW => xB_mk va_P0 hK va_D0 hE hS (xsub0 hA hS) hU hW⟩ rfl rfl hl.1 rfl (lv_room (Nat.le_of_ble_eq_true rfl)) xd_C_registerOp_100 ⟨Nat.le_of_ble_eq_true rfl, Nat.le_of_ble_eq_true rfl⟩) hP hA hS (fun r27 H locs hr27 hP hS => ?_)
        exact hj24 H locs ls g r27 (xit h26 (xlt_e hr27 rfl)) hg hl hP hD hS
      · refine lv_iload_n hx hb xd_C_registerOp_84 rfl (lv_at hl 4 rfl) ?_
        refine lv_iload hx hb xd_C_registerOp_85 (lv_at hl 1 rfl) ?_
        refine lv_iload hx hb xd_C_registerOp_87 (lv_at hl 0 rfl) ?_
        refine xc0_i (va_runS (As := [.int r1, .int (((xg_x u) r4.toNatClampNeg)), .int (((xg_x u) r5.toNatClampNeg))]) (rest := [.int r3, .ref ((a 1))]) ⟨hx, hb, hml, hown, htg⟩ (c_R_multiply l D (xTy k) z H.size r1 ((xg_x u) r4.toNatClampNeg) ((xg_x u) r5.toNatClampNeg)) (va_cwS 3 htg (xg_S0 xkin_R_multiply xw_582 xw_583 xw_14) rfl rfl rfl (by decide +kernel) ⟨Nat.le_of_ble_eq_true rfl, Nat.le_of_ble_eq_true rfl⟩) ⟨xB_blind, fun U hU hW => xB_mk va_P0 hK va_D0 hE hS (xsub0 hA hS) hU hW⟩ rfl rfl hl.1 rfl (lv_room (Nat.le_of_ble_eq_true rfl)) xd_C_registerOp_89 ⟨Nat.le_of_ble_eq_true rfl, Nat.le_of_ble_eq_true rfl⟩) hP hA hS (fun r28 H locs hr28 hP hS => ?_)
        refine lv_goto (tgt := 103) hx hb xd_C_registerOp_92 rfl ?_
        exact hj24 H locs ls g r28 (xif h26 (xlt_e hr28 rfl)) hg hl hP hD hS
  · refine lv_aload_n hx hb xd_C_registerOp_56 rfl (lv_at hl 5 rfl) ?_
    refine lv_iload_n hx hb xd_C_registerOp_57 rfl (lv_at hl 2 rfl) ?_
    refine lv_iload_n hx hb xd_C_registerOp_58 rfl (lv_at hl 4 rfl) ?_
    refine lv_iload hx hb xd_C_registerOp_59 (lv_at hl 1 rfl) ?_
    refine lv_iload hx hb xd_C_registerOp_61 (lv_at hl 0 rfl) ?_
    refine xc0_i (va_runS (As := [.int r1, .int (((xg_x u) r4.toNatClampNeg)), .int (((xg_x u) r5.toNatClampNeg))]) (rest := [.int r3, .ref ((a 1))]) ⟨hx, hb, hml, hown, htg⟩ (c_R_combine l D (xTy k) z H.size r1 ((xg_x u) r4.toNatClampNeg) ((xg_x u) r5.toNatClampNeg)) (va_cwS 3 htg (xg_S0 xkin_R_combine xw_548 xw_549 xw_14) rfl rfl rfl (by decide +kernel) ⟨Nat.le_of_ble_eq_true rfl, Nat.le_of_ble_eq_true rfl⟩) ⟨xB_blind, fun U hU hW => xB_mk va_P0 hK va_D0 hE hS (xsub0 hA hS) hU hW⟩ rfl rfl hl.1 rfl (lv_room (Nat.le_of_ble_eq_true rfl)) xd_C_registerOp_63 ⟨Nat.le_of_ble_eq_true rfl, Nat.le_of_ble_eq_true rfl⟩) hP hA hS (fun r29 H locs hr29 hP hS => ?_)
    refine xcW_v (va_runV (As := [.int r3, .int r29]) (rest := []) ⟨hx, hb, hml, hown, htg⟩ (c_C_put l D z k a g H.size u hg r3 r29 (xin_eq hr3 (xin_d _))) (cwV 2 htg (xg_V0 xkin_C_put xw_533 xw_322 xsel_C_put xw_2) rfl rfl rfl (by decide +kernel) ⟨Nat.le_of_ble_eq_true rfl, Nat.le_of_ble_eq_true rfl⟩) ⟨xB_blind, xrecv_C hK hP, fun U hU hW => xB_mk hP hK hD hE hS (xsubW hD hA hS) hU hW⟩ rfl rfl hl.1 rfl (lv_room (Nat.le_of_ble_eq_true rfl)) xd_C_registerOp_66 ⟨Nat.le_of_ble_eq_true rfl, Nat.le_of_ble_eq_true rfl⟩) hD hA hS (fun w1 H locs hw hP hD hS => ?_)
    obtain ⟨u1, g⟩ := w1
    obtain ⟨q30, hq30⟩ : ∃ q, q = xf_C_put u r3 r29 := ⟨_, rfl⟩
    obtain ⟨e2, hg⟩ := hw
    rw [← hq30] at e2
    obtain rfl : q30 = u1 := e2.symm
    have hP : va_P D xCl (xWH k a g q30) H := hP
    have hD : va_D A (xWH k a g q30) := hD
    have hg : xok k g q30 := hg
    refine lv_goto (tgt := 164) hx hb xd_C_registerOp_69 rfl ?_
    exact hj7 H locs ls g q30 (xit h8 (xlt_e hr29 (xlt_e hq30 rfl))) hg hl hP hD hS

noncomputable def xf_C_isSet (u : XH) (p0 : Int32) : Int32 :=
  xlt (if ((xg_K_hstatus u) &&& p0) = 0 then (0) else (1) : Int32) fun v1 =>
  v1
set_option maxHeartbeats 4000000 in
set_option maxRecDepth 100000 in
theorem c_C_isSet (l : Launch) (D : va_G) (z : (Nat → Nat) × (Nat → Nat)) (k : ClassId × ClassId) (a : Nat → Nat) (g : XG) (sz : Nat) (u : XH) (hg : xok k g u) (p0 : Int32) : Met l xy_C_isSet (xk_C_isSet :: lw_g) { frames := 0, cells := 0, slots := 0, locals := 0 } (va_Pc [.ref ((a 1)), .int p0] (xB D (xTy k) z sz (xWH k a g u))) (va_Qi (fun r (q : XH × XG) => r = xf_C_isSet u p0 ∧ q.1 = u ∧ xok k q.2 q.1) (fun q t => xQ D (xTy k) (xWH k a q.2 q.1) (va_A (xWH k a g u) sz) t) (va_A (xWH k a g u) sz)) 0 0 (va_A (xWH k a g u) sz) := by
  refine xopen_z (wf := fun q : XH × XG => xWH k a q.2 q.1) (lv := [(0, .ref ((a 1))), (1, .int p0)]) (by decide) rfl (Nat.le_of_ble_eq_true rfl) ?_
  intro p e s m args below meth c Q ls A H locs hx hb hml htg hown hin hK hP hD hE hS hA hl hret
  refine lv_aload_n hx hb xd_C_isSet_0 rfl (lv_at hl 0 rfl) ?_
  refine xget_C_controls hx hb htg hown hK hP (htg _ xw_206) xd_C_isSet_1 ?_
  refine xget_K_hstatus (v := (xg_K_hstatus u)) hx hb htg hown hK hP (htg _ xw_107) rfl xd_C_isSet_4 ?_
  refine lv_iload_n hx hb xd_C_isSet_7 rfl (lv_at hl 1 rfl) ?_
  refine lv_iand hx hb xd_C_isSet_8 ?_
  have hj2 : ∀ (H : Heap) (locs : List Loc) (ls : Array Slot) (g : XG) (v1 : Int32), v1 = (if ((xg_K_hstatus u) &&& p0) = 0 then (0) else (1)) → xok k g u → lv_has ls 2 [(0, .ref ((a 1))), (1, .int p0)] → va_P D xCl (xWH k a g u) H → va_D A (xWH k a g u) → va_S A s.heap H locs → W p l e { frames := 0, cells := 0, slots := 0, locals := 0 } s m args below meth c H locs (0) (0) Q (F0 m 17 ls [.int v1]) := by
    intro H locs ls g v1 hv1 hg hl hP hD hS
    exact hret _ (u, g) H locs ls _ (xnar (X01_of hv1 (xit_01 (Or.inl rfl) (Or.inr rfl)))) ⟨(by unfold xf_C_isSet; exact (xlt_e hv1 rfl)), rfl, hg⟩ hP hD hS xd_C_isSet_17
  refine lv_if_eq (tgt := 16) hx hb xd_C_isSet_9 rfl (fun h3 => ?_) (fun h3 => ?_)
  · refine lv_iconst (v := 0) hx hb xd_C_isSet_16 (by decide) ?_
    exact hj2 H locs ls g (0 : Int32) (xit h3 rfl) hg hl hP hD hS
  · refine lv_iconst (v := 1) hx hb xd_C_isSet_12 (by decide) ?_
    refine lv_goto (tgt := 17) hx hb xd_C_isSet_13 rfl ?_
    exact hj2 H locs ls g (1 : Int32) (xif h3 rfl) hg hl hP hD hS
theorem xt01_C_isSet (u : XH) (p0 : Int32) : X01 (xf_C_isSet u p0) := by unfold xf_C_isSet; exact (xlt_01 (fun v1 hv1 => (X01_of hv1 (xit_01 (Or.inl rfl) (Or.inr rfl)))))
