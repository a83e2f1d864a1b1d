noncomputable def xf_T_walk (u : XH) (p0 : Int32) (p1 : Int64) (p2 : Int32) (p3 : Int32) (p4 : Int32) : Int64 × XH :=
  if p0 < 0 then
    xlt (xf_T_firstPlace p0 p1 : Int64) fun r2 =>
    if (lg_cmp r2 (262144 : Int64)) < 0 then
      xlt (xf_M_readWord 64 (xg_M u).1 (Int64.toInt32 r2) : Int32 × XM1) fun q5 =>
      xlt (xf_T_isLeaf q5.1 : Int32) fun r6 =>
      if r6 = 0 then
        xlt (xf_T_isPointer q5.1 : Int32) fun r8 =>
        if r8 = 0 then
          ((-1), (xs_M1 u q5.2))
        else
          xlt (xf_T_nextPlace q5.1 p1 : Int64) fun r10 =>
          if (lg_cmp r10 (262144 : Int64)) < 0 then
            xlt (xf_M_readWord 64 (xg_M (xs_M1 u q5.2)).1 (Int64.toInt32 r10) : Int32 × XM1) fun q13 =>
            xlt (xf_T_isLeaf q13.1 : Int32) fun r14 =>
            if r14 = 0 then
              xlt (xf_T_isPointer q13.1 : Int32) fun r16 =>
              if r16 = 0 then
                ((-1), (xs_M1 (xs_M1 u q5.2) q13.2))
              else
                xlt (xf_T_nextPlace q13.1 p1 : Int64) fun r18 =>
                ((-1), (xs_M1 (xs_M1 u q5.2) q13.2))
            else
              xlt (xf_T_allows q13.1 (1 : Int32) p2 p3 p4 : Int32) fun r19 =>
              xlt (if r19 = 0 then ((-1)) else (xlt (xf_T_result q13.1 (1 : Int32) p1 : Int64) fun r21 => xlt (xf_T_inMemory r21 : Int64) fun r22 => r22) : Int64) fun v23 =>
              (v23, (xs_M1 (xs_M1 u q5.2) q13.2))
          else
            ((-3), (xs_M1 u q5.2))
      else
        xlt (xf_T_allows q5.1 (0 : Int32) p2 p3 p4 : Int32) fun r28 =>
        xlt (if r28 = 0 then ((-1)) else (xlt (xf_T_result q5.1 (0 : Int32) p1 : Int64) fun r30 => xlt (xf_T_inMemory r30 : Int64) fun r31 => r31) : Int64) fun v32 =>
        (v32, (xs_M1 u q5.2))
    else
      ((-3), u)
  else
    xlt (xf_T_inMemory p1 : Int64) fun r37 =>
    (r37, u)
set_option maxHeartbeats 4000000 in
set_option maxRecDepth 100000 in
theorem c_T_walk (l : Launch) (D : va_G) (z : (Nat → Nat) × (Nat → Nat)) (k : ClassId × ClassId) (a : Nat → Nat) (g : XG) (sz : Nat) (u : XH) (hg : xok k g u) (p0 : Int32) (p1 : Int64) (p2 : Int32) (p3 : Int32) (p4 : Int32) : Met l xy_T_walk (xk_T_walk :: lw_g) { frames := 1, cells := 0, slots := 0, locals := 25 } (va_Pc [.ref ((a 3)), .int p0, .long p1, .int p2, .int p3, .int p4] (xB D (xTy k) z sz (xWH k a g u))) (va_Ql (fun r (q : XH × XG) => (r, q.1) = xf_T_walk u p0 p1 p2 p3 p4 ∧ xok k q.2 q.1) (fun q t => xQ D (xTy k) (xWH k a q.2 q.1) (va_A (xWH k a g u) sz) t) (va_A (xWH k a g u) sz)) 0 0 (va_A (xWH k a g u) sz) := by
  refine xopen_l (wf := fun q : XH × XG => xWH k a q.2 q.1) (lv := [(0, .ref ((a 3))), (1, .int p0), (2, .long p1), (4, .int p2), (5, .int p3), (6, .int p4)]) (by decide) rfl (Nat.le_of_ble_eq_true rfl) ?_
  intro p e s m args below meth c Q ls A H locs hx hb hml htg hown hin hK hP hD hE hS hA hl hret
  refine lv_iload_n hx hb xd_T_walk_0 rfl (lv_at hl 1 rfl) ?_
  refine lv_if_lt (tgt := 9) hx hb xd_T_walk_1 rfl (fun h1 => ?_) (fun h1 => ?_)
  · refine lv_iload_n hx hb xd_T_walk_9 rfl (lv_at hl 1 rfl) ?_
    refine lv_lload_n hx hb xd_T_walk_10 rfl (lv_at hl 2 rfl) ?_
    refine xc0_l (va_runS (As := [.int p0, .long p1]) (rest := []) ⟨hx, hb, hml, hown, htg⟩ (c_T_firstPlace l D (xTy k) z H.size p0 p1) (va_cwS 2 htg (xg_S0 xkin_T_firstPlace xw_446 xw_447 xw_4) rfl rfl rfl (by decide +kernel) ⟨Nat.le_of_ble_eq_true rfl, Nat.le_of_ble_eq_true rfl⟩) ⟨xB_blind, fun U hU hW => xB_mk va_P0 hK va_D0 hE hS (xsub0 hA hS) hU hW⟩ rfl rfl hl.1 rfl (lv_room (Nat.le_of_ble_eq_true rfl)) xd_T_walk_11 ⟨Nat.le_of_ble_eq_true rfl, Nat.le_of_ble_eq_true rfl⟩) hP hA hS (fun r2 H locs hr2 hP hS => ?_)
    refine lv_lstore (lv' := [(7, .long r2), (0, .ref ((a 3))), (1, .int p0), (2, .long p1), (4, .int p2), (5, .int p3), (6, .int p4)]) hx hb xd_T_walk_14 hl (by decide) rfl (fun ls hl => ?_)
    refine lv_iconst (v := 0) hx hb xd_T_walk_16 (by decide) ?_
    refine lv_istore (lv' := [(9, .int 0), (7, .long r2), (0, .ref ((a 3))), (1, .int p0), (2, .long p1), (4, .int p2), (5, .int p3), (6, .int p4)]) hx hb xd_T_walk_17 hl (by decide) rfl (fun ls hl => ?_)
    refine lv_iload hx hb xd_T_walk_19 (lv_at hl 0 rfl) ?_
    refine lv_iconst (v := 2) hx hb xd_T_walk_21 (by decide) ?_
    refine lv_icmp_ge (tgt := 118) hx hb xd_T_walk_22 rfl (fun h => absurd h (by decide)) (fun _ => ?_)
    refine lv_lload hx hb xd_T_walk_25 (lv_at hl 1 rfl) ?_
    refine lv_ldc2 (v := 262144) hx hb hown (htg _ xw_458) xd_T_walk_27 ?_
    refine W.lcmp hx hb xd_T_walk_30 ?_
    refine lv_if_lt (tgt := 38) hx hb xd_T_walk_31 rfl (fun h3 => ?_) (fun h3 => ?_)
    · refine lv_aload_n hx hb xd_T_walk_38 rfl (lv_at hl 2 rfl) ?_
      refine xget_T_memory hx hb htg hown hK hP (htg _ xw_186) xd_T_walk_39 ?_
      refine lv_lload hx hb xd_T_walk_42 (lv_at hl 1 rfl) ?_
      refine lv_l2i (v := (Int64.toInt32 r2)) hx hb xd_T_walk_44 rfl ?_
      obtain ⟨q5, hq5⟩ : ∃ q, q = xf_M_readWord 64 (xg_M u).1 (Int64.toInt32 r2) := ⟨_, rfl⟩
      refine xcM_i hq5 (va_runV (As := [.int ((Int64.toInt32 r2))]) (rest := []) ⟨hx, hb, hml, hown, htg⟩ (c_M_readWord l D z k H.size (a 8) (a 10) 64 (by decide) g.1 (xg_M u).1 hg.1 (Int64.toInt32 r2)) (cwV 1 htg (xg_V0 xkin_M_readWord xw_460 xw_310 xsel_M_readWord xw_3) rfl rfl rfl (by decide +kernel) ⟨Nat.le_of_ble_eq_true rfl, Nat.le_of_ble_eq_true rfl⟩) ⟨xB_blind, xrecv_M hK hP, fun U hU hW => xpre_M hP hK hD hE hS hA hU hW⟩ rfl rfl hl.1 rfl (lv_room (Nat.le_of_ble_eq_true rfl)) xd_T_walk_45 ⟨Nat.le_of_ble_eq_true rfl, Nat.le_of_ble_eq_true rfl⟩) hP hD hA hS hg (fun g H locs hP hD hS hg => ?_)
      refine lv_istore (lv' := [(10, .int (q5.1)), (9, .int 0), (7, .long r2), (0, .ref ((a 3))), (1, .int p0), (2, .long p1), (4, .int p2), (5, .int p3), (6, .int p4)]) hx hb xd_T_walk_48 hl (by decide) rfl (fun ls hl => ?_)
      refine lv_iload hx hb xd_T_walk_50 (lv_at hl 0 rfl) ?_
      refine xc0_i (va_runS (As := [.int (q5.1)]) (rest := []) ⟨hx, hb, hml, hown, htg⟩ (c_T_isLeaf l D (xTy k) z H.size q5.1) (va_cwS 1 htg (xg_S0 xkin_T_isLeaf xw_461 xw_462 xw_4) rfl rfl rfl (by decide +kernel) ⟨Nat.le_of_ble_eq_true rfl, Nat.le_of_ble_eq_true rfl⟩) ⟨xB_blind, fun U hU hW => xB_mk va_P0 hK va_D0 hE hS (xsub0 hA hS) hU hW⟩ rfl rfl hl.1 rfl (lv_room (Nat.le_of_ble_eq_true rfl)) xd_T_walk_52 ⟨Nat.le_of_ble_eq_true rfl, Nat.le_of_ble_eq_true rfl⟩) hP hA hS (fun r6 H locs hr6 hP hS => ?_)
      refine lv_if_eq (tgt := 92) hx hb xd_T_walk_55 rfl (fun h7 => ?_) (fun h7 => ?_)
      · refine lv_iload hx hb xd_T_walk_92 (lv_at hl 0 rfl) ?_
        refine xc0_i (va_runS (As := [.int (q5.1)]) (rest := []) ⟨hx, hb, hml, hown, htg⟩ (c_T_isPointer l D (xTy k) z H.size q5.1) (va_cwS 1 htg (xg_S0 xkin_T_isPointer xw_472 xw_473 xw_4) rfl rfl rfl (by decide +kernel) ⟨Nat.le_of_ble_eq_true rfl, Nat.le_of_ble_eq_true rfl⟩) ⟨xB_blind, fun U hU hW => xB_mk va_P0 hK va_D0 hE hS (xsub0 hA hS) hU hW⟩ rfl rfl hl.1 rfl (lv_room (Nat.le_of_ble_eq_true rfl)) xd_T_walk_94 ⟨Nat.le_of_ble_eq_true rfl, Nat.le_of_ble_eq_true rfl⟩) hP hA hS (fun r8 H locs hr8 hP hS => ?_)
        refine lv_if_ne (tgt := 104) hx hb xd_T_walk_97 rfl (fun h9 => ?_) (fun h9 => ?_)
        · refine lv_iload hx hb xd_T_walk_104 (lv_at hl 0 rfl) ?_
          refine lv_lload_n hx hb xd_T_walk_106 rfl (lv_at hl 5 rfl) ?_
          refine xc0_l (va_runS (As := [.int (q5.1), .long p1]) (rest := []) ⟨hx, hb, hml, hown, htg⟩ (c_T_nextPlace l D (xTy k) z H.size q5.1 p1) (va_cwS 2 htg (xg_S0 xkin_T_nextPlace xw_475 xw_476 xw_4) rfl rfl rfl (by decide +kernel) ⟨Nat.le_of_ble_eq_true rfl, Nat.le_of_ble_eq_true rfl⟩) ⟨xB_blind, fun U hU hW => xB_mk va_P0 hK va_D0 hE hS (xsub0 hA hS) hU hW⟩ rfl rfl hl.1 rfl (lv_room (Nat.le_of_ble_eq_true rfl)) xd_T_walk_107 ⟨Nat.le_of_ble_eq_true rfl, Nat.le_of_ble_eq_true rfl⟩) hP hA hS (fun r10 H locs hr10 hP hS => ?_)
          refine lv_lstore (lv' := [(7, .long r10), (10, .int (q5.1)), (9, .int 0), (0, .ref ((a 3))), (1, .int p0), (2, .long p1), (4, .int p2), (5, .int p3), (6, .int p4)]) hx hb xd_T_walk_110 hl (by decide) rfl (fun ls hl => ?_)
          refine lv_iinc (k := 2) (v := 1) (lv' := [(9, .int 1), (7, .long r10), (10, .int (q5.1)), (0, .ref ((a 3))), (1, .int p0), (2, .long p1), (4, .int p2), (5, .int p3), (6, .int p4)]) hx hb xd_T_walk_112 hl rfl (by first | rfl | decide) (by decide) rfl (fun ls hl => ?_)
          refine lv_goto (tgt := 19) hx hb xd_T_walk_115 rfl ?_
          refine lv_iload hx hb xd_T_walk_19 (lv_at hl 0 rfl) ?_
          refine lv_iconst (v := 2) hx hb xd_T_walk_21 (by decide) ?_
          refine lv_icmp_ge (tgt := 118) hx hb xd_T_walk_22 rfl (fun h => absurd h (by decide)) (fun _ => ?_)
          refine lv_lload hx hb xd_T_walk_25 (lv_at hl 1 rfl) ?_
          refine lv_ldc2 (v := 262144) hx hb hown (htg _ xw_458) xd_T_walk_27 ?_
          refine W.lcmp hx hb xd_T_walk_30 ?_
          refine lv_if_lt (tgt := 38) hx hb xd_T_walk_31 rfl (fun h11 => ?_) (fun h11 => ?_)
          · refine lv_aload_n hx hb xd_T_walk_38 rfl (lv_at hl 3 rfl) ?_
            refine xget_T_memory hx hb htg hown hK hP (htg _ xw_186) xd_T_walk_39 ?_
            refine lv_lload hx hb xd_T_walk_42 (lv_at hl 1 rfl) ?_
            refine lv_l2i (v := (Int64.toInt32 r10)) hx hb xd_T_walk_44 rfl ?_
            obtain ⟨q13, hq13⟩ : ∃ q, q = xf_M_readWord 64 (xg_M (xs_M1 u q5.2)).1 (Int64.toInt32 r10) := ⟨_, rfl⟩
            refine xcM_i hq13 (va_runV (As := [.int ((Int64.toInt32 r10))]) (rest := []) ⟨hx, hb, hml, hown, htg⟩ (c_M_readWord l D z k H.size (a 8) (a 10) 64 (by decide) g.1 (xg_M (xs_M1 u q5.2)).1 hg.1 (Int64.toInt32 r10)) (cwV 1 htg (xg_V0 xkin_M_readWord xw_460 xw_310 xsel_M_readWord xw_3) rfl rfl rfl (by decide +kernel) ⟨Nat.le_of_ble_eq_true rfl, Nat.le_of_ble_eq_true rfl⟩) ⟨xB_blind, xrecv_M hK hP, fun U hU hW => xpre_M hP hK hD hE hS hA hU hW⟩ rfl rfl hl.1 rfl (lv_room (Nat.le_of_ble_eq_true rfl)) xd_T_walk_45 ⟨Nat.le_of_ble_eq_true rfl, Nat.le_of_ble_eq_true rfl⟩) hP hD hA hS hg (fun g H locs hP hD hS hg => ?_)
            refine lv_istore (lv' := [(10, .int (q13.1)), (9, .int 1), (7, .long r10), (0, .ref ((a 3))), (1, .int p0), (2, .long p1), (4, .int p2), (5, .int p3), (6, .int p4)]) hx hb xd_T_walk_48 hl (by decide) rfl (fun ls hl => ?_)
            refine lv_iload hx hb xd_T_walk_50 (lv_at hl 0 rfl) ?_
            refine xc0_i (va_runS (As := [.int (q13.1)]) (rest := []) ⟨hx, hb, hml, hown, htg⟩ (c_T_isLeaf l D (xTy k) z H.size q13.1) (va_cwS 1 htg (xg_S0 xkin_T_isLeaf xw_461 xw_462 xw_4) rfl rfl rfl (by decide +kernel) ⟨Nat.le_of_ble_eq_true rfl, Nat.le_of_ble_eq_true rfl⟩) ⟨xB_blind, fun U hU hW => xB_mk va_P0 hK va_D0 hE hS (xsub0 hA hS) hU hW⟩ rfl rfl hl.1 rfl (lv_room (Nat.le_of_ble_eq_true rfl)) xd_T_walk_52 ⟨Nat.le_of_ble_eq_true rfl, Nat.le_of_ble_eq_true rfl⟩) hP hA hS (fun r14 H locs hr14 hP hS => ?_)
            refine lv_if_eq (tgt := 92) hx hb xd_T_walk_55 rfl (fun h15 => ?_) (fun h15 => ?_)
            · refine lv_iload hx hb xd_T_walk_92 (lv_at hl 0 rfl) ?_
              refine xc0_i (va_runS (As := [.int (q13.1)]) (rest := []) ⟨hx, hb, hml, hown, htg⟩ (c_T_isPointer l D (xTy k) z H.size q13.1) (va_cwS 1 htg (xg_S0 xkin_T_isPointer xw_472 xw_473 xw_4) rfl rfl rfl (by decide +kernel) ⟨Nat.le_of_ble_eq_true rfl, Nat.le_of_ble_eq_true rfl⟩) ⟨xB_blind, fun U hU hW => xB_mk va_P0 hK va_D0 hE hS (xsub0 hA hS) hU hW⟩ rfl rfl hl.1 rfl (lv_room (Nat.le_of_ble_eq_true rfl)) xd_T_walk_94 ⟨Nat.le_of_ble_eq_true rfl, Nat.le_of_ble_eq_true rfl⟩) hP hA hS (fun r16 H locs hr16 hP hS => ?_)
              refine lv_if_ne (tgt := 104) hx hb xd_T_walk_97 rfl (fun h17 => ?_) (fun h17 => ?_)
              · refine lv_iload hx hb xd_T_walk_104 (lv_at hl 0 rfl) ?_
                refine lv_lload_n hx hb xd_T_walk_106 rfl (lv_at hl 5 rfl) ?_
                refine xc0_l (va_runS (As := [.int (q13.1), .long p1]) (rest := []) ⟨hx, hb, hml, hown, htg⟩ (c_T_nextPlace l D (xTy k) z H.size q13.1 p1) (va_cwS 2 htg (xg_S0 xkin_T_nextPlace xw_475 xw_476 xw_4) rfl rfl rfl (by decide +kernel) ⟨Nat.le_of_ble_eq_true rfl, Nat.le_of_ble_eq_true rfl⟩) ⟨xB_blind, fun U hU hW => xB_mk va_P0 hK va_D0 hE hS (xsub0 hA hS) hU hW⟩ rfl rfl hl.1 rfl (lv_room (Nat.le_of_ble_eq_true rfl)) xd_T_walk_107 ⟨Nat.le_of_ble_eq_true rfl, Nat.le_of_ble_eq_true rfl⟩) hP hA hS (fun r18 H locs hr18 hP hS => ?_)
                refine lv_lstore (lv' := [(7, .long r18), (10, .int (q13.1)), (9, .int 1), (0, .ref ((a 3))), (1, .int p0), (2, .long p1), (4, .int p2), (5, .int p3), (6, .int p4)]) hx hb xd_T_walk_110 hl (by decide) rfl (fun ls hl => ?_)
                refine lv_iinc (k := 2) (v := 2) (lv' := [(9, .int 2), (7, .long r18), (10, .int (q13.1)), (0, .ref ((a 3))), (1, .int p0), (2, .long p1), (4, .int p2), (5, .int p3), (6, .int p4)]) hx hb xd_T_walk_112 hl rfl (by first | rfl | decide) (by decide) rfl (fun ls hl => ?_)
                refine lv_goto (tgt := 19) hx hb xd_T_walk_115 rfl ?_
                refine lv_iload hx hb xd_T_walk_19 (lv_at hl 0 rfl) ?_
                refine lv_iconst (v := 2) hx hb xd_T_walk_21 (by decide) ?_
                refine lv_icmp_ge (tgt := 118) hx hb xd_T_walk_22 rfl (fun _ => ?_) (fun h => absurd h (by decide))
                refine lv_ldc2 (v := (-1)) hx hb hown (htg _ xw_471) xd_T_walk_118 ?_
                exact hret _ ((xs_M1 (xs_M1 u q5.2) q13.2), g) H locs ls _ ⟨(by unfold xf_T_walk; exact (xit h1 (xlt_e hr2 (xit h3 (xlt_e hq5 (xlt_e hr6 (xit h7 (xlt_e hr8 (xif h9 (xlt_e hr10 (xit h11 (xlt_e hq13 (xlt_e hr14 (xit h15 (xlt_e hr16 (xif h17 (xlt_e hr18 rfl))))))))))))))))), hg⟩ hP hD hS xd_T_walk_121
              · refine lv_ldc2 (v := (-1)) hx hb hown (htg _ xw_471) xd_T_walk_100 ?_
                exact hret _ ((xs_M1 (xs_M1 u q5.2) q13.2), g) H locs ls _ ⟨(by unfold xf_T_walk; exact (xit h1 (xlt_e hr2 (xit h3 (xlt_e hq5 (xlt_e hr6 (xit h7 (xlt_e hr8 (xif h9 (xlt_e hr10 (xit h11 (xlt_e hq13 (xlt_e hr14 (xit h15 (xlt_e hr16 (xit h17 rfl)))))))))))))))), hg⟩ hP hD hS xd_T_walk_103
            · refine lv_iload hx hb xd_T_walk_58 (lv_at hl 0 rfl) ?_
              refine lv_iload hx hb xd_T_walk_60 (lv_at hl 1 rfl) ?_
              refine lv_iload hx hb xd_T_walk_62 (lv_at hl 6 rfl) ?_
              refine lv_iload hx hb xd_T_walk_64 (lv_at hl 7 rfl) ?_
              refine lv_iload hx hb xd_T_walk_66 (lv_at hl 8 rfl) ?_
              refine xc0_i (va_runS (As := [.int (q13.1), .int 1, .int p2, .int p3, .int p4]) (rest := []) ⟨hx, hb, hml, hown, htg⟩ (c_T_allows l D (xTy k) z H.size q13.1 (1 : Int32) p2 p3 p4) (va_cwS 5 htg (xg_S0 xkin_T_allows xw_464 xw_465 xw_4) rfl rfl rfl (by decide +kernel) ⟨Nat.le_of_ble_eq_true rfl, Nat.le_of_ble_eq_true rfl⟩) ⟨xB_blind, fun U hU hW => xB_mk va_P0 hK va_D0 hE hS (xsub0 hA hS) hU hW⟩ rfl rfl hl.1 rfl (lv_room (Nat.le_of_ble_eq_true rfl)) xd_T_walk_68 ⟨Nat.le_of_ble_eq_true rfl, Nat.le_of_ble_eq_true rfl⟩) hP hA hS (fun r19 H locs hr19 hP hS => ?_)
              have hj24 : ∀ (H : Heap) (locs : List Loc) (ls : Array Slot) (g : XG) (v23 : Int64), v23 = (if r19 = 0 then ((-1)) else (xlt (xf_T_result q13.1 (1 : Int32) p1 : Int64) fun r21 => xlt (xf_T_inMemory r21 : Int64) fun r22 => r22)) → xok k g (xs_M1 (xs_M1 u q5.2) q13.2) → lv_has ls 11 [(10, .int (q13.1)), (9, .int 1), (7, .long r10), (0, .ref ((a 3))), (1, .int p0), (2, .long p1), (4, .int p2), (5, .int p3), (6, .int p4)] → va_P D xCl (xWH k a g (xs_M1 (xs_M1 u q5.2) q13.2)) H → va_D A (xWH k a g (xs_M1 (xs_M1 u q5.2) q13.2)) → va_S A s.heap H locs → W p l e { frames := 1, cells := 0, slots := 0, locals := 25 } s m args below meth c H locs (0) (0) Q (F0 m 91 ls [.long v23]) := by
                intro H locs ls g v23 hv23 hg hl hP hD hS
                exact hret _ ((xs_M1 (xs_M1 u q5.2) q13.2), g) H locs ls _ ⟨(by unfold xf_T_walk; exact (xit h1 (xlt_e hr2 (xit h3 (xlt_e hq5 (xlt_e hr6 (xit h7 (xlt_e hr8 (xif h9 (xlt_e hr10 (xit h11 (xlt_e hq13 (xlt_e hr14 (xif h15 (xlt_e hr19 (xlt_e hv23 rfl)))))))))))))))), hg⟩ hP hD hS xd_T_walk_91
              refine lv_if_eq (tgt := 88) hx hb xd_T_walk_71 rfl (fun h25 => ?_) (fun h25 => ?_)
              · refine lv_ldc2 (v := (-1)) hx hb hown (htg _ xw_471) xd_T_walk_88 ?_
                exact hj24 H locs ls g (-1 : Int64) (xit h25 rfl) hg hl hP hD hS
              · refine lv_iload hx hb xd_T_walk_74 (lv_at hl 0 rfl) ?_
                refine lv_iload hx hb xd_T_walk_76 (lv_at hl 1 rfl) ?_
                refine lv_lload_n hx hb xd_T_walk_78 rfl (lv_at hl 5 rfl) ?_
                refine xc0_l (va_runS (As := [.int (q13.1), .int 1, .long p1]) (rest := []) ⟨hx, hb, hml, hown, htg⟩ (c_T_result l D (xTy k) z H.size q13.1 (1 : Int32) p1) (va_cwS 3 htg (xg_S0 xkin_T_result xw_468 xw_469 xw_4) rfl rfl rfl (by decide +kernel) ⟨Nat.le_of_ble_eq_true rfl, Nat.le_of_ble_eq_true rfl⟩) ⟨xB_blind, fun U hU hW => xB_mk va_P0 hK va_D0 hE hS (xsub0 hA hS) hU hW⟩ rfl rfl hl.1 rfl (lv_room (Nat.le_of_ble_eq_true rfl)) xd_T_walk_79 ⟨Nat.le_of_ble_eq_true rfl, Nat.le_of_ble_eq_true rfl⟩) hP hA hS (fun r26 H locs hr26 hP hS => ?_)
                refine xc0_l (va_runS (As := [.long r26]) (rest := []) ⟨hx, hb, hml, hown, htg⟩ (c_T_inMemory l D (xTy k) z H.size r26) (va_cwS 1 htg (xg_S0 xkin_T_inMemory xw_455 xw_456 xw_4) rfl rfl rfl (by decide +kernel) ⟨Nat.le_of_ble_eq_true rfl, Nat.le_of_ble_eq_true rfl⟩) ⟨xB_blind, fun U hU hW => xB_mk va_P0 hK va_D0 hE hS (xsub0 hA hS) hU hW⟩ rfl rfl hl.1 rfl (lv_room (Nat.le_of_ble_eq_true rfl)) xd_T_walk_82 ⟨Nat.le_of_ble_eq_true rfl, Nat.le_of_ble_eq_true rfl⟩) hP hA hS (fun r27 H locs hr27 hP hS => ?_)
                refine lv_goto (tgt := 91) hx hb xd_T_walk_85 rfl ?_
                exact hj24 H locs ls g r27 (xif h25 (xlt_e hr26 (xlt_e hr27 rfl))) hg hl hP hD hS
          · refine lv_ldc2 (v := (-3)) hx hb hown (htg _ xw_459) xd_T_walk_34 ?_
            exact hret _ ((xs_M1 u q5.2), g) H locs ls _ ⟨(by unfold xf_T_walk; exact (xit h1 (xlt_e hr2 (xit h3 (xlt_e hq5 (xlt_e hr6 (xit h7 (xlt_e hr8 (xif h9 (xlt_e hr10 (xif h11 rfl))))))))))), hg⟩ hP hD hS xd_T_walk_37
        · refine lv_ldc2 (v := (-1)) hx hb hown (htg _ xw_471) xd_T_walk_100 ?_
          exact hret _ ((xs_M1 u q5.2), g) H locs ls _ ⟨(by unfold xf_T_walk; exact (xit h1 (xlt_e hr2 (xit h3 (xlt_e hq5 (xlt_e hr6 (xit h7 (xlt_e hr8 (xit h9 rfl))))))))), hg⟩ hP hD hS xd_T_walk_103
      · refine lv_iload hx hb xd_T_walk_58 (lv_at hl 0 rfl) ?_
        refine lv_iload hx hb xd_T_walk_60 (lv_at hl 1 rfl) ?_
        refine lv_iload hx hb xd_T_walk_62 (lv_at hl 6 rfl) ?_
        refine lv_iload hx hb xd_T_walk_64 (lv_at hl 7 rfl) ?_
        refine lv_iload hx hb xd_T_walk_66 (lv_at hl 8 rfl) ?_
        refine xc0_i (va_runS (As := [.int (q5.1), .int 0, .int p2, .int p3, .int p4]) (rest := []) ⟨hx, hb, hml, hown, htg⟩ (c_T_allows l D (xTy k) z H.size q5.1 (0 : Int32) p2 p3 p4) (va_cwS 5 htg (xg_S0 xkin_T_allows xw_464 xw_465 xw_4) rfl rfl rfl (by decide +kernel) ⟨Nat.le_of_ble_eq_true rfl, Nat.le_of_ble_eq_true rfl⟩) ⟨xB_blind, fun U hU hW => xB_mk va_P0 hK va_D0 hE hS (xsub0 hA hS) hU hW⟩ rfl rfl hl.1 rfl (lv_room (Nat.le_of_ble_eq_true rfl)) xd_T_walk_68 ⟨Nat.le_of_ble_eq_true rfl, Nat.le_of_ble_eq_true rfl⟩) hP hA hS (fun r28 H locs hr28 hP hS => ?_)
        have hj33 : ∀ (H : Heap) (locs : List Loc) (ls : Array Slot) (g : XG) (v32 : Int64), v32 = (if r28 = 0 then ((-1)) else (xlt (xf_T_result q5.1 (0 : Int32) p1 : Int64) fun r30 => xlt (xf_T_inMemory r30 : Int64) fun r31 => r31)) → xok k g (xs_M1 u q5.2) → lv_has ls 11 [(10, .int (q5.1)), (9, .int 0), (7, .long r2), (0, .ref ((a 3))), (1, .int p0), (2, .long p1), (4, .int p2), (5, .int p3), (6, .int p4)] → va_P D xCl (xWH k a g (xs_M1 u q5.2)) H → va_D A (xWH k a g (xs_M1 u q5.2)) → va_S A s.heap H locs → W p l e { frames := 1, cells := 0, slots := 0, locals := 25 } s m args below meth c H locs (0) (0) Q (F0 m 91 ls [.long v32]) := by
          intro H locs ls g v32 hv32 hg hl hP hD hS
          exact hret _ ((xs_M1 u q5.2), g) H locs ls _ ⟨(by unfold xf_T_walk; exact (xit h1 (xlt_e hr2 (xit h3 (xlt_e hq5 (xlt_e hr6 (xif h7 (xlt_e hr28 (xlt_e hv32 rfl))))))))), hg⟩ hP hD hS xd_T_walk_91
        refine lv_if_eq (tgt := 88) hx hb xd_T_walk_71 rfl (fun h34 => ?_) (fun h34 => ?_)
        · refine lv_ldc2 (v := (-1)) hx hb hown (htg _ xw_471) xd_T_walk_88 ?_
          exact hj33 H locs ls g (-1 : Int64) (xit h34 rfl) hg hl hP hD hS
        · refine lv_iload hx hb xd_T_walk_74 (lv_at hl 0 rfl) ?_
          refine lv_iload hx hb xd_T_walk_76 (lv_at hl 1 rfl) ?_
          refine lv_lload_n hx hb xd_T_walk_78 rfl (lv_at hl 5 rfl) ?_
          refine xc0_l (va_runS (As := [.int (q5.1), .int 0, .long p1]) (rest := []) ⟨hx, hb, hml, hown, htg⟩ (c_T_result l D (xTy k) z H.size q5.1 (0 : Int32) p1) (va_cwS 3 htg (xg_S0 xkin_T_result xw_468 xw_469 xw_4) rfl rfl rfl (by decide +kernel) ⟨Nat.le_of_ble_eq_true rfl, Nat.le_of_ble_eq_true rfl⟩) ⟨xB_blind, fun U hU hW => xB_mk va_P0 hK va_D0 hE hS (xsub0 hA hS) hU hW⟩ rfl rfl hl.1 rfl (lv_room (Nat.le_of_ble_eq_true rfl)) xd_T_walk_79 ⟨Nat.le_of_ble_eq_true rfl, Nat.le_of_ble_eq_true rfl⟩) hP hA hS (fun r35 H locs hr35 hP hS => ?_)
          refine xc0_l (va_runS (As := [.long r35]) (rest := []) ⟨hx, hb, hml, hown, htg⟩ (c_T_inMemory l D (xTy k) z H.size r35) (va_cwS 1 htg (xg_S0 xkin_T_inMemory xw_455 xw_456 xw_4) rfl rfl rfl (by decide +kernel) ⟨Nat.le_of_ble_eq_true rfl, Nat.le_of_ble_eq_true rfl⟩) ⟨xB_blind, fun U hU hW => xB_mk va_P0 hK va_D0 hE hS (xsub0 hA hS) hU hW⟩ rfl rfl hl.1 rfl (lv_room (Nat.le_of_ble_eq_true rfl)) xd_T_walk_82 ⟨Nat.le_of_ble_eq_true rfl, Nat.le_of_ble_eq_true rfl⟩) hP hA hS (fun r36 H locs hr36 hP hS => ?_)
          refine lv_goto (tgt := 91) hx hb xd_T_walk_85 rfl ?_
          exact hj33 H locs ls g r36 (xif h34 (xlt_e hr35 (xlt_e hr36 rfl))) hg hl hP hD hS
    · refine lv_ldc2 (v := (-3)) hx hb hown (htg _ xw_459) xd_T_walk_34 ?_
      exact hret _ (u, g) H locs ls _ ⟨(by unfold xf_T_walk; exact (xit h1 (xlt_e hr2 (xif h3 rfl)))), hg⟩ hP hD hS xd_T_walk_37
  · refine lv_lload_n hx hb xd_T_walk_4 rfl (lv_at hl 2 rfl) ?_
    refine xc0_l (va_runS (As := [.long p1]) (rest := []) ⟨hx, hb, hml, hown, htg⟩ (c_T_inMemory l D (xTy k) z H.size p1) (va_cwS 1 htg (xg_S0 xkin_T_inMemory xw_455 xw_456 xw_4) rfl rfl rfl (by decide +kernel) ⟨Nat.le_of_ble_eq_true rfl, Nat.le_of_ble_eq_true rfl⟩) ⟨xB_blind, fun U hU hW => xB_mk va_P0 hK va_D0 hE hS (xsub0 hA hS) hU hW⟩ rfl rfl hl.1 rfl (lv_room (Nat.le_of_ble_eq_true rfl)) xd_T_walk_5 ⟨Nat.le_of_ble_eq_true rfl, Nat.le_of_ble_eq_true rfl⟩) hP hA hS (fun r37 H locs hr37 hP hS => ?_)
    exact hret _ (u, g) H locs ls _ ⟨(by unfold xf_T_walk; exact (xif h1 (xlt_e hr37 rfl))), hg⟩ hP hD hS xd_T_walk_8
theorem xm_T_walk (u : XH) (p0 : Int32) (p1 : Int64) (p2 : Int32) (p3 : Int32) (p4 : Int32) : XE (xcH u) (xf_T_walk u p0 p1 p2 p3 p4) := by unfold xf_T_walk; exact (xit_E (xlt_E (fun r2 hr2 => (xit_E (xlt_E (fun q5 hq5 => (xlt_E (fun r6 hr6 => (xit_E (xlt_E (fun r8 hr8 => (xit_E ((xcH_rd hq5).trans rfl) (xlt_E (fun r10 hr10 => (xit_E (xlt_E (fun q13 hq13 => (xlt_E (fun r14 hr14 => (xit_E (xlt_E (fun r16 hr16 => (xit_E ((xcH_rd hq13).trans ((xcH_rd hq5).trans rfl)) (xlt_E (fun r18 hr18 => ((xcH_rd hq13).trans ((xcH_rd hq5).trans rfl))))))) (xlt_E (fun r19 hr19 => (xlt_E (fun v23 hv23 => ((xcH_rd hq13).trans ((xcH_rd hq5).trans rfl))))))))))) ((xcH_rd hq5).trans rfl))))))) (xlt_E (fun r28 hr28 => (xlt_E (fun v32 hv32 => ((xcH_rd hq5).trans rfl)))))))))) rfl))) (xlt_E (fun r37 hr37 => rfl)))

noncomputable def xf_C_reset (u : XH) : XH :=
  xlt (xf_M_clear (xg_M (xs_x u (fun _ => 0))).2 : XM1) fun q2 =>
  xlt (xf_M_clear (xg_M (xs_M2 (xs_x u (fun _ => 0)) q2)).1 : XM1) fun q4 =>
  xlt (xf_K_clear (xs_M1 (xs_M2 (xs_x u (fun _ => 0)) q2) q4) : XH) fun q5 =>
  (xs_C_interrupts (xs_C_trapsToVs (xs_C_trapsToS (xs_C_off (xs_C_mode (xs_C_pc (xs_C_consoleSize q5 (0 : Int32)) (0 : Int32)) (1 : Int32)) false) (0 : Int32)) (0 : Int32)) (0 : Int32))
set_option maxHeartbeats 4000000 in
set_option maxRecDepth 100000 in
theorem c_C_reset (l : Launch) (D : va_G) (z : (Nat → Nat) × (Nat → Nat)) (k : ClassId × ClassId) (a : Nat → Nat) (g : XG) (sz : Nat) (u : XH) (hg : xok k g u) : Met l xy_C_reset (xk_C_reset :: lw_g) { frames := 2, cells := 0, slots := 0, locals := 45 } (va_Pc [.ref ((a 1))] (xB D (xTy k) z sz (xWH k a g u))) (va_Qv (fun q : XH × XG => q.1 = xf_C_reset u ∧ xok k q.2 q.1) (fun q t => xQ D (xTy k) (xWH k a q.2 q.1) (va_A (xWH k a g u) sz) t) (va_A (xWH k a g u) sz)) 0 0 (va_A (xWH k a g u) sz) := by
  refine xopen_v (wf := fun q : XH × XG => xWH k a q.2 q.1) (lv := [(0, .ref ((a 1)))]) (by decide) rfl (Nat.le_of_ble_eq_true rfl) ?_
  intro p e s m args below meth c Q ls A H locs hx hb hml htg hown hin hK hP hD hE hS hA hl hret
  refine lv_aload_n hx hb xd_C_reset_0 rfl (lv_at hl 0 rfl) ?_
  refine xget_C_x hx hb htg hown hK hP (htg _ xw_199) xd_C_reset_1 ?_
  refine lv_iconst (v := 0) hx hb xd_C_reset_4 (by decide) ?_
  refine xcx_v (v := 0) (va_runS (As := [.ref ((a 2)), .int 0]) (rest := []) ⟨hx, hb, hml, hown, htg⟩ (c_Y_fill l D z k H.size (a 2) 32 (by decide) (xg_x u) 0) (va_cwS 2 htg (xg_S0 xkin_Y_fill xw_260 xw_261 xw_8) rfl rfl rfl (by decide +kernel) ⟨Nat.le_of_ble_eq_true rfl, Nat.le_of_ble_eq_true rfl⟩) ⟨xB_blind, fun U hU hW => xpre_x hP hK hD hE hS hA hU hW⟩ rfl rfl hl.1 rfl (lv_room (Nat.le_of_ble_eq_true rfl)) xd_C_reset_5 ⟨Nat.le_of_ble_eq_true rfl, Nat.le_of_ble_eq_true rfl⟩) hP hD hA hS hg (fun H locs hP hD hS hg => ?_)
  refine lv_aload_n hx hb xd_C_reset_8 rfl (lv_at hl 0 rfl) ?_
  refine xget_C_console hx hb htg hown hK hP (htg _ xw_201) xd_C_reset_9 ?_
  obtain ⟨q2, hq2⟩ : ∃ q, q = xf_M_clear (xg_M (xs_x u (fun _ => 0))).2 := ⟨_, rfl⟩
  refine xcN_v hq2 (va_runV (As := []) (rest := []) ⟨hx, hb, hml, hown, htg⟩ (c_M_clear l D z k H.size (a 9) (a 11) 1 (by decide) g.2 (xg_M (xs_x u (fun _ => 0))).2 hg.2) (cwV 0 htg (xg_V0 xkin_M_clear xw_263 xw_264 xsel_M_clear xw_3) rfl rfl rfl (by decide +kernel) ⟨Nat.le_of_ble_eq_true rfl, Nat.le_of_ble_eq_true rfl⟩) ⟨xB_blind, xrecv_N hK hP, fun U hU hW => xpre_N hP hK hD hE hS hA hU hW⟩ rfl rfl hl.1 rfl (lv_room (Nat.le_of_ble_eq_true rfl)) xd_C_reset_12 ⟨Nat.le_of_ble_eq_true rfl, Nat.le_of_ble_eq_true rfl⟩) hP hD hA hS hg (fun g H locs hP hD hS hg => ?_)
  refine lv_aload_n hx hb xd_C_reset_15 rfl (lv_at hl 0 rfl) ?_
  refine xget_C_memory hx hb htg hown hK hP (htg _ xw_204) xd_C_reset_16 ?_
  obtain ⟨q4, hq4⟩ : ∃ q, q = xf_M_clear (xg_M (xs_M2 (xs_x u (fun _ => 0)) q2)).1 := ⟨_, rfl⟩
  refine xcM_v hq4 (va_runV (As := []) (rest := []) ⟨hx, hb, hml, hown, htg⟩ (c_M_clear l D z k H.size (a 8) (a 10) 64 (by decide) g.1 (xg_M (xs_M2 (xs_x u (fun _ => 0)) q2)).1 hg.1) (cwV 0 htg (xg_V0 xkin_M_clear xw_263 xw_264 xsel_M_clear xw_3) rfl rfl rfl (by decide +kernel) ⟨Nat.le_of_ble_eq_true rfl, Nat.le_of_ble_eq_true rfl⟩) ⟨xB_blind, xrecv_M hK hP, fun U hU hW => xpre_M hP hK hD hE hS hA hU hW⟩ rfl rfl hl.1 rfl (lv_room (Nat.le_of_ble_eq_true rfl)) xd_C_reset_19 ⟨Nat.le_of_ble_eq_true rfl, Nat.le_of_ble_eq_true rfl⟩) hP hD hA hS hg (fun g H locs hP hD hS hg => ?_)
  refine lv_aload_n hx hb xd_C_reset_22 rfl (lv_at hl 0 rfl) ?_
  refine xget_C_controls hx hb htg hown hK hP (htg _ xw_206) xd_C_reset_23 ?_
  refine xcW_v (va_runV (As := []) (rest := []) ⟨hx, hb, hml, hown, htg⟩ (c_K_clear l D z k a g H.size (xs_M1 (xs_M2 (xs_x u (fun _ => 0)) q2) q4) hg) (cwV 0 htg (xg_V0 xkin_K_clear xw_268 xw_269 xsel_K_clear xw_5) rfl rfl rfl (by decide +kernel) ⟨Nat.le_of_ble_eq_true rfl, Nat.le_of_ble_eq_true rfl⟩) ⟨xB_blind, xrecv_K hK hP, fun U hU hW => xB_mk hP hK hD hE hS (xsubW hD hA hS) hU hW⟩ rfl rfl hl.1 rfl (lv_room (Nat.le_of_ble_eq_true rfl)) xd_C_reset_26 ⟨Nat.le_of_ble_eq_true rfl, Nat.le_of_ble_eq_true rfl⟩) hD hA hS (fun w1 H locs hw hP hD hS => ?_)
  obtain ⟨u1, g⟩ := w1
  obtain ⟨q5, hq5⟩ : ∃ q, q = xf_K_clear (xs_M1 (xs_M2 (xs_x u (fun _ => 0)) q2) q4) := ⟨_, rfl⟩
  obtain ⟨e2, hg⟩ := hw
  rw [← hq5] at e2
  obtain rfl : q5 = u1 := e2.symm
  have hP : va_P D xCl (xWH k a g q5) H := hP
  have hD : va_D A (xWH k a g q5) := hD
  have hg : xok k g q5 := hg
  refine lv_aload_n hx hb xd_C_reset_29 rfl (lv_at hl 0 rfl) ?_
  refine lv_iconst (v := 0) hx hb xd_C_reset_30 (by decide) ?_
  refine xput_C_consoleSize (v := (0 : Int32)) hx hb htg hown hK hP hD hS hg (htg _ xw_209) xd_C_reset_31 (fun H locs hP hD hS hg => ?_)
  refine lv_aload_n hx hb xd_C_reset_34 rfl (lv_at hl 0 rfl) ?_
  refine lv_iconst (v := 0) hx hb xd_C_reset_35 (by decide) ?_
  refine xput_C_pc (v := (0 : Int32)) hx hb htg hown hK hP hD hS hg (htg _ xw_211) xd_C_reset_36 (fun H locs hP hD hS hg => ?_)
  refine lv_aload_n hx hb xd_C_reset_39 rfl (lv_at hl 0 rfl) ?_
  refine lv_iconst (v := 1) hx hb xd_C_reset_40 (by decide) ?_
  refine xput_C_mode (v := (1 : Int32)) hx hb htg hown hK hP hD hS hg (htg _ xw_213) xd_C_reset_41 (fun H locs hP hD hS hg => ?_)
  refine lv_aload_n hx hb xd_C_reset_44 rfl (lv_at hl 0 rfl) ?_
  refine lv_iconst (v := 0) hx hb xd_C_reset_45 (by decide) ?_
  refine xput_C_off (v := false) hx hb htg hown hK hP hD hS hg (htg _ xw_215) xd_C_reset_46 (fun H locs hP hD hS hg => ?_)
  refine lv_aload_n hx hb xd_C_reset_49 rfl (lv_at hl 0 rfl) ?_
  refine lv_iconst (v := 0) hx hb xd_C_reset_50 (by decide) ?_
  refine xput_C_trapsToS (v := (0 : Int32)) hx hb htg hown hK hP hD hS hg (htg _ xw_217) xd_C_reset_51 (fun H locs hP hD hS hg => ?_)
  refine lv_aload_n hx hb xd_C_reset_54 rfl (lv_at hl 0 rfl) ?_
  refine lv_iconst (v := 0) hx hb xd_C_reset_55 (by decide) ?_
  refine xput_C_trapsToVs (v := (0 : Int32)) hx hb htg hown hK hP hD hS hg (htg _ xw_219) xd_C_reset_56 (fun H locs hP hD hS hg => ?_)
  refine lv_aload_n hx hb xd_C_reset_59 rfl (lv_at hl 0 rfl) ?_
  refine lv_iconst (v := 0) hx hb xd_C_reset_60 (by decide) ?_
  refine xput_C_interrupts (v := (0 : Int32)) hx hb htg hown hK hP hD hS hg (htg _ xw_221) xd_C_reset_61 (fun H locs hP hD hS hg => ?_)
  exact hret ((xs_C_interrupts (xs_C_trapsToVs (xs_C_trapsToS (xs_C_off (xs_C_mode (xs_C_pc (xs_C_consoleSize q5 (0 : Int32)) (0 : Int32)) (1 : Int32)) false) (0 : Int32)) (0 : Int32)) (0 : Int32)), g) H locs ls _ ⟨(by unfold xf_C_reset; exact (xlt_e hq2 (xlt_e hq4 (xlt_e hq5 rfl)))), hg⟩ hP hD hS xd_C_reset_64

noncomputable def xf_C_put (u : XH) (p0 : Int32) (p1 : Int32) : XH :=
  xlt (if p0 = 0 then (u) else ((xs_x u (upd (xg_x u) p0.toNatClampNeg p1))) : XH) fun v2 =>
  v2
set_option maxHeartbeats 4000000 in
set_option maxRecDepth 100000 in
theorem c_C_put (l : Launch) (D : va_G) (z : (Nat → Nat) × (Nat → Nat)) (k : ClassId × ClassId) (a : Nat → Nat) (g : XG) (sz : Nat) (u : XH) (hg : xok k g u) (p0 : Int32) (p1 : Int32) (hi0 : vp_in p0 32) : Met l xy_C_put (xk_C_put :: lw_g) { frames := 0, cells := 0, slots := 0, locals := 0 } (va_Pc [.ref ((a 1)), .int p0, .int p1] (xB D (xTy k) z sz (xWH k a g u))) (va_Qv (fun q : XH × XG => q.1 = xf_C_put u p0 p1 ∧ xok k q.2 q.1) (fun q t => xQ D (xTy k) (xWH k a q.2 q.1) (va_A (xWH k a g u) sz) t) (va_A (xWH k a g u) sz)) 0 0 (va_A (xWH k a g u) sz) := by
  refine xopen_v (wf := fun q : XH × XG => xWH k a q.2 q.1) (lv := [(0, .ref ((a 1))), (1, .int p0), (2, .int p1)]) (by decide) rfl (Nat.le_of_ble_eq_true rfl) ?_
  intro p e s m args below meth c Q ls A H locs hx hb hml htg hown hin hK hP hD hE hS hA hl hret
  refine lv_iload_n hx hb xd_C_put_0 rfl (lv_at hl 1 rfl) ?_
  have hj3 : ∀ (H : Heap) (locs : List Loc) (ls : Array Slot) (g : XG) (v2 : XH), v2 = (if p0 = 0 then (u) else ((xs_x u (upd (xg_x u) p0.toNatClampNeg p1)))) → xok k g v2 → lv_has ls 3 [(0, .ref ((a 1))), (1, .int p0), (2, .int p1)] → va_P D xCl (xWH k a g v2) H → va_D A (xWH k a g v2) → va_S A s.heap H locs → W p l e { frames := 0, cells := 0, slots := 0, locals := 0 } s m args below meth c H locs (0) (0) Q (F0 m 11 ls []) := by
    intro H locs ls g v2 hv2 hg hl hP hD hS
    exact hret (v2, g) H locs ls _ ⟨(by unfold xf_C_put; exact (xlt_e hv2 rfl)), hg⟩ hP hD hS xd_C_put_11
  refine lv_if_eq (tgt := 11) hx hb xd_C_put_1 rfl (fun h4 => ?_) (fun h4 => ?_)
  · exact hj3 H locs ls g u (xit h4 rfl) hg hl hP hD hS
  · refine lv_aload_n hx hb xd_C_put_4 rfl (lv_at hl 0 rfl) ?_
    refine xget_C_x hx hb htg hown hK hP (htg _ xw_199) xd_C_put_5 ?_
    refine lv_iload_n hx hb xd_C_put_8 rfl (lv_at hl 1 rfl) ?_
    refine lv_iload_n hx hb xd_C_put_9 rfl (lv_at hl 2 rfl) ?_
    refine xast_x (f := (xg_x u)) hx hb hK hP hD hS hg hi0 rfl xd_C_put_10 (fun H locs hP hD hS hg => ?_)
    exact hj3 H locs ls g (xs_x u (upd (xg_x u) p0.toNatClampNeg p1)) (xif h4 rfl) hg hl hP hD hS
theorem xm_C_put (u : XH) (p0 : Int32) (p1 : Int32) : XEs (xcH u) (xf_C_put u p0 p1) := by unfold xf_C_put; exact (xlt_Es (fun v2 hv2 => (XEs_of hv2 (xit_Es rfl (xcH_x.trans rfl)))))

noncomputable def xf_C_interrupted (u : XH) : Int32 × XH :=
  xlt (xf_K_dueForS u (xg_C_mode u) : Int32) fun q1 =>
  if q1 = (-1) then
    xlt (xf_K_dueForVs u (xg_C_mode u) : Int32) fun q3 =>
    if q3 = (-1) then
      (0, u)
    else
      xlt (xf_P_raise u ((-2147483648 : Int32) ||| (q3 - (1 : Int32))) (0 : Int32) : XH) fun q5 =>
      (1, (xs_P_interruptForVs q5 true))
  else
    xlt (xf_P_raise u ((-2147483648 : Int32) ||| q1) (0 : Int32) : XH) fun q6 =>
    (1, q6)
set_option maxHeartbeats 4000000 in
set_option maxRecDepth 100000 in
theorem c_C_interrupted (l : Launch) (D : va_G) (z : (Nat → Nat) × (Nat → Nat)) (k : ClassId × ClassId) (a : Nat → Nat) (g : XG) (sz : Nat) (u : XH) (hg : xok k g u) : Met l xy_C_interrupted (xk_C_interrupted :: lw_g) { frames := 2, cells := 0, slots := 0, locals := 43 } (va_Pc [.ref ((a 1))] (xB D (xTy k) z sz (xWH k a g u))) (va_Qi (fun r (q : XH × XG) => (r, q.1) = xf_C_interrupted u ∧ xok k q.2 q.1) (fun q t => xQ D (xTy k) (xWH k a q.2 q.1) (va_A (xWH k a g u) sz) t) (va_A (xWH k a g u) sz)) 0 0 (va_A (xWH k a g u) sz) := by
  refine xopen_z (wf := fun q : XH × XG => xWH k a q.2 q.1) (lv := [(0, .ref ((a 1)))]) (by decide) rfl (Nat.le_of_ble_eq_true rfl) ?_
  intro p e s m args below meth c Q ls A H locs hx hb hml htg hown hin hK hP hD hE hS hA hl hret
  refine lv_aload_n hx hb xd_C_interrupted_0 rfl (lv_at hl 0 rfl) ?_
  refine xget_C_controls hx hb htg hown hK hP (htg _ xw_206) xd_C_interrupted_1 ?_
  refine lv_aload_n hx hb xd_C_interrupted_4 rfl (lv_at hl 0 rfl) ?_
  refine xget_C_mode (v := (xg_C_mode u)) hx hb htg hown hK hP (htg _ xw_213) rfl xd_C_interrupted_5 ?_
  refine xcW_i (va_runV (As := [.int ((xg_C_mode u))]) (rest := []) ⟨hx, hb, hml, hown, htg⟩ (c_K_dueForS l D z k a g H.size u hg (xg_C_mode u)) (cwV 1 htg (xg_V0 xkin_K_dueForS xw_401 xw_402 xsel_K_dueForS xw_5) rfl rfl rfl (by decide +kernel) ⟨Nat.le_of_ble_eq_true rfl, Nat.le_of_ble_eq_true rfl⟩) ⟨xB_blind, xrecv_K hK hP, fun U hU hW => xB_mk hP hK hD hE hS (xsubW hD hA hS) hU hW⟩ rfl rfl hl.1 rfl (lv_room (Nat.le_of_ble_eq_true rfl)) xd_C_interrupted_8 ⟨Nat.le_of_ble_eq_true rfl, Nat.le_of_ble_eq_true rfl⟩) hD hA hS (fun r w1 H locs hw hP hD hS => ?_)
  obtain ⟨u1, g⟩ := w1
  obtain ⟨q1, hq1⟩ : ∃ q, q = xf_K_dueForS u (xg_C_mode u) := ⟨_, rfl⟩
  obtain ⟨e1, e2, hg⟩ := hw
  rw [← hq1] at e1
  obtain rfl : q1 = r := e1.symm
  obtain rfl : u = u1 := e2.symm
  have hP : va_P D xCl (xWH k a g u) H := hP
  have hD : va_D A (xWH k a g u) := hD
  have hg : xok k g u := hg
  refine lv_istore_n (lv' := [(1, .int q1), (0, .ref ((a 1)))]) hx hb xd_C_interrupted_11 rfl hl (by decide) rfl (fun ls hl => ?_)
  refine lv_iload_n hx hb xd_C_interrupted_12 rfl (lv_at hl 0 rfl) ?_
  refine lv_iconst (v := (-1)) hx hb xd_C_interrupted_13 (by decide) ?_
  refine lv_icmp_eq (tgt := 31) hx hb xd_C_interrupted_14 rfl (fun h2 => ?_) (fun h2 => ?_)
  · refine lv_aload_n hx hb xd_C_interrupted_31 rfl (lv_at hl 1 rfl) ?_
    refine xget_C_controls hx hb htg hown hK hP (htg _ xw_206) xd_C_interrupted_32 ?_
    refine lv_aload_n hx hb xd_C_interrupted_35 rfl (lv_at hl 1 rfl) ?_
    refine xget_C_mode (v := (xg_C_mode u)) hx hb htg hown hK hP (htg _ xw_213) rfl xd_C_interrupted_36 ?_
    refine xcW_i (va_runV (As := [.int ((xg_C_mode u))]) (rest := []) ⟨hx, hb, hml, hown, htg⟩ (c_K_dueForVs l D z k a g H.size u hg (xg_C_mode u)) (cwV 1 htg (xg_V0 xkin_K_dueForVs xw_415 xw_416 xsel_K_dueForVs xw_5) rfl rfl rfl (by decide +kernel) ⟨Nat.le_of_ble_eq_true rfl, Nat.le_of_ble_eq_true rfl⟩) ⟨xB_blind, xrecv_K hK hP, fun U hU hW => xB_mk hP hK hD hE hS (xsubW hD hA hS) hU hW⟩ rfl rfl hl.1 rfl (lv_room (Nat.le_of_ble_eq_true rfl)) xd_C_interrupted_39 ⟨Nat.le_of_ble_eq_true rfl, Nat.le_of_ble_eq_true rfl⟩) hD hA hS (fun r w1 H locs hw hP hD hS => ?_)
    obtain ⟨u1, g⟩ := w1
    obtain ⟨q3, hq3⟩ : ∃ q, q = xf_K_dueForVs u (xg_C_mode u) := ⟨_, rfl⟩
    obtain ⟨e1, e2, hg⟩ := hw
    rw [← hq3] at e1
    obtain rfl : q3 = r := e1.symm
    obtain rfl : u = u1 := e2.symm
    have hP : va_P D xCl (xWH k a g u) H := hP
    have hD : va_D A (xWH k a g u) := hD
    have hg : xok k g u := hg
    refine lv_istore_n (lv' := [(2, .int q3), (1, .int q1), (0, .ref ((a 1)))]) hx hb xd_C_interrupted_42 rfl hl (by decide) rfl (fun ls hl => ?_)
    refine lv_iload_n hx hb xd_C_interrupted_43 rfl (lv_at hl 0 rfl) ?_
    refine lv_iconst (v := (-1)) hx hb xd_C_interrupted_44 (by decide) ?_
    refine lv_icmp_eq (tgt := 72) hx hb xd_C_interrupted_45 rfl (fun h4 => ?_) (fun h4 => ?_)
    · refine lv_iconst (v := 0) hx hb xd_C_interrupted_72 (by decide) ?_
      exact hret _ (u, g) H locs ls _ rfl ⟨(by unfold xf_C_interrupted; exact (xlt_e hq1 (xit h2 (xlt_e hq3 (xit h4 rfl))))), hg⟩ hP hD hS xd_C_interrupted_73
    · refine lv_aload_n hx hb xd_C_interrupted_48 rfl (lv_at hl 2 rfl) ?_
      refine xget_C_trap hx hb htg hown hK hP (htg _ xw_208) xd_C_interrupted_49 ?_
      refine lv_ldc (v := (-2147483648)) hx hb hown (htg _ xw_410) xd_C_interrupted_52 ?_
      refine lv_iload_n hx hb xd_C_interrupted_54 rfl (lv_at hl 0 rfl) ?_
      refine lv_iconst (v := 1) hx hb xd_C_interrupted_55 (by decide) ?_
      refine lv_isub hx hb xd_C_interrupted_56 ?_
      refine lv_ior hx hb xd_C_interrupted_57 ?_
      refine lv_iconst (v := 0) hx hb xd_C_interrupted_58 (by decide) ?_
      refine xcW_v (va_runV (As := [.int (((-2147483648 : Int32) ||| (q3 - (1 : Int32)))), .int 0]) (rest := []) ⟨hx, hb, hml, hown, htg⟩ (c_P_raise l D z k a g H.size u hg ((-2147483648 : Int32) ||| (q3 - (1 : Int32))) (0 : Int32)) (cwV 2 htg (xg_V0 xkin_P_raise xw_411 xw_412 xsel_P_raise xw_7) rfl rfl rfl (by decide +kernel) ⟨Nat.le_of_ble_eq_true rfl, Nat.le_of_ble_eq_true rfl⟩) ⟨xB_blind, xrecv_P hK hP, fun U hU hW => xB_mk hP hK hD hE hS (xsubW hD hA hS) hU hW⟩ rfl rfl hl.1 rfl (lv_room (Nat.le_of_ble_eq_true rfl)) xd_C_interrupted_59 ⟨Nat.le_of_ble_eq_true rfl, Nat.le_of_ble_eq_true rfl⟩) hD hA hS (fun w1 H locs hw hP hD hS => ?_)
      obtain ⟨u1, g⟩ := w1
      obtain ⟨q5, hq5⟩ : ∃ q, q = xf_P_raise u ((-2147483648 : Int32) ||| (q3 - (1 : Int32))) (0 : Int32) := ⟨_, rfl⟩
      obtain ⟨e2, hg⟩ := hw
      rw [← hq5] at e2
      obtain rfl : q5 = u1 := e2.symm
      have hP : va_P D xCl (xWH k a g q5) H := hP
      have hD : va_D A (xWH k a g q5) := hD
      have hg : xok k g q5 := hg
      refine lv_aload_n hx hb xd_C_interrupted_62 rfl (lv_at hl 2 rfl) ?_
      refine xget_C_trap hx hb htg hown hK hP (htg _ xw_208) xd_C_interrupted_63 ?_
      refine lv_iconst (v := 1) hx hb xd_C_interrupted_66 (by decide) ?_
      refine xput_P_interruptForVs (v := true) hx hb htg hown hK hP hD hS hg (htg _ xw_172) xd_C_interrupted_67 (fun H locs hP hD hS hg => ?_)
      refine lv_iconst (v := 1) hx hb xd_C_interrupted_70 (by decide) ?_
      exact hret _ ((xs_P_interruptForVs q5 true), g) H locs ls _ rfl ⟨(by unfold xf_C_interrupted; exact (xlt_e hq1 (xit h2 (xlt_e hq3 (xif h4 (xlt_e hq5 rfl)))))), hg⟩ hP hD hS xd_C_interrupted_71
  · refine lv_aload_n hx hb xd_C_interrupted_17 rfl (lv_at hl 1 rfl) ?_
    refine xget_C_trap hx hb htg hown hK hP (htg _ xw_208) xd_C_interrupted_18 ?_
    refine lv_ldc (v := (-2147483648)) hx hb hown (htg _ xw_410) xd_C_interrupted_21 ?_
    refine lv_iload_n hx hb xd_C_interrupted_23 rfl (lv_at hl 0 rfl) ?_
    refine lv_ior hx hb xd_C_interrupted_24 ?_
    refine lv_iconst (v := 0) hx hb xd_C_interrupted_25 (by decide) ?_
    refine xcW_v (va_runV (As := [.int (((-2147483648 : Int32) ||| q1)), .int 0]) (rest := []) ⟨hx, hb, hml, hown, htg⟩ (c_P_raise l D z k a g H.size u hg ((-2147483648 : Int32) ||| q1) (0 : Int32)) (cwV 2 htg (xg_V0 xkin_P_raise xw_411 xw_412 xsel_P_raise xw_7) rfl rfl rfl (by decide +kernel) ⟨Nat.le_of_ble_eq_true rfl, Nat.le_of_ble_eq_true rfl⟩) ⟨xB_blind, xrecv_P hK hP, fun U hU hW => xB_mk hP hK hD hE hS (xsubW hD hA hS) hU hW⟩ rfl rfl hl.1 rfl (lv_room (Nat.le_of_ble_eq_true rfl)) xd_C_interrupted_26 ⟨Nat.le_of_ble_eq_true rfl, Nat.le_of_ble_eq_true rfl⟩) hD hA hS (fun w1 H locs hw hP hD hS => ?_)
    obtain ⟨u1, g⟩ := w1
    obtain ⟨q6, hq6⟩ : ∃ q, q = xf_P_raise u ((-2147483648 : Int32) ||| q1) (0 : Int32) := ⟨_, rfl⟩
    obtain ⟨e2, hg⟩ := hw
    rw [← hq6] at e2
    obtain rfl : q6 = u1 := e2.symm
    have hP : va_P D xCl (xWH k a g q6) H := hP
    have hD : va_D A (xWH k a g q6) := hD
    have hg : xok k g q6 := hg
    refine lv_iconst (v := 1) hx hb xd_C_interrupted_29 (by decide) ?_
    exact hret _ (q6, g) H locs ls _ rfl ⟨(by unfold xf_C_interrupted; exact (xlt_e hq1 (xif h2 (xlt_e hq6 rfl)))), hg⟩ hP hD hS xd_C_interrupted_30
theorem xm_C_interrupted (u : XH) : XE (xcH u) (xf_C_interrupted u) := by unfold xf_C_interrupted; exact (xlt_E (fun q1 hq1 => (xit_E (xlt_E (fun q3 hq3 => (xit_E rfl (xlt_E (fun q5 hq5 => (xcH_P_interruptForVs.trans ((XEs_of hq5 (xm_P_raise u ((-2147483648 : Int32) ||| (q3 - (1 : Int32))) (0 : Int32))).trans rfl))))))) (xlt_E (fun q6 hq6 => ((XEs_of hq6 (xm_P_raise u ((-2147483648 : Int32) ||| q1) (0 : Int32))).trans rfl))))))
theorem xt01_C_interrupted (u : XH) : X01p (xf_C_interrupted u) := by unfold xf_C_interrupted; exact (xlt_01p (fun q1 hq1 => (xit_01p (xlt_01p (fun q3 hq3 => (xit_01p (Or.inl rfl) (xlt_01p (fun q5 hq5 => (Or.inr rfl)))))) (xlt_01p (fun q6 hq6 => (Or.inr rfl))))))

noncomputable def xf_C_takeTrap (u : XH) : XH :=
  xlt (xf_H_isSupervisor (xg_C_mode u) : Int32) fun r1 =>
  xlt (if 0 ≤ (xg_P_cause u) then (u) else ((xs_C_interrupts u ((xg_C_interrupts u) + (1 : Int32)))) : XH) fun v3 =>
  xlt (xf_P_goesToVs v3 (xg_C_mode v3) (xg_K_hedeleg v3) : Int32) fun q5 =>
  xlt (if q5 = 0 then (xlt (xf_K_noteTrap (xs_C_trapsToS v3 ((xg_C_trapsToS v3) + (1 : Int32))) (xg_C_mode (xs_C_trapsToS v3 ((xg_C_trapsToS v3) + (1 : Int32)))) : XH) fun q7 => xlt (xf_B_enter (xg_S q7) (xg_C_pc q7) (xg_P_cause q7) (xg_P_tval q7) r1 : Int32 × XB) fun q8 => (xs_C_mode (xs_C_pc (xs_S q7 q8.2) q8.1) (1 : Int32))) else (xlt (xf_B_enter (xg_V (xs_C_trapsToVs v3 ((xg_C_trapsToVs v3) + (1 : Int32)))) (xg_C_pc (xs_C_trapsToVs v3 ((xg_C_trapsToVs v3) + (1 : Int32)))) (xg_P_cause (xs_C_trapsToVs v3 ((xg_C_trapsToVs v3) + (1 : Int32)))) (xg_P_tval (xs_C_trapsToVs v3 ((xg_C_trapsToVs v3) + (1 : Int32)))) r1 : Int32 × XB) fun q9 => (xs_C_mode (xs_C_pc (xs_V (xs_C_trapsToVs v3 ((xg_C_trapsToVs v3) + (1 : Int32))) q9.2) q9.1) (3 : Int32))) : XH) fun v10 =>
  v10
set_option maxHeartbeats 4000000 in
set_option maxRecDepth 100000 in
theorem c_C_takeTrap (l : Launch) (D : va_G) (z : (Nat → Nat) × (Nat → Nat)) (k : ClassId × ClassId) (a : Nat → Nat) (g : XG) (sz : Nat) (u : XH) (hg : xok k g u) : Met l xy_C_takeTrap (xk_C_takeTrap :: lw_g) { frames := 2, cells := 0, slots := 0, locals := 42 } (va_Pc [.ref ((a 1))] (xB D (xTy k) z sz (xWH k a g u))) (va_Qv (fun q : XH × XG => q.1 = xf_C_takeTrap u ∧ xok k q.2 q.1) (fun q t => xQ D (xTy k) (xWH k a q.2 q.1) (va_A (xWH k a g u) sz) t) (va_A (xWH k a g u) sz)) 0 0 (va_A (xWH k a g u) sz) := by
  refine xopen_v (wf := fun q : XH × XG => xWH k a q.2 q.1) (lv := [(0, .ref ((a 1)))]) (by decide) rfl (Nat.le_of_ble_eq_true rfl) ?_
  intro p e s m args below meth c Q ls A H locs hx hb hml htg hown hin hK hP hD hE hS hA hl hret
  refine lv_aload_n hx hb xd_C_takeTrap_0 rfl (lv_at hl 0 rfl) ?_
  refine xget_C_mode (v := (xg_C_mode u)) hx hb htg hown hK hP (htg _ xw_213) rfl xd_C_takeTrap_1 ?_
  refine xc0_i (va_runSN (As := [.int ((xg_C_mode u))]) (rest := []) ⟨hx, hb, hml, hown, htg⟩ (c_H_isSupervisor l D (xTy k) z H.size (xg_C_mode u)) ⟨va_cnB (host := "HyperHost") 1 htg (xg_C0 xkin_H_isSupervisor) rfl rfl rfl (xnest hE (by decide +kernel)) (htg _ xw_1) (by decide +kernel) ⟨Nat.le_of_ble_eq_true rfl, Nat.le_of_ble_eq_true rfl⟩, htg _ xw_437, trivial⟩ ⟨xB_blind, fun U hU hW => xB_mk va_P0 hK va_D0 hE hS (xsub0 hA hS) hU hW⟩ rfl rfl hl.1 rfl (lv_room (Nat.le_of_ble_eq_true rfl)) xd_C_takeTrap_4 ⟨Nat.le_of_ble_eq_true rfl, Nat.le_of_ble_eq_true rfl⟩) hP hA hS (fun r1 H locs hr1 hP hS => ?_)
  refine lv_istore_n (lv' := [(1, .int r1), (0, .ref ((a 1)))]) hx hb xd_C_takeTrap_7 rfl hl (by decide) rfl (fun ls hl => ?_)
  refine lv_aload_n hx hb xd_C_takeTrap_8 rfl (lv_at hl 1 rfl) ?_
  refine xget_C_trap hx hb htg hown hK hP (htg _ xw_208) xd_C_takeTrap_9 ?_
  refine xget_P_cause (v := (xg_P_cause u)) hx hb htg hown hK hP (htg _ xw_159) rfl xd_C_takeTrap_12 ?_
  have hj4 : ∀ (H : Heap) (locs : List Loc) (ls : Array Slot) (g : XG) (v3 : XH), v3 = (if 0 ≤ (xg_P_cause u) then (u) else ((xs_C_interrupts u ((xg_C_interrupts u) + (1 : Int32))))) → xok k g v3 → lv_has ls 2 [(1, .int r1), (0, .ref ((a 1)))] → va_P D xCl (xWH k a g v3) H → va_D A (xWH k a g v3) → va_S A s.heap H locs → W p l e { frames := 2, cells := 0, slots := 0, locals := 42 } s m args below meth c H locs (0) (0) Q (F0 m 28 ls []) := by
    intro H locs ls g v3 hv3 hg hl hP hD hS
    refine lv_aload_n hx hb xd_C_takeTrap_28 rfl (lv_at hl 1 rfl) ?_
    refine xget_C_trap hx hb htg hown hK hP (htg _ xw_208) xd_C_takeTrap_29 ?_
    refine lv_aload_n hx hb xd_C_takeTrap_32 rfl (lv_at hl 1 rfl) ?_
    refine xget_C_mode (v := (xg_C_mode v3)) hx hb htg hown hK hP (htg _ xw_213) rfl xd_C_takeTrap_33 ?_
    refine lv_aload_n hx hb xd_C_takeTrap_36 rfl (lv_at hl 1 rfl) ?_
    refine xget_C_controls hx hb htg hown hK hP (htg _ xw_206) xd_C_takeTrap_37 ?_
    refine xget_K_hedeleg (v := (xg_K_hedeleg v3)) hx hb htg hown hK hP (htg _ xw_109) rfl xd_C_takeTrap_40 ?_
    refine xcW_i (va_runV (As := [.int ((xg_C_mode v3)), .int ((xg_K_hedeleg v3))]) (rest := []) ⟨hx, hb, hml, hown, htg⟩ (c_P_goesToVs l D z k a g H.size v3 hg (xg_C_mode v3) (xg_K_hedeleg v3)) (cwV 2 htg (xg_V0 xkin_P_goesToVs xw_682 xw_683 xsel_P_goesToVs xw_7) rfl rfl rfl (by decide +kernel) ⟨Nat.le_of_ble_eq_true rfl, Nat.le_of_ble_eq_true rfl⟩) ⟨xB_blind, xrecv_P hK hP, fun U hU hW => xB_mk hP hK hD hE hS (xsubW hD hA hS) hU hW⟩ rfl rfl hl.1 rfl (lv_room (Nat.le_of_ble_eq_true rfl)) xd_C_takeTrap_43 ⟨Nat.le_of_ble_eq_true rfl, Nat.le_of_ble_eq_true rfl⟩) hD hA hS (fun r w1 H locs hw hP hD hS => ?_)
    obtain ⟨u1, g⟩ := w1
    obtain ⟨q5, hq5⟩ : ∃ q, q = xf_P_goesToVs v3 (xg_C_mode v3) (xg_K_hedeleg v3) := ⟨_, rfl⟩
    obtain ⟨e1, e2, hg⟩ := hw
    rw [← hq5] at e1
    obtain rfl : q5 = r := e1.symm
    obtain rfl : v3 = u1 := e2.symm
    have hP : va_P D xCl (xWH k a g v3) H := hP
    have hD : va_D A (xWH k a g v3) := hD
    have hg : xok k g v3 := hg
    have hj11 : ∀ (H : Heap) (locs : List Loc) (ls : Array Slot) (g : XG) (v10 : XH), v10 = (if q5 = 0 then (xlt (xf_K_noteTrap (xs_C_trapsToS v3 ((xg_C_trapsToS v3) + (1 : Int32))) (xg_C_mode (xs_C_trapsToS v3 ((xg_C_trapsToS v3) + (1 : Int32)))) : XH) fun q7 => xlt (xf_B_enter (xg_S q7) (xg_C_pc q7) (xg_P_cause q7) (xg_P_tval q7) r1 : Int32 × XB) fun q8 => (xs_C_mode (xs_C_pc (xs_S q7 q8.2) q8.1) (1 : Int32))) else (xlt (xf_B_enter (xg_V (xs_C_trapsToVs v3 ((xg_C_trapsToVs v3) + (1 : Int32)))) (xg_C_pc (xs_C_trapsToVs v3 ((xg_C_trapsToVs v3) + (1 : Int32)))) (xg_P_cause (xs_C_trapsToVs v3 ((xg_C_trapsToVs v3) + (1 : Int32)))) (xg_P_tval (xs_C_trapsToVs v3 ((xg_C_trapsToVs v3) + (1 : Int32)))) r1 : Int32 × XB) fun q9 => (xs_C_mode (xs_C_pc (xs_V (xs_C_trapsToVs v3 ((xg_C_trapsToVs v3) + (1 : Int32))) q9.2) q9.1) (3 : Int32)))) → xok k g v10 → lv_has ls 2 [(1, .int r1), (0, .ref ((a 1)))] → va_P D xCl (xWH k a g v10) H → va_D A (xWH k a g v10) → va_S A s.heap H locs → W p l e { frames := 2, cells := 0, slots := 0, locals := 42 } s m args below meth c H locs (0) (0) Q (F0 m 163 ls []) := by
      intro H locs ls g v10 hv10 hg hl hP hD hS
      exact hret (v10, g) H locs ls _ ⟨(by unfold xf_C_takeTrap; exact (xlt_e hr1 (xlt_e hv3 (xlt_e hq5 (xlt_e hv10 rfl))))), hg⟩ hP hD hS xd_C_takeTrap_163
    refine lv_if_eq (tgt := 100) hx hb xd_C_takeTrap_46 rfl (fun h12 => ?_) (fun h12 => ?_)
    · refine lv_aload_n hx hb xd_C_takeTrap_100 rfl (lv_at hl 1 rfl) ?_
      refine lv_dup hx hb xd_C_takeTrap_101 rfl ?_
      refine xget_C_trapsToS (v := (xg_C_trapsToS v3)) hx hb htg hown hK hP (htg _ xw_217) rfl xd_C_takeTrap_102 ?_
      refine lv_iconst (v := 1) hx hb xd_C_takeTrap_105 (by decide) ?_
      refine lv_iadd hx hb xd_C_takeTrap_106 ?_
      refine xput_C_trapsToS (v := ((xg_C_trapsToS v3) + (1 : Int32))) hx hb htg hown hK hP hD hS hg (htg _ xw_217) xd_C_takeTrap_107 (fun H locs hP hD hS hg => ?_)
      refine lv_aload_n hx hb xd_C_takeTrap_110 rfl (lv_at hl 1 rfl) ?_
      refine xget_C_controls hx hb htg hown hK hP (htg _ xw_206) xd_C_takeTrap_111 ?_
      refine lv_aload_n hx hb xd_C_takeTrap_114 rfl (lv_at hl 1 rfl) ?_
      refine xget_C_trap hx hb htg hown hK hP (htg _ xw_208) xd_C_takeTrap_115 ?_
      refine lv_aload_n hx hb xd_C_takeTrap_118 rfl (lv_at hl 1 rfl) ?_
      refine xget_C_mode (v := (xg_C_mode (xs_C_trapsToS v3 ((xg_C_trapsToS v3) + (1 : Int32))))) hx hb htg hown hK hP (htg _ xw_213) rfl xd_C_takeTrap_119 ?_
      refine xcW_v (va_runV (As := [.ref ((a 7)), .int ((xg_C_mode (xs_C_trapsToS v3 ((xg_C_trapsToS v3) + (1 : Int32)))))]) (rest := []) ⟨hx, hb, hml, hown, htg⟩ (c_K_noteTrap l D z k a g H.size (xs_C_trapsToS v3 ((xg_C_trapsToS v3) + (1 : Int32))) hg (xg_C_mode (xs_C_trapsToS v3 ((xg_C_trapsToS v3) + (1 : Int32))))) (cwV 2 htg (xg_V0 xkin_K_noteTrap xw_692 xw_693 xsel_K_noteTrap xw_5) rfl rfl rfl (by decide +kernel) ⟨Nat.le_of_ble_eq_true rfl, Nat.le_of_ble_eq_true rfl⟩) ⟨xB_blind, xrecv_K hK hP, fun U hU hW => xB_mk hP hK hD hE hS (xsubW hD hA hS) hU hW⟩ rfl rfl hl.1 rfl (lv_room (Nat.le_of_ble_eq_true rfl)) xd_C_takeTrap_122 ⟨Nat.le_of_ble_eq_true rfl, Nat.le_of_ble_eq_true rfl⟩) hD hA hS (fun w1 H locs hw hP hD hS => ?_)
      obtain ⟨u1, g⟩ := w1
      obtain ⟨q13, hq13⟩ : ∃ q, q = xf_K_noteTrap (xs_C_trapsToS v3 ((xg_C_trapsToS v3) + (1 : Int32))) (xg_C_mode (xs_C_trapsToS v3 ((xg_C_trapsToS v3) + (1 : Int32)))) := ⟨_, rfl⟩
      obtain ⟨e2, hg⟩ := hw
      rw [← hq13] at e2
      obtain rfl : q13 = u1 := e2.symm
      have hP : va_P D xCl (xWH k a g q13) H := hP
      have hD : va_D A (xWH k a g q13) := hD
      have hg : xok k g q13 := hg
      refine lv_aload_n hx hb xd_C_takeTrap_125 rfl (lv_at hl 1 rfl) ?_
      refine lv_aload_n hx hb xd_C_takeTrap_126 rfl (lv_at hl 1 rfl) ?_
      refine xget_C_controls hx hb htg hown hK hP (htg _ xw_206) xd_C_takeTrap_127 ?_
      refine xget_K_s hx hb htg hown hK hP (htg _ xw_102) xd_C_takeTrap_130 ?_
      refine lv_aload_n hx hb xd_C_takeTrap_133 rfl (lv_at hl 1 rfl) ?_
      refine xget_C_pc (v := (xg_C_pc q13)) hx hb htg hown hK hP (htg _ xw_211) rfl xd_C_takeTrap_134 ?_
      refine lv_aload_n hx hb xd_C_takeTrap_137 rfl (lv_at hl 1 rfl) ?_
      refine xget_C_trap hx hb htg hown hK hP (htg _ xw_208) xd_C_takeTrap_138 ?_
      refine xget_P_cause (v := (xg_P_cause q13)) hx hb htg hown hK hP (htg _ xw_159) rfl xd_C_takeTrap_141 ?_
      refine lv_aload_n hx hb xd_C_takeTrap_144 rfl (lv_at hl 1 rfl) ?_
      refine xget_C_trap hx hb htg hown hK hP (htg _ xw_208) xd_C_takeTrap_145 ?_
      refine xget_P_tval (v := (xg_P_tval q13)) hx hb htg hown hK hP (htg _ xw_161) rfl xd_C_takeTrap_148 ?_
      refine lv_iload_n hx hb xd_C_takeTrap_151 rfl (lv_at hl 0 rfl) ?_
      refine xcb_S_i (b0 := (xg_S q13)) rfl (va_runV (As := [.int ((xg_C_pc q13)), .int ((xg_P_cause q13)), .int ((xg_P_tval q13)), .int r1]) (rest := [.ref ((a 1))]) ⟨hx, hb, hml, hown, htg⟩ (c_B_enter l D (xTy k) z H.size (a 5) (xg_S q13) (xg_C_pc q13) (xg_P_cause q13) (xg_P_tval q13) r1) (cwV 4 htg (xg_V0 xkin_B_enter xw_687 xw_688 xsel_B_enter xw_6) rfl rfl rfl (by decide +kernel) ⟨Nat.le_of_ble_eq_true rfl, Nat.le_of_ble_eq_true rfl⟩) ⟨xB_blind, xrecv_S hK hP, fun U hU hW => xpre_S hP hK hD hE hS hA hU hW⟩ rfl rfl hl.1 rfl (lv_room (Nat.le_of_ble_eq_true rfl)) xd_C_takeTrap_152 ⟨Nat.le_of_ble_eq_true rfl, Nat.le_of_ble_eq_true rfl⟩) hP hD hA hS (fun r u1 H locs hw hP hD hS => ?_)
      obtain ⟨q14, hq14⟩ : ∃ q, q = xf_B_enter (xg_S q13) (xg_C_pc q13) (xg_P_cause q13) (xg_P_tval q13) r1 := ⟨_, rfl⟩
      rw [← hq14] at hw
      obtain rfl : r = q14.1 := congrArg Prod.fst hw
      obtain rfl : u1 = q14.2 := congrArg Prod.snd hw
      have hg := xok_S (b := q14.2) hg
      refine xput_C_pc (v := q14.1) hx hb htg hown hK hP hD hS hg (htg _ xw_211) xd_C_takeTrap_155 (fun H locs hP hD hS hg => ?_)
      refine lv_aload_n hx hb xd_C_takeTrap_158 rfl (lv_at hl 1 rfl) ?_
      refine lv_iconst (v := 1) hx hb xd_C_takeTrap_159 (by decide) ?_
      refine xput_C_mode (v := (1 : Int32)) hx hb htg hown hK hP hD hS hg (htg _ xw_213) xd_C_takeTrap_160 (fun H locs hP hD hS hg => ?_)
      exact hj11 H locs ls g (xs_C_mode (xs_C_pc (xs_S q13 q14.2) q14.1) (1 : Int32)) (xit h12 (xlt_e hq13 (xlt_e hq14 rfl))) hg hl hP hD hS
    · refine lv_aload_n hx hb xd_C_takeTrap_49 rfl (lv_at hl 1 rfl) ?_
      refine lv_dup hx hb xd_C_takeTrap_50 rfl ?_
      refine xget_C_trapsToVs (v := (xg_C_trapsToVs v3)) hx hb htg hown hK hP (htg _ xw_219) rfl xd_C_takeTrap_51 ?_
      refine lv_iconst (v := 1) hx hb xd_C_takeTrap_54 (by decide) ?_
      refine lv_iadd hx hb xd_C_takeTrap_55 ?_
      refine xput_C_trapsToVs (v := ((xg_C_trapsToVs v3) + (1 : Int32))) hx hb htg hown hK hP hD hS hg (htg _ xw_219) xd_C_takeTrap_56 (fun H locs hP hD hS hg => ?_)
      refine lv_aload_n hx hb xd_C_takeTrap_59 rfl (lv_at hl 1 rfl) ?_
      refine lv_aload_n hx hb xd_C_takeTrap_60 rfl (lv_at hl 1 rfl) ?_
      refine xget_C_controls hx hb htg hown hK hP (htg _ xw_206) xd_C_takeTrap_61 ?_
      refine xget_K_vs hx hb htg hown hK hP (htg _ xw_105) xd_C_takeTrap_64 ?_
      refine lv_aload_n hx hb xd_C_takeTrap_67 rfl (lv_at hl 1 rfl) ?_
      refine xget_C_pc (v := (xg_C_pc (xs_C_trapsToVs v3 ((xg_C_trapsToVs v3) + (1 : Int32))))) hx hb htg hown hK hP (htg _ xw_211) rfl xd_C_takeTrap_68 ?_
      refine lv_aload_n hx hb xd_C_takeTrap_71 rfl (lv_at hl 1 rfl) ?_
      refine xget_C_trap hx hb htg hown hK hP (htg _ xw_208) xd_C_takeTrap_72 ?_
      refine xget_P_cause (v := (xg_P_cause (xs_C_trapsToVs v3 ((xg_C_trapsToVs v3) + (1 : Int32))))) hx hb htg hown hK hP (htg _ xw_159) rfl xd_C_takeTrap_75 ?_
      refine lv_aload_n hx hb xd_C_takeTrap_78 rfl (lv_at hl 1 rfl) ?_
      refine xget_C_trap hx hb htg hown hK hP (htg _ xw_208) xd_C_takeTrap_79 ?_
      refine xget_P_tval (v := (xg_P_tval (xs_C_trapsToVs v3 ((xg_C_trapsToVs v3) + (1 : Int32))))) hx hb htg hown hK hP (htg _ xw_161) rfl xd_C_takeTrap_82 ?_
      refine lv_iload_n hx hb xd_C_takeTrap_85 rfl (lv_at hl 0 rfl) ?_
      refine xcb_V_i (b0 := (xg_V (xs_C_trapsToVs v3 ((xg_C_trapsToVs v3) + (1 : Int32))))) rfl (va_runV (As := [.int ((xg_C_pc (xs_C_trapsToVs v3 ((xg_C_trapsToVs v3) + (1 : Int32))))), .int ((xg_P_cause (xs_C_trapsToVs v3 ((xg_C_trapsToVs v3) + (1 : Int32))))), .int ((xg_P_tval (xs_C_trapsToVs v3 ((xg_C_trapsToVs v3) + (1 : Int32))))), .int r1]) (rest := [.ref ((a 1))]) ⟨hx, hb, hml, hown, htg⟩ (c_B_enter l D (xTy k) z H.size (a 6) (xg_V (xs_C_trapsToVs v3 ((xg_C_trapsToVs v3) + (1 : Int32)))) (xg_C_pc (xs_C_trapsToVs v3 ((xg_C_trapsToVs v3) + (1 : Int32)))) (xg_P_cause (xs_C_trapsToVs v3 ((xg_C_trapsToVs v3) + (1 : Int32)))) (xg_P_tval (xs_C_trapsToVs v3 ((xg_C_trapsToVs v3) + (1 : Int32)))) r1) (cwV 4 htg (xg_V0 xkin_B_enter xw_687 xw_688 xsel_B_enter xw_6) rfl rfl rfl (by decide +kernel) ⟨Nat.le_of_ble_eq_true rfl, Nat.le_of_ble_eq_true rfl⟩) ⟨xB_blind, xrecv_V hK hP, fun U hU hW => xpre_V hP hK hD hE hS hA hU hW⟩ rfl rfl hl.1 rfl (lv_room (Nat.le_of_ble_eq_true rfl)) xd_C_takeTrap_86 ⟨Nat.le_of_ble_eq_true rfl, Nat.le_of_ble_eq_true rfl⟩) hP hD hA hS (fun r u1 H locs hw hP hD hS => ?_)
      obtain ⟨q15, hq15⟩ : ∃ q, q = xf_B_enter (xg_V (xs_C_trapsToVs v3 ((xg_C_trapsToVs v3) + (1 : Int32)))) (xg_C_pc (xs_C_trapsToVs v3 ((xg_C_trapsToVs v3) + (1 : Int32)))) (xg_P_cause (xs_C_trapsToVs v3 ((xg_C_trapsToVs v3) + (1 : Int32)))) (xg_P_tval (xs_C_trapsToVs v3 ((xg_C_trapsToVs v3) + (1 : Int32)))) r1 := ⟨_, rfl⟩
      rw [← hq15] at hw
      obtain rfl : r = q15.1 := congrArg Prod.fst hw
      obtain rfl : u1 = q15.2 := congrArg Prod.snd hw
      have hg := xok_V (b := q15.2) hg
      refine xput_C_pc (v := q15.1) hx hb htg hown hK hP hD hS hg (htg _ xw_211) xd_C_takeTrap_89 (fun H locs hP hD hS hg => ?_)
      refine lv_aload_n hx hb xd_C_takeTrap_92 rfl (lv_at hl 1 rfl) ?_
      refine lv_iconst (v := 3) hx hb xd_C_takeTrap_93 (by decide) ?_
      refine xput_C_mode (v := (3 : Int32)) hx hb htg hown hK hP hD hS hg (htg _ xw_213) xd_C_takeTrap_94 (fun H locs hP hD hS hg => ?_)
      refine lv_goto (tgt := 163) hx hb xd_C_takeTrap_97 rfl ?_
      exact hj11 H locs ls g (xs_C_mode (xs_C_pc (xs_V (xs_C_trapsToVs v3 ((xg_C_trapsToVs v3) + (1 : Int32))) q15.2) q15.1) (3 : Int32)) (xif h12 (xlt_e hq15 rfl)) hg hl hP hD hS
  refine lv_if_ge (tgt := 28) hx hb xd_C_takeTrap_15 rfl (fun h16 => ?_) (fun h16 => ?_)
  · exact hj4 H locs ls g u (xit h16 rfl) hg hl hP hD hS
  · refine lv_aload_n hx hb xd_C_takeTrap_18 rfl (lv_at hl 1 rfl) ?_
    refine lv_dup hx hb xd_C_takeTrap_19 rfl ?_
    refine xget_C_interrupts (v := (xg_C_interrupts u)) hx hb htg hown hK hP (htg _ xw_221) rfl xd_C_takeTrap_20 ?_
    refine lv_iconst (v := 1) hx hb xd_C_takeTrap_23 (by decide) ?_
    refine lv_iadd hx hb xd_C_takeTrap_24 ?_
    refine xput_C_interrupts (v := ((xg_C_interrupts u) + (1 : Int32))) hx hb htg hown hK hP hD hS hg (htg _ xw_221) xd_C_takeTrap_25 (fun H locs hP hD hS hg => ?_)
    exact hj4 H locs ls g (xs_C_interrupts u ((xg_C_interrupts u) + (1 : Int32))) (xif h16 rfl) hg hl hP hD hS
theorem xm_C_takeTrap (u : XH) : XEs (xcH u) (xf_C_takeTrap u) := by unfold xf_C_takeTrap; exact (xlt_Es (fun r1 hr1 => (xlt_Es (fun v3 hv3 => (xlt_Es (fun q5 hq5 => (xlt_Es (fun v10 hv10 => (XEs_of hv10 (xit_Es (xlt_Es (fun q7 hq7 => (xlt_Es (fun q8 hq8 => (xcH_C_mode.trans (xcH_C_pc.trans (xcH_S.trans ((XEs_of hq7 (xm_K_noteTrap (xs_C_trapsToS v3 ((xg_C_trapsToS v3) + (1 : Int32))) (xg_C_mode (xs_C_trapsToS v3 ((xg_C_trapsToS v3) + (1 : Int32)))))).trans (xcH_C_trapsToS.trans (XEs_of hv3 (xit_Es rfl (xcH_C_interrupts.trans rfl)))))))))))) (xlt_Es (fun q9 hq9 => (xcH_C_mode.trans (xcH_C_pc.trans (xcH_V.trans (xcH_C_trapsToVs.trans (XEs_of hv3 (xit_Es rfl (xcH_C_interrupts.trans rfl)))))))))))))))))))

noncomputable def xf_C_refuse (u : XH) (p0 : Int32) : XH :=
  xlt (xf_P_raise u p0 (xg_C_word u) : XH) fun q1 =>
  q1
set_option maxHeartbeats 4000000 in
set_option maxRecDepth 100000 in
theorem c_C_refuse (l : Launch) (D : va_G) (z : (Nat → Nat) × (Nat → Nat)) (k : ClassId × ClassId) (a : Nat → Nat) (g : XG) (sz : Nat) (u : XH) (hg : xok k g u) (p0 : Int32) : Met l xy_C_refuse (xk_C_refuse :: lw_g) { frames := 1, cells := 0, slots := 0, locals := 22 } (va_Pc [.ref ((a 1)), .int p0] (xB D (xTy k) z sz (xWH k a g u))) (va_Qv (fun q : XH × XG => q.1 = xf_C_refuse u p0 ∧ xok k q.2 q.1) (fun q t => xQ D (xTy k) (xWH k a q.2 q.1) (va_A (xWH k a g u) sz) t) (va_A (xWH k a g u) sz)) 0 0 (va_A (xWH k a g u) sz) := by
  refine xopen_v (wf := fun q : XH × XG => xWH k a q.2 q.1) (lv := [(0, .ref ((a 1))), (1, .int p0)]) (by decide) rfl (Nat.le_of_ble_eq_true rfl) ?_
  intro p e s m args below meth c Q ls A H locs hx hb hml htg hown hin hK hP hD hE hS hA hl hret
  refine lv_aload_n hx hb xd_C_refuse_0 rfl (lv_at hl 0 rfl) ?_
  refine xget_C_trap hx hb htg hown hK hP (htg _ xw_208) xd_C_refuse_1 ?_
  refine lv_iload_n hx hb xd_C_refuse_4 rfl (lv_at hl 1 rfl) ?_
  refine lv_aload_n hx hb xd_C_refuse_5 rfl (lv_at hl 0 rfl) ?_
  refine xget_C_word (v := (xg_C_word u)) hx hb htg hown hK hP (htg _ xw_224) rfl xd_C_refuse_6 ?_
  refine xcW_v (va_runV (As := [.int p0, .int ((xg_C_word u))]) (rest := []) ⟨hx, hb, hml, hown, htg⟩ (c_P_raise l D z k a g H.size u hg p0 (xg_C_word u)) (cwV 2 htg (xg_V0 xkin_P_raise xw_411 xw_412 xsel_P_raise xw_7) rfl rfl rfl (by decide +kernel) ⟨Nat.le_of_ble_eq_true rfl, Nat.le_of_ble_eq_true rfl⟩) ⟨xB_blind, xrecv_P hK hP, fun U hU hW => xB_mk hP hK hD hE hS (xsubW hD hA hS) hU hW⟩ rfl rfl hl.1 rfl (lv_room (Nat.le_of_ble_eq_true rfl)) xd_C_refuse_9 ⟨Nat.le_of_ble_eq_true rfl, Nat.le_of_ble_eq_true rfl⟩) hD hA hS (fun w1 H locs hw hP hD hS => ?_)
  obtain ⟨u1, g⟩ := w1
  obtain ⟨q1, hq1⟩ : ∃ q, q = xf_P_raise u p0 (xg_C_word u) := ⟨_, rfl⟩
  obtain ⟨e2, hg⟩ := hw
  rw [← hq1] at e2
  obtain rfl : q1 = u1 := e2.symm
  have hP : va_P D xCl (xWH k a g q1) H := hP
  have hD : va_D A (xWH k a g q1) := hD
  have hg : xok k g q1 := hg
  exact hret (q1, g) H locs ls _ ⟨(by unfold xf_C_refuse; exact (xlt_e hq1 rfl)), hg⟩ hP hD hS xd_C_refuse_12
theorem xm_C_refuse (u : XH) (p0 : Int32) : XEs (xcH u) (xf_C_refuse u p0) := by unfold xf_C_refuse; exact (xlt_Es (fun q1 hq1 => ((XEs_of hq1 (xm_P_raise u p0 (xg_C_word u))).trans rfl)))

noncomputable def xf_C_jump (u : XH) (p0 : Int32) (p1 : Int32) : XH :=
  if (p0 &&& (3 : Int32)) = 0 then
    xlt (xf_C_put (xs_C_next u p0) p1 ((xg_C_pc (xs_C_next u p0)) + (4 : Int32)) : XH) fun q2 =>
    q2
  else
    xlt (xf_P_raise u (0 : Int32) p0 : XH) fun q3 =>
    q3
set_option maxHeartbeats 4000000 in
set_option maxRecDepth 100000 in
theorem c_C_jump (l : Launch) (D : va_G) (z : (Nat → Nat) × (Nat → Nat)) (k : ClassId × ClassId) (a : Nat → Nat) (g : XG) (sz : Nat) (u : XH) (hg : xok k g u) (p0 : Int32) (p1 : Int32) (hi0 : vp_in p1 32) : Met l xy_C_jump (xk_C_jump :: lw_g) { frames := 1, cells := 0, slots := 0, locals := 22 } (va_Pc [.ref ((a 1)), .int p0, .int p1] (xB D (xTy k) z sz (xWH k a g u))) (va_Qv (fun q : XH × XG => q.1 = xf_C_jump u p0 p1 ∧ xok k q.2 q.1) (fun q t => xQ D (xTy k) (xWH k a q.2 q.1) (va_A (xWH k a g u) sz) t) (va_A (xWH k a g u) sz)) 0 0 (va_A (xWH k a g u) sz) := by
  refine xopen_v (wf := fun q : XH × XG => xWH k a q.2 q.1) (lv := [(0, .ref ((a 1))), (1, .int p0), (2, .int p1)]) (by decide) rfl (Nat.le_of_ble_eq_true rfl) ?_
  intro p e s m args below meth c Q ls A H locs hx hb hml htg hown hin hK hP hD hE hS hA hl hret
  refine lv_iload_n hx hb xd_C_jump_0 rfl (lv_at hl 1 rfl) ?_
  refine lv_iconst (v := 3) hx hb xd_C_jump_1 (by decide) ?_
  refine lv_iand hx hb xd_C_jump_2 ?_
  refine lv_if_eq (tgt := 16) hx hb xd_C_jump_3 rfl (fun h1 => ?_) (fun h1 => ?_)
  · refine lv_aload_n hx hb xd_C_jump_16 rfl (lv_at hl 0 rfl) ?_
    refine lv_iload_n hx hb xd_C_jump_17 rfl (lv_at hl 1 rfl) ?_
    refine xput_C_next (v := p0) hx hb htg hown hK hP hD hS hg (htg _ xw_223) xd_C_jump_18 (fun H locs hP hD hS hg => ?_)
    refine lv_aload_n hx hb xd_C_jump_21 rfl (lv_at hl 0 rfl) ?_
    refine lv_iload_n hx hb xd_C_jump_22 rfl (lv_at hl 2 rfl) ?_
    refine lv_aload_n hx hb xd_C_jump_23 rfl (lv_at hl 0 rfl) ?_
    refine xget_C_pc (v := (xg_C_pc (xs_C_next u p0))) hx hb htg hown hK hP (htg _ xw_211) rfl xd_C_jump_24 ?_
    refine lv_iconst (v := 4) hx hb xd_C_jump_27 (by decide) ?_
    refine lv_iadd hx hb xd_C_jump_28 ?_
    refine xcW_v (va_runV (As := [.int p1, .int (((xg_C_pc (xs_C_next u p0)) + (4 : Int32)))]) (rest := []) ⟨hx, hb, hml, hown, htg⟩ (c_C_put l D z k a g H.size (xs_C_next u p0) hg p1 ((xg_C_pc (xs_C_next u p0)) + (4 : Int32)) hi0) (cwV 2 htg (xg_V0 xkin_C_put xw_533 xw_322 xsel_C_put xw_2) rfl rfl rfl (by decide +kernel) ⟨Nat.le_of_ble_eq_true rfl, Nat.le_of_ble_eq_true rfl⟩) ⟨xB_blind, xrecv_C hK hP, fun U hU hW => xB_mk hP hK hD hE hS (xsubW hD hA hS) hU hW⟩ rfl rfl hl.1 rfl (lv_room (Nat.le_of_ble_eq_true rfl)) xd_C_jump_29 ⟨Nat.le_of_ble_eq_true rfl, Nat.le_of_ble_eq_true rfl⟩) hD hA hS (fun w1 H locs hw hP hD hS => ?_)
    obtain ⟨u1, g⟩ := w1
    obtain ⟨q2, hq2⟩ : ∃ q, q = xf_C_put (xs_C_next u p0) p1 ((xg_C_pc (xs_C_next u p0)) + (4 : Int32)) := ⟨_, rfl⟩
    obtain ⟨e2, hg⟩ := hw
    rw [← hq2] at e2
    obtain rfl : q2 = u1 := e2.symm
    have hP : va_P D xCl (xWH k a g q2) H := hP
    have hD : va_D A (xWH k a g q2) := hD
    have hg : xok k g q2 := hg
    exact hret (q2, g) H locs ls _ ⟨(by unfold xf_C_jump; exact (xit h1 (xlt_e hq2 rfl))), hg⟩ hP hD hS xd_C_jump_32
  · refine lv_aload_n hx hb xd_C_jump_6 rfl (lv_at hl 0 rfl) ?_
    refine xget_C_trap hx hb htg hown hK hP (htg _ xw_208) xd_C_jump_7 ?_
    refine lv_iconst (v := 0) hx hb xd_C_jump_10 (by decide) ?_
    refine lv_iload_n hx hb xd_C_jump_11 rfl (lv_at hl 1 rfl) ?_
    refine xcW_v (va_runV (As := [.int 0, .int p0]) (rest := []) ⟨hx, hb, hml, hown, htg⟩ (c_P_raise l D z k a g H.size u hg (0 : Int32) p0) (cwV 2 htg (xg_V0 xkin_P_raise xw_411 xw_412 xsel_P_raise xw_7) rfl rfl rfl (by decide +kernel) ⟨Nat.le_of_ble_eq_true rfl, Nat.le_of_ble_eq_true rfl⟩) ⟨xB_blind, xrecv_P hK hP, fun U hU hW => xB_mk hP hK hD hE hS (xsubW hD hA hS) hU hW⟩ rfl rfl hl.1 rfl (lv_room (Nat.le_of_ble_eq_true rfl)) xd_C_jump_12 ⟨Nat.le_of_ble_eq_true rfl, Nat.le_of_ble_eq_true rfl⟩) hD hA hS (fun w1 H locs hw hP hD hS => ?_)
    obtain ⟨u1, g⟩ := w1
    obtain ⟨q3, hq3⟩ : ∃ q, q = xf_P_raise u (0 : Int32) p0 := ⟨_, rfl⟩
    obtain ⟨e2, hg⟩ := hw
    rw [← hq3] at e2
    obtain rfl : q3 = u1 := e2.symm
    have hP : va_P D xCl (xWH k a g q3) H := hP
    have hD : va_D A (xWH k a g q3) := hD
    have hg : xok k g q3 := hg
    exact hret (q3, g) H locs ls _ ⟨(by unfold xf_C_jump; exact (xif h1 (xlt_e hq3 rfl))), hg⟩ hP hD hS xd_C_jump_15
theorem xm_C_jump (u : XH) (p0 : Int32) (p1 : Int32) : XEs (xcH u) (xf_C_jump u p0 p1) := by unfold xf_C_jump; exact (xit_Es (xlt_Es (fun q2 hq2 => ((XEs_of hq2 (xm_C_put (xs_C_next u p0) p1 ((xg_C_pc (xs_C_next u p0)) + (4 : Int32)))).trans (xcH_C_next.trans rfl)))) (xlt_Es (fun q3 hq3 => ((XEs_of hq3 (xm_P_raise u (0 : Int32) p0)).trans rfl))))

noncomputable def xf_C_jumpToRegisterOp (u : XH) : XH :=
  xlt (xf_D_f (xg_C_word u) : Int32) fun r1 =>
  if r1 = 0 then
    xlt (xf_D_a (xg_C_word u) : Int32) fun r3 =>
    xlt (xf_D_immediate (xg_C_word u) : Int32) fun r4 =>
    xlt (xf_D_d (xg_C_word u) : Int32) fun r5 =>
    xlt (xf_C_jump u ((((xg_x u) r3.toNatClampNeg) + r4) &&& (-2 : Int32)) r5 : XH) fun q6 =>
    q6
  else
    xlt (xf_C_refuse u (2 : Int32) : XH) fun q7 =>
    q7
set_option maxHeartbeats 4000000 in
set_option maxRecDepth 100000 in
theorem c_C_jumpToRegisterOp (l : Launch) (D : va_G) (z : (Nat → Nat) × (Nat → Nat)) (k : ClassId × ClassId) (a : Nat → Nat) (g : XG) (sz : Nat) (u : XH) (hg : xok k g u) : Met l xy_C_jumpToRegisterOp (xk_C_jumpToRegisterOp :: lw_g) { frames := 2, cells := 0, slots := 0, locals := 44 } (va_Pc [.ref ((a 1))] (xB D (xTy k) z sz (xWH k a g u))) (va_Qv (fun q : XH × XG => q.1 = xf_C_jumpToRegisterOp u ∧ xok k q.2 q.1) (fun q t => xQ D (xTy k) (xWH k a q.2 q.1) (va_A (xWH k a g u) sz) t) (va_A (xWH k a g u) sz)) 0 0 (va_A (xWH k a g u) sz) := by
  refine xopen_v (wf := fun q : XH × XG => xWH k a q.2 q.1) (lv := [(0, .ref ((a 1)))]) (by decide) rfl (Nat.le_of_ble_eq_true rfl) ?_
  intro p e s m args below meth c Q ls A H locs hx hb hml htg hown hin hK hP hD hE hS hA hl hret
  refine lv_aload_n hx hb xd_C_jumpToRegisterOp_0 rfl (lv_at hl 0 rfl) ?_
  refine xget_C_word (v := (xg_C_word u)) hx hb htg hown hK hP (htg _ xw_224) rfl xd_C_jumpToRegisterOp_1 ?_
  refine xc0_i (va_runS (As := [.int ((xg_C_word u))]) (rest := []) ⟨hx, hb, hml, hown, htg⟩ (c_D_f l D (xTy k) z H.size (xg_C_word u)) (va_cwS 1 htg (xg_S0 xkin_D_f xw_499 xw_500 xw_13) rfl rfl rfl (by decide +kernel) ⟨Nat.le_of_ble_eq_true rfl, Nat.le_of_ble_eq_true rfl⟩) ⟨xB_blind, fun U hU hW => xB_mk va_P0 hK va_D0 hE hS (xsub0 hA hS) hU hW⟩ rfl rfl hl.1 rfl (lv_room (Nat.le_of_ble_eq_true rfl)) xd_C_jumpToRegisterOp_4 ⟨Nat.le_of_ble_eq_true rfl, Nat.le_of_ble_eq_true rfl⟩) hP hA hS (fun r1 H locs hr1 hP hS => ?_)
  refine lv_if_eq (tgt := 16) hx hb xd_C_jumpToRegisterOp_7 rfl (fun h2 => ?_) (fun h2 => ?_)
  · refine lv_aload_n hx hb xd_C_jumpToRegisterOp_16 rfl (lv_at hl 0 rfl) ?_
    refine lv_aload_n hx hb xd_C_jumpToRegisterOp_17 rfl (lv_at hl 0 rfl) ?_
    refine xget_C_x hx hb htg hown hK hP (htg _ xw_199) xd_C_jumpToRegisterOp_18 ?_
    refine lv_aload_n hx hb xd_C_jumpToRegisterOp_21 rfl (lv_at hl 0 rfl) ?_
    refine xget_C_word (v := (xg_C_word u)) hx hb htg hown hK hP (htg _ xw_224) rfl xd_C_jumpToRegisterOp_22 ?_
    refine xc0_i (va_runS (As := [.int ((xg_C_word u))]) (rest := [.ref ((a 2)), .ref ((a 1))]) ⟨hx, hb, hml, hown, htg⟩ (c_D_a l D (xTy k) z H.size (xg_C_word u)) (va_cwS 1 htg (xg_S0 xkin_D_a xw_513 xw_514 xw_13) rfl rfl rfl (by decide +kernel) ⟨Nat.le_of_ble_eq_true rfl, Nat.le_of_ble_eq_true rfl⟩) ⟨xB_blind, fun U hU hW => xB_mk va_P0 hK va_D0 hE hS (xsub0 hA hS) hU hW⟩ rfl rfl hl.1 rfl (lv_room (Nat.le_of_ble_eq_true rfl)) xd_C_jumpToRegisterOp_25 ⟨Nat.le_of_ble_eq_true rfl, Nat.le_of_ble_eq_true rfl⟩) hP hA hS (fun r3 H locs hr3 hP hS => ?_)
    refine xald_x (f := (xg_x u)) hx hb hK hP (xin_eq hr3 (xin_a _)) rfl xd_C_jumpToRegisterOp_28 ?_
    refine lv_aload_n hx hb xd_C_jumpToRegisterOp_29 rfl (lv_at hl 0 rfl) ?_
    refine xget_C_word (v := (xg_C_word u)) hx hb htg hown hK hP (htg _ xw_224) rfl xd_C_jumpToRegisterOp_30 ?_
    refine xc0_i (va_runS (As := [.int ((xg_C_word u))]) (rest := [.int (((xg_x u) r3.toNatClampNeg)), .ref ((a 1))]) ⟨hx, hb, hml, hown, htg⟩ (c_D_immediate l D (xTy k) z H.size (xg_C_word u)) (va_cwS 1 htg (xg_S0 xkin_D_immediate xw_516 xw_517 xw_13) rfl rfl rfl (by decide +kernel) ⟨Nat.le_of_ble_eq_true rfl, Nat.le_of_ble_eq_true rfl⟩) ⟨xB_blind, fun U hU hW => xB_mk va_P0 hK va_D0 hE hS (xsub0 hA hS) hU hW⟩ rfl rfl hl.1 rfl (lv_room (Nat.le_of_ble_eq_true rfl)) xd_C_jumpToRegisterOp_33 ⟨Nat.le_of_ble_eq_true rfl, Nat.le_of_ble_eq_true rfl⟩) hP hA hS (fun r4 H locs hr4 hP hS => ?_)
    refine lv_iadd hx hb xd_C_jumpToRegisterOp_36 ?_
    refine lv_bipush (v := (-2)) hx hb xd_C_jumpToRegisterOp_37 (by decide) ?_
    refine lv_iand hx hb xd_C_jumpToRegisterOp_39 ?_
    refine lv_aload_n hx hb xd_C_jumpToRegisterOp_40 rfl (lv_at hl 0 rfl) ?_
    refine xget_C_word (v := (xg_C_word u)) hx hb htg hown hK hP (htg _ xw_224) rfl xd_C_jumpToRegisterOp_41 ?_
    refine xc0_i (va_runS (As := [.int ((xg_C_word u))]) (rest := [.int (((((xg_x u) r3.toNatClampNeg) + r4) &&& (-2 : Int32))), .ref ((a 1))]) ⟨hx, hb, hml, hown, htg⟩ (c_D_d l D (xTy k) z H.size (xg_C_word u)) (va_cwS 1 htg (xg_S0 xkin_D_d xw_529 xw_530 xw_13) rfl rfl rfl (by decide +kernel) ⟨Nat.le_of_ble_eq_true rfl, Nat.le_of_ble_eq_true rfl⟩) ⟨xB_blind, fun U hU hW => xB_mk va_P0 hK va_D0 hE hS (xsub0 hA hS) hU hW⟩ rfl rfl hl.1 rfl (lv_room (Nat.le_of_ble_eq_true rfl)) xd_C_jumpToRegisterOp_44 ⟨Nat.le_of_ble_eq_true rfl, Nat.le_of_ble_eq_true rfl⟩) hP hA hS (fun r5 H locs hr5 hP hS => ?_)
    refine xcW_v (va_runV (As := [.int (((((xg_x u) r3.toNatClampNeg) + r4) &&& (-2 : Int32))), .int r5]) (rest := []) ⟨hx, hb, hml, hown, htg⟩ (c_C_jump l D z k a g H.size u hg ((((xg_x u) r3.toNatClampNeg) + r4) &&& (-2 : Int32)) r5 (xin_eq hr5 (xin_d _))) (cwV 2 htg (xg_V0 xkin_C_jump xw_601 xw_603 xsel_C_jump xw_2) rfl rfl rfl (by decide +kernel) ⟨Nat.le_of_ble_eq_true rfl, Nat.le_of_ble_eq_true rfl⟩) ⟨xB_blind, xrecv_C hK hP, fun U hU hW => xB_mk hP hK hD hE hS (xsubW hD hA hS) hU hW⟩ rfl rfl hl.1 rfl (lv_room (Nat.le_of_ble_eq_true rfl)) xd_C_jumpToRegisterOp_47 ⟨Nat.le_of_ble_eq_true rfl, Nat.le_of_ble_eq_true rfl⟩) hD hA hS (fun w1 H locs hw hP hD hS => ?_)
    obtain ⟨u1, g⟩ := w1
    obtain ⟨q6, hq6⟩ : ∃ q, q = xf_C_jump u ((((xg_x u) r3.toNatClampNeg) + r4) &&& (-2 : Int32)) r5 := ⟨_, rfl⟩
    obtain ⟨e2, hg⟩ := hw
    rw [← hq6] at e2
    obtain rfl : q6 = u1 := e2.symm
    have hP : va_P D xCl (xWH k a g q6) H := hP
    have hD : va_D A (xWH k a g q6) := hD
    have hg : xok k g q6 := hg
    exact hret (q6, g) H locs ls _ ⟨(by unfold xf_C_jumpToRegisterOp; exact (xlt_e hr1 (xit h2 (xlt_e hr3 (xlt_e hr4 (xlt_e hr5 (xlt_e hq6 rfl))))))), hg⟩ hP hD hS xd_C_jumpToRegisterOp_50
  · refine lv_aload_n hx hb xd_C_jumpToRegisterOp_10 rfl (lv_at hl 0 rfl) ?_
    refine lv_iconst (v := 2) hx hb xd_C_jumpToRegisterOp_11 (by decide) ?_
    refine xcW_v (va_runV (As := [.int 2]) (rest := []) ⟨hx, hb, hml, hown, htg⟩ (c_C_refuse l D z k a g H.size u hg (2 : Int32)) (cwV 1 htg (xg_V0 xkin_C_refuse xw_509 xw_511 xsel_C_refuse xw_2) rfl rfl rfl (by decide +kernel) ⟨Nat.le_of_ble_eq_true rfl, Nat.le_of_ble_eq_true rfl⟩) ⟨xB_blind, xrecv_C hK hP, fun U hU hW => xB_mk hP hK hD hE hS (xsubW hD hA hS) hU hW⟩ rfl rfl hl.1 rfl (lv_room (Nat.le_of_ble_eq_true rfl)) xd_C_jumpToRegisterOp_12 ⟨Nat.le_of_ble_eq_true rfl, Nat.le_of_ble_eq_true rfl⟩) hD hA hS (fun w1 H locs hw hP hD hS => ?_)
    obtain ⟨u1, g⟩ := w1
    obtain ⟨q7, hq7⟩ : ∃ q, q = xf_C_refuse u (2 : Int32) := ⟨_, rfl⟩
    obtain ⟨e2, hg⟩ := hw
    rw [← hq7] at e2
    obtain rfl : q7 = u1 := e2.symm
    have hP : va_P D xCl (xWH k a g q7) H := hP
    have hD : va_D A (xWH k a g q7) := hD
    have hg : xok k g q7 := hg
    exact hret (q7, g) H locs ls _ ⟨(by unfold xf_C_jumpToRegisterOp; exact (xlt_e hr1 (xif h2 (xlt_e hq7 rfl)))), hg⟩ hP hD hS xd_C_jumpToRegisterOp_15
theorem xm_C_jumpToRegisterOp (u : XH) : XEs (xcH u) (xf_C_jumpToRegisterOp u) := by unfold xf_C_jumpToRegisterOp; exact (xlt_Es (fun r1 hr1 => (xit_Es (xlt_Es (fun r3 hr3 => (xlt_Es (fun r4 hr4 => (xlt_Es (fun r5 hr5 => (xlt_Es (fun q6 hq6 => ((XEs_of hq6 (xm_C_jump u ((((xg_x u) r3.toNatClampNeg) + r4) &&& (-2 : Int32)) r5)).trans rfl))))))))) (xlt_Es (fun q7 hq7 => ((XEs_of hq7 (xm_C_refuse u (2 : Int32))).trans rfl))))))

noncomputable def xf_C_branchOp (u : XH) : XH :=
  xlt (xf_D_f (xg_C_word u) : Int32) fun r1 =>
  xlt (xf_R_isComparison r1 : Int32) fun r2 =>
  xlt (if r2 = 0 then (xlt (xf_C_refuse u (2 : Int32) : XH) fun q10 => q10) else (xlt (xf_D_a (xg_C_word u) : Int32) fun r4 => xlt (xf_D_b (xg_C_word u) : Int32) fun r5 => xlt (xf_R_holds r1 ((xg_x u) r4.toNatClampNeg) ((xg_x u) r5.toNatClampNeg) : Int32) fun r6 => if r6 = 0 then (u) else (xlt (xf_D_branchOffset (xg_C_word u) : Int32) fun r8 => xlt (xf_C_jump u ((xg_C_pc u) + r8) (0 : Int32) : XH) fun q9 => q9)) : XH) fun v11 =>
  v11
set_option maxHeartbeats 4000000 in
set_option maxRecDepth 100000 in
theorem c_C_branchOp (l : Launch) (D : va_G) (z : (Nat → Nat) × (Nat → Nat)) (k : ClassId × ClassId) (a : Nat → Nat) (g : XG) (sz : Nat) (u : XH) (hg : xok k g u) : Met l xy_C_branchOp (xk_C_branchOp :: lw_g) { frames := 2, cells := 0, slots := 0, locals := 44 } (va_Pc [.ref ((a 1))] (xB D (xTy k) z sz (xWH k a g u))) (va_Qv (fun q : XH × XG => q.1 = xf_C_branchOp u ∧ xok k q.2 q.1) (fun q t => xQ D (xTy k) (xWH k a q.2 q.1) (va_A (xWH k a g u) sz) t) (va_A (xWH k a g u) sz)) 0 0 (va_A (xWH k a g u) sz) := by
  refine xopen_v (wf := fun q : XH × XG => xWH k a q.2 q.1) (lv := [(0, .ref ((a 1)))]) (by decide) rfl (Nat.le_of_ble_eq_true rfl) ?_
  intro p e s m args below meth c Q ls A H locs hx hb hml htg hown hin hK hP hD hE hS hA hl hret
  refine lv_aload_n hx hb xd_C_branchOp_0 rfl (lv_at hl 0 rfl) ?_
  refine xget_C_word (v := (xg_C_word u)) hx hb htg hown hK hP (htg _ xw_224) rfl xd_C_branchOp_1 ?_
  refine xc0_i (va_runS (As := [.int ((xg_C_word u))]) (rest := []) ⟨hx, hb, hml, hown, htg⟩ (c_D_f l D (xTy k) z H.size (xg_C_word u)) (va_cwS 1 htg (xg_S0 xkin_D_f xw_499 xw_500 xw_13) rfl rfl rfl (by decide +kernel) ⟨Nat.le_of_ble_eq_true rfl, Nat.le_of_ble_eq_true rfl⟩) ⟨xB_blind, fun U hU hW => xB_mk va_P0 hK va_D0 hE hS (xsub0 hA hS) hU hW⟩ rfl rfl hl.1 rfl (lv_room (Nat.le_of_ble_eq_true rfl)) xd_C_branchOp_4 ⟨Nat.le_of_ble_eq_true rfl, Nat.le_of_ble_eq_true rfl⟩) hP hA hS (fun r1 H locs hr1 hP hS => ?_)
  refine lv_istore_n (lv' := [(1, .int r1), (0, .ref ((a 1)))]) hx hb xd_C_branchOp_7 rfl hl (by decide) rfl (fun ls hl => ?_)
  refine lv_iload_n hx hb xd_C_branchOp_8 rfl (lv_at hl 0 rfl) ?_
  refine xc0_i (va_runS (As := [.int r1]) (rest := []) ⟨hx, hb, hml, hown, htg⟩ (c_R_isComparison l D (xTy k) z H.size r1) (va_cwS 1 htg (xg_S0 xkin_R_isComparison xw_592 xw_593 xw_14) rfl rfl rfl (by decide +kernel) ⟨Nat.le_of_ble_eq_true rfl, Nat.le_of_ble_eq_true rfl⟩) ⟨xB_blind, fun U hU hW => xB_mk va_P0 hK va_D0 hE hS (xsub0 hA hS) hU hW⟩ rfl rfl hl.1 rfl (lv_room (Nat.le_of_ble_eq_true rfl)) xd_C_branchOp_9 ⟨Nat.le_of_ble_eq_true rfl, Nat.le_of_ble_eq_true rfl⟩) hP hA hS (fun r2 H locs hr2 hP hS => ?_)
  have hj12 : ∀ (H : Heap) (locs : List Loc) (ls : Array Slot) (g : XG) (v11 : XH), v11 = (if r2 = 0 then (xlt (xf_C_refuse u (2 : Int32) : XH) fun q10 => q10) else (xlt (xf_D_a (xg_C_word u) : Int32) fun r4 => xlt (xf_D_b (xg_C_word u) : Int32) fun r5 => xlt (xf_R_holds r1 ((xg_x u) r4.toNatClampNeg) ((xg_x u) r5.toNatClampNeg) : Int32) fun r6 => if r6 = 0 then (u) else (xlt (xf_D_branchOffset (xg_C_word u) : Int32) fun r8 => xlt (xf_C_jump u ((xg_C_pc u) + r8) (0 : Int32) : XH) fun q9 => q9))) → xok k g v11 → lv_has ls 2 [(1, .int r1), (0, .ref ((a 1)))] → va_P D xCl (xWH k a g v11) H → va_D A (xWH k a g v11) → va_S A s.heap H locs → W p l e { frames := 2, cells := 0, slots := 0, locals := 44 } s m args below meth c H locs (0) (0) Q (F0 m 71 ls []) := by
    intro H locs ls g v11 hv11 hg hl hP hD hS
    exact hret (v11, g) H locs ls _ ⟨(by unfold xf_C_branchOp; exact (xlt_e hr1 (xlt_e hr2 (xlt_e hv11 rfl)))), hg⟩ hP hD hS xd_C_branchOp_71
  refine lv_if_ne (tgt := 23) hx hb xd_C_branchOp_12 rfl (fun h13 => ?_) (fun h13 => ?_)
  · refine lv_iload_n hx hb xd_C_branchOp_23 rfl (lv_at hl 0 rfl) ?_
    refine lv_aload_n hx hb xd_C_branchOp_24 rfl (lv_at hl 1 rfl) ?_
    refine xget_C_x hx hb htg hown hK hP (htg _ xw_199) xd_C_branchOp_25 ?_
    refine lv_aload_n hx hb xd_C_branchOp_28 rfl (lv_at hl 1 rfl) ?_
    refine xget_C_word (v := (xg_C_word u)) hx hb htg hown hK hP (htg _ xw_224) rfl xd_C_branchOp_29 ?_
    refine xc0_i (va_runS (As := [.int ((xg_C_word u))]) (rest := [.ref ((a 2)), .int r1]) ⟨hx, hb, hml, hown, htg⟩ (c_D_a l D (xTy k) z H.size (xg_C_word u)) (va_cwS 1 htg (xg_S0 xkin_D_a xw_513 xw_514 xw_13) rfl rfl rfl (by decide +kernel) ⟨Nat.le_of_ble_eq_true rfl, Nat.le_of_ble_eq_true rfl⟩) ⟨xB_blind, fun U hU hW => xB_mk va_P0 hK va_D0 hE hS (xsub0 hA hS) hU hW⟩ rfl rfl hl.1 rfl (lv_room (Nat.le_of_ble_eq_true rfl)) xd_C_branchOp_32 ⟨Nat.le_of_ble_eq_true rfl, Nat.le_of_ble_eq_true rfl⟩) hP hA hS (fun r14 H locs hr14 hP hS => ?_)
    refine xald_x (f := (xg_x u)) hx hb hK hP (xin_eq hr14 (xin_a _)) rfl xd_C_branchOp_35 ?_
    refine lv_aload_n hx hb xd_C_branchOp_36 rfl (lv_at hl 1 rfl) ?_
    refine xget_C_x hx hb htg hown hK hP (htg _ xw_199) xd_C_branchOp_37 ?_
    refine lv_aload_n hx hb xd_C_branchOp_40 rfl (lv_at hl 1 rfl) ?_
    refine xget_C_word (v := (xg_C_word u)) hx hb htg hown hK hP (htg _ xw_224) rfl xd_C_branchOp_41 ?_
    refine xc0_i (va_runS (As := [.int ((xg_C_word u))]) (rest := [.ref ((a 2)), .int (((xg_x u) r14.toNatClampNeg)), .int r1]) ⟨hx, hb, hml, hown, htg⟩ (c_D_b l D (xTy k) z H.size (xg_C_word u)) (va_cwS 1 htg (xg_S0 xkin_D_b xw_545 xw_546 xw_13) rfl rfl rfl (by decide +kernel) ⟨Nat.le_of_ble_eq_true rfl, Nat.le_of_ble_eq_true rfl⟩) ⟨xB_blind, fun U hU hW => xB_mk va_P0 hK va_D0 hE hS (xsub0 hA hS) hU hW⟩ rfl rfl hl.1 rfl (lv_room (Nat.le_of_ble_eq_true rfl)) xd_C_branchOp_44 ⟨Nat.le_of_ble_eq_true rfl, Nat.le_of_ble_eq_true rfl⟩) hP hA hS (fun r15 H locs hr15 hP hS => ?_)
    refine xald_x (f := (xg_x u)) hx hb hK hP (xin_eq hr15 (xin_b _)) rfl xd_C_branchOp_47 ?_
    refine xc0_i (va_runS (As := [.int r1, .int (((xg_x u) r14.toNatClampNeg)), .int (((xg_x u) r15.toNatClampNeg))]) (rest := []) ⟨hx, hb, hml, hown, htg⟩ (c_R_holds l D (xTy k) z H.size r1 ((xg_x u) r14.toNatClampNeg) ((xg_x u) r15.toNatClampNeg)) (va_cwS 3 htg (xg_S0 xkin_R_holds xw_595 xw_596 xw_14) rfl rfl rfl (by decide +kernel) ⟨Nat.le_of_ble_eq_true rfl, Nat.le_of_ble_eq_true rfl⟩) ⟨xB_blind, fun U hU hW => xB_mk va_P0 hK va_D0 hE hS (xsub0 hA hS) hU hW⟩ rfl rfl hl.1 rfl (lv_room (Nat.le_of_ble_eq_true rfl)) xd_C_branchOp_48 ⟨Nat.le_of_ble_eq_true rfl, Nat.le_of_ble_eq_true rfl⟩) hP hA hS (fun r16 H locs hr16 hP hS => ?_)
    refine lv_if_eq (tgt := 71) hx hb xd_C_branchOp_51 rfl (fun h17 => ?_) (fun h17 => ?_)
    · exact hj12 H locs ls g u (xif h13 (xlt_e hr14 (xlt_e hr15 (xlt_e hr16 (xit h17 rfl))))) hg hl hP hD hS
    · refine lv_aload_n hx hb xd_C_branchOp_54 rfl (lv_at hl 1 rfl) ?_
      refine lv_aload_n hx hb xd_C_branchOp_55 rfl (lv_at hl 1 rfl) ?_
      refine xget_C_pc (v := (xg_C_pc u)) hx hb htg hown hK hP (htg _ xw_211) rfl xd_C_branchOp_56 ?_
      refine lv_aload_n hx hb xd_C_branchOp_59 rfl (lv_at hl 1 rfl) ?_
      refine xget_C_word (v := (xg_C_word u)) hx hb htg hown hK hP (htg _ xw_224) rfl xd_C_branchOp_60 ?_
      refine xc0_i (va_runS (As := [.int ((xg_C_word u))]) (rest := [.int ((xg_C_pc u)), .ref ((a 1))]) ⟨hx, hb, hml, hown, htg⟩ (c_D_branchOffset l D (xTy k) z H.size (xg_C_word u)) (va_cwS 1 htg (xg_S0 xkin_D_branchOffset xw_598 xw_599 xw_13) rfl rfl rfl (by decide +kernel) ⟨Nat.le_of_ble_eq_true rfl, Nat.le_of_ble_eq_true rfl⟩) ⟨xB_blind, fun U hU hW => xB_mk va_P0 hK va_D0 hE hS (xsub0 hA hS) hU hW⟩ rfl rfl hl.1 rfl (lv_room (Nat.le_of_ble_eq_true rfl)) xd_C_branchOp_63 ⟨Nat.le_of_ble_eq_true rfl, Nat.le_of_ble_eq_true rfl⟩) hP hA hS (fun r18 H locs hr18 hP hS => ?_)
      refine lv_iadd hx hb xd_C_branchOp_66 ?_
      refine lv_iconst (v := 0) hx hb xd_C_branchOp_67 (by decide) ?_
      refine xcW_v (va_runV (As := [.int (((xg_C_pc u) + r18)), .int 0]) (rest := []) ⟨hx, hb, hml, hown, htg⟩ (c_C_jump l D z k a g H.size u hg ((xg_C_pc u) + r18) (0 : Int32) (vp_in_iff.mpr (by decide))) (cwV 2 htg (xg_V0 xkin_C_jump xw_601 xw_603 xsel_C_jump xw_2) rfl rfl rfl (by decide +kernel) ⟨Nat.le_of_ble_eq_true rfl, Nat.le_of_ble_eq_true rfl⟩) ⟨xB_blind, xrecv_C hK hP, fun U hU hW => xB_mk hP hK hD hE hS (xsubW hD hA hS) hU hW⟩ rfl rfl hl.1 rfl (lv_room (Nat.le_of_ble_eq_true rfl)) xd_C_branchOp_68 ⟨Nat.le_of_ble_eq_true rfl, Nat.le_of_ble_eq_true rfl⟩) hD hA hS (fun w1 H locs hw hP hD hS => ?_)
      obtain ⟨u1, g⟩ := w1
      obtain ⟨q19, hq19⟩ : ∃ q, q = xf_C_jump u ((xg_C_pc u) + r18) (0 : Int32) := ⟨_, rfl⟩
      obtain ⟨e2, hg⟩ := hw
      rw [← hq19] at e2
      obtain rfl : q19 = u1 := e2.symm
      have hP : va_P D xCl (xWH k a g q19) H := hP
      have hD : va_D A (xWH k a g q19) := hD
      have hg : xok k g q19 := hg
      exact hj12 H locs ls g q19 (xif h13 (xlt_e hr14 (xlt_e hr15 (xlt_e hr16 (xif h17 (xlt_e hr18 (xlt_e hq19 rfl))))))) hg hl hP hD hS
  · refine lv_aload_n hx hb xd_C_branchOp_15 rfl (lv_at hl 1 rfl) ?_
    refine lv_iconst (v := 2) hx hb xd_C_branchOp_16 (by decide) ?_
    refine xcW_v (va_runV (As := [.int 2]) (rest := []) ⟨hx, hb, hml, hown, htg⟩ (c_C_refuse l D z k a g H.size u hg (2 : Int32)) (cwV 1 htg (xg_V0 xkin_C_refuse xw_509 xw_511 xsel_C_refuse xw_2) rfl rfl rfl (by decide +kernel) ⟨Nat.le_of_ble_eq_true rfl, Nat.le_of_ble_eq_true rfl⟩) ⟨xB_blind, xrecv_C hK hP, fun U hU hW => xB_mk hP hK hD hE hS (xsubW hD hA hS) hU hW⟩ rfl rfl hl.1 rfl (lv_room (Nat.le_of_ble_eq_true rfl)) xd_C_branchOp_17 ⟨Nat.le_of_ble_eq_true rfl, Nat.le_of_ble_eq_true rfl⟩) hD hA hS (fun w1 H locs hw hP hD hS => ?_)
    obtain ⟨u1, g⟩ := w1
    obtain ⟨q20, hq20⟩ : ∃ q, q = xf_C_refuse u (2 : Int32) := ⟨_, rfl⟩
    obtain ⟨e2, hg⟩ := hw
    rw [← hq20] at e2
    obtain rfl : q20 = u1 := e2.symm
    have hP : va_P D xCl (xWH k a g q20) H := hP
    have hD : va_D A (xWH k a g q20) := hD
    have hg : xok k g q20 := hg
    refine lv_goto (tgt := 71) hx hb xd_C_branchOp_20 rfl ?_
    exact hj12 H locs ls g q20 (xit h13 (xlt_e hq20 rfl)) hg hl hP hD hS
theorem xm_C_branchOp (u : XH) : XEs (xcH u) (xf_C_branchOp u) := by unfold xf_C_branchOp; exact (xlt_Es (fun r1 hr1 => (xlt_Es (fun r2 hr2 => (xlt_Es (fun v11 hv11 => (XEs_of hv11 (xit_Es (xlt_Es (fun q10 hq10 => ((XEs_of hq10 (xm_C_refuse u (2 : Int32))).trans rfl))) (xlt_Es (fun r4 hr4 => (xlt_Es (fun r5 hr5 => (xlt_Es (fun r6 hr6 => (xit_Es rfl (xlt_Es (fun r8 hr8 => (xlt_Es (fun q9 hq9 => ((XEs_of hq9 (xm_C_jump u ((xg_C_pc u) + r8) (0 : Int32))).trans rfl))))))))))))))))))))

noncomputable def xf_C_fenceOp (u : XH) : XH :=
  xlt (xf_D_f (xg_C_word u) : Int32) fun r1 =>
  xlt (if r1 ≤ 1 then (u) else (xlt (xf_C_refuse u (2 : Int32) : XH) fun q3 => q3) : XH) fun v4 =>
  v4
set_option maxHeartbeats 4000000 in
set_option maxRecDepth 100000 in
theorem c_C_fenceOp (l : Launch) (D : va_G) (z : (Nat → Nat) × (Nat → Nat)) (k : ClassId × ClassId) (a : Nat → Nat) (g : XG) (sz : Nat) (u : XH) (hg : xok k g u) : Met l xy_C_fenceOp (xk_C_fenceOp :: lw_g) { frames := 2, cells := 0, slots := 0, locals := 43 } (va_Pc [.ref ((a 1))] (xB D (xTy k) z sz (xWH k a g u))) (va_Qv (fun q : XH × XG => q.1 = xf_C_fenceOp u ∧ xok k q.2 q.1) (fun q t => xQ D (xTy k) (xWH k a q.2 q.1) (va_A (xWH k a g u) sz) t) (va_A (xWH k a g u) sz)) 0 0 (va_A (xWH k a g u) sz) := by
  refine xopen_v (wf := fun q : XH × XG => xWH k a q.2 q.1) (lv := [(0, .ref ((a 1)))]) (by decide) rfl (Nat.le_of_ble_eq_true rfl) ?_
  intro p e s m args below meth c Q ls A H locs hx hb hml htg hown hin hK hP hD hE hS hA hl hret
  refine lv_aload_n hx hb xd_C_fenceOp_0 rfl (lv_at hl 0 rfl) ?_
  refine xget_C_word (v := (xg_C_word u)) hx hb htg hown hK hP (htg _ xw_224) rfl xd_C_fenceOp_1 ?_
  refine xc0_i (va_runS (As := [.int ((xg_C_word u))]) (rest := []) ⟨hx, hb, hml, hown, htg⟩ (c_D_f l D (xTy k) z H.size (xg_C_word u)) (va_cwS 1 htg (xg_S0 xkin_D_f xw_499 xw_500 xw_13) rfl rfl rfl (by decide +kernel) ⟨Nat.le_of_ble_eq_true rfl, Nat.le_of_ble_eq_true rfl⟩) ⟨xB_blind, fun U hU hW => xB_mk va_P0 hK va_D0 hE hS (xsub0 hA hS) hU hW⟩ rfl rfl hl.1 rfl (lv_room (Nat.le_of_ble_eq_true rfl)) xd_C_fenceOp_4 ⟨Nat.le_of_ble_eq_true rfl, Nat.le_of_ble_eq_true rfl⟩) hP hA hS (fun r1 H locs hr1 hP hS => ?_)
  refine lv_iconst (v := 1) hx hb xd_C_fenceOp_7 (by decide) ?_
  have hj5 : ∀ (H : Heap) (locs : List Loc) (ls : Array Slot) (g : XG) (v4 : XH), v4 = (if r1 ≤ 1 then (u) else (xlt (xf_C_refuse u (2 : Int32) : XH) fun q3 => q3)) → xok k g v4 → lv_has ls 1 [(0, .ref ((a 1)))] → va_P D xCl (xWH k a g v4) H → va_D A (xWH k a g v4) → va_S A s.heap H locs → W p l e { frames := 2, cells := 0, slots := 0, locals := 43 } s m args below meth c H locs (0) (0) Q (F0 m 16 ls []) := by
    intro H locs ls g v4 hv4 hg hl hP hD hS
    exact hret (v4, g) H locs ls _ ⟨(by unfold xf_C_fenceOp; exact (xlt_e hr1 (xlt_e hv4 rfl))), hg⟩ hP hD hS xd_C_fenceOp_16
  refine lv_icmp_le (tgt := 16) hx hb xd_C_fenceOp_8 rfl (fun h6 => ?_) (fun h6 => ?_)
  · exact hj5 H locs ls g u (xit h6 rfl) hg hl hP hD hS
  · refine lv_aload_n hx hb xd_C_fenceOp_11 rfl (lv_at hl 0 rfl) ?_
    refine lv_iconst (v := 2) hx hb xd_C_fenceOp_12 (by decide) ?_
    refine xcW_v (va_runV (As := [.int 2]) (rest := []) ⟨hx, hb, hml, hown, htg⟩ (c_C_refuse l D z k a g H.size u hg (2 : Int32)) (cwV 1 htg (xg_V0 xkin_C_refuse xw_509 xw_511 xsel_C_refuse xw_2) rfl rfl rfl (by decide +kernel) ⟨Nat.le_of_ble_eq_true rfl, Nat.le_of_ble_eq_true rfl⟩) ⟨xB_blind, xrecv_C hK hP, fun U hU hW => xB_mk hP hK hD hE hS (xsubW hD hA hS) hU hW⟩ rfl rfl hl.1 rfl (lv_room (Nat.le_of_ble_eq_true rfl)) xd_C_fenceOp_13 ⟨Nat.le_of_ble_eq_true rfl, Nat.le_of_ble_eq_true rfl⟩) hD hA hS (fun w1 H locs hw hP hD hS => ?_)
    obtain ⟨u1, g⟩ := w1
    obtain ⟨q7, hq7⟩ : ∃ q, q = xf_C_refuse u (2 : Int32) := ⟨_, rfl⟩
    obtain ⟨e2, hg⟩ := hw
    rw [← hq7] at e2
    obtain rfl : q7 = u1 := e2.symm
    have hP : va_P D xCl (xWH k a g q7) H := hP
    have hD : va_D A (xWH k a g q7) := hD
    have hg : xok k g q7 := hg
    exact hj5 H locs ls g q7 (xif h6 (xlt_e hq7 rfl)) hg hl hP hD hS
theorem xm_C_fenceOp (u : XH) : XEs (xcH u) (xf_C_fenceOp u) := by unfold xf_C_fenceOp; exact (xlt_Es (fun r1 hr1 => (xlt_Es (fun v4 hv4 => (XEs_of hv4 (xit_Es rfl (xlt_Es (fun q3 hq3 => ((XEs_of hq3 (xm_C_refuse u (2 : Int32))).trans rfl)))))))))

noncomputable def xf_C_immediateOp (u : XH) : XH :=
  xlt (xf_D_f (xg_C_word u) : Int32) fun r1 =>
  xlt (xf_D_g (xg_C_word u) : Int32) fun r2 =>
  xlt (xf_D_a (xg_C_word u) : Int32) fun r3 =>
  xlt (if r1 = 5 then (if r2 = 32 then (xlt (xf_D_d (xg_C_word u) : Int32) fun r42 => xlt (xf_D_b (xg_C_word u) : Int32) fun r43 => xlt (xf_C_put u r42 (((xg_x u) r3.toNatClampNeg) >>> (r43 &&& 31)) : XH) fun q44 => q44) else (if r1 = 1 then (if r2 = 0 then (xlt (xf_D_d (xg_C_word u) : Int32) fun r26 => xlt (xf_D_immediate (xg_C_word u) : Int32) fun r27 => xlt (xf_R_combine r1 ((xg_x u) r3.toNatClampNeg) r27 : Int32) fun r28 => xlt (xf_C_put u r26 r28 : XH) fun q29 => q29) else (xlt (xf_C_refuse u (2 : Int32) : XH) fun q30 => q30)) else (if r1 = 5 then (if r2 = 0 then (xlt (xf_D_d (xg_C_word u) : Int32) fun r37 => xlt (xf_D_immediate (xg_C_word u) : Int32) fun r38 => xlt (xf_R_combine r1 ((xg_x u) r3.toNatClampNeg) r38 : Int32) fun r39 => xlt (xf_C_put u r37 r39 : XH) fun q40 => q40) else (xlt (xf_C_refuse u (2 : Int32) : XH) fun q41 => q41)) else (xlt (xf_D_d (xg_C_word u) : Int32) fun r32 => xlt (xf_D_immediate (xg_C_word u) : Int32) fun r33 => xlt (xf_R_combine r1 ((xg_x u) r3.toNatClampNeg) r33 : Int32) fun r34 => xlt (xf_C_put u r32 r34 : XH) fun q35 => q35)))) else (if r1 = 1 then (if r2 = 0 then (xlt (xf_D_d (xg_C_word u) : Int32) fun r7 => xlt (xf_D_immediate (xg_C_word u) : Int32) fun r8 => xlt (xf_R_combine r1 ((xg_x u) r3.toNatClampNeg) r8 : Int32) fun r9 => xlt (xf_C_put u r7 r9 : XH) fun q10 => q10) else (xlt (xf_C_refuse u (2 : Int32) : XH) fun q11 => q11)) else (if r1 = 5 then (if r2 = 0 then (xlt (xf_D_d (xg_C_word u) : Int32) fun r18 => xlt (xf_D_immediate (xg_C_word u) : Int32) fun r19 => xlt (xf_R_combine r1 ((xg_x u) r3.toNatClampNeg) r19 : Int32) fun r20 => xlt (xf_C_put u r18 r20 : XH) fun q21 => q21) else (xlt (xf_C_refuse u (2 : Int32) : XH) fun q22 => q22)) else (xlt (xf_D_d (xg_C_word u) : Int32) fun r13 => xlt (xf_D_immediate (xg_C_word u) : Int32) fun r14 => xlt (xf_R_combine r1 ((xg_x u) r3.toNatClampNeg) r14 : Int32) fun r15 => xlt (xf_C_put u r13 r15 : XH) fun q16 => q16))) : XH) fun v45 =>
  v45
set_option maxHeartbeats 4000000 in
set_option maxRecDepth 100000 in
theorem c_C_immediateOp (l : Launch) (D : va_G) (z : (Nat → Nat) × (Nat → Nat)) (k : ClassId × ClassId) (a : Nat → Nat) (g : XG) (sz : Nat) (u : XH) (hg : xok k g u) : Met l xy_C_immediateOp (xk_C_immediateOp :: lw_g) { frames := 2, cells := 0, slots := 0, locals := 43 } (va_Pc [.ref ((a 1))] (xB D (xTy k) z sz (xWH k a g u))) (va_Qv (fun q : XH × XG => q.1 = xf_C_immediateOp u ∧ xok k q.2 q.1) (fun q t => xQ D (xTy k) (xWH k a q.2 q.1) (va_A (xWH k a g u) sz) t) (va_A (xWH k a g u) sz)) 0 0 (va_A (xWH k a g u) sz) := by
  refine xopen_v (wf := fun q : XH × XG => xWH k a q.2 q.1) (lv := [(0, .ref ((a 1)))]) (by decide) rfl (Nat.le_of_ble_eq_true rfl) ?_
  intro p e s m args below meth c Q ls A H locs hx hb hml htg hown hin hK hP hD hE hS hA hl hret
  refine lv_aload_n hx hb xd_C_immediateOp_0 rfl (lv_at hl 0 rfl) ?_
  refine xget_C_word (v := (xg_C_word u)) hx hb htg hown hK hP (htg _ xw_224) rfl xd_C_immediateOp_1 ?_
  refine xc0_i (va_runS (As := [.int ((xg_C_word u))]) (rest := []) ⟨hx, hb, hml, hown, htg⟩ (c_D_f l D (xTy k) z H.size (xg_C_word u)) (va_cwS 1 htg (xg_S0 xkin_D_f xw_499 xw_500 xw_13) rfl rfl rfl (by decide +kernel) ⟨Nat.le_of_ble_eq_true rfl, Nat.le_of_ble_eq_true rfl⟩) ⟨xB_blind, fun U hU hW => xB_mk va_P0 hK va_D0 hE hS (xsub0 hA hS) hU hW⟩ rfl rfl hl.1 rfl (lv_room (Nat.le_of_ble_eq_true rfl)) xd_C_immediateOp_4 ⟨Nat.le_of_ble_eq_true rfl, Nat.le_of_ble_eq_true rfl⟩) hP hA hS (fun r1 H locs hr1 hP hS => ?_)
  refine lv_istore_n (lv' := [(1, .int r1), (0, .ref ((a 1)))]) hx hb xd_C_immediateOp_7 rfl hl (by decide) rfl (fun ls hl => ?_)
  refine lv_aload_n hx hb xd_C_immediateOp_8 rfl (lv_at hl 1 rfl) ?_
  refine xget_C_word (v := (xg_C_word u)) hx hb htg hown hK hP (htg _ xw_224) rfl xd_C_immediateOp_9 ?_
  refine xc0_i (va_runS (As := [.int ((xg_C_word u))]) (rest := []) ⟨hx, hb, hml, hown, htg⟩ (c_D_g l D (xTy k) z H.size (xg_C_word u)) (va_cwS 1 htg (xg_S0 xkin_D_g xw_542 xw_543 xw_13) rfl rfl rfl (by decide +kernel) ⟨Nat.le_of_ble_eq_true rfl, Nat.le_of_ble_eq_true rfl⟩) ⟨xB_blind, fun U hU hW => xB_mk va_P0 hK va_D0 hE hS (xsub0 hA hS) hU hW⟩ rfl rfl hl.1 rfl (lv_room (Nat.le_of_ble_eq_true rfl)) xd_C_immediateOp_12 ⟨Nat.le_of_ble_eq_true rfl, Nat.le_of_ble_eq_true rfl⟩) hP hA hS (fun r2 H locs hr2 hP hS => ?_)
  refine lv_istore_n (lv' := [(2, .int r2), (1, .int r1), (0, .ref ((a 1)))]) hx hb xd_C_immediateOp_15 rfl hl (by decide) rfl (fun ls hl => ?_)
  refine lv_aload_n hx hb xd_C_immediateOp_16 rfl (lv_at hl 2 rfl) ?_
  refine xget_C_x hx hb htg hown hK hP (htg _ xw_199) xd_C_immediateOp_17 ?_
  refine lv_aload_n hx hb xd_C_immediateOp_20 rfl (lv_at hl 2 rfl) ?_
  refine xget_C_word (v := (xg_C_word u)) hx hb htg hown hK hP (htg _ xw_224) rfl xd_C_immediateOp_21 ?_
  refine xc0_i (va_runS (As := [.int ((xg_C_word u))]) (rest := [.ref ((a 2))]) ⟨hx, hb, hml, hown, htg⟩ (c_D_a l D (xTy k) z H.size (xg_C_word u)) (va_cwS 1 htg (xg_S0 xkin_D_a xw_513 xw_514 xw_13) rfl rfl rfl (by decide +kernel) ⟨Nat.le_of_ble_eq_true rfl, Nat.le_of_ble_eq_true rfl⟩) ⟨xB_blind, fun U hU hW => xB_mk va_P0 hK va_D0 hE hS (xsub0 hA hS) hU hW⟩ rfl rfl hl.1 rfl (lv_room (Nat.le_of_ble_eq_true rfl)) xd_C_immediateOp_24 ⟨Nat.le_of_ble_eq_true rfl, Nat.le_of_ble_eq_true rfl⟩) hP hA hS (fun r3 H locs hr3 hP hS => ?_)
  refine xald_x (f := (xg_x u)) hx hb hK hP (xin_eq hr3 (xin_a _)) rfl xd_C_immediateOp_27 ?_
  refine lv_istore_n (lv' := [(3, .int (((xg_x u) r3.toNatClampNeg))), (2, .int r2), (1, .int r1), (0, .ref ((a 1)))]) hx hb xd_C_immediateOp_28 rfl hl (by decide) rfl (fun ls hl => ?_)
  refine lv_iload_n hx hb xd_C_immediateOp_29 rfl (lv_at hl 2 rfl) ?_
  refine lv_iconst (v := 5) hx hb xd_C_immediateOp_30 (by decide) ?_
  have hj46 : ∀ (H : Heap) (locs : List Loc) (ls : Array Slot) (g : XG) (v45 : XH), v45 = (if r1 = 5 then (if r2 = 32 then (xlt (xf_D_d (xg_C_word u) : Int32) fun r42 => xlt (xf_D_b (xg_C_word u) : Int32) fun r43 => xlt (xf_C_put u r42 (((xg_x u) r3.toNatClampNeg) >>> (r43 &&& 31)) : XH) fun q44 => q44) else (if r1 = 1 then (if r2 = 0 then (xlt (xf_D_d (xg_C_word u) : Int32) fun r26 => xlt (xf_D_immediate (xg_C_word u) : Int32) fun r27 => xlt (xf_R_combine r1 ((xg_x u) r3.toNatClampNeg) r27 : Int32) fun r28 => xlt (xf_C_put u r26 r28 : XH) fun q29 => q29) else (xlt (xf_C_refuse u (2 : Int32) : XH) fun q30 => q30)) else (if r1 = 5 then (if r2 = 0 then (xlt (xf_D_d (xg_C_word u) : Int32) fun r37 => xlt (xf_D_immediate (xg_C_word u) : Int32) fun r38 => xlt (xf_R_combine r1 ((xg_x u) r3.toNatClampNeg) r38 : Int32) fun r39 => xlt (xf_C_put u r37 r39 : XH) fun q40 => q40) else (xlt (xf_C_refuse u (2 : Int32) : XH) fun q41 => q41)) else (xlt (xf_D_d (xg_C_word u) : Int32) fun r32 => xlt (xf_D_immediate (xg_C_word u) : Int32) fun r33 => xlt (xf_R_combine r1 ((xg_x u) r3.toNatClampNeg) r33 : Int32) fun r34 => xlt (xf_C_put u r32 r34 : XH) fun q35 => q35)))) else (if r1 = 1 then (if r2 = 0 then (xlt (xf_D_d (xg_C_word u) : Int32) fun r7 => xlt (xf_D_immediate (xg_C_word u) : Int32) fun r8 => xlt (xf_R_combine r1 ((xg_x u) r3.toNatClampNeg) r8 : Int32) fun r9 => xlt (xf_C_put u r7 r9 : XH) fun q10 => q10) else (xlt (xf_C_refuse u (2 : Int32) : XH) fun q11 => q11)) else (if r1 = 5 then (if r2 = 0 then (xlt (xf_D_d (xg_C_word u) : Int32) fun r18 => xlt (xf_D_immediate (xg_C_word u) : Int32) fun r19 => xlt (xf_R_combine r1 ((xg_x u) r3.toNatClampNeg) r19 : Int32) fun r20 => xlt (xf_C_put u r18 r20 : XH) fun q21 => q21) else (xlt (xf_C_refuse u (2 : Int32) : XH) fun q22 => q22)) else (xlt (xf_D_d (xg_C_word u) : Int32) fun r13 => xlt (xf_D_immediate (xg_C_word u) : Int32) fun r14 => xlt (xf_R_combine r1 ((xg_x u) r3.toNatClampNeg) r14 : Int32) fun r15 => xlt (xf_C_put u r13 r15 : XH) fun q16 => q16)))) → xok k g v45 → lv_has ls 4 [(3, .int (((xg_x u) r3.toNatClampNeg))), (2, .int r2), (1, .int r1), (0, .ref ((a 1)))] → va_P D xCl (xWH k a g v45) H → va_D A (xWH k a g v45) → va_S A s.heap H locs → W p l e { frames := 2, cells := 0, slots := 0, locals := 43 } s m args below meth c H locs (0) (0) Q (F0 m 108 ls []) := by
    intro H locs ls g v45 hv45 hg hl hP hD hS
    exact hret (v45, g) H locs ls _ ⟨(by unfold xf_C_immediateOp; exact (xlt_e hr1 (xlt_e hr2 (xlt_e hr3 (xlt_e hv45 rfl))))), hg⟩ hP hD hS xd_C_immediateOp_108
  refine lv_icmp_ne (tgt := 63) hx hb xd_C_immediateOp_31 rfl (fun h47 => ?_) (fun h47 => ?_)
  · refine lv_iload_n hx hb xd_C_immediateOp_63 rfl (lv_at hl 2 rfl) ?_
    refine lv_iconst (v := 1) hx hb xd_C_immediateOp_64 (by decide) ?_
    refine lv_icmp_eq (tgt := 73) hx hb xd_C_immediateOp_65 rfl (fun h48 => ?_) (fun h48 => ?_)
    · refine lv_iload_n hx hb xd_C_immediateOp_73 rfl (lv_at hl 1 rfl) ?_
      refine lv_if_eq (tgt := 85) hx hb xd_C_immediateOp_74 rfl (fun h49 => ?_) (fun h49 => ?_)
      · refine lv_aload_n hx hb xd_C_immediateOp_85 rfl (lv_at hl 3 rfl) ?_
        refine lv_aload_n hx hb xd_C_immediateOp_86 rfl (lv_at hl 3 rfl) ?_
        refine xget_C_word (v := (xg_C_word u)) hx hb htg hown hK hP (htg _ xw_224) rfl xd_C_immediateOp_87 ?_
        refine xc0_i (va_runS (As := [.int ((xg_C_word u))]) (rest := [.ref ((a 1))]) ⟨hx, hb, hml, hown, htg⟩ (c_D_d l D (xTy k) z H.size (xg_C_word u)) (va_cwS 1 htg (xg_S0 xkin_D_d xw_529 xw_530 xw_13) rfl rfl rfl (by decide +kernel) ⟨Nat.le_of_ble_eq_true rfl, Nat.le_of_ble_eq_true rfl⟩) ⟨xB_blind, fun U hU hW => xB_mk va_P0 hK va_D0 hE hS (xsub0 hA hS) hU hW⟩ rfl rfl hl.1 rfl (lv_room (Nat.le_of_ble_eq_true rfl)) xd_C_immediateOp_90 ⟨Nat.le_of_ble_eq_true rfl, Nat.le_of_ble_eq_true rfl⟩) hP hA hS (fun r50 H locs hr50 hP hS => ?_)
        refine lv_iload_n hx hb xd_C_immediateOp_93 rfl (lv_at hl 2 rfl) ?_
        refine lv_iload_n hx hb xd_C_immediateOp_94 rfl (lv_at hl 0 rfl) ?_
        refine lv_aload_n hx hb xd_C_immediateOp_95 rfl (lv_at hl 3 rfl) ?_
        refine xget_C_word (v := (xg_C_word u)) hx hb htg hown hK hP (htg _ xw_224) rfl xd_C_immediateOp_96 ?_
        refine xc0_i (va_runS (As := [.int ((xg_C_word u))]) (rest := [.int (((xg_x u) r3.toNatClampNeg)), .int r1, .int r50, .ref ((a 1))]) ⟨hx, hb, hml, hown, htg⟩ (c_D_immediate l D (xTy k) z H.size (xg_C_word u)) (va_cwS 1 htg (xg_S0 xkin_D_immediate xw_516 xw_517 xw_13) rfl rfl rfl (by decide +kernel) ⟨Nat.le_of_ble_eq_true rfl, Nat.le_of_ble_eq_true rfl⟩) ⟨xB_blind, fun U hU hW => xB_mk va_P0 hK va_D0 hE hS (xsub0 hA hS) hU hW⟩ rfl rfl hl.1 rfl (lv_room (Nat.le_of_ble_eq_true rfl)) xd_C_immediateOp_99 ⟨Nat.le_of_ble_eq_true rfl, Nat.le_of_ble_eq_true rfl⟩) hP hA hS (fun r51 H locs hr51 hP hS => ?_)
        refine xc0_i (va_runS (As := [.int r1, .int (((xg_x u) r3.toNatClampNeg)), .int r51]) (rest := [.int r50, .ref ((a 1))]) ⟨hx, hb, hml, hown, htg⟩ (c_R_combine l D (xTy k) z H.size r1 ((xg_x u) r3.toNatClampNeg) r51) (va_cwS 3 htg (xg_S0 xkin_R_combine xw_548 xw_549 xw_14) rfl rfl rfl (by decide +kernel) ⟨Nat.le_of_ble_eq_true rfl, Nat.le_of_ble_eq_true rfl⟩) ⟨xB_blind, fun U hU hW => xB_mk va_P0 hK va_D0 hE hS (xsub0 hA hS) hU hW⟩ rfl rfl hl.1 rfl (lv_room (Nat.le_of_ble_eq_true rfl)) xd_C_immediateOp_102 ⟨Nat.le_of_ble_eq_true rfl, Nat.le_of_ble_eq_true rfl⟩) hP hA hS (fun r52 H locs hr52 hP hS => ?_)
        refine xcW_v (va_runV (As := [.int r50, .int r52]) (rest := []) ⟨hx, hb, hml, hown, htg⟩ (c_C_put l D z k a g H.size u hg r50 r52 (xin_eq hr50 (xin_d _))) (cwV 2 htg (xg_V0 xkin_C_put xw_533 xw_322 xsel_C_put xw_2) rfl rfl rfl (by decide +kernel) ⟨Nat.le_of_ble_eq_true rfl, Nat.le_of_ble_eq_true rfl⟩) ⟨xB_blind, xrecv_C hK hP, fun U hU hW => xB_mk hP hK hD hE hS (xsubW hD hA hS) hU hW⟩ rfl rfl hl.1 rfl (lv_room (Nat.le_of_ble_eq_true rfl)) xd_C_immediateOp_105 ⟨Nat.le_of_ble_eq_true rfl, Nat.le_of_ble_eq_true rfl⟩) hD hA hS (fun w1 H locs hw hP hD hS => ?_)
        obtain ⟨u1, g⟩ := w1
        obtain ⟨q53, hq53⟩ : ∃ q, q = xf_C_put u r50 r52 := ⟨_, rfl⟩
        obtain ⟨e2, hg⟩ := hw
        rw [← hq53] at e2
        obtain rfl : q53 = u1 := e2.symm
        have hP : va_P D xCl (xWH k a g q53) H := hP
        have hD : va_D A (xWH k a g q53) := hD
        have hg : xok k g q53 := hg
        exact hj46 H locs ls g q53 (xif h47 (xit h48 (xit h49 (xlt_e hr50 (xlt_e hr51 (xlt_e hr52 (xlt_e hq53 rfl))))))) hg hl hP hD hS
      · refine lv_aload_n hx hb xd_C_immediateOp_77 rfl (lv_at hl 3 rfl) ?_
        refine lv_iconst (v := 2) hx hb xd_C_immediateOp_78 (by decide) ?_
        refine xcW_v (va_runV (As := [.int 2]) (rest := []) ⟨hx, hb, hml, hown, htg⟩ (c_C_refuse l D z k a g H.size u hg (2 : Int32)) (cwV 1 htg (xg_V0 xkin_C_refuse xw_509 xw_511 xsel_C_refuse xw_2) rfl rfl rfl (by decide +kernel) ⟨Nat.le_of_ble_eq_true rfl, Nat.le_of_ble_eq_true rfl⟩) ⟨xB_blind, xrecv_C hK hP, fun U hU hW => xB_mk hP hK hD hE hS (xsubW hD hA hS) hU hW⟩ rfl rfl hl.1 rfl (lv_room (Nat.le_of_ble_eq_true rfl)) xd_C_immediateOp_79 ⟨Nat.le_of_ble_eq_true rfl, Nat.le_of_ble_eq_true rfl⟩) hD hA hS (fun w1 H locs hw hP hD hS => ?_)
        obtain ⟨u1, g⟩ := w1
        obtain ⟨q54, hq54⟩ : ∃ q, q = xf_C_refuse u (2 : Int32) := ⟨_, rfl⟩
        obtain ⟨e2, hg⟩ := hw
        rw [← hq54] at e2
        obtain rfl : q54 = u1 := e2.symm
        have hP : va_P D xCl (xWH k a g q54) H := hP
        have hD : va_D A (xWH k a g q54) := hD
        have hg : xok k g q54 := hg
        refine lv_goto (tgt := 108) hx hb xd_C_immediateOp_82 rfl ?_
        exact hj46 H locs ls g q54 (xif h47 (xit h48 (xif h49 (xlt_e hq54 rfl)))) hg hl hP hD hS
    · refine lv_iload_n hx hb xd_C_immediateOp_68 rfl (lv_at hl 2 rfl) ?_
      refine lv_iconst (v := 5) hx hb xd_C_immediateOp_69 (by decide) ?_
      refine lv_icmp_ne (tgt := 85) hx hb xd_C_immediateOp_70 rfl (fun h55 => ?_) (fun h55 => ?_)
      · refine lv_aload_n hx hb xd_C_immediateOp_85 rfl (lv_at hl 3 rfl) ?_
        refine lv_aload_n hx hb xd_C_immediateOp_86 rfl (lv_at hl 3 rfl) ?_
        refine xget_C_word (v := (xg_C_word u)) hx hb htg hown hK hP (htg _ xw_224) rfl xd_C_immediateOp_87 ?_
        refine xc0_i (va_runS (As := [.int ((xg_C_word u))]) (rest := [.ref ((a 1))]) ⟨hx, hb, hml, hown, htg⟩ (c_D_d l D (xTy k) z H.size (xg_C_word u)) (va_cwS 1 htg (xg_S0 xkin_D_d xw_529 xw_530 xw_13) rfl rfl rfl (by decide +kernel) ⟨Nat.le_of_ble_eq_true rfl, Nat.le_of_ble_eq_true rfl⟩) ⟨xB_blind, fun U hU hW => xB_mk va_P0 hK va_D0 hE hS (xsub0 hA hS) hU hW⟩ rfl rfl hl.1 rfl (lv_room (Nat.le_of_ble_eq_true rfl)) xd_C_immediateOp_90 ⟨Nat.le_of_ble_eq_true rfl, Nat.le_of_ble_eq_true rfl⟩) hP hA hS (fun r56 H locs hr56 hP hS => ?_)
        refine lv_iload_n hx hb xd_C_immediateOp_93 rfl (lv_at hl 2 rfl) ?_
        refine lv_iload_n hx hb xd_C_immediateOp_94 rfl (lv_at hl 0 rfl) ?_
        refine lv_aload_n hx hb xd_C_immediateOp_95 rfl (lv_at hl 3 rfl) ?_
        refine xget_C_word (v := (xg_C_word u)) hx hb htg hown hK hP (htg _ xw_224) rfl xd_C_immediateOp_96 ?_
        refine xc0_i (va_runS (As := [.int ((xg_C_word u))]) (rest := [.int (((xg_x u) r3.toNatClampNeg)), .int r1, .int r56, .ref ((a 1))]) ⟨hx, hb, hml, hown, htg⟩ (c_D_immediate l D (xTy k) z H.size (xg_C_word u)) (va_cwS 1 htg (xg_S0 xkin_D_immediate xw_516 xw_517 xw_13) rfl rfl rfl (by decide +kernel) ⟨Nat.le_of_ble_eq_true rfl, Nat.le_of_ble_eq_true rfl⟩) ⟨xB_blind, fun U hU hW => xB_mk va_P0 hK va_D0 hE hS (xsub0 hA hS) hU hW⟩ rfl rfl hl.1 rfl (lv_room (Nat.le_of_ble_eq_true rfl)) xd_C_immediateOp_99 ⟨Nat.le_of_ble_eq_true rfl, Nat.le_of_ble_eq_true rfl⟩) hP hA hS (fun r57 H locs hr57 hP hS => ?_)
        refine xc0_i (va_runS (As := [.int r1, .int (((xg_x u) r3.toNatClampNeg)), .int r57]) (rest := [.int r56, .ref ((a 1))]) ⟨hx, hb, hml, hown, htg⟩ (c_R_combine l D (xTy k) z H.size r1 ((xg_x u) r3.toNatClampNeg) r57) (va_cwS 3 htg (xg_S0 xkin_R_combine xw_548 xw_549 xw_14) rfl rfl rfl (by decide +kernel) ⟨Nat.le_of_ble_eq_true rfl, Nat.le_of_ble_eq_true rfl⟩) ⟨xB_blind, fun U hU hW => xB_mk va_P0 hK va_D0 hE hS (xsub0 hA hS) hU hW⟩ rfl rfl hl.1 rfl (lv_room (Nat.le_of_ble_eq_true rfl)) xd_C_immediateOp_102 ⟨Nat.le_of_ble_eq_true rfl, Nat.le_of_ble_eq_true rfl⟩) hP hA hS (fun r58 H locs hr58 hP hS => ?_)
        refine xcW_v (va_runV (As := [.int r56, .int r58]) (rest := []) ⟨hx, hb, hml, hown, htg⟩ (c_C_put l D z k a g H.size u hg r56 r58 (xin_eq hr56 (xin_d _))) (cwV 2 htg (xg_V0 xkin_C_put xw_533 xw_322 xsel_C_put xw_2) rfl rfl rfl (by decide +kernel) ⟨Nat.le_of_ble_eq_true rfl, Nat.le_of_ble_eq_true rfl⟩) ⟨xB_blind, xrecv_C hK hP, fun U hU hW => xB_mk hP hK hD hE hS (xsubW hD hA hS) hU hW⟩ rfl rfl hl.1 rfl (lv_room (Nat.le_of_ble_eq_true rfl)) xd_C_immediateOp_105 ⟨Nat.le_of_ble_eq_true rfl, Nat.le_of_ble_eq_true rfl⟩) hD hA hS (fun w1 H locs hw hP hD hS => ?_)
        obtain ⟨u1, g⟩ := w1
        obtain ⟨q59, hq59⟩ : ∃ q, q = xf_C_put u r56 r58 := ⟨_, rfl⟩
        obtain ⟨e2, hg⟩ := hw
        rw [← hq59] at e2
        obtain rfl : q59 = u1 := e2.symm
        have hP : va_P D xCl (xWH k a g q59) H := hP
        have hD : va_D A (xWH k a g q59) := hD
        have hg : xok k g q59 := hg
        exact hj46 H locs ls g q59 (xif h47 (xif h48 (xif h55 (xlt_e hr56 (xlt_e hr57 (xlt_e hr58 (xlt_e hq59 rfl))))))) hg hl hP hD hS
      · refine lv_iload_n hx hb xd_C_immediateOp_73 rfl (lv_at hl 1 rfl) ?_
        refine lv_if_eq (tgt := 85) hx hb xd_C_immediateOp_74 rfl (fun h60 => ?_) (fun h60 => ?_)
        · refine lv_aload_n hx hb xd_C_immediateOp_85 rfl (lv_at hl 3 rfl) ?_
          refine lv_aload_n hx hb xd_C_immediateOp_86 rfl (lv_at hl 3 rfl) ?_
          refine xget_C_word (v := (xg_C_word u)) hx hb htg hown hK hP (htg _ xw_224) rfl xd_C_immediateOp_87 ?_
          refine xc0_i (va_runS (As := [.int ((xg_C_word u))]) (rest := [.ref ((a 1))]) ⟨hx, hb, hml, hown, htg⟩ (c_D_d l D (xTy k) z H.size (xg_C_word u)) (va_cwS 1 htg (xg_S0 xkin_D_d xw_529 xw_530 xw_13) rfl rfl rfl (by decide +kernel) ⟨Nat.le_of_ble_eq_true rfl, Nat.le_of_ble_eq_true rfl⟩) ⟨xB_blind, fun U hU hW => xB_mk va_P0 hK va_D0 hE hS (xsub0 hA hS) hU hW⟩ rfl rfl hl.1 rfl (lv_room (Nat.le_of_ble_eq_true rfl)) xd_C_immediateOp_90 ⟨Nat.le_of_ble_eq_true rfl, Nat.le_of_ble_eq_true rfl⟩) hP hA hS (fun r61 H locs hr61 hP hS => ?_)
          refine lv_iload_n hx hb xd_C_immediateOp_93 rfl (lv_at hl 2 rfl) ?_
          refine lv_iload_n hx hb xd_C_immediateOp_94 rfl (lv_at hl 0 rfl) ?_
          refine lv_aload_n hx hb xd_C_immediateOp_95 rfl (lv_at hl 3 rfl) ?_
          refine xget_C_word (v := (xg_C_word u)) hx hb htg hown hK hP (htg _ xw_224) rfl xd_C_immediateOp_96 ?_
          refine xc0_i (va_runS (As := [.int ((xg_C_word u))]) (rest := [.int (((xg_x u) r3.toNatClampNeg)), .int r1, .int r61, .ref ((a 1))]) ⟨hx, hb, hml, hown, htg⟩ (c_D_immediate l D (xTy k) z H.size (xg_C_word u)) (va_cwS 1 htg (xg_S0 xkin_D_immediate xw_516 xw_517 xw_13) rfl rfl rfl (by decide +kernel) ⟨Nat.le_of_ble_eq_true rfl, Nat.le_of_ble_eq_true rfl⟩) ⟨xB_blind, fun U hU hW => xB_mk va_P0 hK va_D0 hE hS (xsub0 hA hS) hU hW⟩ rfl rfl hl.1 rfl (lv_room (Nat.le_of_ble_eq_true rfl)) xd_C_immediateOp_99 ⟨Nat.le_of_ble_eq_true rfl, Nat.le_of_ble_eq_true rfl⟩) hP hA hS (fun r62 H locs hr62 hP hS => ?_)
          refine xc0_i (va_runS (As := [.int r1, .int (((xg_x u) r3.toNatClampNeg)), .int r62]) (rest := [.int r61, .ref ((a 1))]) ⟨hx, hb, hml, hown, htg⟩ (c_R_combine l D (xTy k) z H.size r1 ((xg_x u) r3.toNatClampNeg) r62) (va_cwS 3 htg (xg_S0 xkin_R_combine xw_548 xw_549 xw_14) rfl rfl rfl (by decide +kernel) ⟨Nat.le_of_ble_eq_true rfl, Nat.le_of_ble_eq_true rfl⟩) ⟨xB_blind, fun U hU hW => xB_mk va_P0 hK va_D0 hE hS (xsub0 hA hS) hU hW⟩ rfl rfl hl.1 rfl (lv_room (Nat.le_of_ble_eq_true rfl)) xd_C_immediateOp_102 ⟨Nat.le_of_ble_eq_true rfl, Nat.le_of_ble_eq_true rfl⟩) hP hA hS (fun r63 H locs hr63 hP hS => ?_)
          refine xcW_v (va_runV (As := [.int r61, .int r63]) (rest := []) ⟨hx, hb, hml, hown, htg⟩ (c_C_put l D z k a g H.size u hg r61 r63 (xin_eq hr61 (xin_d _))) (cwV 2 htg (xg_V0 xkin_C_put xw_533 xw_322 xsel_C_put xw_2) rfl rfl rfl (by decide +kernel) ⟨Nat.le_of_ble_eq_true rfl, Nat.le_of_ble_eq_true rfl⟩) ⟨xB_blind, xrecv_C hK hP, fun U hU hW => xB_mk hP hK hD hE hS (xsubW hD hA hS) hU hW⟩ rfl rfl hl.1 rfl (lv_room (Nat.le_of_ble_eq_true rfl)) xd_C_immediateOp_105 ⟨Nat.le_of_ble_eq_true rfl, Nat.le_of_ble_eq_true rfl⟩) hD hA hS (fun w1 H locs hw hP hD hS => ?_)
          obtain ⟨u1, g⟩ := w1
          obtain ⟨q64, hq64⟩ : ∃ q, q = xf_C_put u r61 r63 := ⟨_, rfl⟩
          obtain ⟨e2, hg⟩ := hw
          rw [← hq64] at e2
          obtain rfl : q64 = u1 := e2.symm
          have hP : va_P D xCl (xWH k a g q64) H := hP
          have hD : va_D A (xWH k a g q64) := hD
          have hg : xok k g q64 := hg
          exact hj46 H locs ls g q64 (xif h47 (xif h48 (xit h55 (xit h60 (xlt_e hr61 (xlt_e hr62 (xlt_e hr63 (xlt_e hq64 rfl)))))))) hg hl hP hD hS
        · refine lv_aload_n hx hb xd_C_immediateOp_77 rfl (lv_at hl 3 rfl) ?_
          refine lv_iconst (v := 2) hx hb xd_C_immediateOp_78 (by decide) ?_
          refine xcW_v (va_runV (As := [.int 2]) (rest := []) ⟨hx, hb, hml, hown, htg⟩ (c_C_refuse l D z k a g H.size u hg (2 : Int32)) (cwV 1 htg (xg_V0 xkin_C_refuse xw_509 xw_511 xsel_C_refuse xw_2) rfl rfl rfl (by decide +kernel) ⟨Nat.le_of_ble_eq_true rfl, Nat.le_of_ble_eq_true rfl⟩) ⟨xB_blind, xrecv_C hK hP, fun U hU hW => xB_mk hP hK hD hE hS (xsubW hD hA hS) hU hW⟩ rfl rfl hl.1 rfl (lv_room (Nat.le_of_ble_eq_true rfl)) xd_C_immediateOp_79 ⟨Nat.le_of_ble_eq_true rfl, Nat.le_of_ble_eq_true rfl⟩) hD hA hS (fun w1 H locs hw hP hD hS => ?_)
          obtain ⟨u1, g⟩ := w1
          obtain ⟨q65, hq65⟩ : ∃ q, q = xf_C_refuse u (2 : Int32) := ⟨_, rfl⟩
          obtain ⟨e2, hg⟩ := hw
          rw [← hq65] at e2
          obtain rfl : q65 = u1 := e2.symm
          have hP : va_P D xCl (xWH k a g q65) H := hP
          have hD : va_D A (xWH k a g q65) := hD
          have hg : xok k g q65 := hg
          refine lv_goto (tgt := 108) hx hb xd_C_immediateOp_82 rfl ?_
          exact hj46 H locs ls g q65 (xif h47 (xif h48 (xit h55 (xif h60 (xlt_e hq65 rfl))))) hg hl hP hD hS
  · refine lv_iload_n hx hb xd_C_immediateOp_34 rfl (lv_at hl 1 rfl) ?_
    refine lv_bipush (v := 32) hx hb xd_C_immediateOp_35 (by decide) ?_
    refine lv_icmp_ne (tgt := 63) hx hb xd_C_immediateOp_37 rfl (fun h66 => ?_) (fun h66 => ?_)
    · refine lv_iload_n hx hb xd_C_immediateOp_63 rfl (lv_at hl 2 rfl) ?_
      refine lv_iconst (v := 1) hx hb xd_C_immediateOp_64 (by decide) ?_
      refine lv_icmp_eq (tgt := 73) hx hb xd_C_immediateOp_65 rfl (fun h67 => ?_) (fun h67 => ?_)
      · refine lv_iload_n hx hb xd_C_immediateOp_73 rfl (lv_at hl 1 rfl) ?_
        refine lv_if_eq (tgt := 85) hx hb xd_C_immediateOp_74 rfl (fun h68 => ?_) (fun h68 => ?_)
        · refine lv_aload_n hx hb xd_C_immediateOp_85 rfl (lv_at hl 3 rfl) ?_
          refine lv_aload_n hx hb xd_C_immediateOp_86 rfl (lv_at hl 3 rfl) ?_
          refine xget_C_word (v := (xg_C_word u)) hx hb htg hown hK hP (htg _ xw_224) rfl xd_C_immediateOp_87 ?_
          refine xc0_i (va_runS (As := [.int ((xg_C_word u))]) (rest := [.ref ((a 1))]) ⟨hx, hb, hml, hown, htg⟩ (c_D_d l D (xTy k) z H.size (xg_C_word u)) (va_cwS 1 htg (xg_S0 xkin_D_d xw_529 xw_530 xw_13) rfl rfl rfl (by decide +kernel) ⟨Nat.le_of_ble_eq_true rfl, Nat.le_of_ble_eq_true rfl⟩) ⟨xB_blind, fun U hU hW => xB_mk va_P0 hK va_D0 hE hS (xsub0 hA hS) hU hW⟩ rfl rfl hl.1 rfl (lv_room (Nat.le_of_ble_eq_true rfl)) xd_C_immediateOp_90 ⟨Nat.le_of_ble_eq_true rfl, Nat.le_of_ble_eq_true rfl⟩) hP hA hS (fun r69 H locs hr69 hP hS => ?_)
          refine lv_iload_n hx hb xd_C_immediateOp_93 rfl (lv_at hl 2 rfl) ?_
          refine lv_iload_n hx hb xd_C_immediateOp_94 rfl (lv_at hl 0 rfl) ?_
          refine lv_aload_n hx hb xd_C_immediateOp_95 rfl (lv_at hl 3 rfl) ?_
          refine xget_C_word (v := (xg_C_word u)) hx hb htg hown hK hP (htg _ xw_224) rfl xd_C_immediateOp_96 ?_
          refine xc0_i (va_runS (As := [.int ((xg_C_word u))]) (rest := [.int (((xg_x u) r3.toNatClampNeg)), .int r1, .int r69, .ref ((a 1))]) ⟨hx, hb, hml, hown, htg⟩ (c_D_immediate l D (xTy k) z H.size (xg_C_word u)) (va_cwS 1 htg (xg_S0 xkin_D_immediate xw_516 xw_517 xw_13) rfl rfl rfl (by decide +kernel) ⟨Nat.le_of_ble_eq_true rfl, Nat.le_of_ble_eq_true rfl⟩) ⟨xB_blind, fun U hU hW => xB_mk va_P0 hK va_D0 hE hS (xsub0 hA hS) hU hW⟩ rfl rfl hl.1 rfl (lv_room (Nat.le_of_ble_eq_true rfl)) xd_C_immediateOp_99 ⟨Nat.le_of_ble_eq_true rfl, Nat.le_of_ble_eq_true rfl⟩) hP hA hS (fun r70 H locs hr70 hP hS => ?_)
          refine xc0_i (va_runS (As := [.int r1, .int (((xg_x u) r3.toNatClampNeg)), .int r70]) (rest := [.int r69, .ref ((a 1))]) ⟨hx, hb, hml, hown, htg⟩ (c_R_combine l D (xTy k) z H.size r1 ((xg_x u) r3.toNatClampNeg) r70) (va_cwS 3 htg (xg_S0 xkin_R_combine xw_548 xw_549 xw_14) rfl rfl rfl (by decide +kernel) ⟨Nat.le_of_ble_eq_true rfl, Nat.le_of_ble_eq_true rfl⟩) ⟨xB_blind, fun U hU hW => xB_mk va_P0 hK va_D0 hE hS (xsub0 hA hS) hU hW⟩ rfl rfl hl.1 rfl (lv_room (Nat.le_of_ble_eq_true rfl)) xd_C_immediateOp_102 ⟨Nat.le_of_ble_eq_true rfl, Nat.le_of_ble_eq_true rfl⟩) hP hA hS (fun r71 H locs hr71 hP hS => ?_)
          refine xcW_v (va_runV (As := [.int r69, .int r71]) (rest := []) ⟨hx, hb, hml, hown, htg⟩ (c_C_put l D z k a g H.size u hg r69 r71 (xin_eq hr69 (xin_d _))) (cwV 2 htg (xg_V0 xkin_C_put xw_533 xw_322 xsel_C_put xw_2) rfl rfl rfl (by decide +kernel) ⟨Nat.le_of_ble_eq_true rfl, Nat.le_of_ble_eq_true rfl⟩) ⟨xB_blind, xrecv_C hK hP, fun U hU hW => xB_mk hP hK hD hE hS (xsubW hD hA hS) hU hW⟩ rfl rfl hl.1 rfl (lv_room (Nat.le_of_ble_eq_true rfl)) xd_C_immediateOp_105 ⟨Nat.le_of_ble_eq_true rfl, Nat.le_of_ble_eq_true rfl⟩) hD hA hS (fun w1 H locs hw hP hD hS => ?_)
          obtain ⟨u1, g⟩ := w1
          obtain ⟨q72, hq72⟩ : ∃ q, q = xf_C_put u r69 r71 := ⟨_, rfl⟩
          obtain ⟨e2, hg⟩ := hw
          rw [← hq72] at e2
          obtain rfl : q72 = u1 := e2.symm
          have hP : va_P D xCl (xWH k a g q72) H := hP
          have hD : va_D A (xWH k a g q72) := hD
          have hg : xok k g q72 := hg
          exact hj46 H locs ls g q72 (xit h47 (xif h66 (xit h67 (xit h68 (xlt_e hr69 (xlt_e hr70 (xlt_e hr71 (xlt_e hq72 rfl)))))))) hg hl hP hD hS
        · refine lv_aload_n hx hb xd_C_immediateOp_77 rfl (lv_at hl 3 rfl) ?_
          refine lv_iconst (v := 2) hx hb xd_C_immediateOp_78 (by decide) ?_
          refine xcW_v (va_runV (As := [.int 2]) (rest := []) ⟨hx, hb, hml, hown, htg⟩ (c_C_refuse l D z k a g H.size u hg (2 : Int32)) (cwV 1 htg (xg_V0 xkin_C_refuse xw_509 xw_511 xsel_C_refuse xw_2) rfl rfl rfl (by decide +kernel) ⟨Nat.le_of_ble_eq_true rfl, Nat.le_of_ble_eq_true rfl⟩) ⟨xB_blind, xrecv_C hK hP, fun U hU hW => xB_mk hP hK hD hE hS (xsubW hD hA hS) hU hW⟩ rfl rfl hl.1 rfl (lv_room (Nat.le_of_ble_eq_true rfl)) xd_C_immediateOp_79 ⟨Nat.le_of_ble_eq_true rfl, Nat.le_of_ble_eq_true rfl⟩) hD hA hS (fun w1 H locs hw hP hD hS => ?_)
          obtain ⟨u1, g⟩ := w1
          obtain ⟨q73, hq73⟩ : ∃ q, q = xf_C_refuse u (2 : Int32) := ⟨_, rfl⟩
          obtain ⟨e2, hg⟩ := hw
          rw [← hq73] at e2
          obtain rfl : q73 = u1 := e2.symm
          have hP : va_P D xCl (xWH k a g q73) H := hP
          have hD : va_D A (xWH k a g q73) := hD
          have hg : xok k g q73 := hg
          refine lv_goto (tgt := 108) hx hb xd_C_immediateOp_82 rfl ?_
          exact hj46 H locs ls g q73 (xit h47 (xif h66 (xit h67 (xif h68 (xlt_e hq73 rfl))))) hg hl hP hD hS
      · refine lv_iload_n hx hb xd_C_immediateOp_68 rfl (lv_at hl 2 rfl) ?_
        refine lv_iconst (v := 5) hx hb xd_C_immediateOp_69 (by decide) ?_
        refine lv_icmp_ne (tgt := 85) hx hb xd_C_immediateOp_70 rfl (fun h74 => ?_) (fun h74 => ?_)
        · refine lv_aload_n hx hb xd_C_immediateOp_85 rfl (lv_at hl 3 rfl) ?_
          refine lv_aload_n hx hb xd_C_immediateOp_86 rfl (lv_at hl 3 rfl) ?_
          refine xget_C_word (v := (xg_C_word u)) hx hb htg hown hK hP (htg _ xw_224) rfl xd_C_immediateOp_87 ?_
          refine xc0_i (va_runS (As := [.int ((xg_C_word u))]) (rest := [.ref ((a 1))]) ⟨hx, hb, hml, hown, htg⟩ (c_D_d l D (xTy k) z H.size (xg_C_word u)) (va_cwS 1 htg (xg_S0 xkin_D_d xw_529 xw_530 xw_13) rfl rfl rfl (by decide +kernel) ⟨Nat.le_of_ble_eq_true rfl, Nat.le_of_ble_eq_true rfl⟩) ⟨xB_blind, fun U hU hW => xB_mk va_P0 hK va_D0 hE hS (xsub0 hA hS) hU hW⟩ rfl rfl hl.1 rfl (lv_room (Nat.le_of_ble_eq_true rfl)) xd_C_immediateOp_90 ⟨Nat.le_of_ble_eq_true rfl, Nat.le_of_ble_eq_true rfl⟩) hP hA hS (fun r75 H locs hr75 hP hS => ?_)
          refine lv_iload_n hx hb xd_C_immediateOp_93 rfl (lv_at hl 2 rfl) ?_
          refine lv_iload_n hx hb xd_C_immediateOp_94 rfl (lv_at hl 0 rfl) ?_
          refine lv_aload_n hx hb xd_C_immediateOp_95 rfl (lv_at hl 3 rfl) ?_
          refine xget_C_word (v := (xg_C_word u)) hx hb htg hown hK hP (htg _ xw_224) rfl xd_C_immediateOp_96 ?_
          refine xc0_i (va_runS (As := [.int ((xg_C_word u))]) (rest := [.int (((xg_x u) r3.toNatClampNeg)), .int r1, .int r75, .ref ((a 1))]) ⟨hx, hb, hml, hown, htg⟩ (c_D_immediate l D (xTy k) z H.size (xg_C_word u)) (va_cwS 1 htg (xg_S0 xkin_D_immediate xw_516 xw_517 xw_13) rfl rfl rfl (by decide +kernel) ⟨Nat.le_of_ble_eq_true rfl, Nat.le_of_ble_eq_true rfl⟩) ⟨xB_blind, fun U hU hW => xB_mk va_P0 hK va_D0 hE hS (xsub0 hA hS) hU hW⟩ rfl rfl hl.1 rfl (lv_room (Nat.le_of_ble_eq_true rfl)) xd_C_immediateOp_99 ⟨Nat.le_of_ble_eq_true rfl, Nat.le_of_ble_eq_true rfl⟩) hP hA hS (fun r76 H locs hr76 hP hS => ?_)
          refine xc0_i (va_runS (As := [.int r1, .int (((xg_x u) r3.toNatClampNeg)), .int r76]) (rest := [.int r75, .ref ((a 1))]) ⟨hx, hb, hml, hown, htg⟩ (c_R_combine l D (xTy k) z H.size r1 ((xg_x u) r3.toNatClampNeg) r76) (va_cwS 3 htg (xg_S0 xkin_R_combine xw_548 xw_549 xw_14) rfl rfl rfl (by decide +kernel) ⟨Nat.le_of_ble_eq_true rfl, Nat.le_of_ble_eq_true rfl⟩) ⟨xB_blind, fun U hU hW => xB_mk va_P0 hK va_D0 hE hS (xsub0 hA hS) hU hW⟩ rfl rfl hl.1 rfl (lv_room (Nat.le_of_ble_eq_true rfl)) xd_C_immediateOp_102 ⟨Nat.le_of_ble_eq_true rfl, Nat.le_of_ble_eq_true rfl⟩) hP hA hS (fun r77 H locs hr77 hP hS => ?_)
          refine xcW_v (va_runV (As := [.int r75, .int r77]) (rest := []) ⟨hx, hb, hml, hown, htg⟩ (c_C_put l D z k a g H.size u hg r75 r77 (xin_eq hr75 (xin_d _))) (cwV 2 htg (xg_V0 xkin_C_put xw_533 xw_322 xsel_C_put xw_2) rfl rfl rfl (by decide +kernel) ⟨Nat.le_of_ble_eq_true rfl, Nat.le_of_ble_eq_true rfl⟩) ⟨xB_blind, xrecv_C hK hP, fun U hU hW => xB_mk hP hK hD hE hS (xsubW hD hA hS) hU hW⟩ rfl rfl hl.1 rfl (lv_room (Nat.le_of_ble_eq_true rfl)) xd_C_immediateOp_105 ⟨Nat.le_of_ble_eq_true rfl, Nat.le_of_ble_eq_true rfl⟩) hD hA hS (fun w1 H locs hw hP hD hS => ?_)
          obtain ⟨u1, g⟩ := w1
          obtain ⟨q78, hq78⟩ : ∃ q, q = xf_C_put u r75 r77 := ⟨_, rfl⟩
          obtain ⟨e2, hg⟩ := hw
          rw [← hq78] at e2
          obtain rfl : q78 = u1 := e2.symm
          have hP : va_P D xCl (xWH k a g q78) H := hP
          have hD : va_D A (xWH k a g q78) := hD
          have hg : xok k g q78 := hg
          exact hj46 H locs ls g q78 (xit h47 (xif h66 (xif h67 (xif h74 (xlt_e hr75 (xlt_e hr76 (xlt_e hr77 (xlt_e hq78 rfl)))))))) hg hl hP hD hS
        · refine lv_iload_n hx hb xd_C_immediateOp_73 rfl (lv_at hl 1 rfl) ?_
          refine lv_if_eq (tgt := 85) hx hb xd_C_immediateOp_74 rfl (fun h79 => ?_) (fun h79 => ?_)
          · refine lv_aload_n hx hb xd_C_immediateOp_85 rfl (lv_at hl 3 rfl) ?_
            refine lv_aload_n hx hb xd_C_immediateOp_86 rfl (lv_at hl 3 rfl) ?_
            refine xget_C_word (v := (xg_C_word u)) hx hb htg hown hK hP (htg _ xw_224) rfl xd_C_immediateOp_87 ?_
            refine xc0_i (va_runS (As := [.int ((xg_C_word u))]) (rest := [.ref ((a 1))]) ⟨hx, hb, hml, hown, htg⟩ (c_D_d l D (xTy k) z H.size (xg_C_word u)) (va_cwS 1 htg (xg_S0 xkin_D_d xw_529 xw_530 xw_13) rfl rfl rfl (by decide +kernel) ⟨Nat.le_of_ble_eq_true rfl, Nat.le_of_ble_eq_true rfl⟩) ⟨xB_blind, fun U hU hW => xB_mk va_P0 hK va_D0 hE hS (xsub0 hA hS) hU hW⟩ rfl rfl hl.1 rfl (lv_room (Nat.le_of_ble_eq_true rfl)) xd_C_immediateOp_90 ⟨Nat.le_of_ble_eq_true rfl, Nat.le_of_ble_eq_true rfl⟩) hP hA hS (fun r80 H locs hr80 hP hS => ?_)
            refine lv_iload_n hx hb xd_C_immediateOp_93 rfl (lv_at hl 2 rfl) ?_
            refine lv_iload_n hx hb xd_C_immediateOp_94 rfl (lv_at hl 0 rfl) ?_
            refine lv_aload_n hx hb xd_C_immediateOp_95 rfl (lv_at hl 3 rfl) ?_
            refine xget_C_word (v := (xg_C_word u)) hx hb htg hown hK hP (htg _ xw_224) rfl xd_C_immediateOp_96 ?_
            refine xc0_i (va_runS (As := [.int ((xg_C_word u))]) (rest := [.int (((xg_x u) r3.toNatClampNeg)), .int r1, .int r80, .ref ((a 1))]) ⟨hx, hb, hml, hown, htg⟩ (c_D_immediate l D (xTy k) z H.size (xg_C_word u)) (va_cwS 1 htg (xg_S0 xkin_D_immediate xw_516 xw_517 xw_13) rfl rfl rfl (by decide +kernel) ⟨Nat.le_of_ble_eq_true rfl, Nat.le_of_ble_eq_true rfl⟩) ⟨xB_blind, fun U hU hW => xB_mk va_P0 hK va_D0 hE hS (xsub0 hA hS) hU hW⟩ rfl rfl hl.1 rfl (lv_room (Nat.le_of_ble_eq_true rfl)) xd_C_immediateOp_99 ⟨Nat.le_of_ble_eq_true rfl, Nat.le_of_ble_eq_true rfl⟩) hP hA hS (fun r81 H locs hr81 hP hS => ?_)
            refine xc0_i (va_runS (As := [.int r1, .int (((xg_x u) r3.toNatClampNeg)), .int r81]) (rest := [.int r80, .ref ((a 1))]) ⟨hx, hb, hml, hown, htg⟩ (c_R_combine l D (xTy k) z H.size r1 ((xg_x u) r3.toNatClampNeg) r81) (va_cwS 3 htg (xg_S0 xkin_R_combine xw_548 xw_549 xw_14) rfl rfl rfl (by decide +kernel) ⟨Nat.le_of_ble_eq_true rfl, Nat.le_of_ble_eq_true rfl⟩) ⟨xB_blind, fun U hU hW => xB_mk va_P0 hK va_D0 hE hS (xsub0 hA hS) hU hW⟩ rfl rfl hl.1 rfl (lv_room (Nat.le_of_ble_eq_true rfl)) xd_C_immediateOp_102 ⟨Nat.le_of_ble_eq_true rfl, Nat.le_of_ble_eq_true rfl⟩) hP hA hS (fun r82 H locs hr82 hP hS => ?_)
            refine xcW_v (va_runV (As := [.int r80, .int r82]) (rest := []) ⟨hx, hb, hml, hown, htg⟩ (c_C_put l D z k a g H.size u hg r80 r82 (xin_eq hr80 (xin_d _))) (cwV 2 htg (xg_V0 xkin_C_put xw_533 xw_322 xsel_C_put xw_2) rfl rfl rfl (by decide +kernel) ⟨Nat.le_of_ble_eq_true rfl, Nat.le_of_ble_eq_true rfl⟩) ⟨xB_blind, xrecv_C hK hP, fun U hU hW => xB_mk hP hK hD hE hS (xsubW hD hA hS) hU hW⟩ rfl rfl hl.1 rfl (lv_room (Nat.le_of_ble_eq_true rfl)) xd_C_immediateOp_105 ⟨Nat.le_of_ble_eq_true rfl, Nat.le_of_ble_eq_true rfl⟩) hD hA hS (fun w1 H locs hw hP hD hS => ?_)
            obtain ⟨u1, g⟩ := w1
            obtain ⟨q83, hq83⟩ : ∃ q, q = xf_C_put u r80 r82 := ⟨_, rfl⟩
            obtain ⟨e2, hg⟩ := hw
            rw [← hq83] at e2
            obtain rfl : q83 = u1 := e2.symm
            have hP : va_P D xCl (xWH k a g q83) H := hP
            have hD : va_D A (xWH k a g q83) := hD
            have hg : xok k g q83 := hg
            exact hj46 H locs ls g q83 (xit h47 (xif h66 (xif h67 (xit h74 (xit h79 (xlt_e hr80 (xlt_e hr81 (xlt_e hr82 (xlt_e hq83 rfl))))))))) hg hl hP hD hS
          · refine lv_aload_n hx hb xd_C_immediateOp_77 rfl (lv_at hl 3 rfl) ?_
            refine lv_iconst (v := 2) hx hb xd_C_immediateOp_78 (by decide) ?_
            refine xcW_v (va_runV (As := [.int 2]) (rest := []) ⟨hx, hb, hml, hown, htg⟩ (c_C_refuse l D z k a g H.size u hg (2 : Int32)) (cwV 1 htg (xg_V0 xkin_C_refuse xw_509 xw_511 xsel_C_refuse xw_2) rfl rfl rfl (by decide +kernel) ⟨Nat.le_of_ble_eq_true rfl, Nat.le_of_ble_eq_true rfl⟩) ⟨xB_blind, xrecv_C hK hP, fun U hU hW => xB_mk hP hK hD hE hS (xsubW hD hA hS) hU hW⟩ rfl rfl hl.1 rfl (lv_room (Nat.le_of_ble_eq_true rfl)) xd_C_immediateOp_79 ⟨Nat.le_of_ble_eq_true rfl, Nat.le_of_ble_eq_true rfl⟩) hD hA hS (fun w1 H locs hw hP hD hS => ?_)
            obtain ⟨u1, g⟩ := w1
            obtain ⟨q84, hq84⟩ : ∃ q, q = xf_C_refuse u (2 : Int32) := ⟨_, rfl⟩
            obtain ⟨e2, hg⟩ := hw
            rw [← hq84] at e2
            obtain rfl : q84 = u1 := e2.symm
            have hP : va_P D xCl (xWH k a g q84) H := hP
            have hD : va_D A (xWH k a g q84) := hD
            have hg : xok k g q84 := hg
            refine lv_goto (tgt := 108) hx hb xd_C_immediateOp_82 rfl ?_
            exact hj46 H locs ls g q84 (xit h47 (xif h66 (xif h67 (xit h74 (xif h79 (xlt_e hq84 rfl)))))) hg hl hP hD hS
    · refine lv_aload_n hx hb xd_C_immediateOp_40 rfl (lv_at hl 3 rfl) ?_
      refine lv_aload_n hx hb xd_C_immediateOp_41 rfl (lv_at hl 3 rfl) ?_
      refine xget_C_word (v := (xg_C_word u)) hx hb htg hown hK hP (htg _ xw_224) rfl xd_C_immediateOp_42 ?_
      refine xc0_i (va_runS (As := [.int ((xg_C_word u))]) (rest := [.ref ((a 1))]) ⟨hx, hb, hml, hown, htg⟩ (c_D_d l D (xTy k) z H.size (xg_C_word u)) (va_cwS 1 htg (xg_S0 xkin_D_d xw_529 xw_530 xw_13) rfl rfl rfl (by decide +kernel) ⟨Nat.le_of_ble_eq_true rfl, Nat.le_of_ble_eq_true rfl⟩) ⟨xB_blind, fun U hU hW => xB_mk va_P0 hK va_D0 hE hS (xsub0 hA hS) hU hW⟩ rfl rfl hl.1 rfl (lv_room (Nat.le_of_ble_eq_true rfl)) xd_C_immediateOp_45 ⟨Nat.le_of_ble_eq_true rfl, Nat.le_of_ble_eq_true rfl⟩) hP hA hS (fun r85 H locs hr85 hP hS => ?_)
      refine lv_iload_n hx hb xd_C_immediateOp_48 rfl (lv_at hl 0 rfl) ?_
      refine lv_aload_n hx hb xd_C_immediateOp_49 rfl (lv_at hl 3 rfl) ?_
      refine xget_C_word (v := (xg_C_word u)) hx hb htg hown hK hP (htg _ xw_224) rfl xd_C_immediateOp_50 ?_
      refine xc0_i (va_runS (As := [.int ((xg_C_word u))]) (rest := [.int (((xg_x u) r3.toNatClampNeg)), .int r85, .ref ((a 1))]) ⟨hx, hb, hml, hown, htg⟩ (c_D_b l D (xTy k) z H.size (xg_C_word u)) (va_cwS 1 htg (xg_S0 xkin_D_b xw_545 xw_546 xw_13) rfl rfl rfl (by decide +kernel) ⟨Nat.le_of_ble_eq_true rfl, Nat.le_of_ble_eq_true rfl⟩) ⟨xB_blind, fun U hU hW => xB_mk va_P0 hK va_D0 hE hS (xsub0 hA hS) hU hW⟩ rfl rfl hl.1 rfl (lv_room (Nat.le_of_ble_eq_true rfl)) xd_C_immediateOp_53 ⟨Nat.le_of_ble_eq_true rfl, Nat.le_of_ble_eq_true rfl⟩) hP hA hS (fun r86 H locs hr86 hP hS => ?_)
      refine lv_ishr hx hb xd_C_immediateOp_56 ?_
      refine xcW_v (va_runV (As := [.int r85, .int ((((xg_x u) r3.toNatClampNeg) >>> (r86 &&& 31)))]) (rest := []) ⟨hx, hb, hml, hown, htg⟩ (c_C_put l D z k a g H.size u hg r85 (((xg_x u) r3.toNatClampNeg) >>> (r86 &&& 31)) (xin_eq hr85 (xin_d _))) (cwV 2 htg (xg_V0 xkin_C_put xw_533 xw_322 xsel_C_put xw_2) rfl rfl rfl (by decide +kernel) ⟨Nat.le_of_ble_eq_true rfl, Nat.le_of_ble_eq_true rfl⟩) ⟨xB_blind, xrecv_C hK hP, fun U hU hW => xB_mk hP hK hD hE hS (xsubW hD hA hS) hU hW⟩ rfl rfl hl.1 rfl (lv_room (Nat.le_of_ble_eq_true rfl)) xd_C_immediateOp_57 ⟨Nat.le_of_ble_eq_true rfl, Nat.le_of_ble_eq_true rfl⟩) hD hA hS (fun w1 H locs hw hP hD hS => ?_)
      obtain ⟨u1, g⟩ := w1
      obtain ⟨q87, hq87⟩ : ∃ q, q = xf_C_put u r85 (((xg_x u) r3.toNatClampNeg) >>> (r86 &&& 31)) := ⟨_, rfl⟩
      obtain ⟨e2, hg⟩ := hw
      rw [← hq87] at e2
      obtain rfl : q87 = u1 := e2.symm
      have hP : va_P D xCl (xWH k a g q87) H := hP
      have hD : va_D A (xWH k a g q87) := hD
      have hg : xok k g q87 := hg
      refine lv_goto (tgt := 108) hx hb xd_C_immediateOp_60 rfl ?_
      exact hj46 H locs ls g q87 (xit h47 (xit h66 (xlt_e hr85 (xlt_e hr86 (xlt_e hq87 rfl))))) hg hl hP hD hS
theorem xm_C_immediateOp (u : XH) : XEs (xcH u) (xf_C_immediateOp u) := by unfold xf_C_immediateOp; exact (xlt_Es (fun r1 hr1 => (xlt_Es (fun r2 hr2 => (xlt_Es (fun r3 hr3 => (xlt_Es (fun v45 hv45 => (XEs_of hv45 (xit_Es (xit_Es (xlt_Es (fun r42 hr42 => (xlt_Es (fun r43 hr43 => (xlt_Es (fun q44 hq44 => ((XEs_of hq44 (xm_C_put u r42 (((xg_x u) r3.toNatClampNeg) >>> (r43 &&& 31)))).trans rfl))))))) (xit_Es (xit_Es (xlt_Es (fun r26 hr26 => (xlt_Es (fun r27 hr27 => (xlt_Es (fun r28 hr28 => (xlt_Es (fun q29 hq29 => ((XEs_of hq29 (xm_C_put u r26 r28)).trans rfl))))))))) (xlt_Es (fun q30 hq30 => ((XEs_of hq30 (xm_C_refuse u (2 : Int32))).trans rfl)))) (xit_Es (xit_Es (xlt_Es (fun r37 hr37 => (xlt_Es (fun r38 hr38 => (xlt_Es (fun r39 hr39 => (xlt_Es (fun q40 hq40 => ((XEs_of hq40 (xm_C_put u r37 r39)).trans rfl))))))))) (xlt_Es (fun q41 hq41 => ((XEs_of hq41 (xm_C_refuse u (2 : Int32))).trans rfl)))) (xlt_Es (fun r32 hr32 => (xlt_Es (fun r33 hr33 => (xlt_Es (fun r34 hr34 => (xlt_Es (fun q35 hq35 => ((XEs_of hq35 (xm_C_put u r32 r34)).trans rfl)))))))))))) (xit_Es (xit_Es (xlt_Es (fun r7 hr7 => (xlt_Es (fun r8 hr8 => (xlt_Es (fun r9 hr9 => (xlt_Es (fun q10 hq10 => ((XEs_of hq10 (xm_C_put u r7 r9)).trans rfl))))))))) (xlt_Es (fun q11 hq11 => ((XEs_of hq11 (xm_C_refuse u (2 : Int32))).trans rfl)))) (xit_Es (xit_Es (xlt_Es (fun r18 hr18 => (xlt_Es (fun r19 hr19 => (xlt_Es (fun r20 hr20 => (xlt_Es (fun q21 hq21 => ((XEs_of hq21 (xm_C_put u r18 r20)).trans rfl))))))))) (xlt_Es (fun q22 hq22 => ((XEs_of hq22 (xm_C_refuse u (2 : Int32))).trans rfl)))) (xlt_Es (fun r13 hr13 => (xlt_Es (fun r14 hr14 => (xlt_Es (fun r15 hr15 => (xlt_Es (fun q16 hq16 => ((XEs_of hq16 (xm_C_put u r13 r15)).trans rfl)))))))))))))))))))))

noncomputable def xf_C_registerOp (u : XH) : XH :=
  xlt (xf_D_f (xg_C_word u) : Int32) fun r1 =>
  xlt (xf_D_g (xg_C_word u) : Int32) fun r2 =>
  xlt (xf_D_d (xg_C_word u) : Int32) fun r3 =>
  xlt (xf_D_a (xg_C_word u) : Int32) fun r4 =>
  xlt (xf_D_b (xg_C_word u) : Int32) fun r5 =>
  xlt (if r2 = 0 then (xlt (xf_R_combine r1 ((xg_x u) r4.toNatClampNeg) ((xg_x u) r5.toNatClampNeg) : Int32) fun r30 => xlt (xf_C_put u r3 r30 : XH) fun q31 => q31) else (if r2 = 1 then (xlt (if 4 ≤ r1 then (xlt (xf_R_divide r1 ((xg_x u) r4.toNatClampNeg) ((xg_x u) r5.toNatClampNeg) : Int32) fun r22 => r22) else (xlt (xf_R_multiply r1 ((xg_x u) r4.toNatClampNeg) ((xg_x u) r5.toNatClampNeg) : Int32) fun r23 => r23) : Int32) fun v24 => xlt (xf_C_put u r3 v24 : XH) fun q26 => q26) else (if r2 = 32 then (if r1 = 0 then (xlt (xf_C_put u r3 (((xg_x u) r4.toNatClampNeg) - ((xg_x u) r5.toNatClampNeg)) : XH) fun q20 => q20) else (if r2 = 32 then (if r1 = 5 then (xlt (xf_C_put u r3 (((xg_x u) r4.toNatClampNeg) >>> ((((xg_x u) r5.toNatClampNeg) &&& (31 : Int32)) &&& 31)) : XH) fun q19 => q19) else (xlt (xf_C_refuse u (2 : Int32) : XH) fun q18 => q18)) else (xlt (xf_C_refuse u (2 : Int32) : XH) fun q16 => q16))) else (if r2 = 32 then (if r1 = 5 then (xlt (xf_C_put u r3 (((xg_x u) r4.toNatClampNeg) >>> ((((xg_x u) r5.toNatClampNeg) &&& (31 : Int32)) &&& 31)) : XH) fun q13 => q13) else (xlt (xf_C_refuse u (2 : Int32) : XH) fun q12 => q12)) else (xlt (xf_C_refuse u (2 : Int32) : XH) fun q10 => q10)))) : XH) fun v32 =>
  v32
set_option maxHeartbeats 4000000 in
set_option maxRecDepth 100000 in
theorem c_C_registerOp (l : Launch) (D : va_G) (z : (Nat → Nat) × (Nat → Nat)) (k : ClassId × ClassId) (a : Nat → Nat) (g : XG) (sz : Nat) (u : XH) (hg : xok k g u) : Met l xy_C_registerOp (xk_C_registerOp :: lw_g) { frames := 2, cells := 0, slots := 0, locals := 43 } (va_Pc [.ref ((a 1))] (xB D (xTy k) z sz (xWH k a g u))) (va_Qv (fun q : XH × XG => q.1 = xf_C_registerOp u ∧ xok k q.2 q.1) (fun q t => xQ D (xTy k) (xWH k a q.2 q.1) (va_A (xWH k a g u) sz) t) (va_A (xWH k a g u) sz)) 0 0 (va_A (xWH k a g u) sz) := by
  refine xopen_v (wf := fun q : XH × XG => xWH k a q.2 q.1) (lv := [(0, .ref ((a 1)))]) (by decide) rfl (Nat.le_of_ble_eq_true rfl) ?_
  intro p e s m args below meth c Q ls A H locs hx hb hml htg hown hin hK hP hD hE hS hA hl hret
  refine lv_aload_n hx hb xd_C_registerOp_0 rfl (lv_at hl 0 rfl) ?_
  refine xget_C_word (v := (xg_C_word u)) hx hb htg hown hK hP (htg _ xw_224) rfl xd_C_registerOp_1 ?_
  refine xc0_i (va_runS (As := [.int ((xg_C_word u))]) (rest := []) ⟨hx, hb, hml, hown, htg⟩ (c_D_f l D (xTy k) z H.size (xg_C_word u)) (va_cwS 1 htg (xg_S0 xkin_D_f xw_499 xw_500 xw_13) rfl rfl rfl (by decide +kernel) ⟨Nat.le_of_ble_eq_true rfl, Nat.le_of_ble_eq_true rfl⟩) ⟨xB_blind, fun U hU hW => xB_mk va_P0 hK va_D0 hE hS (xsub0 hA hS) hU hW⟩ rfl rfl hl.1 rfl (lv_room (Nat.le_of_ble_eq_true rfl)) xd_C_registerOp_4 ⟨Nat.le_of_ble_eq_true rfl, Nat.le_of_ble_eq_true rfl⟩) hP hA hS (fun r1 H locs hr1 hP hS => ?_)
  refine lv_istore_n (lv' := [(1, .int r1), (0, .ref ((a 1)))]) hx hb xd_C_registerOp_7 rfl hl (by decide) rfl (fun ls hl => ?_)
  refine lv_aload_n hx hb xd_C_registerOp_8 rfl (lv_at hl 1 rfl) ?_
  refine xget_C_word (v := (xg_C_word u)) hx hb htg hown hK hP (htg _ xw_224) rfl xd_C_registerOp_9 ?_
  refine xc0_i (va_runS (As := [.int ((xg_C_word u))]) (rest := []) ⟨hx, hb, hml, hown, htg⟩ (c_D_g l D (xTy k) z H.size (xg_C_word u)) (va_cwS 1 htg (xg_S0 xkin_D_g xw_542 xw_543 xw_13) rfl rfl rfl (by decide +kernel) ⟨Nat.le_of_ble_eq_true rfl, Nat.le_of_ble_eq_true rfl⟩) ⟨xB_blind, fun U hU hW => xB_mk va_P0 hK va_D0 hE hS (xsub0 hA hS) hU hW⟩ rfl rfl hl.1 rfl (lv_room (Nat.le_of_ble_eq_true rfl)) xd_C_registerOp_12 ⟨Nat.le_of_ble_eq_true rfl, Nat.le_of_ble_eq_true rfl⟩) hP hA hS (fun r2 H locs hr2 hP hS => ?_)
  refine lv_istore_n (lv' := [(2, .int r2), (1, .int r1), (0, .ref ((a 1)))]) hx hb xd_C_registerOp_15 rfl hl (by decide) rfl (fun ls hl => ?_)
  refine lv_aload_n hx hb xd_C_registerOp_16 rfl (lv_at hl 2 rfl) ?_
  refine xget_C_word (v := (xg_C_word u)) hx hb htg hown hK hP (htg _ xw_224) rfl xd_C_registerOp_17 ?_
  refine xc0_i (va_runS (As := [.int ((xg_C_word u))]) (rest := []) ⟨hx, hb, hml, hown, htg⟩ (c_D_d l D (xTy k) z H.size (xg_C_word u)) (va_cwS 1 htg (xg_S0 xkin_D_d xw_529 xw_530 xw_13) rfl rfl rfl (by decide +kernel) ⟨Nat.le_of_ble_eq_true rfl, Nat.le_of_ble_eq_true rfl⟩) ⟨xB_blind, fun U hU hW => xB_mk va_P0 hK va_D0 hE hS (xsub0 hA hS) hU hW⟩ rfl rfl hl.1 rfl (lv_room (Nat.le_of_ble_eq_true rfl)) xd_C_registerOp_20 ⟨Nat.le_of_ble_eq_true rfl, Nat.le_of_ble_eq_true rfl⟩) hP hA hS (fun r3 H locs hr3 hP hS => ?_)
  refine lv_istore_n (lv' := [(3, .int r3), (2, .int r2), (1, .int r1), (0, .ref ((a 1)))]) hx hb xd_C_registerOp_23 rfl hl (by decide) rfl (fun ls hl => ?_)
  refine lv_aload_n hx hb xd_C_registerOp_24 rfl (lv_at hl 3 rfl) ?_
  refine xget_C_x hx hb htg hown hK hP (htg _ xw_199) xd_C_registerOp_25 ?_
  refine lv_aload_n hx hb xd_C_registerOp_28 rfl (lv_at hl 3 rfl) ?_
  refine xget_C_word (v := (xg_C_word u)) hx hb htg hown hK hP (htg _ xw_224) rfl xd_C_registerOp_29 ?_
  refine xc0_i (va_runS (As := [.int ((xg_C_word u))]) (rest := [.ref ((a 2))]) ⟨hx, hb, hml, hown, htg⟩ (c_D_a l D (xTy k) z H.size (xg_C_word u)) (va_cwS 1 htg (xg_S0 xkin_D_a xw_513 xw_514 xw_13) rfl rfl rfl (by decide +kernel) ⟨Nat.le_of_ble_eq_true rfl, Nat.le_of_ble_eq_true rfl⟩) ⟨xB_blind, fun U hU hW => xB_mk va_P0 hK va_D0 hE hS (xsub0 hA hS) hU hW⟩ rfl rfl hl.1 rfl (lv_room (Nat.le_of_ble_eq_true rfl)) xd_C_registerOp_32 ⟨Nat.le_of_ble_eq_true rfl, Nat.le_of_ble_eq_true rfl⟩) hP hA hS (fun r4 H locs hr4 hP hS => ?_)
  refine xald_x (f := (xg_x u)) hx hb hK hP (xin_eq hr4 (xin_a _)) rfl xd_C_registerOp_35 ?_
  refine lv_istore (lv' := [(4, .int (((xg_x u) r4.toNatClampNeg))), (3, .int r3), (2, .int r2), (1, .int r1), (0, .ref ((a 1)))]) hx hb xd_C_registerOp_36 hl (by decide) rfl (fun ls hl => ?_)
  refine lv_aload_n hx hb xd_C_registerOp_38 rfl (lv_at hl 4 rfl) ?_
  refine xget_C_x hx hb htg hown hK hP (htg _ xw_199) xd_C_registerOp_39 ?_
  refine lv_aload_n hx hb xd_C_registerOp_42 rfl (lv_at hl 4 rfl) ?_
  refine xget_C_word (v := (xg_C_word u)) hx hb htg hown hK hP (htg _ xw_224) rfl xd_C_registerOp_43 ?_
  refine xc0_i (va_runS (As := [.int ((xg_C_word u))]) (rest := [.ref ((a 2))]) ⟨hx, hb, hml, hown, htg⟩ (c_D_b l D (xTy k) z H.size (xg_C_word u)) (va_cwS 1 htg (xg_S0 xkin_D_b xw_545 xw_546 xw_13) rfl rfl rfl (by decide +kernel) ⟨Nat.le_of_ble_eq_true rfl, Nat.le_of_ble_eq_true rfl⟩) ⟨xB_blind, fun U hU hW => xB_mk va_P0 hK va_D0 hE hS (xsub0 hA hS) hU hW⟩ rfl rfl hl.1 rfl (lv_room (Nat.le_of_ble_eq_true rfl)) xd_C_registerOp_46 ⟨Nat.le_of_ble_eq_true rfl, Nat.le_of_ble_eq_true rfl⟩) hP hA hS (fun r5 H locs hr5 hP hS => ?_)
  refine xald_x (f := (xg_x u)) hx hb hK hP (xin_eq hr5 (xin_b _)) rfl xd_C_registerOp_49 ?_
  refine lv_istore (lv' := [(5, .int (((xg_x u) r5.toNatClampNeg))), (4, .int (((xg_x u) r4.toNatClampNeg))), (3, .int r3), (2, .int r2), (1, .int r1), (0, .ref ((a 1)))]) hx hb xd_C_registerOp_50 hl (by decide) rfl (fun ls hl => ?_)
  refine lv_iload_n hx hb xd_C_registerOp_52 rfl (lv_at hl 3 rfl) ?_
  have hj33 : ∀ (H : Heap) (locs : List Loc) (ls : Array Slot) (g : XG) (v32 : XH), v32 = (if r2 = 0 then (xlt (xf_R_combine r1 ((xg_x u) r4.toNatClampNeg) ((xg_x u) r5.toNatClampNeg) : Int32) fun r30 => xlt (xf_C_put u r3 r30 : XH) fun q31 => q31) else (if r2 = 1 then (xlt (if 4 ≤ r1 then (xlt (xf_R_divide r1 ((xg_x u) r4.toNatClampNeg) ((xg_x u) r5.toNatClampNeg) : Int32) fun r22 => r22) else (xlt (xf_R_multiply r1 ((xg_x u) r4.toNatClampNeg) ((xg_x u) r5.toNatClampNeg) : Int32) fun r23 => r23) : Int32) fun v24 => xlt (xf_C_put u r3 v24 : XH) fun q26 => q26) else (if r2 = 32 then (if r1 = 0 then (xlt (xf_C_put u r3 (((xg_x u) r4.toNatClampNeg) - ((xg_x u) r5.toNatClampNeg)) : XH) fun q20 => q20) else (if r2 = 32 then (if r1 = 5 then (xlt (xf_C_put u r3 (((xg_x u) r4.toNatClampNeg) >>> ((((xg_x u) r5.toNatClampNeg) &&& (31 : Int32)) &&& 31)) : XH) fun q19 => q19) else (xlt (xf_C_refuse u (2 : Int32) : XH) fun q18 => q18)) else (xlt (xf_C_refuse u (2 : Int32) : XH) fun q16 => q16))) else (if r2 = 32 then (if r1 = 5 then (xlt (xf_C_put u r3 (((xg_x u) r4.toNatClampNeg) >>> ((((xg_x u) r5.toNatClampNeg) &&& (31 : Int32)) &&& 31)) : XH) fun q13 => q13) else (xlt (xf_C_refuse u (2 : Int32) : XH) fun q12 => q12)) else (xlt (xf_C_refuse u (2 : Int32) : XH) fun q10 => q10))))) → xok k g v32 → lv_has ls 6 [(5, .int (((xg_x u) r5.toNatClampNeg))), (4, .int (((xg_x u) r4.toNatClampNeg))), (3, .int r3), (2, .int r2), (1, .int r1), (0, .ref ((a 1)))] → va_P D xCl (xWH k a g v32) H → va_D A (xWH k a g v32) → va_S A s.heap H locs → W p l e { frames := 2, cells := 0, slots := 0, locals := 43 } s m args below meth c H locs (0) (0) Q (F0 m 164 ls []) := by
    intro H locs ls g v32 hv32 hg hl hP hD hS
    exact hret (v32, g) H locs ls _ ⟨(by unfold xf_C_registerOp; exact (xlt_e hr1 (xlt_e hr2 (xlt_e hr3 (xlt_e hr4 (xlt_e hr5 (xlt_e hv32 rfl))))))), hg⟩ hP hD hS xd_C_registerOp_164
  refine lv_if_ne (tgt := 72) hx hb xd_C_registerOp_53 rfl (fun h34 => ?_) (fun h34 => ?_)
  · refine lv_iload_n hx hb xd_C_registerOp_72 rfl (lv_at hl 3 rfl) ?_
    refine lv_iconst (v := 1) hx hb xd_C_registerOp_73 (by decide) ?_
    refine lv_icmp_ne (tgt := 109) hx hb xd_C_registerOp_74 rfl (fun h35 => ?_) (fun h35 => ?_)
    · refine lv_iload_n hx hb xd_C_registerOp_109 rfl (lv_at hl 3 rfl) ?_
      refine lv_bipush (v := 32) hx hb xd_C_registerOp_110 (by decide) ?_
      refine lv_icmp_ne (tgt := 132) hx hb xd_C_registerOp_112 rfl (fun h36 => ?_) (fun h36 => ?_)
      · refine lv_iload_n hx hb xd_C_registerOp_132 rfl (lv_at hl 3 rfl) ?_
        refine lv_bipush (v := 32) hx hb xd_C_registerOp_133 (by decide) ?_
        refine lv_icmp_ne (tgt := 159) hx hb xd_C_registerOp_135 rfl (fun h37 => ?_) (fun h37 => ?_)
        · refine lv_aload_n hx hb xd_C_registerOp_159 rfl (lv_at hl 5 rfl) ?_
          refine lv_iconst (v := 2) hx hb xd_C_registerOp_160 (by decide) ?_
          refine xcW_v (va_runV (As := [.int 2]) (rest := []) ⟨hx, hb, hml, hown, htg⟩ (c_C_refuse l D z k a g H.size u hg (2 : Int32)) (cwV 1 htg (xg_V0 xkin_C_refuse xw_509 xw_511 xsel_C_refuse xw_2) rfl rfl rfl (by decide +kernel) ⟨Nat.le_of_ble_eq_true rfl, Nat.le_of_ble_eq_true rfl⟩) ⟨xB_blind, xrecv_C hK hP, fun U hU hW => xB_mk hP hK hD hE hS (xsubW hD hA hS) hU hW⟩ rfl rfl hl.1 rfl (lv_room (Nat.le_of_ble_eq_true rfl)) xd_C_registerOp_161 ⟨Nat.le_of_ble_eq_true rfl, Nat.le_of_ble_eq_true rfl⟩) hD hA hS (fun w1 H locs hw hP hD hS => ?_)
          obtain ⟨u1, g⟩ := w1
          obtain ⟨q38, hq38⟩ : ∃ q, q = xf_C_refuse u (2 : Int32) := ⟨_, rfl⟩
          obtain ⟨e2, hg⟩ := hw
          rw [← hq38] at e2
          obtain rfl : q38 = u1 := e2.symm
          have hP : va_P D xCl (xWH k a g q38) H := hP
          have hD : va_D A (xWH k a g q38) := hD
          have hg : xok k g q38 := hg
          exact hj33 H locs ls g q38 (xif h34 (xif h35 (xif h36 (xif h37 (xlt_e hq38 rfl))))) hg hl hP hD hS
        · refine lv_iload_n hx hb xd_C_registerOp_138 rfl (lv_at hl 4 rfl) ?_
          refine lv_iconst (v := 5) hx hb xd_C_registerOp_139 (by decide) ?_
          refine lv_icmp_ne (tgt := 159) hx hb xd_C_registerOp_140 rfl (fun h39 => ?_) (fun h39 => ?_)
          · refine lv_aload_n hx hb xd_C_registerOp_159 rfl (lv_at hl 5 rfl) ?_
            refine lv_iconst (v := 2) hx hb xd_C_registerOp_160 (by decide) ?_
            refine xcW_v (va_runV (As := [.int 2]) (rest := []) ⟨hx, hb, hml, hown, htg⟩ (c_C_refuse l D z k a g H.size u hg (2 : Int32)) (cwV 1 htg (xg_V0 xkin_C_refuse xw_509 xw_511 xsel_C_refuse xw_2) rfl rfl rfl (by decide +kernel) ⟨Nat.le_of_ble_eq_true rfl, Nat.le_of_ble_eq_true rfl⟩) ⟨xB_blind, xrecv_C hK hP, fun U hU hW => xB_mk hP hK hD hE hS (xsubW hD hA hS) hU hW⟩ rfl rfl hl.1 rfl (lv_room (Nat.le_of_ble_eq_true rfl)) xd_C_registerOp_161 ⟨Nat.le_of_ble_eq_true rfl, Nat.le_of_ble_eq_true rfl⟩) hD hA hS (fun w1 H locs hw hP hD hS => ?_)
            obtain ⟨u1, g⟩ := w1
            obtain ⟨q40, hq40⟩ : ∃ q, q = xf_C_refuse u (2 : Int32) := ⟨_, rfl⟩
            obtain ⟨e2, hg⟩ := hw
            rw [← hq40] at e2
            obtain rfl : q40 = u1 := e2.symm
            have hP : va_P D xCl (xWH k a g q40) H := hP
            have hD : va_D A (xWH k a g q40) := hD
            have hg : xok k g q40 := hg
            exact hj33 H locs ls g q40 (xif h34 (xif h35 (xif h36 (xit h37 (xif h39 (xlt_e hq40 rfl)))))) hg hl hP hD hS
          · refine lv_aload_n hx hb xd_C_registerOp_143 rfl (lv_at hl 5 rfl) ?_
            refine lv_iload_n hx hb xd_C_registerOp_144 rfl (lv_at hl 2 rfl) ?_
            refine lv_iload hx hb xd_C_registerOp_145 (lv_at hl 1 rfl) ?_
            refine lv_iload hx hb xd_C_registerOp_147 (lv_at hl 0 rfl) ?_
            refine lv_bipush (v := 31) hx hb xd_C_registerOp_149 (by decide) ?_
            refine lv_iand hx hb xd_C_registerOp_151 ?_
            refine lv_ishr hx hb xd_C_registerOp_152 ?_
            refine xcW_v (va_runV (As := [.int r3, .int ((((xg_x u) r4.toNatClampNeg) >>> ((((xg_x u) r5.toNatClampNeg) &&& (31 : Int32)) &&& 31)))]) (rest := []) ⟨hx, hb, hml, hown, htg⟩ (c_C_put l D z k a g H.size u hg r3 (((xg_x u) r4.toNatClampNeg) >>> ((((xg_x u) r5.toNatClampNeg) &&& (31 : Int32)) &&& 31)) (xin_eq hr3 (xin_d _))) (cwV 2 htg (xg_V0 xkin_C_put xw_533 xw_322 xsel_C_put xw_2) rfl rfl rfl (by decide +kernel) ⟨Nat.le_of_ble_eq_true rfl, Nat.le_of_ble_eq_true rfl⟩) ⟨xB_blind, xrecv_C hK hP, fun U hU hW => xB_mk hP hK hD hE hS (xsubW hD hA hS) hU hW⟩ rfl rfl hl.1 rfl (lv_room (Nat.le_of_ble_eq_true rfl)) xd_C_registerOp_153 ⟨Nat.le_of_ble_eq_true rfl, Nat.le_of_ble_eq_true rfl⟩) hD hA hS (fun w1 H locs hw hP hD hS => ?_)
            obtain ⟨u1, g⟩ := w1
            obtain ⟨q41, hq41⟩ : ∃ q, q = xf_C_put u r3 (((xg_x u) r4.toNatClampNeg) >>> ((((xg_x u) r5.toNatClampNeg) &&& (31 : Int32)) &&& 31)) := ⟨_, rfl⟩
            obtain ⟨e2, hg⟩ := hw
            rw [← hq41] at e2
            obtain rfl : q41 = u1 := e2.symm
            have hP : va_P D xCl (xWH k a g q41) H := hP
            have hD : va_D A (xWH k a g q41) := hD
            have hg : xok k g q41 := hg
            refine lv_goto (tgt := 164) hx hb xd_C_registerOp_156 rfl ?_
            exact hj33 H locs ls g q41 (xif h34 (xif h35 (xif h36 (xit h37 (xit h39 (xlt_e hq41 rfl)))))) hg hl hP hD hS
      · refine lv_iload_n hx hb xd_C_registerOp_115 rfl (lv_at hl 4 rfl) ?_
        refine lv_if_ne (tgt := 132) hx hb xd_C_registerOp_116 rfl (fun h42 => ?_) (fun h42 => ?_)
        · refine lv_iload_n hx hb xd_C_registerOp_132 rfl (lv_at hl 3 rfl) ?_
          refine lv_bipush (v := 32) hx hb xd_C_registerOp_133 (by decide) ?_
          refine lv_icmp_ne (tgt := 159) hx hb xd_C_registerOp_135 rfl (fun h43 => ?_) (fun h43 => ?_)
          · refine lv_aload_n hx hb xd_C_registerOp_159 rfl (lv_at hl 5 rfl) ?_
            refine lv_iconst (v := 2) hx hb xd_C_registerOp_160 (by decide) ?_
            refine xcW_v (va_runV (As := [.int 2]) (rest := []) ⟨hx, hb, hml, hown, htg⟩ (c_C_refuse l D z k a g H.size u hg (2 : Int32)) (cwV 1 htg (xg_V0 xkin_C_refuse xw_509 xw_511 xsel_C_refuse xw_2) rfl rfl rfl (by decide +kernel) ⟨Nat.le_of_ble_eq_true rfl, Nat.le_of_ble_eq_true rfl⟩) ⟨xB_blind, xrecv_C hK hP, fun U hU hW => xB_mk hP hK hD hE hS (xsubW hD hA hS) hU hW⟩ rfl rfl hl.1 rfl (lv_room (Nat.le_of_ble_eq_true rfl)) xd_C_registerOp_161 ⟨Nat.le_of_ble_eq_true rfl, Nat.le_of_ble_eq_true rfl⟩) hD hA hS (fun w1 H locs hw hP hD hS => ?_)
            obtain ⟨u1, g⟩ := w1
            obtain ⟨q44, hq44⟩ : ∃ q, q = xf_C_refuse u (2 : Int32) := ⟨_, rfl⟩
            obtain ⟨e2, hg⟩ := hw
            rw [← hq44] at e2
            obtain rfl : q44 = u1 := e2.symm
            have hP : va_P D xCl (xWH k a g q44) H := hP
            have hD : va_D A (xWH k a g q44) := hD
            have hg : xok k g q44 := hg
            exact hj33 H locs ls g q44 (xif h34 (xif h35 (xit h36 (xif h42 (xif h43 (xlt_e hq44 rfl)))))) hg hl hP hD hS
          · refine lv_iload_n hx hb xd_C_registerOp_138 rfl (lv_at hl 4 rfl) ?_
            refine lv_iconst (v := 5) hx hb xd_C_registerOp_139 (by decide) ?_
            refine lv_icmp_ne (tgt := 159) hx hb xd_C_registerOp_140 rfl (fun h45 => ?_) (fun h45 => ?_)
            · refine lv_aload_n hx hb xd_C_registerOp_159 rfl (lv_at hl 5 rfl) ?_
              refine lv_iconst (v := 2) hx hb xd_C_registerOp_160 (by decide) ?_
              refine xcW_v (va_runV (As := [.int 2]) (rest := []) ⟨hx, hb, hml, hown, htg⟩ (c_C_refuse l D z k a g H.size u hg (2 : Int32)) (cwV 1 htg (xg_V0 xkin_C_refuse xw_509 xw_511 xsel_C_refuse xw_2) rfl rfl rfl (by decide +kernel) ⟨Nat.le_of_ble_eq_true rfl, Nat.le_of_ble_eq_true rfl⟩) ⟨xB_blind, xrecv_C hK hP, fun U hU hW => xB_mk hP hK hD hE hS (xsubW hD hA hS) hU hW⟩ rfl rfl hl.1 rfl (lv_room (Nat.le_of_ble_eq_true rfl)) xd_C_registerOp_161 ⟨Nat.le_of_ble_eq_true rfl, Nat.le_of_ble_eq_true rfl⟩) hD hA hS (fun w1 H locs hw hP hD hS => ?_)
              obtain ⟨u1, g⟩ := w1
              obtain ⟨q46, hq46⟩ : ∃ q, q = xf_C_refuse u (2 : Int32) := ⟨_, rfl⟩
              obtain ⟨e2, hg⟩ := hw
              rw [← hq46] at e2
              obtain rfl : q46 = u1 := e2.symm
              have hP : va_P D xCl (xWH k a g q46) H := hP
              have hD : va_D A (xWH k a g q46) := hD
              have hg : xok k g q46 := hg
              exact hj33 H locs ls g q46 (xif h34 (xif h35 (xit h36 (xif h42 (xit h43 (xif h45 (xlt_e hq46 rfl))))))) hg hl hP hD hS
            · refine lv_aload_n hx hb xd_C_registerOp_143 rfl (lv_at hl 5 rfl) ?_
              refine lv_iload_n hx hb xd_C_registerOp_144 rfl (lv_at hl 2 rfl) ?_
              refine lv_iload hx hb xd_C_registerOp_145 (lv_at hl 1 rfl) ?_
              refine lv_iload hx hb xd_C_registerOp_147 (lv_at hl 0 rfl) ?_
              refine lv_bipush (v := 31) hx hb xd_C_registerOp_149 (by decide) ?_
              refine lv_iand hx hb xd_C_registerOp_151 ?_
              refine lv_ishr hx hb xd_C_registerOp_152 ?_
              refine xcW_v (va_runV (As := [.int r3, .int ((((xg_x u) r4.toNatClampNeg) >>> ((((xg_x u) r5.toNatClampNeg) &&& (31 : Int32)) &&& 31)))]) (rest := []) ⟨hx, hb, hml, hown, htg⟩ (c_C_put l D z k a g H.size u hg r3 (((xg_x u) r4.toNatClampNeg) >>> ((((xg_x u) r5.toNatClampNeg) &&& (31 : Int32)) &&& 31)) (xin_eq hr3 (xin_d _))) (cwV 2 htg (xg_V0 xkin_C_put xw_533 xw_322 xsel_C_put xw_2) rfl rfl rfl (by decide +kernel) ⟨Nat.le_of_ble_eq_true rfl, Nat.le_of_ble_eq_true rfl⟩) ⟨xB_blind, xrecv_C hK hP, fun U hU hW => xB_mk hP hK hD hE hS (xsubW hD hA hS) hU hW⟩ rfl rfl hl.1 rfl (lv_room (Nat.le_of_ble_eq_true rfl)) xd_C_registerOp_153 ⟨Nat.le_of_ble_eq_true rfl, Nat.le_of_ble_eq_true rfl⟩) hD hA hS (fun w1 H locs hw hP hD hS => ?_)
              obtain ⟨u1, g⟩ := w1
              obtain ⟨q47, hq47⟩ : ∃ q, q = xf_C_put u r3 (((xg_x u) r4.toNatClampNeg) >>> ((((xg_x u) r5.toNatClampNeg) &&& (31 : Int32)) &&& 31)) := ⟨_, rfl⟩
              obtain ⟨e2, hg⟩ := hw
              rw [← hq47] at e2
              obtain rfl : q47 = u1 := e2.symm
              have hP : va_P D xCl (xWH k a g q47) H := hP
              have hD : va_D A (xWH k a g q47) := hD
              have hg : xok k g q47 := hg
              refine lv_goto (tgt := 164) hx hb xd_C_registerOp_156 rfl ?_
              exact hj33 H locs ls g q47 (xif h34 (xif h35 (xit h36 (xif h42 (xit h43 (xit h45 (xlt_e hq47 rfl))))))) hg hl hP hD hS
        · refine lv_aload_n hx hb xd_C_registerOp_119 rfl (lv_at hl 5 rfl) ?_
          refine lv_iload_n hx hb xd_C_registerOp_120 rfl (lv_at hl 2 rfl) ?_
          refine lv_iload hx hb xd_C_registerOp_121 (lv_at hl 1 rfl) ?_
          refine lv_iload hx hb xd_C_registerOp_123 (lv_at hl 0 rfl) ?_
          refine lv_isub hx hb xd_C_registerOp_125 ?_
          refine xcW_v (va_runV (As := [.int r3, .int ((((xg_x u) r4.toNatClampNeg) - ((xg_x u) r5.toNatClampNeg)))]) (rest := []) ⟨hx, hb, hml, hown, htg⟩ (c_C_put l D z k a g H.size u hg r3 (((xg_x u) r4.toNatClampNeg) - ((xg_x u) r5.toNatClampNeg)) (xin_eq hr3 (xin_d _))) (cwV 2 htg (xg_V0 xkin_C_put xw_533 xw_322 xsel_C_put xw_2) rfl rfl rfl (by decide +kernel) ⟨Nat.le_of_ble_eq_true rfl, Nat.le_of_ble_eq_true rfl⟩) ⟨xB_blind, xrecv_C hK hP, fun U hU hW => xB_mk hP hK hD hE hS (xsubW hD hA hS) hU hW⟩ rfl rfl hl.1 rfl (lv_room (Nat.le_of_ble_eq_true rfl)) xd_C_registerOp_126 ⟨Nat.le_of_ble_eq_true rfl, Nat.le_of_ble_eq_true rfl⟩) hD hA hS (fun w1 H locs hw hP hD hS => ?_)
          obtain ⟨u1, g⟩ := w1
          obtain ⟨q48, hq48⟩ : ∃ q, q = xf_C_put u r3 (((xg_x u) r4.toNatClampNeg) - ((xg_x u) r5.toNatClampNeg)) := ⟨_, rfl⟩
          obtain ⟨e2, hg⟩ := hw
          rw [← hq48] at e2
          obtain rfl : q48 = u1 := e2.symm
          have hP : va_P D xCl (xWH k a g q48) H := hP
          have hD : va_D A (xWH k a g q48) := hD
          have hg : xok k g q48 := hg
          refine lv_goto (tgt := 164) hx hb xd_C_registerOp_129 rfl ?_
          exact hj33 H locs ls g q48 (xif h34 (xif h35 (xit h36 (xit h42 (xlt_e hq48 rfl))))) hg hl hP hD hS
    · refine lv_aload_n hx hb xd_C_registerOp_77 rfl (lv_at hl 5 rfl) ?_
      refine lv_iload_n hx hb xd_C_registerOp_78 rfl (lv_at hl 2 rfl) ?_
      refine lv_iload_n hx hb xd_C_registerOp_79 rfl (lv_at hl 4 rfl) ?_
      refine lv_iconst (v := 4) hx hb xd_C_registerOp_80 (by decide) ?_
      have hj53 : ∀ (H : Heap) (locs : List Loc) (ls : Array Slot) (g : XG) (v52 : Int32), v52 = (if 4 ≤ r1 then (xlt (xf_R_divide r1 ((xg_x u) r4.toNatClampNeg) ((xg_x u) r5.toNatClampNeg) : Int32) fun r50 => r50) else (xlt (xf_R_multiply r1 ((xg_x u) r4.toNatClampNeg) ((xg_x u) r5.toNatClampNeg) : Int32) fun r51 => r51)) → xok k g u → lv_has ls 6 [(5, .int (((xg_x u) r5.toNatClampNeg))), (4, .int (((xg_x u) r4.toNatClampNeg))), (3, .int r3), (2, .int r2), (1, .int r1), (0, .ref ((a 1)))] → va_P D xCl (xWH k a g u) H → va_D A (xWH k a g u) → va_S A s.heap H locs → W p l e { frames := 2, cells := 0, slots := 0, locals := 43 } s m args below meth c H locs (0) (0) Q (F0 m 103 ls [.int v52, .int r3, .ref ((a 1))]) := by
        intro H locs ls g v52 hv52 hg hl hP hD hS
        refine xcW_v (va_runV (As := [.int r3, .int v52]) (rest := []) ⟨hx, hb, hml, hown, htg⟩ (c_C_put l D z k a g H.size u hg r3 v52 (xin_eq hr3 (xin_d _))) (cwV 2 htg (xg_V0 xkin_C_put xw_533 xw_322 xsel_C_put xw_2) rfl rfl rfl (by decide +kernel) ⟨Nat.le_of_ble_eq_true rfl, Nat.le_of_ble_eq_true rfl⟩) ⟨xB_blind, xrecv_C hK hP, fun U hU hW => xB_mk hP hK hD hE hS (xsubW hD hA hS) hU hW⟩ rfl rfl hl.1 rfl (lv_room (Nat.le_of_ble_eq_true rfl)) xd_C_registerOp_103 ⟨Nat.le_of_ble_eq_true rfl, Nat.le_of_ble_eq_true rfl⟩) hD hA hS (fun w1 H locs hw hP hD hS => ?_)
        obtain ⟨u1, g⟩ := w1
        obtain ⟨q54, hq54⟩ : ∃ q, q = xf_C_put u r3 v52 := ⟨_, rfl⟩
        obtain ⟨e2, hg⟩ := hw
        rw [← hq54] at e2
        obtain rfl : q54 = u1 := e2.symm
        have hP : va_P D xCl (xWH k a g q54) H := hP
        have hD : va_D A (xWH k a g q54) := hD
        have hg : xok k g q54 := hg
        refine lv_goto (tgt := 164) hx hb xd_C_registerOp_106 rfl ?_
        exact hj33 H locs ls g q54 (xif h34 (xit h35 (xlt_e hv52 (xlt_e hq54 rfl)))) hg hl hP hD hS
      refine lv_icmp_ge (tgt := 95) hx hb xd_C_registerOp_81 rfl (fun h55 => ?_) (fun h55 => ?_)
      · refine lv_iload_n hx hb xd_C_registerOp_95 rfl (lv_at hl 4 rfl) ?_
        refine lv_iload hx hb xd_C_registerOp_96 (lv_at hl 1 rfl) ?_
        refine lv_iload hx hb xd_C_registerOp_98 (lv_at hl 0 rfl) ?_
        refine xc0_i (va_runS (As := [.int r1, .int (((xg_x u) r4.toNatClampNeg)), .int (((xg_x u) r5.toNatClampNeg))]) (rest := [.int r3, .ref ((a 1))]) ⟨hx, hb, hml, hown, htg⟩ (c_R_divide l D (xTy k) z H.size r1 ((xg_x u) r4.toNatClampNeg) ((xg_x u) r5.toNatClampNeg)) (va_cwS 3 htg (xg_S0 xkin_R_divide xw_585 xw_586 xw_14) rfl rfl rfl (by decide +kernel) ⟨Nat.le_of_ble_eq_true rfl, Nat.le_of_ble_eq_true rfl⟩) ⟨xB_blind, fun U hU hW => xB_mk va_P0 hK va_D0 hE hS (xsub0 hA hS) hU hW⟩ rfl rfl hl.1 rfl (lv_room (Nat.le_of_ble_eq_true rfl)) xd_C_registerOp_100 ⟨Nat.le_of_ble_eq_true rfl, Nat.le_of_ble_eq_true rfl⟩) hP hA hS (fun r56 H locs hr56 hP hS => ?_)
        exact hj53 H locs ls g r56 (xit h55 (xlt_e hr56 rfl)) hg hl hP hD hS
      · refine lv_iload_n hx hb xd_C_registerOp_84 rfl (lv_at hl 4 rfl) ?_
        refine lv_iload hx hb xd_C_registerOp_85 (lv_at hl 1 rfl) ?_
        refine lv_iload hx hb xd_C_registerOp_87 (lv_at hl 0 rfl) ?_
        refine xc0_i (va_runS (As := [.int r1, .int (((xg_x u) r4.toNatClampNeg)), .int (((xg_x u) r5.toNatClampNeg))]) (rest := [.int r3, .ref ((a 1))]) ⟨hx, hb, hml, hown, htg⟩ (c_R_multiply l D (xTy k) z H.size r1 ((xg_x u) r4.toNatClampNeg) ((xg_x u) r5.toNatClampNeg)) (va_cwS 3 htg (xg_S0 xkin_R_multiply xw_582 xw_583 xw_14) rfl rfl rfl (by decide +kernel) ⟨Nat.le_of_ble_eq_true rfl, Nat.le_of_ble_eq_true rfl⟩) ⟨xB_blind, fun U hU hW => xB_mk va_P0 hK va_D0 hE hS (xsub0 hA hS) hU hW⟩ rfl rfl hl.1 rfl (lv_room (Nat.le_of_ble_eq_true rfl)) xd_C_registerOp_89 ⟨Nat.le_of_ble_eq_true rfl, Nat.le_of_ble_eq_true rfl⟩) hP hA hS (fun r57 H locs hr57 hP hS => ?_)
        refine lv_goto (tgt := 103) hx hb xd_C_registerOp_92 rfl ?_
        exact hj53 H locs ls g r57 (xif h55 (xlt_e hr57 rfl)) hg hl hP hD hS
  · refine lv_aload_n hx hb xd_C_registerOp_56 rfl (lv_at hl 5 rfl) ?_
    refine lv_iload_n hx hb xd_C_registerOp_57 rfl (lv_at hl 2 rfl) ?_
    refine lv_iload_n hx hb xd_C_registerOp_58 rfl (lv_at hl 4 rfl) ?_
    refine lv_iload hx hb xd_C_registerOp_59 (lv_at hl 1 rfl) ?_
    refine lv_iload hx hb xd_C_registerOp_61 (lv_at hl 0 rfl) ?_
    refine xc0_i (va_runS (As := [.int r1, .int (((xg_x u) r4.toNatClampNeg)), .int (((xg_x u) r5.toNatClampNeg))]) (rest := [.int r3, .ref ((a 1))]) ⟨hx, hb, hml, hown, htg⟩ (c_R_combine l D (xTy k) z H.size r1 ((xg_x u) r4.toNatClampNeg) ((xg_x u) r5.toNatClampNeg)) (va_cwS 3 htg (xg_S0 xkin_R_combine xw_548 xw_549 xw_14) rfl rfl rfl (by decide +kernel) ⟨Nat.le_of_ble_eq_true rfl, Nat.le_of_ble_eq_true rfl⟩) ⟨xB_blind, fun U hU hW => xB_mk va_P0 hK va_D0 hE hS (xsub0 hA hS) hU hW⟩ rfl rfl hl.1 rfl (lv_room (Nat.le_of_ble_eq_true rfl)) xd_C_registerOp_63 ⟨Nat.le_of_ble_eq_true rfl, Nat.le_of_ble_eq_true rfl⟩) hP hA hS (fun r58 H locs hr58 hP hS => ?_)
    refine xcW_v (va_runV (As := [.int r3, .int r58]) (rest := []) ⟨hx, hb, hml, hown, htg⟩ (c_C_put l D z k a g H.size u hg r3 r58 (xin_eq hr3 (xin_d _))) (cwV 2 htg (xg_V0 xkin_C_put xw_533 xw_322 xsel_C_put xw_2) rfl rfl rfl (by decide +kernel) ⟨Nat.le_of_ble_eq_true rfl, Nat.le_of_ble_eq_true rfl⟩) ⟨xB_blind, xrecv_C hK hP, fun U hU hW => xB_mk hP hK hD hE hS (xsubW hD hA hS) hU hW⟩ rfl rfl hl.1 rfl (lv_room (Nat.le_of_ble_eq_true rfl)) xd_C_registerOp_66 ⟨Nat.le_of_ble_eq_true rfl, Nat.le_of_ble_eq_true rfl⟩) hD hA hS (fun w1 H locs hw hP hD hS => ?_)
    obtain ⟨u1, g⟩ := w1
    obtain ⟨q59, hq59⟩ : ∃ q, q = xf_C_put u r3 r58 := ⟨_, rfl⟩
    obtain ⟨e2, hg⟩ := hw
    rw [← hq59] at e2
    obtain rfl : q59 = u1 := e2.symm
    have hP : va_P D xCl (xWH k a g q59) H := hP
    have hD : va_D A (xWH k a g q59) := hD
    have hg : xok k g q59 := hg
    refine lv_goto (tgt := 164) hx hb xd_C_registerOp_69 rfl ?_
    exact hj33 H locs ls g q59 (xit h34 (xlt_e hr58 (xlt_e hq59 rfl))) hg hl hP hD hS
theorem xm_C_registerOp (u : XH) : XEs (xcH u) (xf_C_registerOp u) := by unfold xf_C_registerOp; exact (xlt_Es (fun r1 hr1 => (xlt_Es (fun r2 hr2 => (xlt_Es (fun r3 hr3 => (xlt_Es (fun r4 hr4 => (xlt_Es (fun r5 hr5 => (xlt_Es (fun v32 hv32 => (XEs_of hv32 (xit_Es (xlt_Es (fun r30 hr30 => (xlt_Es (fun q31 hq31 => ((XEs_of hq31 (xm_C_put u r3 r30)).trans rfl))))) (xit_Es (xlt_Es (fun v24 hv24 => (xlt_Es (fun q26 hq26 => ((XEs_of hq26 (xm_C_put u r3 v24)).trans rfl))))) (xit_Es (xit_Es (xlt_Es (fun q20 hq20 => ((XEs_of hq20 (xm_C_put u r3 (((xg_x u) r4.toNatClampNeg) - ((xg_x u) r5.toNatClampNeg)))).trans rfl))) (xit_Es (xit_Es (xlt_Es (fun q19 hq19 => ((XEs_of hq19 (xm_C_put u r3 (((xg_x u) r4.toNatClampNeg) >>> ((((xg_x u) r5.toNatClampNeg) &&& (31 : Int32)) &&& 31)))).trans rfl))) (xlt_Es (fun q18 hq18 => ((XEs_of hq18 (xm_C_refuse u (2 : Int32))).trans rfl)))) (xlt_Es (fun q16 hq16 => ((XEs_of hq16 (xm_C_refuse u (2 : Int32))).trans rfl))))) (xit_Es (xit_Es (xlt_Es (fun q13 hq13 => ((XEs_of hq13 (xm_C_put u r3 (((xg_x u) r4.toNatClampNeg) >>> ((((xg_x u) r5.toNatClampNeg) &&& (31 : Int32)) &&& 31)))).trans rfl))) (xlt_Es (fun q12 hq12 => ((XEs_of hq12 (xm_C_refuse u (2 : Int32))).trans rfl)))) (xlt_Es (fun q10 hq10 => ((XEs_of hq10 (xm_C_refuse u (2 : Int32))).trans rfl))))))))))))))))))))
