theorem xpk (w : XH) (q : XM1) (a v : Int32) (h : q = xf_M_writeWord 64 (xg_M w).1 a v) : xcnt 64 (xf_M_writeWord 64 (xg_M w).1 a v).2.1 ≤ xcnt 64 (xg_M w).1.2.1 + (xcH (xs_M1 w q) - xcH w) ∧ xcH w ≤ xcH (xs_M1 w q) := by
  subst h
  have h1 := xwr_mono 64 (xg_M w).1 a v
  have h2 : xcH (xs_M1 w (xf_M_writeWord 64 (xg_M w).1 a v)) = xcnt 64 (xf_M_writeWord 64 (xg_M w).1 a v).2.1 + xcnt 1 (xg_M w).2.2.1 := rfl
  have h3 : xcH w = xcnt 64 (xg_M w).1.2.1 + xcnt 1 (xg_M w).2.2.1 := rfl
  omega
noncomputable def xpokeH (u : XH) (p0 p1 p2 p3 p4 p5 : Int32) : XH :=
  xlt (xf_M_writeWord 64 (xg_M u).1 p0 p1) fun q1 =>
  xlt (xf_M_writeWord 64 (xg_M (xs_M1 u q1)).1 (p0 + (4 : Int32)) p2) fun q2 =>
  xlt (xf_M_writeWord 64 (xg_M (xs_M1 (xs_M1 u q1) q2)).1 (p0 + (8 : Int32)) p3) fun q3 =>
  xlt (xf_M_writeWord 64 (xg_M (xs_M1 (xs_M1 (xs_M1 u q1) q2) q3)).1 (p0 + (12 : Int32)) p4) fun q4 =>
  xlt (xf_M_writeWord 64 (xg_M (xs_M1 (xs_M1 (xs_M1 (xs_M1 u q1) q2) q3) q4)).1 (p0 + (16 : Int32)) p5) fun q5 =>
  (xs_M1 (xs_M1 (xs_M1 (xs_M1 (xs_M1 u q1) q2) q3) q4) q5)
noncomputable def xf_H_poke (u : XH) (p0 p1 p2 p3 p4 p5 : Int32) : Int32 × XH :=
  if p0 < 0 then (-1, u) else if (p0 &&& (3 : Int32)) = 0 then (if p0 ≤ 262124 then (0, xpokeH u p0 p1 p2 p3 p4 p5) else (-1, u)) else (-1, u)
set_option maxHeartbeats 4000000 in
set_option maxRecDepth 100000 in
theorem c_H_poke (l : Launch) (D : va_G) (z : (Nat → Nat) × (Nat → Nat)) (k : ClassId × ClassId) (a : Nat → Nat) (g : XG) (sz : Nat) (u : XH) (hg : xok k g u) (p0 p1 p2 p3 p4 p5 : Int32) (kk : Nat) (hk : xcH (xf_H_poke u p0 p1 p2 p3 p4 p5).2 ≤ xcH u + kk) : Met l xy_H_poke (xk_H_poke :: lw_g) { frames := 3, cells := 2 * kk, slots := 1025 * kk, locals := 64 } (va_Pc [.ref ((a 0)), .int p0, .int p1, .int p2, .int p3, .int p4, .int p5] (xB D (xTy k) z sz (xWH k a g u))) (va_Qi (fun r (q : XH × XG) => (r, q.1) = xf_H_poke u p0 p1 p2 p3 p4 p5 ∧ xok k q.2 q.1) (fun q t => xQ D (xTy k) (xWH k a q.2 q.1) (va_A (xWH k a g u) sz) t) (va_A (xWH k a g u) sz)) (2 * kk) (1025 * kk) (va_A (xWH k a g u) sz) := by
  refine xopen_i (wf := fun q : XH × XG => xWH k a q.2 q.1) (lv := [(0, .ref ((a 0))), (1, .int p0), (2, .int p1), (3, .int p2), (4, .int p3), (5, .int p4), (6, .int p5)]) (by decide) rfl (Nat.le_of_ble_eq_true rfl) ?_
  intro p e s m args below meth c Q ls A H locs hx hb hml htg hown hin hK hP hD hE hS hA hl hret
  refine lv_iload_n hx hb xd_H_poke_0 rfl (lv_at hl 1 rfl) ?_
  refine lv_if_lt (tgt := 16) hx hb xd_H_poke_1 rfl (fun h1 => ?_) (fun h1 => ?_)
  · refine lv_iconst (v := (-1)) hx hb xd_H_poke_16 (by decide) ?_
    exact W.widen (Nat.zero_le _) (Nat.zero_le _) (hret _ (u, g) H locs ls _ ⟨by unfold xf_H_poke; exact xit h1 rfl, hg⟩ hP hD hS xd_H_poke_17)
  refine lv_iload_n hx hb xd_H_poke_4 rfl (lv_at hl 1 rfl) ?_
  refine lv_iconst (v := 3) hx hb xd_H_poke_5 (by decide) ?_
  refine lv_iand hx hb xd_H_poke_6 ?_
  refine lv_if_ne (tgt := 16) hx hb xd_H_poke_7 rfl (fun h2 => ?_) (fun h2 => ?_)
  · refine lv_iconst (v := (-1)) hx hb xd_H_poke_16 (by decide) ?_
    exact W.widen (Nat.zero_le _) (Nat.zero_le _) (hret _ (u, g) H locs ls _ ⟨by unfold xf_H_poke; exact xif h1 (xif h2 rfl), hg⟩ hP hD hS xd_H_poke_17)
  refine lv_iload_n hx hb xd_H_poke_10 rfl (lv_at hl 1 rfl) ?_
  refine lv_ldc (v := 262124) hx hb hown (htg _ xw_289) xd_H_poke_11 ?_
  refine lv_icmp_le (tgt := 18) hx hb xd_H_poke_13 rfl (fun h3 => ?_) (fun h3 => ?_)
  · obtain ⟨q1, hq1⟩ : ∃ q, q = (xf_M_writeWord 64 (xg_M u).1 p0 p1) := ⟨_, rfl⟩
    obtain ⟨q2, hq2⟩ : ∃ q, q = (xf_M_writeWord 64 (xg_M (xs_M1 u q1)).1 (p0 + (4 : Int32)) p2) := ⟨_, rfl⟩
    obtain ⟨q3, hq3⟩ : ∃ q, q = (xf_M_writeWord 64 (xg_M (xs_M1 (xs_M1 u q1) q2)).1 (p0 + (8 : Int32)) p3) := ⟨_, rfl⟩
    obtain ⟨q4, hq4⟩ : ∃ q, q = (xf_M_writeWord 64 (xg_M (xs_M1 (xs_M1 (xs_M1 u q1) q2) q3)).1 (p0 + (12 : Int32)) p4) := ⟨_, rfl⟩
    obtain ⟨q5, hq5⟩ : ∃ q, q = (xf_M_writeWord 64 (xg_M (xs_M1 (xs_M1 (xs_M1 (xs_M1 u q1) q2) q3) q4)).1 (p0 + (16 : Int32)) p5) := ⟨_, rfl⟩
    have m1 := xpk u q1 p0 p1 hq1
    obtain ⟨c1, hc1⟩ : ∃ c, c = xcH (xs_M1 u q1) := ⟨_, rfl⟩
    have m2 := xpk (xs_M1 u q1) q2 (p0 + (4 : Int32)) p2 hq2
    obtain ⟨c2, hc2⟩ : ∃ c, c = xcH (xs_M1 (xs_M1 u q1) q2) := ⟨_, rfl⟩
    have m3 := xpk (xs_M1 (xs_M1 u q1) q2) q3 (p0 + (8 : Int32)) p3 hq3
    obtain ⟨c3, hc3⟩ : ∃ c, c = xcH (xs_M1 (xs_M1 (xs_M1 u q1) q2) q3) := ⟨_, rfl⟩
    have m4 := xpk (xs_M1 (xs_M1 (xs_M1 u q1) q2) q3) q4 (p0 + (12 : Int32)) p4 hq4
    obtain ⟨c4, hc4⟩ : ∃ c, c = xcH (xs_M1 (xs_M1 (xs_M1 (xs_M1 u q1) q2) q3) q4) := ⟨_, rfl⟩
    have m5 := xpk (xs_M1 (xs_M1 (xs_M1 (xs_M1 u q1) q2) q3) q4) q5 (p0 + (16 : Int32)) p5 hq5
    obtain ⟨c5, hc5⟩ : ∃ c, c = xcH (xs_M1 (xs_M1 (xs_M1 (xs_M1 (xs_M1 u q1) q2) q3) q4) q5) := ⟨_, rfl⟩
    obtain ⟨c0, hc0⟩ : ∃ c, c = xcH u := ⟨_, rfl⟩
    have hfn : (0, (xs_M1 (xs_M1 (xs_M1 (xs_M1 (xs_M1 u q1) q2) q3) q4) q5)) = xf_H_poke u p0 p1 p2 p3 p4 p5 := by unfold xf_H_poke xpokeH; exact xif h1 (xit h2 (xit h3 (congrArg (fun y => ((0 : Int32), y)) (xlt_e hq1 (xlt_e hq2 (xlt_e hq3 (xlt_e hq4 (xlt_e hq5 rfl))))))))
    rw [← hfn] at hk
    have hk : xcH (xs_M1 (xs_M1 (xs_M1 (xs_M1 (xs_M1 u q1) q2) q3) q4) q5) ≤ xcH u + kk := hk
    rw [← hc1] at m1 m2
    rw [← hc2] at m2 m3
    rw [← hc3] at m3 m4
    rw [← hc4] at m4 m5
    rw [← hc5] at m5 hk
    rw [← hc0] at m1 hk
    refine lv_aload_n hx hb xd_H_poke_18 rfl (lv_at hl 0 rfl) ?_
    refine xget_H_core hx hb htg hown hK hP (htg _ xw_277) xd_H_poke_19 ?_
    refine xget_C_memory hx hb htg hown hK hP (htg _ xw_205) xd_H_poke_22 ?_
    refine lv_iload_n hx hb xd_H_poke_25 rfl (lv_at hl 1 rfl) ?_
    refine lv_iload_n hx hb xd_H_poke_26 rfl (lv_at hl 2 rfl) ?_
    refine W.widen (k := 2 * (c0 - c0)) (n := 1025 * (c0 - c0)) (by omega) (by omega) ?_
    refine xcM_v hq1 (va_runV (As := [.int p0, .int p1]) (rest := []) ⟨hx, hb, hml, hown, htg⟩ (c_M_writeWord l D z k H.size (a 8) (a 10) 64 (by decide) g.1 (xg_M u).1 hg.1 p0 p1 (c1 - c0) m1.1) (cwV 2 htg (xg_V0 xkin_M_writeWord xw_290 xw_291 xsel_M_writeWord xw_3) rfl rfl rfl (by decide +kernel) ⟨Nat.le_of_ble_eq_true rfl, Nat.le_of_ble_eq_true rfl⟩) ⟨xB_blind, xrecv_M hK hP, fun U hU hW => xpre_M hP hK hD hE hS hA hU hW⟩ rfl rfl hl.1 rfl (lv_room (Nat.le_of_ble_eq_true rfl)) xd_H_poke_27 ⟨by show 2 * (c0 - c0) + 2 * (c1 - c0) ≤ 2 * kk; omega, by show 1025 * (c0 - c0) + 1025 * (c1 - c0) ≤ 1025 * kk; omega⟩) hP hD hA hS hg (fun g H locs hP hD hS hg => ?_)
    refine lv_aload_n hx hb xd_H_poke_30 rfl (lv_at hl 0 rfl) ?_
    refine xget_H_core hx hb htg hown hK hP (htg _ xw_277) xd_H_poke_31 ?_
    refine xget_C_memory hx hb htg hown hK hP (htg _ xw_205) xd_H_poke_34 ?_
    refine lv_iload_n hx hb xd_H_poke_37 rfl (lv_at hl 1 rfl) ?_
    refine lv_iconst (v := 4) hx hb xd_H_poke_38 (by decide) ?_
    refine lv_iadd hx hb xd_H_poke_39 ?_
    refine lv_iload_n hx hb xd_H_poke_40 rfl (lv_at hl 3 rfl) ?_
    refine W.widen (k := 2 * (c1 - c0)) (n := 1025 * (c1 - c0)) (by omega) (by omega) ?_
    refine xcM_v hq2 (va_runV (As := [.int (p0 + (4 : Int32)), .int p2]) (rest := []) ⟨hx, hb, hml, hown, htg⟩ (c_M_writeWord l D z k H.size (a 8) (a 10) 64 (by decide) g.1 (xg_M (xs_M1 u q1)).1 hg.1 (p0 + (4 : Int32)) p2 (c2 - c1) m2.1) (cwV 2 htg (xg_V0 xkin_M_writeWord xw_290 xw_291 xsel_M_writeWord xw_3) rfl rfl rfl (by decide +kernel) ⟨Nat.le_of_ble_eq_true rfl, Nat.le_of_ble_eq_true rfl⟩) ⟨xB_blind, xrecv_M hK hP, fun U hU hW => xpre_M hP hK hD hE hS hA hU hW⟩ rfl rfl hl.1 rfl (lv_room (Nat.le_of_ble_eq_true rfl)) xd_H_poke_41 ⟨by show 2 * (c1 - c0) + 2 * (c2 - c1) ≤ 2 * kk; omega, by show 1025 * (c1 - c0) + 1025 * (c2 - c1) ≤ 1025 * kk; omega⟩) hP hD hA hS hg (fun g H locs hP hD hS hg => ?_)
    refine lv_aload_n hx hb xd_H_poke_44 rfl (lv_at hl 0 rfl) ?_
    refine xget_H_core hx hb htg hown hK hP (htg _ xw_277) xd_H_poke_45 ?_
    refine xget_C_memory hx hb htg hown hK hP (htg _ xw_205) xd_H_poke_48 ?_
    refine lv_iload_n hx hb xd_H_poke_51 rfl (lv_at hl 1 rfl) ?_
    refine lv_bipush (v := 8) hx hb xd_H_poke_52 (by decide) ?_
    refine lv_iadd hx hb xd_H_poke_54 ?_
    refine lv_iload hx hb xd_H_poke_55 (lv_at hl 4 rfl) ?_
    refine W.widen (k := 2 * (c2 - c0)) (n := 1025 * (c2 - c0)) (by omega) (by omega) ?_
    refine xcM_v hq3 (va_runV (As := [.int (p0 + (8 : Int32)), .int p3]) (rest := []) ⟨hx, hb, hml, hown, htg⟩ (c_M_writeWord l D z k H.size (a 8) (a 10) 64 (by decide) g.1 (xg_M (xs_M1 (xs_M1 u q1) q2)).1 hg.1 (p0 + (8 : Int32)) p3 (c3 - c2) m3.1) (cwV 2 htg (xg_V0 xkin_M_writeWord xw_290 xw_291 xsel_M_writeWord xw_3) rfl rfl rfl (by decide +kernel) ⟨Nat.le_of_ble_eq_true rfl, Nat.le_of_ble_eq_true rfl⟩) ⟨xB_blind, xrecv_M hK hP, fun U hU hW => xpre_M hP hK hD hE hS hA hU hW⟩ rfl rfl hl.1 rfl (lv_room (Nat.le_of_ble_eq_true rfl)) xd_H_poke_57 ⟨by show 2 * (c2 - c0) + 2 * (c3 - c2) ≤ 2 * kk; omega, by show 1025 * (c2 - c0) + 1025 * (c3 - c2) ≤ 1025 * kk; omega⟩) hP hD hA hS hg (fun g H locs hP hD hS hg => ?_)
    refine lv_aload_n hx hb xd_H_poke_60 rfl (lv_at hl 0 rfl) ?_
    refine xget_H_core hx hb htg hown hK hP (htg _ xw_277) xd_H_poke_61 ?_
    refine xget_C_memory hx hb htg hown hK hP (htg _ xw_205) xd_H_poke_64 ?_
    refine lv_iload_n hx hb xd_H_poke_67 rfl (lv_at hl 1 rfl) ?_
    refine lv_bipush (v := 12) hx hb xd_H_poke_68 (by decide) ?_
    refine lv_iadd hx hb xd_H_poke_70 ?_
    refine lv_iload hx hb xd_H_poke_71 (lv_at hl 5 rfl) ?_
    refine W.widen (k := 2 * (c3 - c0)) (n := 1025 * (c3 - c0)) (by omega) (by omega) ?_
    refine xcM_v hq4 (va_runV (As := [.int (p0 + (12 : Int32)), .int p4]) (rest := []) ⟨hx, hb, hml, hown, htg⟩ (c_M_writeWord l D z k H.size (a 8) (a 10) 64 (by decide) g.1 (xg_M (xs_M1 (xs_M1 (xs_M1 u q1) q2) q3)).1 hg.1 (p0 + (12 : Int32)) p4 (c4 - c3) m4.1) (cwV 2 htg (xg_V0 xkin_M_writeWord xw_290 xw_291 xsel_M_writeWord xw_3) rfl rfl rfl (by decide +kernel) ⟨Nat.le_of_ble_eq_true rfl, Nat.le_of_ble_eq_true rfl⟩) ⟨xB_blind, xrecv_M hK hP, fun U hU hW => xpre_M hP hK hD hE hS hA hU hW⟩ rfl rfl hl.1 rfl (lv_room (Nat.le_of_ble_eq_true rfl)) xd_H_poke_73 ⟨by show 2 * (c3 - c0) + 2 * (c4 - c3) ≤ 2 * kk; omega, by show 1025 * (c3 - c0) + 1025 * (c4 - c3) ≤ 1025 * kk; omega⟩) hP hD hA hS hg (fun g H locs hP hD hS hg => ?_)
    refine lv_aload_n hx hb xd_H_poke_76 rfl (lv_at hl 0 rfl) ?_
    refine xget_H_core hx hb htg hown hK hP (htg _ xw_277) xd_H_poke_77 ?_
    refine xget_C_memory hx hb htg hown hK hP (htg _ xw_205) xd_H_poke_80 ?_
    refine lv_iload_n hx hb xd_H_poke_83 rfl (lv_at hl 1 rfl) ?_
    refine lv_bipush (v := 16) hx hb xd_H_poke_84 (by decide) ?_
    refine lv_iadd hx hb xd_H_poke_86 ?_
    refine lv_iload hx hb xd_H_poke_87 (lv_at hl 6 rfl) ?_
    refine W.widen (k := 2 * (c4 - c0)) (n := 1025 * (c4 - c0)) (by omega) (by omega) ?_
    refine xcM_v hq5 (va_runV (As := [.int (p0 + (16 : Int32)), .int p5]) (rest := []) ⟨hx, hb, hml, hown, htg⟩ (c_M_writeWord l D z k H.size (a 8) (a 10) 64 (by decide) g.1 (xg_M (xs_M1 (xs_M1 (xs_M1 (xs_M1 u q1) q2) q3) q4)).1 hg.1 (p0 + (16 : Int32)) p5 (c5 - c4) m5.1) (cwV 2 htg (xg_V0 xkin_M_writeWord xw_290 xw_291 xsel_M_writeWord xw_3) rfl rfl rfl (by decide +kernel) ⟨Nat.le_of_ble_eq_true rfl, Nat.le_of_ble_eq_true rfl⟩) ⟨xB_blind, xrecv_M hK hP, fun U hU hW => xpre_M hP hK hD hE hS hA hU hW⟩ rfl rfl hl.1 rfl (lv_room (Nat.le_of_ble_eq_true rfl)) xd_H_poke_89 ⟨by show 2 * (c4 - c0) + 2 * (c5 - c4) ≤ 2 * kk; omega, by show 1025 * (c4 - c0) + 1025 * (c5 - c4) ≤ 1025 * kk; omega⟩) hP hD hA hS hg (fun g H locs hP hD hS hg => ?_)
    refine lv_iconst (v := 0) hx hb xd_H_poke_92 (by decide) ?_
    exact W.widen (by omega) (by omega) (hret _ ((xs_M1 (xs_M1 (xs_M1 (xs_M1 (xs_M1 u q1) q2) q3) q4) q5), g) H locs ls _ ⟨hfn, hg⟩ hP hD hS xd_H_poke_93)
  · refine lv_iconst (v := (-1)) hx hb xd_H_poke_16 (by decide) ?_
    exact W.widen (Nat.zero_le _) (Nat.zero_le _) (hret _ (u, g) H locs ls _ ⟨by unfold xf_H_poke; exact xif h1 (xit h2 (xif h3 rfl)), hg⟩ hP hD hS xd_H_poke_17)

