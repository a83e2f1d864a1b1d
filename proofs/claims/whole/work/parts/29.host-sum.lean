
noncomputable def xsumH : Nat → Nat → Int32 → XH → Int32 × XH
  | 0, _, a, u => (a, u)
  | d + 1, n, a, u => xsumH d (n + 4) (31 * a + (xf_M_readWord 64 (xg_M u).1 (nI n)).1) (xs_M1 u (xf_M_readWord 64 (xg_M u).1 (nI n)).2)
noncomputable def xf_H_sum (u : XH) (p0 p1 : Int32) : Int32 × XH :=
  if p0 < 0 then (-1, u) else if 64 ≤ p0 then (-1, u) else if p1 ≤ 0 then (-1, u) else if p1 ≤ (64 - p0) then xsumH (1024 * p1.toNatClampNeg) (4096 * p0.toNatClampNeg) 1 u else (-1, u)
set_option maxHeartbeats 4000000 in
set_option maxRecDepth 100000 in
theorem c_H_sum (l : Launch) (D : va_G) (z : (Nat → Nat) × (Nat → Nat)) (k : ClassId × ClassId) (a : Nat → Nat) (g : XG) (sz : Nat) (u : XH) (hg : xok k g u) (p0 p1 : Int32) : Met l xy_H_sum (xk_H_sum :: lw_g) { frames := 1, cells := 0, slots := 0, locals := 23 } (va_Pc [.ref (a 0), .int p0, .int p1] (xB D (xTy k) z sz (xWH k a g u))) (va_Qi (fun r (q : XH × XG) => (r, q.1) = xf_H_sum u p0 p1 ∧ xok k q.2 q.1) (fun q t => xQ D (xTy k) (xWH k a q.2 q.1) (va_A (xWH k a g u) sz) t) (va_A (xWH k a g u) sz)) 0 0 (va_A (xWH k a g u) sz) := by
  refine xopen_i (wf := fun q : XH × XG => xWH k a q.2 q.1) (lv := [(0, .ref (a 0)), (1, .int p0), (2, .int p1)]) (by decide) rfl (Nat.le_of_ble_eq_true rfl) ?_
  intro p e s m args below meth c Q ls A H locs hx hb hml htg hown hin hK hP hD hE hS hA hl hret
  refine lv_iload_n hx hb xd_H_sum_0 rfl (lv_at hl 1 rfl) ?_
  refine lv_if_lt (tgt := 22) hx hb xd_H_sum_1 rfl (fun h1 => ?_) (fun h1 => ?_)
  · refine lv_iconst (v := (-1)) hx hb xd_H_sum_22 (by decide) ?_
    exact hret _ (u, g) H locs ls _ ⟨by unfold xf_H_sum; exact xit h1 rfl, hg⟩ hP hD hS xd_H_sum_23
  refine lv_iload_n hx hb xd_H_sum_4 rfl (lv_at hl 1 rfl) ?_
  refine lv_bipush (v := 64) hx hb xd_H_sum_5 (by decide) ?_
  refine lv_icmp_ge (tgt := 22) hx hb xd_H_sum_7 rfl (fun h2 => ?_) (fun h2 => ?_)
  · refine lv_iconst (v := (-1)) hx hb xd_H_sum_22 (by decide) ?_
    exact hret _ (u, g) H locs ls _ ⟨by unfold xf_H_sum; exact xif h1 (xit h2 rfl), hg⟩ hP hD hS xd_H_sum_23
  refine lv_iload_n hx hb xd_H_sum_10 rfl (lv_at hl 2 rfl) ?_
  refine lv_if_le (tgt := 22) hx hb xd_H_sum_11 rfl (fun h3 => ?_) (fun h3 => ?_)
  · refine lv_iconst (v := (-1)) hx hb xd_H_sum_22 (by decide) ?_
    exact hret _ (u, g) H locs ls _ ⟨by unfold xf_H_sum; exact xif h1 (xif h2 (xit h3 rfl)), hg⟩ hP hD hS xd_H_sum_23
  refine lv_iload_n hx hb xd_H_sum_14 rfl (lv_at hl 2 rfl) ?_
  refine lv_bipush (v := 64) hx hb xd_H_sum_15 (by decide) ?_
  refine lv_iload_n hx hb xd_H_sum_17 rfl (lv_at hl 1 rfl) ?_
  refine lv_isub hx hb xd_H_sum_18 ?_
  refine lv_icmp_le (tgt := 24) hx hb xd_H_sum_19 rfl (fun h4 => ?_) (fun h4 => ?_)
  · have hfn : xf_H_sum u p0 p1 = xsumH (1024 * p1.toNatClampNeg) (4096 * p0.toNatClampNeg) 1 u := by
      unfold xf_H_sum
      rw [if_neg h1, if_neg h2, if_neg h3, if_pos h4]
    obtain ⟨F, G, rfl, rfl, hF, hG, hFG⟩ := xfg (by
      have a1 : ¬ p0.toInt < (0 : Int32).toInt := fun h => h1 (Int32.lt_iff_toInt_lt.mpr h)
      have a2 : (0 : Int32).toInt = 0 := rfl
      omega) (by
      have a1 : ¬ (64 : Int32).toInt ≤ p0.toInt := fun h => h2 (Int32.le_iff_toInt_le.mpr h)
      have a2 : (64 : Int32).toInt = 64 := rfl
      omega) (by
      have a1 : ¬ p1.toInt ≤ (0 : Int32).toInt := fun h => h3 (Int32.le_iff_toInt_le.mpr h)
      have a2 : (0 : Int32).toInt = 0 := rfl
      omega) h4
    rw [nI_clamp (by omega), nI_clamp (by omega)] at hfn
    refine lv_iload_n hx hb xd_H_sum_24 rfl (lv_at hl 1 rfl) ?_
    refine lv_iload_n hx hb xd_H_sum_25 rfl (lv_at hl 2 rfl) ?_
    refine lv_iadd hx hb xd_H_sum_26 ?_
    refine lv_sipush (v := 4096) hx hb xd_H_sum_27 (by decide) ?_
    refine lv_imul hx hb xd_H_sum_30 ?_
    rw [nI_add, show nI (F + G) * (4096 : Int32) = nI ((F + G) * 4096) from nI_mul' (F + G) 4096]
    refine lv_istore_n (lv' := [(3, .int (nI ((F + G) * 4096))), (0, .ref (a 0)), (1, .int (nI F)), (2, .int (nI G))]) hx hb xd_H_sum_31 rfl hl (by decide) rfl (fun ls hl => ?_)
    refine lv_iconst (v := 1) hx hb xd_H_sum_32 (by decide) ?_
    refine lv_istore (lv' := [(4, .int 1), (3, .int (nI ((F + G) * 4096))), (0, .ref (a 0)), (1, .int (nI F)), (2, .int (nI G))]) hx hb xd_H_sum_33 hl (by decide) rfl (fun ls hl => ?_)
    refine lv_iload_n hx hb xd_H_sum_35 rfl (lv_at hl 3 rfl) ?_
    refine lv_sipush (v := 4096) hx hb xd_H_sum_36 (by decide) ?_
    refine lv_imul hx hb xd_H_sum_39 ?_
    rw [show nI F * (4096 : Int32) = nI (F * 4096) from nI_mul' F 4096]
    refine lv_istore (lv' := [(5, .int (nI (F * 4096))), (4, .int 1), (3, .int (nI ((F + G) * 4096))), (0, .ref (a 0)), (1, .int (nI F)), (2, .int (nI G))]) hx hb xd_H_sum_40 hl (by decide) rfl (fun ls hl => ?_)
    have loop : ∀ (d n : Nat) (acc : Int32) (v : XH) (g : XG) (H : Heap) (locs : List Loc) (ls : Array Slot), n + 4 * d = (F + G) * 4096 → xf_H_sum u (nI F) (nI G) = xsumH d n acc v → xok k g v → lv_has ls 6 [(5, .int (nI n)), (4, .int acc), (3, .int (nI ((F + G) * 4096))), (0, .ref (a 0)), (1, .int (nI F)), (2, .int (nI G))] → va_P D xCl (xWH k a g v) H → va_D A (xWH k a g v) → va_S A s.heap H locs → W p l e { frames := 1, cells := 0, slots := 0, locals := 23 } s m args below meth c H locs 0 0 Q (F0 m 42 ls []) := by
      intro d
      induction d with
      | zero =>
        intro n acc v g H locs ls hnd hinv hg hl hP hD hS
        obtain rfl : n = (F + G) * 4096 := by omega
        refine lv_iload hx hb xd_H_sum_42 (lv_at hl 0 rfl) ?_
        refine lv_iload_n hx hb xd_H_sum_44 rfl (lv_at hl 2 rfl) ?_
        refine lv_icmp_ge (tgt := 74) hx hb xd_H_sum_45 rfl (fun _ => ?_) (fun h9 => absurd (Int32.le_refl _) h9)
        refine lv_iload hx hb xd_H_sum_74 (lv_at hl 1 rfl) ?_
        exact hret _ (v, g) H locs ls _ ⟨by rw [hinv, xsumH], hg⟩ hP hD hS xd_H_sum_76
      | succ d ih =>
        intro n acc v g H locs ls hnd hinv hg hl hP hD hS
        have hj : n < (F + G) * 4096 := by omega
        refine lv_iload hx hb xd_H_sum_42 (lv_at hl 0 rfl) ?_
        refine lv_iload_n hx hb xd_H_sum_44 rfl (lv_at hl 2 rfl) ?_
        refine lv_icmp_ge (tgt := 74) hx hb xd_H_sum_45 rfl (fun h9 => absurd h9 (nI_ge hj (by omega))) (fun _ => ?_)
        refine lv_bipush (v := 31) hx hb xd_H_sum_48 (by decide) ?_
        refine lv_iload hx hb xd_H_sum_50 (lv_at hl 1 rfl) ?_
        refine lv_imul hx hb xd_H_sum_52 ?_
        refine lv_aload_n hx hb xd_H_sum_53 rfl (lv_at hl 3 rfl) ?_
        refine xget_H_core hx hb htg hown hK hP (htg _ xw_277) xd_H_sum_54 ?_
        refine xget_C_memory hx hb htg hown hK hP (htg _ xw_205) xd_H_sum_57 ?_
        refine lv_iload hx hb xd_H_sum_60 (lv_at hl 0 rfl) ?_
        obtain ⟨q, hq⟩ : ∃ q, q = xf_M_readWord 64 (xg_M v).1 (nI n) := ⟨_, rfl⟩
        refine xcM_i hq (va_runV (As := [.int (nI n)]) (rest := [.int (31 * acc)]) ⟨hx, hb, hml, hown, htg⟩ (c_M_readWord l D z k H.size (a 8) (a 10) 64 (by decide) g.1 (xg_M v).1 hg.1 (nI n)) (cwV 1 htg (xg_V0 xkin_M_readWord xw_309 xw_310 xsel_M_readWord xw_3) rfl rfl rfl (by decide +kernel) ⟨Nat.le_of_ble_eq_true rfl, Nat.le_of_ble_eq_true rfl⟩) ⟨xB_blind, xrecv_M hK hP, fun U hU hW => xpre_M hP hK hD hE hS hA hU hW⟩ rfl rfl hl.1 rfl (lv_room (Nat.le_of_ble_eq_true rfl)) xd_H_sum_62 ⟨Nat.le_of_ble_eq_true rfl, Nat.le_of_ble_eq_true rfl⟩) hP hD hA hS hg (fun g H locs hP hD hS hg => ?_)
        refine lv_iadd hx hb xd_H_sum_65 ?_
        refine lv_istore (lv' := [(4, .int (31 * acc + q.1)), (5, .int (nI n)), (3, .int (nI ((F + G) * 4096))), (0, .ref (a 0)), (1, .int (nI F)), (2, .int (nI G))]) hx hb xd_H_sum_66 hl (by decide) rfl (fun ls hl => ?_)
        refine lv_iinc (k := 1) (v := nI (n + 4)) (lv' := [(5, .int (nI (n + 4))), (4, .int (31 * acc + q.1)), (3, .int (nI ((F + G) * 4096))), (0, .ref (a 0)), (1, .int (nI F)), (2, .int (nI G))]) hx hb xd_H_sum_68 hl rfl (by rw [← nI_add]; rfl) (by decide) rfl (fun ls hl => ?_)
        refine lv_goto (tgt := 42) hx hb xd_H_sum_71 rfl ?_
        exact ih (n + 4) (31 * acc + q.1) (xs_M1 v q.2) g H locs ls (by omega) (by rw [hinv, xsumH, hq]) hg hl hP hD hS
    exact loop (1024 * G) (F * 4096) 1 u g H locs ls (by omega) (by rw [hfn, Nat.mul_comm 4096 F]) hg hl hP hD hS
  · refine lv_iconst (v := (-1)) hx hb xd_H_sum_22 (by decide) ?_
    exact hret _ (u, g) H locs ls _ ⟨by unfold xf_H_sum; exact xif h1 (xif h2 (xif h3 (xif h4 rfl))), hg⟩ hP hD hS xd_H_sum_23

