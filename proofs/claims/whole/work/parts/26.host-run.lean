
noncomputable def xstepH (u : XH) : XH := xlt (xf_C_startStep u) fun q => xf_C_endStep (if q.1 = 0 then q.2 else xf_C_perform q.2)
noncomputable def xrunH : Nat → Int32 → XH → Int32 × XH
  | 0, d, u => (d, u)
  | n + 1, d, u => if xz (xg_C_off u) = 0 then xrunH n (d + 1) (xstepH u) else (d, u)
noncomputable def xf_H_run (u : XH) (p0 : Int32) : Int32 × XH := if p0 < 0 then (-1, u) else if p0 ≤ 2000 then xrunH p0.toNatClampNeg 0 u else (-1, u)
theorem xstart_c (u : XH) : xcH (xf_C_startStep u).2 = xcH u := xm_C_startStep u
theorem xend_c (u : XH) : xcH (xf_C_endStep u) = xcH u := xm_C_endStep u
theorem xperf_c (u : XH) : xcH u ≤ xcH (xf_C_perform u) := xq_C_perform u
theorem xstepH_ge (u : XH) : xcH u ≤ xcH (xstepH u) := by
  unfold xstepH
  show xcH u ≤ xcH (xf_C_endStep (if (xf_C_startStep u).1 = 0 then (xf_C_startStep u).2 else xf_C_perform (xf_C_startStep u).2))
  rw [xend_c]
  have h1 := xstart_c u
  have h2 := xperf_c (xf_C_startStep u).2
  split <;> omega
theorem xrunH_ge : ∀ (n : Nat) (d : Int32) (u : XH), xcH u ≤ xcH (xrunH n d u).2 := by
  intro n
  induction n with
  | zero => intro d u; exact Nat.le_refl _
  | succ n ih =>
    intro d u
    rw [xrunH]
    split
    · exact Nat.le_trans (xstepH_ge u) (ih _ _)
    · exact Nat.le_refl _
set_option maxHeartbeats 4000000 in
set_option maxRecDepth 100000 in
theorem c_H_run (l : Launch) (D : va_G) (z : (Nat → Nat) × (Nat → Nat)) (k : ClassId × ClassId) (a : Nat → Nat) (g : XG) (sz : Nat) (u : XH) (hg : xok k g u) (p0 : Int32) (kk : Nat) (hk : xcH (xf_H_run u p0).2 ≤ xcH u + kk) : Met l xy_H_run (xk_H_run :: lw_g) { frames := 8, cells := 2 * kk, slots := 1025 * kk, locals := 194 } (va_Pc [.ref (a 0), .int p0] (xB D (xTy k) z sz (xWH k a g u))) (va_Qi (fun r (q : XH × XG) => (r, q.1) = xf_H_run u p0 ∧ xok k q.2 q.1) (fun q t => xQ D (xTy k) (xWH k a q.2 q.1) (va_A (xWH k a g u) sz) t) (va_A (xWH k a g u) sz)) (2 * kk) (1025 * kk) (va_A (xWH k a g u) sz) := by
  refine xopen_i (wf := fun q : XH × XG => xWH k a q.2 q.1) (lv := [(0, .ref (a 0)), (1, .int p0)]) (by decide) rfl (Nat.le_of_ble_eq_true rfl) ?_
  intro p e s m args below meth c Q ls A H locs hx hb hml htg hown hin hK hP hD hE hS hA hl hret
  refine lv_iload_n hx hb xd_H_run_0 rfl (lv_at hl 1 rfl) ?_
  refine lv_if_lt (tgt := 11) hx hb xd_H_run_1 rfl (fun h1 => ?_) (fun h1 => ?_)
  · refine lv_iconst (v := (-1)) hx hb xd_H_run_11 (by decide) ?_
    exact W.widen (Nat.zero_le _) (Nat.zero_le _) (hret _ (u, g) H locs ls _ ⟨by unfold xf_H_run; rw [if_pos h1], hg⟩ hP hD hS xd_H_run_12)
  · refine lv_iload_n hx hb xd_H_run_4 rfl (lv_at hl 1 rfl) ?_
    refine lv_sipush (v := 2000) hx hb xd_H_run_5 (by decide) ?_
    refine lv_icmp_le (tgt := 13) hx hb xd_H_run_8 rfl (fun h2 => ?_) (fun h2 => ?_)
    · obtain ⟨N, hN, rfl⟩ := nI_of2 (M := 2000) (n := 2000) rfl h1 h2
      refine lv_iconst (v := 0) hx hb xd_H_run_13 (by decide) ?_
      refine lv_istore_n (lv' := [(2, .int 0), (0, .ref (a 0)), (1, .int (nI N))]) hx hb xd_H_run_14 rfl hl (by decide) rfl (fun ls hl => ?_)
      have hfn : xf_H_run u (nI N) = xrunH N (nI 0) u := by
        unfold xf_H_run
        rw [if_neg h1, if_pos h2, nI_clamp (by omega), nI_0]
      have loop : ∀ (d i j : Nat) (v : XH) (g : XG) (H : Heap) (locs : List Loc) (ls : Array Slot), i + d = N → xcH v = xcH u + j → xf_H_run u (nI N) = xrunH d (nI i) v → xok k g v → lv_has ls 3 [(2, .int (nI i)), (0, .ref (a 0)), (1, .int (nI N))] → va_P D xCl (xWH k a g v) H → va_D A (xWH k a g v) → va_S A s.heap H locs → W p l e { frames := 8, cells := 2 * kk, slots := 1025 * kk, locals := 194 } s m args below meth c H locs (2 * j) (1025 * j) Q (F0 m 15 ls []) := by
        intro d
        induction d with
        | zero =>
          intro i j v g H locs ls hid hj hinv hg hl hP hD hS
          have hjk : j ≤ kk := by
            have h3 := xrunH_ge 0 (nI i) v
            rw [← hinv] at h3
            omega
          obtain rfl : i = N := by omega
          refine lv_iload_n hx hb xd_H_run_15 rfl (lv_at hl 0 rfl) ?_
          refine lv_iload_n hx hb xd_H_run_16 rfl (lv_at hl 2 rfl) ?_
          refine lv_icmp_ge (tgt := 60) hx hb xd_H_run_17 rfl (fun _ => ?_) (fun h9 => absurd (Int32.le_refl _) h9)
          refine lv_iload_n hx hb xd_H_run_60 rfl (lv_at hl 0 rfl) ?_
          exact W.widen (by omega) (by omega) (hret _ (v, g) H locs ls _ ⟨by rw [hinv, xrunH], hg⟩ hP hD hS xd_H_run_61)
        | succ d ih =>
          intro i j v g H locs ls hid hj hinv hg hl hP hD hS
          have hi : i < N := by omega
          have hjk : j ≤ kk := by
            have h3 := xrunH_ge (d + 1) (nI i) v
            rw [← hinv] at h3
            omega
          refine lv_iload_n hx hb xd_H_run_15 rfl (lv_at hl 0 rfl) ?_
          refine lv_iload_n hx hb xd_H_run_16 rfl (lv_at hl 2 rfl) ?_
          refine lv_icmp_ge (tgt := 60) hx hb xd_H_run_17 rfl (fun h9 => absurd h9 (nI_ge hi (by omega))) (fun _ => ?_)
          refine lv_aload_n hx hb xd_H_run_20 rfl (lv_at hl 1 rfl) ?_
          refine xget_H_core hx hb htg hown hK hP (htg _ xw_277) xd_H_run_21 ?_
          refine xget_C_off (v := (xg_C_off v)) hx hb htg hown hK hP (htg _ xw_216) rfl xd_H_run_24 ?_
          refine lv_if_ne (tgt := 60) hx hb xd_H_run_27 rfl (fun h3 => ?_) (fun h3 => ?_)
          · refine lv_iload_n hx hb xd_H_run_60 rfl (lv_at hl 0 rfl) ?_
            exact W.widen (by omega) (by omega) (hret _ (v, g) H locs ls _ ⟨by rw [hinv, xrunH, if_neg h3], hg⟩ hP hD hS xd_H_run_61)
          · have hinv2 : xf_H_run u (nI N) = xrunH d (nI (i + 1)) (xstepH v) := by rw [hinv, xrunH, if_pos h3, nI_1]
            have hT : xcH (xstepH v) ≤ xcH u + kk := by
              have h4 := xrunH_ge d (nI (i + 1)) (xstepH v)
              rw [← hinv2] at h4
              omega
            have h47 : ∀ (t : Nat) (w : XH) (g : XG) (H : Heap) (locs : List Loc), xcH w = xcH u + t → xf_C_endStep w = xstepH v → xok k g w → va_P D xCl (xWH k a g w) H → va_D A (xWH k a g w) → va_S A s.heap H locs → W p l e { frames := 8, cells := 2 * kk, slots := 1025 * kk, locals := 194 } s m args below meth c H locs (2 * t) (1025 * t) Q (F0 m 47 ls []) := by
              intro t w g H locs ht hw1 hg hP hD hS
              have htk : t ≤ kk := by
                have h4 := xend_c w
                rw [hw1] at h4
                omega
              refine lv_aload_n hx hb xd_H_run_47 rfl (lv_at hl 1 rfl) ?_
              refine xget_H_core hx hb htg hown hK hP (htg _ xw_277) xd_H_run_48 ?_
              refine xcW_v (va_runV (As := []) (rest := []) ⟨hx, hb, hml, hown, htg⟩ (c_C_endStep l D z k a g H.size w hg) (cwV 0 htg (xg_V0 xkin_C_endStep xw_673 xw_674 xsel_C_endStep xw_2) rfl rfl rfl (by decide +kernel) ⟨Nat.le_of_ble_eq_true rfl, Nat.le_of_ble_eq_true rfl⟩) ⟨xB_blind, xrecv_C hK hP, fun U hU hW => xB_mk hP hK hD hE hS (xsubW hD hA hS) hU hW⟩ rfl rfl hl.1 rfl (lv_room (Nat.le_of_ble_eq_true rfl)) xd_H_run_51 ⟨by show 2 * t + 0 ≤ 2 * kk; omega, by show 1025 * t + 0 ≤ 1025 * kk; omega⟩) hD hA hS (fun w1 H locs hw hP hD hS => ?_)
              obtain ⟨u1, g⟩ := w1
              obtain ⟨e2, hg⟩ := hw
              obtain rfl : u1 = xf_C_endStep w := e2
              refine lv_iinc (k := 0) (v := nI (i + 1)) (lv' := [(2, .int (nI (i + 1))), (0, .ref (a 0)), (1, .int (nI N))]) hx hb xd_H_run_54 hl rfl (by rw [← nI_1]; rfl) (by decide) rfl (fun ls hl => ?_)
              refine lv_goto (tgt := 15) hx hb xd_H_run_57 rfl ?_
              exact ih (i + 1) t (xf_C_endStep w) g H locs ls (by omega) (by rw [xend_c]; exact ht) (by rw [hw1]; exact hinv2) hg hl hP hD hS
            refine lv_aload_n hx hb xd_H_run_30 rfl (lv_at hl 1 rfl) ?_
            refine xget_H_core hx hb htg hown hK hP (htg _ xw_277) xd_H_run_31 ?_
            refine xcW_i (va_runV (As := []) (rest := []) ⟨hx, hb, hml, hown, htg⟩ (c_C_startStep l D z k a g H.size v hg) (cwV 0 htg (xg_V0 xkin_C_startStep xw_389 xw_390 xsel_C_startStep xw_2) rfl rfl rfl (by decide +kernel) ⟨Nat.le_of_ble_eq_true rfl, Nat.le_of_ble_eq_true rfl⟩) ⟨xB_blind, xrecv_C hK hP, fun U hU hW => xB_mk hP hK hD hE hS (xsubW hD hA hS) hU hW⟩ rfl rfl hl.1 rfl (lv_room (Nat.le_of_ble_eq_true rfl)) xd_H_run_34 ⟨by show 2 * j + 0 ≤ 2 * kk; omega, by show 1025 * j + 0 ≤ 1025 * kk; omega⟩) hD hA hS (fun r w1 H locs hw hP hD hS => ?_)
            obtain ⟨u1, g⟩ := w1
            obtain ⟨q, hq⟩ : ∃ q, q = xf_C_startStep v := ⟨_, rfl⟩
            obtain ⟨e1, hg⟩ := hw
            rw [← hq] at e1
            obtain rfl : r = q.1 := congrArg Prod.fst e1
            obtain rfl : u1 = q.2 := congrArg Prod.snd e1
            have hP : va_P D xCl (xWH k a g q.2) H := hP
            have hD : va_D A (xWH k a g q.2) := hD
            have hg : xok k g q.2 := hg
            have hqc : xcH q.2 = xcH u + j := by rw [hq, xstart_c]; exact hj
            have hst : ∀ w, (if q.1 = 0 then q.2 else xf_C_perform q.2) = w → xf_C_endStep w = xstepH v := fun w hw9 => by
              rw [← hw9, hq]
              rfl
            refine lv_if_eq (tgt := 47) hx hb xd_H_run_37 rfl (fun h5 => ?_) (fun h5 => ?_)
            · exact h47 j q.2 g H locs hqc (hst _ (if_pos h5)) hg hP hD hS
            · have hge := xperf_c q.2
              have hpe : xcH (xf_C_perform q.2) ≤ xcH u + kk := by
                have h6 := xend_c (xf_C_perform q.2)
                rw [hst _ (if_neg h5)] at h6
                omega
              obtain ⟨t, ht⟩ : ∃ t, xcH (xf_C_perform q.2) = xcH u + t := ⟨xcH (xf_C_perform q.2) - xcH u, by omega⟩
              refine lv_aload_n hx hb xd_H_run_40 rfl (lv_at hl 1 rfl) ?_
              refine xget_H_core hx hb htg hown hK hP (htg _ xw_277) xd_H_run_41 ?_
              refine xcW_v (va_runV (As := []) (rest := []) ⟨hx, hb, hml, hown, htg⟩ (c_C_perform l D z k a g H.size q.2 hg (t - j) (by show xcH (xf_C_perform q.2) ≤ xcH q.2 + (t - j); omega)) (cwV 0 htg (xg_V0 xkin_C_perform xw_495 xw_496 xsel_C_perform xw_2) rfl rfl rfl (by decide +kernel) ⟨Nat.le_of_ble_eq_true rfl, Nat.le_of_ble_eq_true rfl⟩) ⟨xB_blind, xrecv_C hK hP, fun U hU hW => xB_mk hP hK hD hE hS (xsubW hD hA hS) hU hW⟩ rfl rfl hl.1 rfl (lv_room (Nat.le_of_ble_eq_true rfl)) xd_H_run_44 ⟨by show 2 * j + 0 + 2 * (t - j) ≤ 2 * kk; omega, by show 1025 * j + 0 + 1025 * (t - j) ≤ 1025 * kk; omega⟩) hD hA hS (fun w1 H locs hw hP hD hS => ?_)
              obtain ⟨u1, g⟩ := w1
              obtain ⟨e2, hg⟩ := hw
              obtain rfl : u1 = xf_C_perform q.2 := e2
              exact W.widen (by omega) (by omega) (h47 t (xf_C_perform q.2) g H locs ht (hst _ (if_neg h5)) hg hP hD hS)
      exact loop N 0 0 u g H locs ls (by omega) (by omega) hfn hg (by rw [nI_0]; exact hl) hP hD hS
    · refine lv_iconst (v := (-1)) hx hb xd_H_run_11 (by decide) ?_
      exact W.widen (Nat.zero_le _) (Nat.zero_le _) (hret _ (u, g) H locs ls _ ⟨by unfold xf_H_run; rw [if_neg h1, if_neg h2], hg⟩ hP hD hS xd_H_run_12)

