
noncomputable def xrunZ : Nat → Int32 → XZ → Int32 × XZ
  | 0, d, u => (d, u)
  | n + 1, d, u => if xz (xg_Z_off u) = 0 then xrunZ n (d + 1) (xf_Z_step u) else (d, u)
def xvrunZ : Nat → XZ → Prop
  | 0, _ => XVc True
  | n + 1, u => XVc (if xz (xg_Z_off u) = 0 then xv_Z_step u ∧ xvrunZ n (xf_Z_step u) else True)
noncomputable def xf_Z_run (u : XZ) (p0 : Int32) : Int32 × XZ := if xf_Z_isIn p0 0 2000 = 0 then (-1, u) else xrunZ p0.toNatClampNeg 0 u
theorem xisIn {p0 lo hi : Int32} (h : ¬ xf_Z_isIn p0 lo hi = 0) : lo ≤ p0 ∧ p0 ≤ hi := by
  unfold xf_Z_isIn at h
  simp only [xlt] at h
  by_cases h1 : lo ≤ p0
  · by_cases h2 : p0 ≤ hi
    · exact ⟨h1, h2⟩
    · simp [h1, h2] at h
  · simp [h1] at h
set_option maxHeartbeats 4000000 in
set_option maxRecDepth 100000 in
theorem c_Z_run (l : Launch) (D : va_G) (z : (Nat → Nat) × (Nat → Nat)) (k : ClassId × ClassId) (b : Nat → Nat) (sz : Nat) (u : XZ) (p0 : Int32) (hv : ¬ xf_Z_isIn p0 0 2000 = 0 → xvrunZ p0.toNatClampNeg u) : Met l xy_Z_run (xk_Z_run :: lw_g) { frames := 15, cells := 0, slots := 0, locals := 394 } (va_Pc [.ref (b 0), .int p0] (xB D (xTy k) z sz (xWZ k b u))) (va_Qi (fun r (q : XZ) => (r, q) = xf_Z_run u p0) (fun q t => xQ D (xTy k) (xWZ k b q) (va_A (xWZ k b u) sz) t) (va_A (xWZ k b u) sz)) 0 0 (va_A (xWZ k b u) sz) := by
  refine xopen_i (wf := fun q : XZ => xWZ k b q) (lv := [(0, .ref (b 0)), (1, .int p0)]) (by decide) rfl (Nat.le_of_ble_eq_true rfl) ?_
  intro p e s m args below meth c Q ls A H locs hx hb hml htg hown hin hK hP hD hE hS hA hl hret
  refine lv_iload_n hx hb xd_Z_run_0 rfl (lv_at hl 1 rfl) ?_
  refine lv_iconst (v := 0) hx hb xd_Z_run_1 (by decide) ?_
  refine lv_sipush (v := 2000) hx hb xd_Z_run_2 (by decide) ?_
  refine xc0_i (va_runS (As := [.int p0, .int 0, .int 2000]) (rest := []) ⟨hx, hb, hml, hown, htg⟩ (c_Z_isIn l D (xTy k) z H.size p0 0 2000) (va_cwS 3 htg (xg_S0 xkin_Z_isIn xw_831 xw_832 xw_9) rfl rfl rfl (by decide +kernel) ⟨Nat.le_of_ble_eq_true rfl, Nat.le_of_ble_eq_true rfl⟩) ⟨xB_blind, fun U hU hW => xB_mk va_P0 hK va_D0 hE hS (xsub0 hA hS) hU hW⟩ rfl rfl hl.1 rfl (lv_room (Nat.le_of_ble_eq_true rfl)) xd_Z_run_5 ⟨Nat.le_of_ble_eq_true rfl, Nat.le_of_ble_eq_true rfl⟩) hP hA hS (fun r1 H locs hr1 hP hS => ?_)
  refine lv_if_ne (tgt := 13) hx hb xd_Z_run_8 rfl (fun h1 => ?_) (fun h1 => ?_)
  · rw [hr1] at h1
    have hv := hv h1
    have hb1 := xisIn h1
    have hn0 : ¬ p0 < 0 := fun h => absurd (Int32.le_iff_toInt_le.mp hb1.1) (by have := Int32.lt_iff_toInt_lt.mp h; omega)
    obtain ⟨N, hN, rfl⟩ := nI_of2 (M := 2000) (n := 2000) rfl hn0 hb1.2
    refine lv_iconst (v := 0) hx hb xd_Z_run_13 (by decide) ?_
    refine lv_istore_n (lv' := [(2, .int 0), (0, .ref (b 0)), (1, .int (nI N))]) hx hb xd_Z_run_14 rfl hl (by decide) rfl (fun ls hl => ?_)
    rw [nI_clamp (by omega)] at hv
    have hfn : xf_Z_run u (nI N) = xrunZ N (nI 0) u := by
      unfold xf_Z_run
      rw [if_neg h1, nI_clamp (by omega), nI_0]
    have loop : ∀ (d i : Nat) (v : XZ) (H : Heap) (locs : List Loc) (ls : Array Slot), i + d = N → xvrunZ d v → xf_Z_run u (nI N) = xrunZ d (nI i) v → lv_has ls 3 [(2, .int (nI i)), (0, .ref (b 0)), (1, .int (nI N))] → va_P D xCl (xWZ k b v) H → va_D A (xWZ k b v) → va_S A s.heap H locs → W p l e { frames := 15, cells := 0, slots := 0, locals := 394 } s m args below meth c H locs 0 0 Q (F0 m 15 ls []) := by
      intro d
      induction d with
      | zero =>
        intro i v H locs ls hid hvv hinv hl hP hD hS
        obtain rfl : i = N := by omega
        refine lv_iload_n hx hb xd_Z_run_15 rfl (lv_at hl 0 rfl) ?_
        refine lv_iload_n hx hb xd_Z_run_16 rfl (lv_at hl 2 rfl) ?_
        refine lv_icmp_ge (tgt := 37) hx hb xd_Z_run_17 rfl (fun _ => ?_) (fun h9 => absurd (Int32.le_refl _) h9)
        refine lv_iload_n hx hb xd_Z_run_37 rfl (lv_at hl 0 rfl) ?_
        exact hret _ v H locs ls _ (by rw [hinv, xrunZ]) hP hD hS xd_Z_run_38
      | succ d ih =>
        intro i v H locs ls hid hvv hinv hl hP hD hS
        have hi : i < N := by omega
        refine lv_iload_n hx hb xd_Z_run_15 rfl (lv_at hl 0 rfl) ?_
        refine lv_iload_n hx hb xd_Z_run_16 rfl (lv_at hl 2 rfl) ?_
        refine lv_icmp_ge (tgt := 37) hx hb xd_Z_run_17 rfl (fun h9 => absurd h9 (nI_ge hi (by omega))) (fun _ => ?_)
        refine lv_aload_n hx hb xd_Z_run_20 rfl (lv_at hl 1 rfl) ?_
        refine xget_Z_off (v := (xg_Z_off v)) hx hb htg hown hK hP (htg _ xw_735) rfl xd_Z_run_21 ?_
        refine lv_if_ne (tgt := 37) hx hb xd_Z_run_24 rfl (fun h2 => ?_) (fun h2 => ?_)
        · refine lv_iload_n hx hb xd_Z_run_37 rfl (lv_at hl 0 rfl) ?_
          exact hret _ v H locs ls _ (by rw [hinv, xrunZ, if_neg h2]) hP hD hS xd_Z_run_38
        · rw [xvrunZ] at hvv
          have hvv := xit_v h2 hvv
          obtain ⟨hn1, hvv⟩ := hvv.1
          refine lv_aload_n hx hb xd_Z_run_27 rfl (lv_at hl 1 rfl) ?_
          refine xcW_v (va_runV (As := []) (rest := []) ⟨hx, hb, hml, hown, htg⟩ (c_Z_step l D z k b H.size v hn1) (cwV 0 htg (xg_V0 xkin_Z_step xw_900 xw_902 xsel_Z_step xw_9) rfl rfl rfl (by decide +kernel) ⟨Nat.le_of_ble_eq_true rfl, Nat.le_of_ble_eq_true rfl⟩) ⟨xB_blind, xrecv_Z hK hP, fun U hU hW => xB_mk hP hK hD hE hS (xsubW hD hA hS) hU hW⟩ rfl rfl hl.1 rfl (lv_room (Nat.le_of_ble_eq_true rfl)) xd_Z_run_28 ⟨Nat.le_of_ble_eq_true rfl, Nat.le_of_ble_eq_true rfl⟩) hD hA hS (fun u1 H locs hw hP hD hS => ?_)
          obtain rfl : u1 = xf_Z_step v := hw
          refine lv_iinc (k := 0) (v := nI (i + 1)) (lv' := [(2, .int (nI (i + 1))), (0, .ref (b 0)), (1, .int (nI N))]) hx hb xd_Z_run_31 hl rfl (by rw [← nI_1]; rfl) (by decide) rfl (fun ls hl => ?_)
          refine lv_goto (tgt := 15) hx hb xd_Z_run_34 rfl ?_
          exact ih (i + 1) (xf_Z_step v) H locs ls (by omega) hvv (by rw [hinv, xrunZ, if_pos h2, nI_1]) hl hP hD hS
    exact loop N 0 u H locs ls (by omega) hv hfn (by rw [nI_0]; exact hl) hP hD hS
  · rw [hr1] at h1
    refine lv_iconst (v := (-1)) hx hb xd_Z_run_11 (by decide) ?_
    exact hret _ u H locs ls _ (by unfold xf_Z_run; rw [if_pos h1]) hP hD hS xd_Z_run_12

