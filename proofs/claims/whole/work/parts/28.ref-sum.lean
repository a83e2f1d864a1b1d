
theorem nI_mul' (a b : Nat) : nI a * nI b = nI (a * b) := (Int32.ofNat_mul a b).symm
theorem nI_sub' {a b : Nat} (h : b ≤ a) : nI a - nI b = nI (a - b) := by
  have e : nI (a - b) + nI b = nI a := by rw [nI_add, Nat.sub_add_cancel h]
  rw [← e, Int32.add_sub_cancel]
theorem xfg {p0 p1 : Int32} (h1 : 0 ≤ p0.toInt) (h2 : p0.toInt ≤ 63) (h3 : 1 ≤ p1.toInt) (h4 : p1 ≤ 64 - p0) : ∃ F G : Nat, p0 = nI F ∧ p1 = nI G ∧ F ≤ 63 ∧ 1 ≤ G ∧ F + G ≤ 64 := by
  obtain ⟨F, hF, rfl⟩ := nI_of2 (x := p0) (M := 63) (n := 63) rfl (fun h => by have := Int32.lt_iff_toInt_lt.mp h; have e : (0 : Int32).toInt = 0 := rfl; omega) (Int32.le_iff_toInt_le.mpr (by have e : (63 : Int32).toInt = 63 := rfl; omega))
  have e : (64 : Int32) - nI F = nI (64 - F) := nI_sub' (a := 64) (by omega)
  rw [e] at h4
  have h5 := Int32.le_iff_toInt_le.mp h4
  rw [nI_toInt (by omega)] at h5
  obtain ⟨G, hG, rfl⟩ := nI_of2 (x := p1) (M := 64) (n := 64) rfl (fun h => by have := Int32.lt_iff_toInt_lt.mp h; have e : (0 : Int32).toInt = 0 := rfl; omega) (Int32.le_iff_toInt_le.mpr (by have e : (64 : Int32).toInt = 64 := rfl; omega))
  rw [nI_toInt (by omega)] at h5 h3
  exact ⟨F, G, rfl, rfl, hF, by omega, by omega⟩
def xsumN : Nat → Nat → Int32 → (Nat → Int32) → Int32
  | 0, _, a, _ => a
  | d + 1, j, a, f => xsumN d (j + 1) (31 * a + f j) f
noncomputable def xf_Z_sum (u : XZ) (p0 p1 : Int32) : Int32 :=
  if p0 < 0 then (-1) else if p1 < 1 then (-1) else if 63 < p0 then (-1) else if p1 ≤ (64 - p0) then xsumN (1024 * p1.toNatClampNeg) (1024 * p0.toNatClampNeg) 1 (xg_Z_memory u) else (-1)
set_option maxHeartbeats 4000000 in
set_option maxRecDepth 100000 in
theorem c_Z_sum (l : Launch) (D : va_G) (z : (Nat → Nat) × (Nat → Nat)) (k : ClassId × ClassId) (b : Nat → Nat) (sz : Nat) (u : XZ) (p0 p1 : Int32) : Met l xy_Z_sum (xk_Z_sum :: lw_g) { frames := 0, cells := 0, slots := 0, locals := 0 } (va_Pc [.ref (b 0), .int p0, .int p1] (xB D (xTy k) z sz (xWZ k b u))) (va_Qi (fun r (q : XZ) => r = xf_Z_sum u p0 p1 ∧ q = u) (fun q t => xQ D (xTy k) (xWZ k b q) (va_A (xWZ k b u) sz) t) (va_A (xWZ k b u) sz)) 0 0 (va_A (xWZ k b u) sz) := by
  refine xopen_i (wf := fun q : XZ => xWZ k b q) (lv := [(0, .ref (b 0)), (1, .int p0), (2, .int p1)]) (by decide) rfl (Nat.le_of_ble_eq_true rfl) ?_
  intro p e s m args below meth c Q ls A H locs hx hb hml htg hown hin hK hP hD hE hS hA hl hret
  refine lv_iload_n hx hb xd_Z_sum_0 rfl (lv_at hl 1 rfl) ?_
  refine lv_if_lt (tgt := 23) hx hb xd_Z_sum_1 rfl (fun h1 => ?_) (fun h1 => ?_)
  · refine lv_iconst (v := (-1)) hx hb xd_Z_sum_23 (by decide) ?_
    exact hret _ u H locs ls _ ⟨by unfold xf_Z_sum; exact xit h1 rfl, rfl⟩ hP hD hS xd_Z_sum_24
  refine lv_iload_n hx hb xd_Z_sum_4 rfl (lv_at hl 2 rfl) ?_
  refine lv_iconst (v := 1) hx hb xd_Z_sum_5 (by decide) ?_
  refine lv_icmp_lt (tgt := 23) hx hb xd_Z_sum_6 rfl (fun h2 => ?_) (fun h2 => ?_)
  · refine lv_iconst (v := (-1)) hx hb xd_Z_sum_23 (by decide) ?_
    exact hret _ u H locs ls _ ⟨by unfold xf_Z_sum; exact xif h1 (xit h2 rfl), rfl⟩ hP hD hS xd_Z_sum_24
  refine lv_iload_n hx hb xd_Z_sum_9 rfl (lv_at hl 1 rfl) ?_
  refine lv_bipush (v := 63) hx hb xd_Z_sum_10 (by decide) ?_
  refine lv_icmp_gt (tgt := 23) hx hb xd_Z_sum_12 rfl (fun h3 => ?_) (fun h3 => ?_)
  · refine lv_iconst (v := (-1)) hx hb xd_Z_sum_23 (by decide) ?_
    exact hret _ u H locs ls _ ⟨by unfold xf_Z_sum; exact xif h1 (xif h2 (xit h3 rfl)), rfl⟩ hP hD hS xd_Z_sum_24
  refine lv_iload_n hx hb xd_Z_sum_15 rfl (lv_at hl 2 rfl) ?_
  refine lv_bipush (v := 64) hx hb xd_Z_sum_16 (by decide) ?_
  refine lv_iload_n hx hb xd_Z_sum_18 rfl (lv_at hl 1 rfl) ?_
  refine lv_isub hx hb xd_Z_sum_19 ?_
  refine lv_icmp_le (tgt := 25) hx hb xd_Z_sum_20 rfl (fun h4 => ?_) (fun h4 => ?_)
  · have hfn : xf_Z_sum u p0 p1 = xsumN (1024 * p1.toNatClampNeg) (1024 * p0.toNatClampNeg) 1 (xg_Z_memory u) := by
      unfold xf_Z_sum
      rw [if_neg h1, if_neg h2, if_neg h3, if_pos h4]
    obtain ⟨F, G, rfl, rfl, hF, hG, hFG⟩ := xfg (by
      have a1 : ¬ p0.toInt < (0 : Int32).toInt := fun h => h1 (Int32.lt_iff_toInt_lt.mpr h)
      have a2 : (0 : Int32).toInt = 0 := rfl
      omega) (by
      have a1 : ¬ (63 : Int32).toInt < p0.toInt := fun h => h3 (Int32.lt_iff_toInt_lt.mpr h)
      have a2 : (63 : Int32).toInt = 63 := rfl
      omega) (by
      have a1 : ¬ p1.toInt < (1 : Int32).toInt := fun h => h2 (Int32.lt_iff_toInt_lt.mpr h)
      have a2 : (1 : Int32).toInt = 1 := rfl
      omega) h4
    rw [nI_clamp (by omega), nI_clamp (by omega)] at hfn
    refine lv_iconst (v := 1) hx hb xd_Z_sum_25 (by decide) ?_
    refine lv_istore_n (lv' := [(3, .int 1), (0, .ref (b 0)), (1, .int (nI F)), (2, .int (nI G))]) hx hb xd_Z_sum_26 rfl hl (by decide) rfl (fun ls hl => ?_)
    refine lv_sipush (v := 1024) hx hb xd_Z_sum_27 (by decide) ?_
    refine lv_iload_n hx hb xd_Z_sum_30 rfl (lv_at hl 2 rfl) ?_
    refine lv_imul hx hb xd_Z_sum_31 ?_
    rw [show (1024 : Int32) * nI F = nI (1024 * F) from nI_mul' 1024 F]
    refine lv_istore (lv' := [(4, .int (nI (1024 * F))), (3, .int 1), (0, .ref (b 0)), (1, .int (nI F)), (2, .int (nI G))]) hx hb xd_Z_sum_32 hl (by decide) rfl (fun ls hl => ?_)
    have loop : ∀ (d j : Nat) (acc : Int32) (ls : Array Slot), j + d = 1024 * (F + G) → xf_Z_sum u (nI F) (nI G) = xsumN d j acc (xg_Z_memory u) → lv_has ls 5 [(4, .int (nI j)), (3, .int acc), (0, .ref (b 0)), (1, .int (nI F)), (2, .int (nI G))] → W p l e { frames := 0, cells := 0, slots := 0, locals := 0 } s m args below meth c H locs 0 0 Q (F0 m 34 ls []) := by
      intro d
      induction d with
      | zero =>
        intro j acc ls hjd hinv hl
        obtain rfl : j = 1024 * (F + G) := by omega
        refine lv_iload hx hb xd_Z_sum_34 (lv_at hl 0 rfl) ?_
        refine lv_sipush (v := 1024) hx hb xd_Z_sum_36 (by decide) ?_
        refine lv_iload_n hx hb xd_Z_sum_39 rfl (lv_at hl 3 rfl) ?_
        refine lv_iload_n hx hb xd_Z_sum_40 rfl (lv_at hl 4 rfl) ?_
        refine lv_iadd hx hb xd_Z_sum_41 ?_
        refine lv_imul hx hb xd_Z_sum_42 ?_
        rw [nI_add, show (1024 : Int32) * nI (F + G) = nI (1024 * (F + G)) from nI_mul' 1024 (F + G)]
        refine lv_icmp_ge (tgt := 65) hx hb xd_Z_sum_43 rfl (fun _ => ?_) (fun h9 => absurd (Int32.le_refl _) h9)
        refine lv_iload_n hx hb xd_Z_sum_65 rfl (lv_at hl 1 rfl) ?_
        exact hret _ u H locs ls _ ⟨by rw [hinv, xsumN], rfl⟩ hP hD hS xd_Z_sum_66
      | succ d ih =>
        intro j acc ls hjd hinv hl
        have hj : j < 1024 * (F + G) := by omega
        refine lv_iload hx hb xd_Z_sum_34 (lv_at hl 0 rfl) ?_
        refine lv_sipush (v := 1024) hx hb xd_Z_sum_36 (by decide) ?_
        refine lv_iload_n hx hb xd_Z_sum_39 rfl (lv_at hl 3 rfl) ?_
        refine lv_iload_n hx hb xd_Z_sum_40 rfl (lv_at hl 4 rfl) ?_
        refine lv_iadd hx hb xd_Z_sum_41 ?_
        refine lv_imul hx hb xd_Z_sum_42 ?_
        rw [nI_add, show (1024 : Int32) * nI (F + G) = nI (1024 * (F + G)) from nI_mul' 1024 (F + G)]
        refine lv_icmp_ge (tgt := 65) hx hb xd_Z_sum_43 rfl (fun h9 => absurd h9 (nI_ge hj (by omega))) (fun _ => ?_)
        refine lv_bipush (v := 31) hx hb xd_Z_sum_46 (by decide) ?_
        refine lv_iload_n hx hb xd_Z_sum_48 rfl (lv_at hl 1 rfl) ?_
        refine lv_imul hx hb xd_Z_sum_49 ?_
        refine lv_aload_n hx hb xd_Z_sum_50 rfl (lv_at hl 2 rfl) ?_
        refine xget_Z_memory hx hb htg hown hK hP (htg _ xw_728) xd_Z_sum_51 ?_
        refine lv_iload hx hb xd_Z_sum_54 (lv_at hl 0 rfl) ?_
        refine xald_Z_memory hx hb hK hP (vp_in_nI (show j < 65536 by omega) (by decide)) xd_Z_sum_56 ?_
        rw [nI_clamp (by omega)]
        refine lv_iadd hx hb xd_Z_sum_57 ?_
        refine lv_istore_n (lv' := [(3, .int (31 * acc + xg_Z_memory u j)), (4, .int (nI j)), (0, .ref (b 0)), (1, .int (nI F)), (2, .int (nI G))]) hx hb xd_Z_sum_58 rfl hl (by decide) rfl (fun ls hl => ?_)
        refine lv_iinc (k := 1) (v := nI (j + 1)) (lv' := [(4, .int (nI (j + 1))), (3, .int (31 * acc + xg_Z_memory u j)), (0, .ref (b 0)), (1, .int (nI F)), (2, .int (nI G))]) hx hb xd_Z_sum_59 hl rfl (by rw [← nI_1]; rfl) (by decide) rfl (fun ls hl => ?_)
        refine lv_goto (tgt := 34) hx hb xd_Z_sum_62 rfl ?_
        exact ih (j + 1) (31 * acc + xg_Z_memory u j) ls (by omega) (by rw [hinv, xsumN]) hl
    exact loop (1024 * G) (1024 * F) 1 ls (by omega) hfn hl
  · refine lv_iconst (v := (-1)) hx hb xd_Z_sum_23 (by decide) ?_
    exact hret _ u H locs ls _ ⟨by unfold xf_Z_sum; exact xif h1 (xif h2 (xif h3 (xif h4 rfl))), rfl⟩ hP hD hS xd_Z_sum_24

