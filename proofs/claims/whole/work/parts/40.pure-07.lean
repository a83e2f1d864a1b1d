theorem yfD_d (w : Int32) : xf_D_d w = (w >>> ((7 : Int32) &&& 31)) &&& 31 := by
  unfold xf_D_d
  apply ybt_ext; apply yall32
  simp only [ybt_and, ybt_xus _ 7 7 (by decide), ybt_sar _ ((7 : Int32) &&& 31) 7 (by decide)]
  simp [ybt]
theorem yfD_f (w : Int32) : xf_D_f w = (w >>> ((12 : Int32) &&& 31)) &&& 7 := by
  unfold xf_D_f
  apply ybt_ext; apply yall32
  simp only [ybt_and, ybt_xus _ 12 12 (by decide), ybt_sar _ ((12 : Int32) &&& 31) 12 (by decide)]
  simp [ybt]
theorem yfD_a (w : Int32) : xf_D_a w = (w >>> ((15 : Int32) &&& 31)) &&& 31 := by
  unfold xf_D_a
  apply ybt_ext; apply yall32
  simp only [ybt_and, ybt_xus _ 15 15 (by decide), ybt_sar _ ((15 : Int32) &&& 31) 15 (by decide)]
  simp [ybt]
theorem yfD_b (w : Int32) : xf_D_b w = (w >>> ((20 : Int32) &&& 31)) &&& 31 := by
  unfold xf_D_b
  apply ybt_ext; apply yall32
  simp only [ybt_and, ybt_xus _ 20 20 (by decide), ybt_sar _ ((20 : Int32) &&& 31) 20 (by decide)]
  simp [ybt]
theorem yf_jump (w : Int32) : xf_Z_jump w = xf_D_jumpOffset w := by
  unfold xf_Z_jump xf_Z_signed xf_D_jumpOffset
  rw [yxlt_d]
  apply ybt_ext; apply yall32
  simp only [ybt_and, ybt_or, ybt_xus _ 20 20 (by decide), ybt_xus _ 21 21 (by decide), ybt_sar _ (((32 : Int32) - 21) &&& 31) 11 (by decide), ybt_shl _ (((32 : Int32) - 21) &&& 31) 11 (by decide), ybt_sar _ ((31 : Int32) &&& 31) 31 (by decide), ybt_sar _ ((12 : Int32) &&& 31) 12 (by decide), ybt_sar _ ((20 : Int32) &&& 31) 20 (by decide), ybt_sar _ ((21 : Int32) &&& 31) 21 (by decide), ybt_shl _ ((20 : Int32) &&& 31) 20 (by decide), ybt_shl _ ((12 : Int32) &&& 31) 12 (by decide), ybt_shl _ ((11 : Int32) &&& 31) 11 (by decide), ybt_shl _ ((1 : Int32) &&& 31) 1 (by decide)]
  simp [ybt]
theorem yf_branch (w : Int32) : xf_Z_signed ((((((w >>> ((31 : Int32) &&& 31)) &&& (1 : Int32)) <<< ((12 : Int32) &&& 31)) ||| (((w >>> ((7 : Int32) &&& 31)) &&& (1 : Int32)) <<< ((11 : Int32) &&& 31))) ||| (((w >>> ((25 : Int32) &&& 31)) &&& (63 : Int32)) <<< ((5 : Int32) &&& 31))) ||| (((w >>> ((8 : Int32) &&& 31)) &&& (15 : Int32)) <<< ((1 : Int32) &&& 31))) (13 : Int32) = xf_D_branchOffset w := by
  unfold xf_Z_signed xf_D_branchOffset
  apply ybt_ext; apply yall32
  simp only [ybt_and, ybt_or, ybt_xus _ 7 7 (by decide), ybt_xus _ 25 25 (by decide), ybt_xus _ 8 8 (by decide), ybt_sar _ (((32 : Int32) - 13) &&& 31) 19 (by decide), ybt_shl _ (((32 : Int32) - 13) &&& 31) 19 (by decide), ybt_sar _ ((31 : Int32) &&& 31) 31 (by decide), ybt_sar _ ((7 : Int32) &&& 31) 7 (by decide), ybt_sar _ ((25 : Int32) &&& 31) 25 (by decide), ybt_sar _ ((8 : Int32) &&& 31) 8 (by decide), ybt_shl _ ((12 : Int32) &&& 31) 12 (by decide), ybt_shl _ ((11 : Int32) &&& 31) 11 (by decide), ybt_shl _ ((5 : Int32) &&& 31) 5 (by decide), ybt_shl _ ((1 : Int32) &&& 31) 1 (by decide)]
  simp [ybt]
theorem yand31 (x : Int32) : (x &&& 31) &&& 31 = x &&& 31 := by rw [Int32.and_assoc, Int32.and_self]
theorem yshl5 (x : Int32) : x <<< ((5 : Int32) &&& 31) = x * 32 := by
  apply ytn_ext
  rw [Int32.toBitVec_shiftLeft, BitVec.shiftLeft_eq', show ((5 : Int32) &&& 31).toBitVec.smod 32 = 5#32 by decide, BitVec.toNat_shiftLeft, Int32.toBitVec_mul, BitVec.toNat_mul, Nat.shiftLeft_eq]
  rfl
theorem yf_store (a w : Int32) : (a + (w >>> ((25 : Int32) &&& 31)) * 32) + ((w >>> ((7 : Int32) &&& 31)) &&& 31) = a + xf_D_storeOffset w := by
  unfold xf_D_storeOffset
  rw [yxlt_d, yfD_d, Int32.add_assoc, ← yshl5]
  congr 1
  apply Int32.toBitVec_inj.mp
  rw [Int32.toBitVec_add, Int32.toBitVec_or]
  apply BitVec.add_eq_or_of_and_eq_zero
  rw [← Int32.toBitVec_and]
  have : (w >>> ((25 : Int32) &&& 31)) <<< ((5 : Int32) &&& 31) &&& ((w >>> ((7 : Int32) &&& 31)) &&& 31) = 0 := by
    apply ybt_ext; apply yall32
    simp only [ybt_and, ybt_sar _ ((25 : Int32) &&& 31) 25 (by decide), ybt_sar _ ((7 : Int32) &&& 31) 7 (by decide), ybt_shl _ ((5 : Int32) &&& 31) 5 (by decide)]
    simp [ybt]
  rw [this]; rfl
theorem ymul0 (a b : Int32) : Int64.toInt32 ((Int32.toInt64 a) * (Int32.toInt64 b)) = a * b := by
  rw [Int64.toInt32_mul, Int32.toInt32_toInt64, Int32.toInt32_toInt64]
theorem yltP (a b : Int32) : xf_Z_lessPlain a b = xf_R_lessNoSign a b := rfl
/-- the eight values of f -/
theorem yf8 (w : Int32) : (w >>> ((12 : Int32) &&& 31)) &&& 7 = 0 ∨ (w >>> ((12 : Int32) &&& 31)) &&& 7 = 1 ∨ (w >>> ((12 : Int32) &&& 31)) &&& 7 = 2 ∨ (w >>> ((12 : Int32) &&& 31)) &&& 7 = 3 ∨ (w >>> ((12 : Int32) &&& 31)) &&& 7 = 4 ∨ (w >>> ((12 : Int32) &&& 31)) &&& 7 = 5 ∨ (w >>> ((12 : Int32) &&& 31)) &&& 7 = 6 ∨ (w >>> ((12 : Int32) &&& 31)) &&& 7 = 7 := by
  generalize w >>> ((12 : Int32) &&& 31) = x
  have h : (x &&& 7).toBitVec.toNat = x.toBitVec.toNat % 8 := yand_tn x 7 3 (by decide)
  have hk : (x &&& 7).toBitVec.toNat = 0 ∨ (x &&& 7).toBitVec.toNat = 1 ∨ (x &&& 7).toBitVec.toNat = 2 ∨ (x &&& 7).toBitVec.toNat = 3 ∨ (x &&& 7).toBitVec.toNat = 4 ∨ (x &&& 7).toBitVec.toNat = 5 ∨ (x &&& 7).toBitVec.toNat = 6 ∨ (x &&& 7).toBitVec.toNat = 7 := by omega
  rcases hk with e | e | e | e | e | e | e | e
  · exact Or.inl (ytn_ext e)
  · exact Or.inr (Or.inl (ytn_ext e))
  · exact Or.inr (Or.inr (Or.inl (ytn_ext e)))
  · exact Or.inr (Or.inr (Or.inr (Or.inl (ytn_ext e))))
  · exact Or.inr (Or.inr (Or.inr (Or.inr (Or.inl (ytn_ext e)))))
  · exact Or.inr (Or.inr (Or.inr (Or.inr (Or.inr (Or.inl (ytn_ext e))))))
  · exact Or.inr (Or.inr (Or.inr (Or.inr (Or.inr (Or.inr (Or.inl (ytn_ext e)))))))
  · exact Or.inr (Or.inr (Or.inr (Or.inr (Or.inr (Or.inr (Or.inr (ytn_ext e)))))))
def yf8p (f : Int32) : Prop := f = 0 ∨ f = 1 ∨ f = 2 ∨ f = 3 ∨ f = 4 ∨ f = 5 ∨ f = 6 ∨ f = 7
theorem yprod_e {f : Int32} (hf : yf8p f) (a b : Int32) : xf_Z_product f a b = (if 4 ≤ f then xf_R_divide f a b else xf_R_multiply f a b) := by
  unfold xf_Z_product xf_R_divide xf_R_multiply
  simp only [yxlt_d, ymul0]
  rcases hf with h | h | h | h | h | h | h | h <;> subst h <;> simp [show (0 : Int32) &&& 1 = 0 by decide, show (1 : Int32) &&& 1 = 1 by decide, show (2 : Int32) &&& 1 = 0 by decide, show (3 : Int32) &&& 1 = 1 by decide, show (4 : Int32) &&& 1 = 0 by decide, show (5 : Int32) &&& 1 = 1 by decide, show (6 : Int32) &&& 1 = 0 by decide, show (7 : Int32) &&& 1 = 1 by decide]
theorem yholds_e {f : Int32} (hf : yf8p f) (a b : Int32) (h2 : ¬ f = 2) (h3 : ¬ f = 3) : (if f = 0 then (if a = b then (1 : Int32) else 0) else (if f = 1 then (if a = b then 0 else 1) else (if f = 4 then (if b ≤ a then 0 else 1) else (if f = 5 then (if a < b then 0 else 1) else (if f = 6 then (xlt (xf_Z_lessPlain a b : Int32) fun r12 => r12) else (xlt (xf_Z_lessPlain a b : Int32) fun r10 => if r10 = 0 then 1 else 0)))))) = xf_R_holds f a b := by
  unfold xf_R_holds
  simp only [yxlt_d, yltP]
  have hl : xf_R_lessNoSign a b = 0 ∨ xf_R_lessNoSign a b = 1 := by
    unfold xf_R_lessNoSign; rw [yxlt_d]
    by_cases h : 0 ≤ (lg_cmp ((Int32.toInt64 a) &&& (4294967295 : Int64)) ((Int32.toInt64 b) &&& (4294967295 : Int64)))
    · rw [if_pos h]; exact Or.inl rfl
    · rw [if_neg h]; exact Or.inr rfl
  have hlt : a < b ↔ ¬ b ≤ a := by rw [Int32.lt_iff_toInt_lt, Int32.le_iff_toInt_le]; omega
  rcases hf with h | h | h | h | h | h | h | h <;> subst h
  · by_cases e : a = b <;> simp [e, show (0 : Int32) &&& 1 = 0 by decide, show (1 : Int32) &&& 1 = 1 by decide, show (2 : Int32) &&& 1 = 0 by decide, show (3 : Int32) &&& 1 = 1 by decide, show (4 : Int32) &&& 1 = 0 by decide, show (5 : Int32) &&& 1 = 1 by decide, show (6 : Int32) &&& 1 = 0 by decide, show (7 : Int32) &&& 1 = 1 by decide]
  · by_cases e : a = b <;> simp [e, show (0 : Int32) &&& 1 = 0 by decide, show (1 : Int32) &&& 1 = 1 by decide, show (2 : Int32) &&& 1 = 0 by decide, show (3 : Int32) &&& 1 = 1 by decide, show (4 : Int32) &&& 1 = 0 by decide, show (5 : Int32) &&& 1 = 1 by decide, show (6 : Int32) &&& 1 = 0 by decide, show (7 : Int32) &&& 1 = 1 by decide]
  · exact absurd rfl h2
  · exact absurd rfl h3
  · by_cases e : b ≤ a <;> simp [e, show (0 : Int32) &&& 1 = 0 by decide, show (1 : Int32) &&& 1 = 1 by decide, show (2 : Int32) &&& 1 = 0 by decide, show (3 : Int32) &&& 1 = 1 by decide, show (4 : Int32) &&& 1 = 0 by decide, show (5 : Int32) &&& 1 = 1 by decide, show (6 : Int32) &&& 1 = 0 by decide, show (7 : Int32) &&& 1 = 1 by decide]
  · by_cases e : b ≤ a <;> simp [e, hlt, show (0 : Int32) &&& 1 = 0 by decide, show (1 : Int32) &&& 1 = 1 by decide, show (2 : Int32) &&& 1 = 0 by decide, show (3 : Int32) &&& 1 = 1 by decide, show (4 : Int32) &&& 1 = 0 by decide, show (5 : Int32) &&& 1 = 1 by decide, show (6 : Int32) &&& 1 = 0 by decide, show (7 : Int32) &&& 1 = 1 by decide]
  · rcases hl with e | e <;> simp [e, show (0 : Int32) &&& 1 = 0 by decide, show (1 : Int32) &&& 1 = 1 by decide, show (2 : Int32) &&& 1 = 0 by decide, show (3 : Int32) &&& 1 = 1 by decide, show (4 : Int32) &&& 1 = 0 by decide, show (5 : Int32) &&& 1 = 1 by decide, show (6 : Int32) &&& 1 = 0 by decide, show (7 : Int32) &&& 1 = 1 by decide]
  · rcases hl with e | e <;> simp [e, show (0 : Int32) &&& 1 = 0 by decide, show (1 : Int32) &&& 1 = 1 by decide, show (2 : Int32) &&& 1 = 0 by decide, show (3 : Int32) &&& 1 = 1 by decide, show (4 : Int32) &&& 1 = 0 by decide, show (5 : Int32) &&& 1 = 1 by decide, show (6 : Int32) &&& 1 = 0 by decide, show (7 : Int32) &&& 1 = 1 by decide]
theorem yvp31 (x : Int32) : vp_in (x &&& 31) 32 := by
  have h : (x &&& 31).toBitVec.toNat = x.toBitVec.toNat % 32 := yand_tn x 31 5 (by decide)
  exact yvp_of h (by omega) (by omega)
def yxPre (u : XH) (c : XZ) : Prop := yxG u c ∧ xg_P u = (-1, 0, 0, 0, false, false) ∧ xg_Z_next c = xg_C_next u ∧ xg_C_next u = xg_C_pc u + 4
def yxRes (r : Int32 × XZ) (u' : XH) : Prop := ∃ c', r.2 = yxZof u' c' ∧ yxG u' c' ∧ ((r.1 = 1 ∧ xg_P_cause u' = -1 ∧ xg_Z_next c' = xg_C_next u' ∧ xg_C_next u' &&& 3 = 0) ∨ (r.1 = 0 ∧ yxBad u' c'))
theorem yadd4_3 {p : Int32} (h : p &&& 3 = 0) : (p + 4) &&& 3 = 0 := by
  rw [yand3] at h ⊢
  rw [Int32.toBitVec_add, BitVec.toNat_add]
  have e4 : (4 : Int32).toBitVec.toNat = 4 := by decide
  rw [e4]; omega
theorem ypre_c {u : XH} {c : XZ} (h : yxPre u c) : xg_P_cause u = -1 := congrArg Prod.fst h.2.1
theorem ypre_g {u : XH} {c : XZ} (h : yxPre u c) : xg_P_guest u = 0 := congrArg (fun p : XP => p.2.2.1) h.2.1
theorem ypre_i {u : XH} {c : XZ} (h : yxPre u c) : xg_P_inst u = 0 := congrArg (fun p : XP => p.2.2.2.1) h.2.1
theorem ypre_a {u : XH} {c : XZ} (h : yxPre u c) : xg_P_asGuest u = false := congrArg (fun p : XP => p.2.2.2.2.1) h.2.1
theorem ypre_f {u : XH} {c : XZ} (h : yxPre u c) : xg_P_interruptForVs u = false := congrArg (fun p : XP => p.2.2.2.2.2) h.2.1
theorem ypre_n {u : XH} {c : XZ} (h : yxPre u c) : xg_C_next u &&& 3 = 0 := by rw [h.2.2.2]; exact yadd4_3 h.1.1.2.1
theorem yput_P (u : XH) (n w : Int32) : xg_P (xf_C_put u n w) = xg_P u := by unfold xf_C_put; rw [yxlt_d]; by_cases h : n = 0 <;> simp only [if_pos, if_neg, h] <;> rfl
theorem yput_next (u : XH) (n w : Int32) : xg_C_next (xf_C_put u n w) = xg_C_next u := by unfold xf_C_put; rw [yxlt_d]; by_cases h : n = 0 <;> simp only [if_pos, if_neg, h] <;> rfl
theorem yput_pc (u : XH) (n w : Int32) : xg_C_pc (xf_C_put u n w) = xg_C_pc u := by unfold xf_C_put; rw [yxlt_d]; by_cases h : n = 0 <;> simp only [if_pos, if_neg, h] <;> rfl
theorem yput_cause (u : XH) (n w : Int32) : xg_P_cause (xf_C_put u n w) = xg_P_cause u := congrArg Prod.fst (yput_P u n w)
theorem yres_put {u : XH} {c : XZ} (h : yxPre u c) {d : Int32} (hd : vp_in d 32) (w : Int32) : yxRes (xf_Z_put (yxZof u c) d w) (xf_C_put u d w) := by
  rw [yzput h.1.1]
  refine ⟨c, rfl, ygput h.1 hd, Or.inl ⟨rfl, ?_, ?_, ?_⟩⟩
  · rw [yput_cause]; exact ypre_c h
  · rw [yput_next]; exact h.2.2.1
  · rw [yput_next]; exact ypre_n h
def ynotAd (k : Int32) : Prop := k = 2 ∨ k = 22 ∨ k = 8 ∨ k = 10
theorem ytells_no {u : XH} {p : XP} (h : ynotAd p.1) (m : Int32) : yxgva (xs_P u p) m = false := by
  unfold yxgva yxtells xf_P_tellsAddress
  rw [yxlt_d, yP_cause]
  rcases h with h | h | h | h <;> rw [h] <;> simp [show xus 11579643 2 &&& 1 = 0 by decide, show xus 11579643 22 &&& 1 = 0 by decide, show xus 11579643 8 &&& 1 = 0 by decide, show xus 11579643 10 &&& 1 = 0 by decide]
theorem yraise_pre {u : XH} {c : XZ} (h : yxPre u c) (k a : Int32) : xf_P_raise u k a = xs_P u (k, a, 0, 0, false, false) := by
  rw [yP_raise2, ypre_g h, ypre_i h, ypre_a h, ypre_f h]
theorem yres_no {u : XH} {c : XZ} (h : yxPre u c) {k : Int32} (hk : ynotAd k) (a : Int32) : yxRes (xf_Z_fails (yxZof u c) k a 0) (xf_P_raise u k a) := by
  rw [yz_fails, yraise_pre h]
  refine ⟨(xf_Z_fails c k a 0).2, (yz_P _ _ _).symm, ygu_P (yg_con h.1 (yfl_console _ _ _ _)) _, Or.inr ⟨rfl, ?_, ?_, ?_, ?_, ?_, ?_⟩⟩
  · rw [yP_cause]; show 0 ≤ k; rcases hk with e | e | e | e <;> rw [e] <;> decide
  · rw [yP_cause, yfl_cause]
  · rw [yP_tval, yfl_wrong]
  · rw [yP_guest, yfl_far]; show (0 / 4 : Int64).toInt32 = 0; decide
  · rw [yP_inst, yfl_ofEntry]; show (if xz false = 0 then (0 : Int32) else 8192) = 0; decide
  · rw [ytells_no hk, yfl_ofGuest]; decide
theorem yres_ad {u : XH} {c : XZ} (h : yxPre u c) {k : Int32} (hk : yisAd k) (a : Int32) : yxRes (xf_Z_fails (yxZof u c) k a (xz (yxmV (xg_C_mode u)))) (xf_P_raise u k a) := by
  rw [yz_fails, yraise_pre h]
  refine ⟨(xf_Z_fails c k a (xz (yxmV (xg_C_mode u)))).2, (yz_P _ _ _).symm, ygu_P (yg_con h.1 (yfl_console _ _ _ _)) _, Or.inr ⟨rfl, ybad_of hk ?_ ?_ ?_ ?_ ?_⟩⟩
  · rw [yfl_cause]
  · rw [yfl_wrong]
  · rw [yfl_far]; decide
  · rw [yfl_ofEntry]; decide
  · rw [yfl_ofGuest, yxb_xz, Bool.or_false]
theorem yres_ill {u : XH} {c : XZ} (h : yxPre u c) (w : Int32) (hw : xg_C_word u = w) : yxRes (xf_Z_illegal (yxZof u c) w) (xf_C_refuse u 2) := by
  unfold xf_Z_illegal xf_C_refuse
  rw [yxlt_d, yxlt_d, yprod_eta, hw]
  exact yres_no h (Or.inl rfl) w
theorem yv_ill (v : XZ) (w : Int32) : xv_Z_illegal v w := by
  unfold xv_Z_illegal XVc
  simp only [yxlt_d, show (0 : Int32) = xz false from rfl, yv_fails, and_self]
theorem yres_nt {u : XH} {c : XZ} (h : yxPre u c) (w : Int32) (hw : xg_C_word u = w) (k : Int32) (hk : k = if yxmV (xg_C_mode u) then 22 else 2) : yxRes (xf_Z_notThere (yxZof u c) w) (xf_C_refuse u k) := by
  unfold xf_Z_notThere xf_C_refuse
  simp only [yxlt_d, yz_isV, yzg_mode]
  rw [yxz_if, ← hk, hw]
  refine yres_no h ?_ w
  cases hv : yxmV (xg_C_mode u)
  · rw [hv, if_neg (by decide)] at hk; exact Or.inl hk
  · rw [hv, if_pos rfl] at hk; exact Or.inr (Or.inl hk)
theorem yv_nt (v : XZ) (w : Int32) : xv_Z_notThere v w := by
  unfold xv_Z_notThere XVc
  simp only [yxlt_d, show (0 : Int32) = xz false from rfl, yv_fails, and_self]
theorem yv_go (v : XZ) (a : Int32) : xv_Z_go v a := by
  unfold xv_Z_go XVc
  simp only [yxlt_d, yz_isV, yv_fails, and_self, ite_self]
theorem ynx_e (u : XH) (a : Int32) : xg_C_pc (xs_C_next u a) = xg_C_pc u := (Eq.refl _).trans (Eq.refl _)
/-- a jump: the place, then the way back -/
theorem yres_jump {u : XH} {c : XZ} (h : yxPre u c) (a : Int32) {d : Int32} (hd : vp_in d 32) :
    yxRes (if (xf_Z_go (yxZof u c) a).1 = 0 then 0 else 1, if (xf_Z_go (yxZof u c) a).1 = 0 then (xf_Z_go (yxZof u c) a).2 else (xf_Z_put (xf_Z_go (yxZof u c) a).2 d (xg_Z_pc (xf_Z_go (yxZof u c) a).2 + 4)).2) (xf_C_jump u a d) := by
  unfold xf_Z_go xf_C_jump
  simp only [yrem4, yxlt_d, yz_isV, yzg_mode]
  by_cases ha : a &&& 3 = 0
  · simp only [if_pos ha, show ¬ (1 : Int32) = 0 by decide, if_false]
    have hi2 : yxInv (xs_C_next u a) := yinv_C_next h.1.1
    rw [yzs_next, yzg_pc, ynx_e]
    have e : yxZof u (xs_Z_next c a) = yxZof (xs_C_next u a) (xs_Z_next c a) := rfl
    rw [e, yzput hi2]
    refine ⟨xs_Z_next c a, rfl, ygput (ygc_next (ygu_C_next h.1)) hd, Or.inl ⟨rfl, ?_, ?_, ?_⟩⟩
    · rw [yput_cause]; show xg_P_cause u = -1; exact ypre_c h
    · rw [yput_next]; rfl
    · rw [yput_next]; exact ha
  · simp only [if_neg ha]
    have := yres_ad h (k := 0) (Or.inl rfl) a
    rw [yz_fails] at this ⊢
    simp only [if_true]
    exact this
theorem yv_put_d (v : XZ) (x w : Int32) : xv_Z_put v (x &&& 31) w := yvput (yvp31 x)
theorem yres_pair {r : Int32 × XZ} {u : XH} (h : yxRes r u) : yxRes (r.1, r.2) u := h
/-- op 19 -/
theorem yres_small {u : XH} {c : XZ} (h : yxPre u c) (w : Int32) (hw : xg_C_word u = w) :
    yxRes (xf_Z_small (yxZof u c) w ((w >>> ((7 : Int32) &&& 31)) &&& 31) ((w >>> ((12 : Int32) &&& 31)) &&& 7) (xg_x u ((w >>> ((15 : Int32) &&& 31)) &&& 31).toNatClampNeg)) (xf_C_immediateOp u) := by
  have hd : vp_in ((w >>> ((7 : Int32) &&& 31)) &&& 31) 32 := yvp31 _
  unfold xf_Z_small xf_C_immediateOp xf_R_combine xf_D_immediate xf_D_g
  simp only [yxlt_d, hw, yfD_f, yfD_d, yfD_a, yfD_b, yand31, yltP]
  generalize (w >>> ((7 : Int32) &&& 31)) &&& 31 = d at *
  generalize xg_x u ((w >>> ((15 : Int32) &&& 31)) &&& 31).toNatClampNeg = a
  generalize hg : xus w 25 = g
  rcases yf8 w with hf | hf | hf | hf | hf | hf | hf | hf <;> rw [hf]
  · simp
    exact yres_put h hd _
  · by_cases h0 : g = 0
    · simp [h0]
      exact yres_put h hd _
    · simp [h0]
      exact yres_ill h w hw
  · simp
    exact yres_put h hd _
  · simp
    exact yres_put h hd _
  · simp
    exact yres_put h hd _
  · by_cases h0 : g = 0
    · simp [h0]
      exact yres_put h hd _
    · by_cases h1 : g = 32
      · simp [h1]
        exact yres_put h hd _
      · simp [h0, h1]
        exact yres_ill h w hw
  · simp
    exact yres_put h hd _
  · simp
    exact yres_put h hd _
theorem yv_small (v : XZ) (w x f a : Int32) : xv_Z_small v w (x &&& 31) f a := by
  unfold xv_Z_small XVc
  simp only [yxlt_d, yv_put_d, yv_ill, and_self, ite_self]
/-- op 51 -/
theorem yres_pairOp {u : XH} {c : XZ} (h : yxPre u c) (w : Int32) (hw : xg_C_word u = w) :
    yxRes (xf_Z_pair (yxZof u c) w ((w >>> ((7 : Int32) &&& 31)) &&& 31) ((w >>> ((12 : Int32) &&& 31)) &&& 7) (xg_x u ((w >>> ((15 : Int32) &&& 31)) &&& 31).toNatClampNeg) (xg_x u ((w >>> ((20 : Int32) &&& 31)) &&& 31).toNatClampNeg)) (xf_C_registerOp u) := by
  have hd : vp_in ((w >>> ((7 : Int32) &&& 31)) &&& 31) 32 := yvp31 _
  have hf8 : yf8p ((w >>> ((12 : Int32) &&& 31)) &&& 7) := yf8 w
  unfold xf_Z_pair xf_C_registerOp xf_D_g
  simp only [yxlt_d, hw, yfD_f, yfD_d, yfD_a, yfD_b, yprod_e hf8]
  generalize (w >>> ((7 : Int32) &&& 31)) &&& 31 = d at *
  generalize xg_x u ((w >>> ((15 : Int32) &&& 31)) &&& 31).toNatClampNeg = a
  generalize xg_x u ((w >>> ((20 : Int32) &&& 31)) &&& 31).toNatClampNeg = b
  generalize hg : xus w 25 = g
  by_cases g1 : g = 1
  · simp only [g1, if_true, show ¬ (1 : Int32) = 0 by decide, if_false]
    exact yres_put h hd _
  · by_cases g32 : g = 32
    · simp only [g32, if_true, show ¬ (32 : Int32) = 0 by decide, show ¬ (32 : Int32) = 1 by decide, if_false]
      by_cases f0 : (w >>> ((12 : Int32) &&& 31)) &&& 7 = 0
      · simp only [if_pos f0]; exact yres_put h hd _
      · by_cases f5 : (w >>> ((12 : Int32) &&& 31)) &&& 7 = 5
        · simp only [if_neg f0, if_pos f5]; exact yres_put h hd _
        · simp only [if_neg f0, if_neg f5]; exact yres_ill h w hw
    · by_cases g0 : g = 0
      · simp only [g0, if_true, show ¬ (0 : Int32) = 1 by decide, show ¬ (0 : Int32) = 32 by decide, if_false]
        unfold xf_R_combine
        simp only [yxlt_d, yltP]
        rcases hf8 with hf | hf | hf | hf | hf | hf | hf | hf <;> rw [hf] <;> simp <;> exact yres_put h hd _
      · simp only [if_neg g0, if_neg g1, if_neg g32]
        exact yres_ill h w hw
theorem yv_pair (v : XZ) (w x f a b : Int32) : xv_Z_pair v w (x &&& 31) f a b := by
  unfold xv_Z_pair XVc
  simp only [yxlt_d, yv_put_d, yv_ill, and_self, ite_self]
/-- op 99 -/
theorem yres_branch {u : XH} {c : XZ} (h : yxPre u c) (w : Int32) (hw : xg_C_word u = w) :
    yxRes (xf_Z_branch (yxZof u c) w ((w >>> ((12 : Int32) &&& 31)) &&& 7) (xg_x u ((w >>> ((15 : Int32) &&& 31)) &&& 31).toNatClampNeg) (xg_x u ((w >>> ((20 : Int32) &&& 31)) &&& 31).toNatClampNeg)) (xf_C_branchOp u) := by
  have hf8 : yf8p ((w >>> ((12 : Int32) &&& 31)) &&& 7) := yf8 w
  unfold xf_Z_branch xf_C_branchOp xf_R_isComparison
  simp only [yf_branch]
  simp only [yxlt_d, hw, yfD_f, yfD_a, yfD_b]
  generalize xg_x u ((w >>> ((15 : Int32) &&& 31)) &&& 31).toNatClampNeg = a
  generalize xg_x u ((w >>> ((20 : Int32) &&& 31)) &&& 31).toNatClampNeg = b
  generalize (w >>> ((12 : Int32) &&& 31)) &&& 7 = f at *
  by_cases f2 : f = 2
  · simp only [if_pos f2, if_true]; exact yres_ill h w hw
  · by_cases f3 : f = 3
    · simp only [if_neg f2, if_pos f3, if_true]; exact yres_ill h w hw
    · have hh := yholds_e hf8 a b f2 f3
      simp only [yxlt_d] at hh
      rw [if_neg f2, if_neg f3, hh]
      simp only [if_neg f2, if_neg f3, show ¬ (1 : Int32) = 0 by decide, if_false]
      by_cases hz : xf_R_holds f a b = 0
      · simp only [if_pos hz]
        exact ⟨c, rfl, h.1, Or.inl ⟨rfl, ypre_c h, h.2.2.1, ypre_n h⟩⟩
      · simp only [if_neg hz, ite_self]
        have hj := yres_jump h (xg_C_pc u + xf_D_branchOffset w) (d := 0) (yvp_of (n := 0) rfl (by decide) (by decide))
        rw [yzg_pc]
        by_cases hgo : (xf_Z_go (yxZof u c) (xg_C_pc u + xf_D_branchOffset w)).1 = 0
        · simp only [if_pos hgo] at hj ⊢; exact hj
        · simp only [if_neg hgo] at hj ⊢
          have e : (xf_Z_put (xf_Z_go (yxZof u c) (xg_C_pc u + xf_D_branchOffset w)).2 0 (xg_Z_pc (xf_Z_go (yxZof u c) (xg_C_pc u + xf_D_branchOffset w)).2 + 4)).2 = (xf_Z_go (yxZof u c) (xg_C_pc u + xf_D_branchOffset w)).2 := by
            unfold xf_Z_go at hgo ⊢
            simp only [yrem4, yxlt_d, yz_isV, yzg_mode, yz_fails] at hgo ⊢
            by_cases ha : (xg_C_pc u + xf_D_branchOffset w) &&& 3 = 0
            · simp only [if_pos ha]
              rw [yzs_next, yzput h.1.1]
              unfold xf_C_put
              rw [yxlt_d, if_pos rfl]
            · simp only [if_neg ha] at hgo
              exact absurd trivial hgo
          rw [e] at hj
          exact hj
theorem yv_branch (v : XZ) (w f a b : Int32) : xv_Z_branch v w f a b := by
  unfold xv_Z_branch XVc
  simp only [yxlt_d, yv_go, yv_ill, and_self, ite_self]
/-- what is left by 2 -/
theorem yrem2 (p : Int32) : (p - p / (2 : Int32) * (2 : Int32)) = 0 ↔ p &&& 1 = 0 := by
  have h4 : (p &&& 1).toBitVec.toNat = p.toBitVec.toNat % 2 := yand_tn p 1 1 (by decide)
  have h0 : (p &&& 1 = 0) ↔ p.toBitVec.toNat % 2 = 0 := by
    rw [← h4]
    constructor
    · intro h; rw [h]; rfl
    · intro h; apply Int32.toBitVec_inj.mp; apply BitVec.eq_of_toNat_eq; rw [h]; rfl
  have hp := p.toBitVec.isLt
  have hpi : p.toInt = if 2 * p.toBitVec.toNat < 4294967296 then (p.toBitVec.toNat : Int) else (p.toBitVec.toNat : Int) - 4294967296 := BitVec.toInt_eq_toNat_cond _
  have hb1 : -2147483648 ≤ p.toInt := Int32.le_toInt p
  have hb2 : p.toInt < 2147483648 := Int32.toInt_lt p
  have hd : (p / 2).toInt = p.toInt.tdiv 2 := by
    rw [Int32.toInt_div]
    have e4 : (2 : Int32).toInt = 2 := by decide
    rw [e4]
    have hq1 : -2147483648 ≤ p.toInt.tdiv 2 := by
      rcases Int.le_total 0 p.toInt with h | h
      · have := Int.tdiv_nonneg h (by decide : (0 : Int) ≤ 2); omega
      · have h5 : p.toInt.tdiv 2 = -((-p.toInt).tdiv 2) := by rw [Int.neg_tdiv]; omega
        rw [h5, Int.tdiv_eq_ediv_of_nonneg (by omega)]; omega
    have hq2 : p.toInt.tdiv 2 < 2147483648 := by
      rcases Int.le_total 0 p.toInt with h | h
      · rw [Int.tdiv_eq_ediv_of_nonneg h]; omega
      · have h5 : p.toInt.tdiv 2 = -((-p.toInt).tdiv 2) := by rw [Int.neg_tdiv]; omega
        rw [h5, Int.tdiv_eq_ediv_of_nonneg (by omega)]; omega
    exact Int.bmod_eq_of_le (by omega) (by omega)
  have hm : (p / 2 * 2).toInt = (p.toInt.tdiv 2) * 2 := by
    rw [Int32.toInt_mul, hd]
    have e4 : (2 : Int32).toInt = 2 := by decide
    rw [e4]
    have hs : -2147483648 ≤ (p.toInt.tdiv 2) * 2 ∧ (p.toInt.tdiv 2) * 2 < 2147483648 := by
      rcases Int.le_total 0 p.toInt with h | h
      · rw [Int.tdiv_eq_ediv_of_nonneg h]; omega
      · have h5 : p.toInt.tdiv 2 = -((-p.toInt).tdiv 2) := by rw [Int.neg_tdiv]; omega
        rw [h5, Int.tdiv_eq_ediv_of_nonneg (by omega)]; omega
    exact Int.bmod_eq_of_le (by omega) (by omega)
  have h1 : (p - p / 2 * 2 = 0) ↔ p.toInt = (p.toInt.tdiv 2) * 2 := by
    rw [← hm]
    constructor
    · intro h
      have h9 : p = p / 2 * 2 := by
        have h8 := Int32.sub_add_cancel p (p / 2 * 2)
        rw [h, Int32.zero_add] at h8
        exact h8.symm
      exact congrArg Int32.toInt h9
    · intro h
      have := Int32.toInt_inj.mp h
      rw [← this, Int32.sub_self]
  rw [h1, h0]
  rcases Int.le_total 0 p.toInt with h | h
  · rw [Int.tdiv_eq_ediv_of_nonneg h]
    rw [hpi]
    split <;> omega
  · have h5 : p.toInt.tdiv 2 = -((-p.toInt).tdiv 2) := by rw [Int.neg_tdiv]; omega
    rw [h5, Int.tdiv_eq_ediv_of_nonneg (by omega)]
    rw [hpi]
    split <;> omega
theorem yrem1 (p : Int32) : (p - p / (1 : Int32) * (1 : Int32)) = 0 := by simp
theorem yone_e {p : Int32} : p &&& ((1 : Int32) <<< ((0 : Int32) &&& 31) - 1) = 0 := by
  rw [show (1 : Int32) <<< ((0 : Int32) &&& 31) - 1 = 0 by decide]; simp
theorem yalign {w size : Int32} (h : (w = 0 ∧ size = 1) ∨ (w = 1 ∧ size = 2) ∨ (w = 2 ∧ size = 4)) (a : Int32) : (a &&& (((1 : Int32) <<< (w &&& 31)) - (1 : Int32))) = 0 ↔ (a - a / size * size) = 0 := by
  rcases h with ⟨h1, h2⟩ | ⟨h1, h2⟩ | ⟨h1, h2⟩ <;> subst h1 <;> subst h2
  · exact ⟨fun _ => yrem1 a, fun _ => yone_e⟩
  · rw [yrem2, show (1 : Int32) <<< ((1 : Int32) &&& 31) - 1 = 1 by decide]
  · rw [yrem4, show (1 : Int32) <<< ((2 : Int32) &&& 31) - 1 = 3 by decide]
theorem ysh_n {n : Nat} (h : n < 262144) : Int64.toInt32 (yll n - yll n / (4 : Int64) * (4 : Int64)) = (Int64.toInt32 (yll n)) &&& 3 := by
  have e : yll n / (4 : Int64) = yll (n / 4) := yll_div (b := 4) (by omega) (by decide) (by decide)
  have e2 : yll n - yll n / (4 : Int64) * (4 : Int64) = yll (n % 4) := by
    rw [e]
    have e3 : yll (n / 4) * (4 : Int64) = yll (n / 4 * 4) := yll_mul _ 4
    rw [e3]
    have e4 : yll n = yll (n % 4) + yll (n / 4 * 4) := by rw [yll_add]; congr 1; omega
    rw [e4, Int64.add_sub_cancel]
  rw [e2]
  apply ytn_ext
  have h1 := yll_i32 (n % 4)
  have h2 := yll_i32 n
  have h3 : ((Int64.toInt32 (yll n)) &&& 3).toBitVec.toNat = (Int64.toInt32 (yll n)).toBitVec.toNat % 4 := yand_tn _ 3 2 (by decide)
  rw [h3, h1, h2]; omega
theorem ybt_i8 (x : Int32) (i : Nat) (hi : i < 32) : ybt (Int8.toInt32 (Int32.toInt8 x)) i = if i < 8 then ybt x i else ybt x 7 := by
  unfold ybt
  rw [Int8.toBitVec_toInt32, Int32.toBitVec_toInt8, BitVec.signExtend_eq_setWidth_of_le _ (by decide : 8 ≤ 32), BitVec.getLsbD_signExtend]
  by_cases h : i < 8
  · simp [h, hi]
  · simp [h, hi, BitVec.msb_eq_getLsbD_last]
theorem ybt_i16 (x : Int32) (i : Nat) (hi : i < 32) : ybt (Int16.toInt32 (Int32.toInt16 x)) i = if i < 16 then ybt x i else ybt x 15 := by
  unfold ybt
  rw [Int16.toBitVec_toInt32, Int32.toBitVec_toInt16, BitVec.signExtend_eq_setWidth_of_le _ (by decide : 16 ≤ 32), BitVec.getLsbD_signExtend]
  by_cases h : i < 16
  · simp [h, hi]
  · simp [h, hi, BitVec.msb_eq_getLsbD_last]
theorem yb255 : ∀ i, i < 32 → ybt 255 i = decide (i < 8) := by decide +kernel
theorem yb65535 : ∀ i, i < 32 → ybt 65535 i = decide (i < 16) := by decide +kernel
theorem ysg8 (x : Int32) : xf_Z_signed (x &&& 255) (8 * 1) = Int8.toInt32 (Int32.toInt8 x) := by
  unfold xf_Z_signed
  apply ybt_ext; intro i hi
  rw [ybt_sar _ (((32 : Int32) - 8 * 1) &&& 31) 24 (by decide), ybt_i8 x i hi]
  by_cases h : i < 8
  · rw [if_pos h, if_pos (by omega), ybt_shl _ (((32 : Int32) - 8 * 1) &&& 31) 24 (by decide), ybt_and, show 24 + i - 24 = i by omega, yb255 i hi]
    simp [h, hi, show 24 + i < 32 by omega, show ¬ 32 ≤ i by omega, show ¬ 24 + i < 24 by omega]
  · rw [if_neg h, if_neg (by omega), ybt_shl _ (((32 : Int32) - 8 * 1) &&& 31) 24 (by decide), ybt_and, show 31 - 24 = 7 by omega, yb255 7 (by decide)]
    simp [hi]
theorem ysg16 (x : Int32) : xf_Z_signed (x &&& 65535) (8 * 2) = Int16.toInt32 (Int32.toInt16 x) := by
  unfold xf_Z_signed
  apply ybt_ext; intro i hi
  rw [ybt_sar _ (((32 : Int32) - 8 * 2) &&& 31) 16 (by decide), ybt_i16 x i hi]
  by_cases h : i < 16
  · rw [if_pos h, if_pos (by omega), ybt_shl _ (((32 : Int32) - 8 * 2) &&& 31) 16 (by decide), ybt_and, show 16 + i - 16 = i by omega, yb65535 i hi]
    simp [h, hi, show 16 + i < 32 by omega, show ¬ 32 ≤ i by omega, show ¬ 16 + i < 16 by omega]
  · rw [if_neg h, if_neg (by omega), ybt_shl _ (((32 : Int32) - 8 * 2) &&& 31) 16 (by decide), ybt_and, show 31 - 16 = 15 by omega, yb65535 15 (by decide)]
    simp [hi]
theorem ysg32 (x : Int32) : xf_Z_signed x (8 * 4) = x := by
  unfold xf_Z_signed
  apply ybt_ext; intro i hi
  rw [ybt_sar _ (((32 : Int32) - 8 * 4) &&& 31) 0 (by decide), if_pos (by omega), ybt_shl _ (((32 : Int32) - 8 * 4) &&& 31) 0 (by decide)]
  simp [hi]
theorem yun8 (x : Int32) : (Int8.toInt32 (Int32.toInt8 x)) &&& 255 = x &&& 255 := by
  apply ybt_ext; intro i hi
  rw [ybt_and, ybt_and, ybt_i8 x i hi, yb255 i hi]
  by_cases h : i < 8 <;> simp [h]
theorem yun16 (x : Int32) : (Int16.toInt32 (Int32.toInt16 x)) &&& 65535 = x &&& 65535 := by
  apply ybt_ext; intro i hi
  rw [ybt_and, ybt_and, ybt_i16 x i hi, yb65535 i hi]
  by_cases h : i < 16 <;> simp [h]
def yxPreG (u : XH) (c : XZ) : Prop := yxG u c ∧ xg_P_cause u = -1 ∧ xg_P_guest u = 0 ∧ xg_P_inst u = 0 ∧ xg_Z_next c = xg_C_next u ∧ xg_C_next u &&& 3 = 0
def ywsz (w size : Int32) : Prop := (w = 0 ∧ size = 1) ∨ (w = 1 ∧ size = 2) ∨ (w = 2 ∧ size = 4)
theorem yad_n (c : XZ) (a : Int32) : xg_Z_next (ycAd c a) = xg_Z_next c := (Eq.refl _).trans (Eq.refl _)
theorem yi32_n {n : Nat} (h : n < 262144) : 0 ≤ Int64.toInt32 (yll n) := by
  have e := yll_i32 n
  rw [Nat.mod_eq_of_lt (by omega)] at e
  rw [Int32.le_iff_toInt_le, ytoInt_tn (Int64.toInt32 (yll n)) (by rw [e]; omega), e]
  have : (0 : Int32).toInt = 0 := by decide
  omega
theorem yi32_nlt {n : Nat} (h : n < 262144) : ¬ Int64.toInt32 (yll n) < 0 := by
  have := yi32_n h
  rw [Int32.le_iff_toInt_le] at this
  rw [Int32.lt_iff_toInt_lt]; omega
/-- a load's value -/
theorem yld_val {u : XH} {c : XZ} {n : Nat} (hn : n < 262144) {w size : Int32} (hw : ywsz w size) (pl : Bool) :
    (if xz pl = 0 then xf_Z_signed (xf_Z_bytes (yxZof u c) (yll n) size) (8 * size) else xf_Z_bytes (yxZof u c) (yll n) size) = (if xz pl = 0 then (xf_M_read 64 (xg_M u).1 (Int64.toInt32 (yll n)) w).1 else (if w = 2 then (xf_M_read 64 (xg_M u).1 (Int64.toInt32 (yll n)) w).1 else ((xf_M_read 64 (xg_M u).1 (Int64.toInt32 (yll n)) w).1 &&& (if w = 0 then 255 else 65535)))) := by
  unfold xf_Z_bytes xf_M_read
  simp only [yxlt_d, yz_word u c hn, yt_rd u hn, ysh_n hn]
  generalize xus (yrdM u n) (8 * (Int64.toInt32 (yll n) &&& 3)) = x
  rcases hw with ⟨h1, h2⟩ | ⟨h1, h2⟩ | ⟨h1, h2⟩ <;> subst h1 <;> subst h2 <;> cases pl
  · simp [xz, ysg8 x]; exact ysg8 x
  · simp [xz, yun8]
  · simp [xz]; exact ysg16 x
  · simp [xz, yun16]
  · simp [xz]; exact ysg32 x
  · simp [xz]
theorem yrd_state (u : XH) {n : Nat} (hn : n < 262144) (w : Int32) : xs_M1 u (xf_M_read 64 (xg_M u).1 (Int64.toInt32 (yll n)) w).2 = u := by
  unfold xf_M_read
  simp only [yxlt_d, yt_rd u hn]
  by_cases h : w = 0
  · rw [if_pos h]; rfl
  · rw [if_neg h]; rfl
theorem yres_take {u : XH} {c : XZ} (h : yxPreG u c) {p : Nat} (hp : p < 4) (hp0 : ¬ p = 0) {m : Int32} (hm : ym4 m) (hk : xg_Z_kind c = ykOf p) (hx : xg_Z_executes c = decide (p = 2)) (hus : xg_Z_user c = !yxmS m) (hvt : xg_Z_virtual c = yxmV m) (has : yxmV m = (yxmV (xg_C_mode u) || xg_P_asGuest u)) {w size : Int32} (hw : ywsz w size) (pl : Bool) (a d : Int32) (hd : xf_D_d (xg_C_word u) = d) (hd2 : vp_in d 32) :
    yxRes (xf_Z_take (yxZof u c) d size (xz pl) a) (xf_C_load u a w (xz pl) p m) := by
  unfold xf_Z_take xf_C_load
  rw [yxlt_d (xf_Z_lead (yxZof u c) a size), yxlt_d (xf_T_translate u a w p m)]
  rcases ytransl h.1.1 c a w size hp hm hk hx hus hvt has h.2.2.1 h.2.2.2.1 (fun hh => absurd hh hp0) (fun _ => yalign hw a) with ⟨n, hn, hn4, e1, e2⟩ | ⟨k, P, c', e1, hk0, e2, hb, hc⟩
  · rw [e1, e2, if_pos (yi32_n hn), if_pos (yll_ge0 (by omega))]
    simp only [yxlt_d]
    rw [yrd_state u hn, hd, yld_val hn hw pl, yzput h.1.1]
    refine ⟨ycAd c a, rfl, ygput (yg_con h.1 (yad_c c a)) hd2, Or.inl ⟨rfl, ?_, ?_, ?_⟩⟩
    · rw [yput_cause]; exact h.2.1
    · rw [yput_next, yad_n]; exact h.2.2.2.2.1
    · rw [yput_next]; exact h.2.2.2.2.2
  · rw [e1, e2, if_neg hk0, if_neg ym1_lt0]
    exact ⟨c', rfl, ygu_P (yg_con h.1 hc) P, Or.inr ⟨rfl, hb⟩⟩
theorem yv_bytes (v : XZ) {n : Nat} (hn : n < 262144) (s : Int32) : xv_Z_bytes v (yll n) s := ⟨⟨yv_word v hn, trivial⟩, trivial⟩
theorem yv_take {u : XH} {c : XZ} (h : yxPreG u c) {p : Nat} (hp : p < 4) (hp0 : ¬ p = 0) {m : Int32} (hm : ym4 m) (hk : xg_Z_kind c = ykOf p) (hx : xg_Z_executes c = decide (p = 2)) (hus : xg_Z_user c = !yxmS m) (hvt : xg_Z_virtual c = yxmV m) (has : yxmV m = (yxmV (xg_C_mode u) || xg_P_asGuest u)) {w size : Int32} (hw : ywsz w size) (pl a d : Int32) (hd2 : vp_in d 32) : xv_Z_take (yxZof u c) d size pl a := by
  have hs0 : ¬ size = 0 := by rcases hw with ⟨h1, h2⟩ | ⟨h1, h2⟩ | ⟨h1, h2⟩ <;> subst h2 <;> decide
  have hl := yv_lead h.1.1 c a size hp hk hx hus hs0
  have ht := ytransl h.1.1 c a w size hp hm hk hx hus hvt has h.2.2.1 h.2.2.2.1 (fun hh => absurd hh hp0) (fun _ => yalign hw a)
  unfold xv_Z_take
  refine ⟨⟨hl, ?_⟩, trivial⟩
  have hq : (xf_Z_lead (yxZof u c) a size).1 = -1 ∨ ∃ n, n < 262144 ∧ (xf_Z_lead (yxZof u c) a size).1 = yll n := by
    rcases ht with ⟨n, hn, hn4, e1, e2⟩ | ⟨k, P, c', e1, hk0, e2, hb, hc⟩
    · exact Or.inr ⟨n, hn, by rw [e2]⟩
    · exact Or.inl (by rw [e2])
  generalize xf_Z_lead (yxZof u c) a size = q at hq ⊢
  rw [yxlt_d]
  rcases hq with h1 | ⟨n, hn, h1⟩
  · rw [h1, if_neg ym1_lt0]; trivial
  · rw [h1, if_pos (yll_ge0 (by omega))]
    exact ⟨yv_bytes _ hn _, yvput hd2, trivial⟩
/-- a store's word -/
theorem yzputB {u : XH} {c : XZ} {n : Nat} (hn : n < 262144) {w size : Int32} (hw : ywsz w size) (hal : w = 2 → n % 4 = 0) (x : Int32) : xf_Z_putBytes (yxZof u c) (yll n) size x = yxZof (xs_M1 u (xf_M_write 64 (xg_M u).1 (Int64.toInt32 (yll n)) w x)) c := by
  have hi : (Int64.toInt32 (yll n / (4 : Int64))).toBitVec.toNat = n / 4 := yw_idx hn
  have ha := yll_i32 n
  rw [Nat.mod_eq_of_lt (by omega)] at ha
  unfold xf_Z_putBytes xf_M_write
  simp only [yxlt_d, ysh_n hn]
  have hm : xg_Z_memory (yxZof u c) (Int64.toInt32 (yll n / (4 : Int64))).toNatClampNeg = yrdM u n := by
    rw [yclamp_tn _ (by rw [hi]; omega), hi]; exact yzmem u c n
  rw [hm, yzwrc u c ha hn hi, yt_rd u hn]
  rcases hw with ⟨h1, h2⟩ | ⟨h1, h2⟩ | ⟨h1, h2⟩ <;> subst h1 <;> subst h2
  · simp
  · simp
  · have h0 : Int64.toInt32 (yll n) &&& 3 = 0 := by
      rw [yand3, ha]; exact hal rfl
    rw [if_pos rfl, if_pos rfl, h0]
    have e : (yrdM u n &&& ((-1 : Int32) <<< ((8 * 0 : Int32) &&& 31) ^^^ -1)) ||| (x <<< ((8 * 0 : Int32) &&& 31) &&& (-1 : Int32) <<< ((8 * 0 : Int32) &&& 31)) = x := by
      rw [show (-1 : Int32) <<< ((8 * 0 : Int32) &&& 31) = -1 by decide, show ((8 * 0 : Int32) &&& 31) = 0 by decide]
      apply ybt_ext; intro i hi
      have em : ybt (-1) i = true := by
        have : ∀ i, i < 32 → ybt (-1) i = true := by decide +kernel
        exact this i hi
      simp only [ybt_or, ybt_and, ybt_xor, em, ybt_shl _ (0 : Int32) 0 (by decide)]
      simp [hi]
    rw [e]
theorem ygwrite {u : XH} {c : XZ} (h : yxG u c) {n : Nat} (hn : n < 262144) (w x : Int32) : yxG (xs_M1 u (xf_M_write 64 (xg_M u).1 (Int64.toInt32 (yll n)) w x)) c := by
  have ha := yll_i32 n
  rw [Nat.mod_eq_of_lt (by omega)] at ha
  unfold xf_M_write
  simp only [yxlt_d, yt_rd u hn]
  by_cases h2 : w = 2
  · rw [if_pos h2]; exact ygu_wr h ha hn _
  · rw [if_neg h2]; exact ygu_wr h ha hn _
theorem yrem2_al {a w : Int32} (h : w = 2) (h1 : (a &&& (((1 : Int32) <<< (w &&& 31)) - (1 : Int32))) = 0) : ynn a % 4 = 0 := by
  subst h
  rw [show (1 : Int32) <<< ((2 : Int32) &&& 31) - 1 = 3 by decide] at h1
  exact (yand3 a).mp h1
theorem yres_give {u : XH} {c : XZ} (h : yxPreG u c) {m : Int32} (hm : ym4 m) (hk : xg_Z_kind c = 2) (hx : xg_Z_executes c = false) (hus : xg_Z_user c = !yxmS m) (hvt : xg_Z_virtual c = yxmV m) (has : yxmV m = (yxmV (xg_C_mode u) || xg_P_asGuest u)) {w size : Int32} (hw : ywsz w size) (a : Int32) :
    yxRes (xf_Z_give (yxZof u c) size a (xg_x u (xf_D_b (xg_C_word u)).toNatClampNeg)) (xf_C_store u a w m) := by
  unfold xf_Z_give xf_C_store
  rw [yxlt_d (xf_Z_lead (yxZof u c) a size), yxlt_d (xf_T_translate u a w 3 m)]
  by_cases hal : (a &&& (((1 : Int32) <<< (w &&& 31)) - (1 : Int32))) = 0
  · rcases ytransl h.1.1 c a w size (p := 3) (by decide) hm hk hx hus hvt has h.2.2.1 h.2.2.2.1 (fun hh => absurd hh (by decide)) (fun _ => yalign hw a) with ⟨n, hn, hn4, e1, e2⟩ | ⟨k, P, c', e1, hk0, e2, hb, hc⟩
    · rw [e1, e2, if_neg (yi32_nlt hn), if_pos (yll_ge0 (by omega))]
      simp only [yxlt_d]
      rw [yzputB hn hw (fun h2 => by rw [hn4]; exact yrem2_al h2 hal)]
      refine ⟨ycAd c a, rfl, ygwrite (yg_con h.1 (yad_c c a)) hn _ _, Or.inl ⟨rfl, h.2.1, ?_, h.2.2.2.2.2⟩⟩
      rw [yad_n]; exact h.2.2.2.2.1
    · have hk1 : k < 0 := by rw [Int32.le_iff_toInt_le] at hk0; rw [Int32.lt_iff_toInt_lt]; omega
      rw [e1, e2, if_pos hk1, if_neg ym1_lt0]
      exact ⟨c', rfl, ygu_P (yg_con h.1 hc) P, Or.inr ⟨rfl, hb⟩⟩
  · rcases ytransl h.1.1 c a w size (p := 3) (by decide) hm hk hx hus hvt has h.2.2.1 h.2.2.2.1 (fun hh => absurd hh (by decide)) (fun _ => yalign hw a) with ⟨n, hn, hn4, e1, e2⟩ | ⟨k, P, c', e1, hk0, e2, hb, hc⟩
    · exfalso
      unfold xf_T_translate at e1
      rw [if_neg hal, yxlt_d] at e1
      have := congrArg Prod.fst e1
      exact absurd (show (-1 : Int32) = Int64.toInt32 (yll n) from this) (fun hh => absurd (yi32_n hn) (by rw [← hh]; decide))
    · have hk1 : k < 0 := by rw [Int32.le_iff_toInt_le] at hk0; rw [Int32.lt_iff_toInt_lt]; omega
      rw [e1, e2, if_pos hk1, if_neg ym1_lt0]
      exact ⟨c', rfl, ygu_P (yg_con h.1 hc) P, Or.inr ⟨rfl, hb⟩⟩
theorem yv_give {u : XH} {c : XZ} (h : yxPreG u c) {m : Int32} (hm : ym4 m) (hk : xg_Z_kind c = 2) (hx : xg_Z_executes c = false) (hus : xg_Z_user c = !yxmS m) (hvt : xg_Z_virtual c = yxmV m) (has : yxmV m = (yxmV (xg_C_mode u) || xg_P_asGuest u)) {w size : Int32} (hw : ywsz w size) (a x : Int32) : xv_Z_give (yxZof u c) size a x := by
  have hs0 : ¬ size = 0 := by rcases hw with ⟨h1, h2⟩ | ⟨h1, h2⟩ | ⟨h1, h2⟩ <;> subst h2 <;> decide
  have hl := yv_lead h.1.1 c a size (p := 3) (by decide) hk hx hus hs0
  have ht := ytransl h.1.1 c a w size (p := 3) (by decide) hm hk hx hus hvt has h.2.2.1 h.2.2.2.1 (fun hh => absurd hh (by decide)) (fun _ => yalign hw a)
  unfold xv_Z_give
  refine ⟨⟨hl, ?_⟩, trivial⟩
  have hq : (xf_Z_lead (yxZof u c) a size).1 = -1 ∨ ∃ n, n < 262144 ∧ (xf_Z_lead (yxZof u c) a size).1 = yll n := by
    rcases ht with ⟨n, hn, hn4, e1, e2⟩ | ⟨k, P, c', e1, hk0, e2, hb, hc⟩
    · exact Or.inr ⟨n, hn, by rw [e2]⟩
    · exact Or.inl (by rw [e2])
  generalize xf_Z_lead (yxZof u c) a size = q at hq ⊢
  rw [yxlt_d]
  rcases hq with h1 | ⟨n, hn, h1⟩
  · rw [h1, if_neg ym1_lt0]; trivial
  · rw [h1, if_pos (yll_ge0 (by omega))]
    exact ⟨⟨⟨yvp_of (yw_idx hn) (by omega) (by omega), yvp_of (yw_idx hn) (by omega) (by omega), trivial⟩, trivial⟩, trivial⟩
