theorem yg6 (g : Int32) : (g = 48 ∨ g = 49 ∨ g = 50 ∨ g = 51 ∨ g = 52 ∨ g = 53) ∨ (xf_Z_isIn g 48 52 = 0 ∧ xf_Z_isIn g 49 53 = 0 ∧ ¬ g = 48 ∧ ¬ g = 49 ∧ ¬ g = 50 ∧ ¬ g = 51 ∧ ¬ g = 52 ∧ ¬ g = 53) := by
  by_cases h : (g = 48 ∨ g = 49 ∨ g = 50 ∨ g = 51 ∨ g = 52 ∨ g = 53)
  · exact Or.inl h
  · right
    have key : g < 48 ∨ 53 < g := by
      rw [Int32.lt_iff_toInt_lt, Int32.lt_iff_toInt_lt]
      have e1 : (48 : Int32).toInt = 48 := by decide
      have e2 : (53 : Int32).toInt = 53 := by decide
      rcases Int.lt_or_le g.toInt 48 with h1 | h1
      · exact Or.inl (by omega)
      · rcases Int.lt_or_le 53 g.toInt with h2 | h2
        · exact Or.inr (by omega)
        · exfalso
          apply h
          have hv : g.toInt = 48 ∨ g.toInt = 49 ∨ g.toInt = 50 ∨ g.toInt = 51 ∨ g.toInt = 52 ∨ g.toInt = 53 := by omega
          rcases hv with e | e | e | e | e | e
          · exact Or.inl (Int32.toInt_inj.mp (by rw [e]; decide))
          · exact Or.inr (Or.inl (Int32.toInt_inj.mp (by rw [e]; decide)))
          · exact Or.inr (Or.inr (Or.inl (Int32.toInt_inj.mp (by rw [e]; decide))))
          · exact Or.inr (Or.inr (Or.inr (Or.inl (Int32.toInt_inj.mp (by rw [e]; decide)))))
          · exact Or.inr (Or.inr (Or.inr (Or.inr (Or.inl (Int32.toInt_inj.mp (by rw [e]; decide))))))
          · exact Or.inr (Or.inr (Or.inr (Or.inr (Or.inr (Int32.toInt_inj.mp (by rw [e]; decide))))))
    refine ⟨(yisIn0 _ _ _).mpr ?_, (yisIn0 _ _ _).mpr ?_, fun e => h (Or.inl e), fun e => h (Or.inr (Or.inl e)), fun e => h (Or.inr (Or.inr (Or.inl e))), fun e => h (Or.inr (Or.inr (Or.inr (Or.inl e)))), fun e => h (Or.inr (Or.inr (Or.inr (Or.inr (Or.inl e))))), fun e => h (Or.inr (Or.inr (Or.inr (Or.inr (Or.inr e)))))⟩
    · rcases key with k | k
      · exact Or.inl k
      · exact Or.inr (by rw [Int32.lt_iff_toInt_lt] at k ⊢; have e1 : (52 : Int32).toInt = 52 := by decide
                         have e2 : (53 : Int32).toInt = 53 := by decide
                         omega)
    · rcases key with k | k
      · exact Or.inl (by rw [Int32.lt_iff_toInt_lt] at k ⊢; have e1 : (48 : Int32).toInt = 48 := by decide
                         have e2 : (49 : Int32).toInt = 49 := by decide
                         omega)
      · exact Or.inr k
theorem yasg_w (u : XH) (b : Bool) : xg_C_word (xs_P_asGuest u b) = xg_C_word u := (Eq.refl _).trans (Eq.refl _)
theorem yasg_x (u : XH) (b : Bool) : xg_x (xs_P_asGuest u b) = xg_x u := (Eq.refl _).trans (Eq.refl _)
theorem yasg_h (u : XH) (b : Bool) : xg_K_hstatus (xs_P_asGuest u b) = xg_K_hstatus u := (Eq.refl _).trans (Eq.refl _)
def ygM (u : XH) : Int32 := if ybt (xg_K_hstatus u) 8 then 3 else 2
noncomputable def ygG (u : XH) (g b : Int32) : XH :=
  if (g &&& 1) = 0 then xf_C_load (xs_P_asGuest u true) (xg_x u (xf_D_a (xg_C_word u)).toNatClampNeg) ((g - 48) >>> ((1 : Int32) &&& 31)) (xz (!decide (b = 0))) (if b = 3 then 2 else 1) (ygM u)
  else xf_C_store (xs_P_asGuest u true) (xg_x u (xf_D_a (xg_C_word u)).toNatClampNeg) ((g - 48) >>> ((1 : Int32) &&& 31)) (ygM u)
theorem yguest_e (u : XH) : xf_C_guestOp u = (if xf_C_isGuestForm (xf_D_g (xg_C_word u)) (xf_D_b (xg_C_word u)) (xf_D_d (xg_C_word u)) = 0 then xf_C_refuse u 2 else if xg_C_mode u = 0 ∧ ybt (xg_K_hstatus u) 9 = false then xf_C_refuse u 2 else if yxmV (xg_C_mode u) = true then xf_C_refuse u 22 else ygG u (xf_D_g (xg_C_word u)) (xf_D_b (xg_C_word u))) := by
  have core : ∀ (g b : Int32), (if ybt (xg_K_hstatus u) 8 = false then (if (g &&& 1) = 0 then (if b = 0 then (if b = 3 then xf_C_load (xs_P_asGuest u true) (xg_x u (xf_D_a (xg_C_word u)).toNatClampNeg) ((g - 48) >>> ((1 : Int32) &&& 31)) 0 2 2 else xf_C_load (xs_P_asGuest u true) (xg_x u (xf_D_a (xg_C_word u)).toNatClampNeg) ((g - 48) >>> ((1 : Int32) &&& 31)) 0 1 2) else (if b = 3 then xf_C_load (xs_P_asGuest u true) (xg_x u (xf_D_a (xg_C_word u)).toNatClampNeg) ((g - 48) >>> ((1 : Int32) &&& 31)) 1 2 2 else xf_C_load (xs_P_asGuest u true) (xg_x u (xf_D_a (xg_C_word u)).toNatClampNeg) ((g - 48) >>> ((1 : Int32) &&& 31)) 1 1 2)) else xf_C_store (xs_P_asGuest u true) (xg_x u (xf_D_a (xg_C_word u)).toNatClampNeg) ((g - 48) >>> ((1 : Int32) &&& 31)) 2) else (if (g &&& 1) = 0 then (if b = 0 then (if b = 3 then xf_C_load (xs_P_asGuest u true) (xg_x u (xf_D_a (xg_C_word u)).toNatClampNeg) ((g - 48) >>> ((1 : Int32) &&& 31)) 0 2 3 else xf_C_load (xs_P_asGuest u true) (xg_x u (xf_D_a (xg_C_word u)).toNatClampNeg) ((g - 48) >>> ((1 : Int32) &&& 31)) 0 1 3) else (if b = 3 then xf_C_load (xs_P_asGuest u true) (xg_x u (xf_D_a (xg_C_word u)).toNatClampNeg) ((g - 48) >>> ((1 : Int32) &&& 31)) 1 2 3 else xf_C_load (xs_P_asGuest u true) (xg_x u (xf_D_a (xg_C_word u)).toNatClampNeg) ((g - 48) >>> ((1 : Int32) &&& 31)) 1 1 3)) else xf_C_store (xs_P_asGuest u true) (xg_x u (xf_D_a (xg_C_word u)).toNatClampNeg) ((g - 48) >>> ((1 : Int32) &&& 31)) 3)) = ygG u g b := by
    intro g b
    unfold ygG ygM
    cases ybt (xg_K_hstatus u) 8 <;> by_cases h1 : g &&& 1 = 0 <;> by_cases h2 : b = 0 <;> by_cases h3 : b = 3 <;> simp [h1, h2, h3, xz]
  unfold xf_C_guestOp
  simp only [yxlt_d, yasg_w, yasg_x, yset_e u 512 9 ⟨by decide, by decide⟩, yset_e (xs_P_asGuest u true) 256 8 ⟨by decide, by decide⟩, yasg_h, yh_isV, yxz_0, core]
  by_cases hf : xf_C_isGuestForm (xf_D_g (xg_C_word u)) (xf_D_b (xg_C_word u)) (xf_D_d (xg_C_word u)) = 0
  · rw [if_pos hf, if_pos hf]
  · rw [if_neg hf, if_neg hf]
    by_cases hm : xg_C_mode u = 0
    · rw [if_pos hm]
      have hv : yxmV (xg_C_mode u) = false := by rw [hm]; decide
      cases hb : ybt (xg_K_hstatus u) 9
      · rw [if_pos rfl, if_pos ⟨hm, rfl⟩]
      · rw [hv, if_neg (show ¬ true = false by decide), if_pos rfl, if_neg (fun hh : xg_C_mode u = 0 ∧ true = false => Bool.noConfusion hh.2), if_neg (show ¬ false = true by decide)]
    · rw [if_neg hm, if_neg (fun hh : xg_C_mode u = 0 ∧ ybt (xg_K_hstatus u) 9 = false => hm hh.1)]
      cases hv : yxmV (xg_C_mode u)
      · rw [if_pos rfl, if_neg (by decide)]
      · rw [if_neg (by decide), if_pos rfl]
/-- the reference: what it does where the form is good -/
noncomputable def yzG (v : XZ) (w d a b L : Int32) : Int32 × XZ :=
  xlt (xf_Z_asMode v (if L = 0 then 2 else 1) 1 (if xf_Z_bit v 1536 8 = 0 then 1 else 0) (if L = 0 then 0 else (if ((w >>> ((20 : Int32) &&& 31)) &&& (31 : Int32)) = 3 then 1 else 0))) fun q =>
  if L = 0 then xf_Z_give q ((1 : Int32) <<< ((((xus w (25 : Int32)) - (48 : Int32)) / (2 : Int32)) &&& 31)) a b else xf_Z_take q d ((1 : Int32) <<< ((((xus w (25 : Int32)) - (48 : Int32)) / (2 : Int32)) &&& 31)) (if ((w >>> ((20 : Int32) &&& 31)) &&& (31 : Int32)) ≤ 0 then 0 else 1) a
noncomputable def yzL (g h : Int32) : Int32 := if xf_Z_isIn g 48 52 = 0 then 0 else (if (g - g / (2 : Int32) * (2 : Int32)) = 0 then (if h = 0 then 1 else (if h = 1 then (if ((1 : Int32) <<< (((g - (48 : Int32)) / (2 : Int32)) &&& 31)) < 4 then 1 else (if h = 3 then (if ((1 : Int32) <<< (((g - (48 : Int32)) / (2 : Int32)) &&& 31)) ≤ 1 then 0 else 1) else 0)) else (if h = 3 then (if ((1 : Int32) <<< (((g - (48 : Int32)) / (2 : Int32)) &&& 31)) ≤ 1 then 0 else 1) else 0))) else 0)
noncomputable def yzS (g d : Int32) : Int32 := if xf_Z_isIn g 49 53 = 0 then 0 else (if (g - g / (2 : Int32) * (2 : Int32)) = 1 then (if d = 0 then 1 else 0) else 0)
theorem yaiv_e (v : XZ) (w d a b : Int32) : xf_Z_asIfVirtual v w d a b = (if yzL (xus w 25) ((w >>> ((20 : Int32) &&& 31)) &&& (31 : Int32)) = 0 ∧ yzS (xus w 25) d = 0 then xf_Z_illegal v w else if xf_Z_isVirtual v = 0 then (if xg_Z_mode v = 0 ∧ xf_Z_bit v 1536 9 = 0 then xf_Z_notThere v w else yzG v w d a b (yzL (xus w 25) ((w >>> ((20 : Int32) &&& 31)) &&& (31 : Int32)))) else xf_Z_notThere v w) := by
  unfold xf_Z_asIfVirtual yzG
  simp only [yxlt_d]
  rw [show (if xf_Z_isIn (xus w 25) 48 52 = 0 then (0 : Int32) else (if (xus w 25 - xus w 25 / (2 : Int32) * (2 : Int32)) = 0 then (if (w >>> ((20 : Int32) &&& 31)) &&& (31 : Int32) = 0 then 1 else (if (w >>> ((20 : Int32) &&& 31)) &&& (31 : Int32) = 1 then (if ((1 : Int32) <<< (((xus w 25 - (48 : Int32)) / (2 : Int32)) &&& 31)) < 4 then 1 else (if (w >>> ((20 : Int32) &&& 31)) &&& (31 : Int32) = 3 then (if ((1 : Int32) <<< (((xus w 25 - (48 : Int32)) / (2 : Int32)) &&& 31)) ≤ 1 then 0 else 1) else 0)) else (if (w >>> ((20 : Int32) &&& 31)) &&& (31 : Int32) = 3 then (if ((1 : Int32) <<< (((xus w 25 - (48 : Int32)) / (2 : Int32)) &&& 31)) ≤ 1 then 0 else 1) else 0))) else 0)) = yzL (xus w 25) ((w >>> ((20 : Int32) &&& 31)) &&& (31 : Int32)) from rfl]
  rw [show (if xf_Z_isIn (xus w 25) 49 53 = 0 then (0 : Int32) else (if (xus w 25 - xus w 25 / (2 : Int32) * (2 : Int32)) = 1 then (if d = 0 then 1 else 0) else 0)) = yzS (xus w 25) d from rfl]
  generalize yzL (xus w 25) ((w >>> ((20 : Int32) &&& 31)) &&& (31 : Int32)) = L
  generalize yzS (xus w 25) d = S
  by_cases hL : L = 0
  · by_cases hS : S = 0
    · simp only [if_pos hL, if_pos hS, if_pos (And.intro hL hS)]
    · rw [if_pos hL, if_neg hS, if_neg (fun hh : L = 0 ∧ S = 0 => hS hh.2)]
      by_cases hv : xf_Z_isVirtual v = 0
      · rw [if_pos hv, if_pos hv]
        by_cases hm : xg_Z_mode v = 0
        · rw [if_pos hm]
          by_cases hb : xf_Z_bit v 1536 9 = 0
          · rw [if_pos hb, if_pos ⟨hm, hb⟩]
          · rw [if_neg hb, if_neg (fun hh : xg_Z_mode v = 0 ∧ xf_Z_bit v 1536 9 = 0 => hb hh.2)]
            simp only [if_pos hL]
        · rw [if_neg hm, if_neg (fun hh : xg_Z_mode v = 0 ∧ xf_Z_bit v 1536 9 = 0 => hm hh.1)]
          simp only [if_pos hL]
      · rw [if_neg hv, if_neg hv]
  · rw [if_neg hL, if_neg (fun hh : L = 0 ∧ S = 0 => hL hh.1)]
    by_cases hv : xf_Z_isVirtual v = 0
    · rw [if_pos hv, if_pos hv]
      by_cases hm : xg_Z_mode v = 0
      · rw [if_pos hm]
        by_cases hb : xf_Z_bit v 1536 9 = 0
        · rw [if_pos hb, if_pos ⟨hm, hb⟩]
        · rw [if_neg hb, if_neg (fun hh : xg_Z_mode v = 0 ∧ xf_Z_bit v 1536 9 = 0 => hb hh.2)]
          simp only [if_neg hL]
      · rw [if_neg hm, if_neg (fun hh : xg_Z_mode v = 0 ∧ xf_Z_bit v 1536 9 = 0 => hm hh.1)]
        simp only [if_neg hL]
    · rw [if_neg hv, if_neg hv]
theorem yform_e (g h d : Int32) : (xf_C_isGuestForm g h d = 0 ↔ (yzL g h = 0 ∧ yzS g d = 0)) ∧ (¬ yzL g h = 0 → (g &&& 1 = 0 ∧ ywsz ((g - 48) >>> ((1 : Int32) &&& 31)) ((1 : Int32) <<< (((g - (48 : Int32)) / (2 : Int32)) &&& 31)))) ∧ (yzL g h = 0 → ¬ yzS g d = 0 → (¬ g &&& 1 = 0 ∧ ywsz ((g - 48) >>> ((1 : Int32) &&& 31)) ((1 : Int32) <<< (((g - (48 : Int32)) / (2 : Int32)) &&& 31)))) := by
  rcases yg6 g with hg | ⟨i1, i2, n1, n2, n3, n4, n5, n6⟩
  · rcases hg with e | e | e | e | e | e <;> subst e
    · have a1 : xf_Z_isIn 48 48 52 = 1 := by simp [xf_Z_isIn, yxlt_d]
      have a2 : xf_Z_isIn 48 49 53 = 0 := by simp [xf_Z_isIn, yxlt_d]
      have a3 : (48 : Int32) - 48 / 2 * 2 = 0 := by decide
      have a4 : (1 : Int32) <<< (((48 - 48 : Int32) / 2) &&& 31) = 1 := by decide
      have a5 : ywsz ((48 - 48) >>> ((1 : Int32) &&& 31)) ((1 : Int32) <<< (((48 - (48 : Int32)) / (2 : Int32)) &&& 31)) := Or.inl ⟨by decide, by decide⟩
      have a6 : (48 : Int32) &&& 1 = 0 := by decide
      refine ⟨?_, fun hh => ⟨?_, a5⟩, fun h1 hh => ⟨?_, a5⟩⟩
      · unfold xf_C_isGuestForm yzL yzS
        simp only [yxlt_d, a1, a2, a3, a4]
        by_cases h0 : h = 0 <;> by_cases h1 : h = 1 <;> by_cases h3 : h = 3 <;> by_cases hd : d = 0 <;> simp [h0, h1, h3, hd]
      · exact a6
      · exfalso; apply hh; unfold yzS; simp [a2, a3]
    · have a1 : xf_Z_isIn 49 48 52 = 1 := by simp [xf_Z_isIn, yxlt_d]
      have a2 : xf_Z_isIn 49 49 53 = 1 := by simp [xf_Z_isIn, yxlt_d]
      have a3 : (49 : Int32) - 49 / 2 * 2 = 1 := by decide
      have a4 : (1 : Int32) <<< (((49 - 48 : Int32) / 2) &&& 31) = 1 := by decide
      have a5 : ywsz ((49 - 48) >>> ((1 : Int32) &&& 31)) ((1 : Int32) <<< (((49 - (48 : Int32)) / (2 : Int32)) &&& 31)) := Or.inl ⟨by decide, by decide⟩
      have a6 : (49 : Int32) &&& 1 = 1 := by decide
      refine ⟨?_, fun hh => ⟨?_, a5⟩, fun h1 hh => ⟨?_, a5⟩⟩
      · unfold xf_C_isGuestForm yzL yzS
        simp only [yxlt_d, a1, a2, a3, a4]
        by_cases h0 : h = 0 <;> by_cases h1 : h = 1 <;> by_cases h3 : h = 3 <;> by_cases hd : d = 0 <;> simp [h0, h1, h3, hd]
      · exfalso; apply hh; unfold yzL; simp [a1, a3]
      · rw [a6]; decide
    · have a1 : xf_Z_isIn 50 48 52 = 1 := by simp [xf_Z_isIn, yxlt_d]
      have a2 : xf_Z_isIn 50 49 53 = 1 := by simp [xf_Z_isIn, yxlt_d]
      have a3 : (50 : Int32) - 50 / 2 * 2 = 0 := by decide
      have a4 : (1 : Int32) <<< (((50 - 48 : Int32) / 2) &&& 31) = 2 := by decide
      have a5 : ywsz ((50 - 48) >>> ((1 : Int32) &&& 31)) ((1 : Int32) <<< (((50 - (48 : Int32)) / (2 : Int32)) &&& 31)) := Or.inr (Or.inl ⟨by decide, by decide⟩)
      have a6 : (50 : Int32) &&& 1 = 0 := by decide
      refine ⟨?_, fun hh => ⟨?_, a5⟩, fun h1 hh => ⟨?_, a5⟩⟩
      · unfold xf_C_isGuestForm yzL yzS
        simp only [yxlt_d, a1, a2, a3, a4]
        by_cases h0 : h = 0 <;> by_cases h1 : h = 1 <;> by_cases h3 : h = 3 <;> by_cases hd : d = 0 <;> simp [h0, h1, h3, hd]
      · exact a6
      · exfalso; apply hh; unfold yzS; simp [a2, a3]
    · have a1 : xf_Z_isIn 51 48 52 = 1 := by simp [xf_Z_isIn, yxlt_d]
      have a2 : xf_Z_isIn 51 49 53 = 1 := by simp [xf_Z_isIn, yxlt_d]
      have a3 : (51 : Int32) - 51 / 2 * 2 = 1 := by decide
      have a4 : (1 : Int32) <<< (((51 - 48 : Int32) / 2) &&& 31) = 2 := by decide
      have a5 : ywsz ((51 - 48) >>> ((1 : Int32) &&& 31)) ((1 : Int32) <<< (((51 - (48 : Int32)) / (2 : Int32)) &&& 31)) := Or.inr (Or.inl ⟨by decide, by decide⟩)
      have a6 : (51 : Int32) &&& 1 = 1 := by decide
      refine ⟨?_, fun hh => ⟨?_, a5⟩, fun h1 hh => ⟨?_, a5⟩⟩
      · unfold xf_C_isGuestForm yzL yzS
        simp only [yxlt_d, a1, a2, a3, a4]
        by_cases h0 : h = 0 <;> by_cases h1 : h = 1 <;> by_cases h3 : h = 3 <;> by_cases hd : d = 0 <;> simp [h0, h1, h3, hd]
      · exfalso; apply hh; unfold yzL; simp [a1, a3]
      · rw [a6]; decide
    · have a1 : xf_Z_isIn 52 48 52 = 1 := by simp [xf_Z_isIn, yxlt_d]
      have a2 : xf_Z_isIn 52 49 53 = 1 := by simp [xf_Z_isIn, yxlt_d]
      have a3 : (52 : Int32) - 52 / 2 * 2 = 0 := by decide
      have a4 : (1 : Int32) <<< (((52 - 48 : Int32) / 2) &&& 31) = 4 := by decide
      have a5 : ywsz ((52 - 48) >>> ((1 : Int32) &&& 31)) ((1 : Int32) <<< (((52 - (48 : Int32)) / (2 : Int32)) &&& 31)) := Or.inr (Or.inr ⟨by decide, by decide⟩)
      have a6 : (52 : Int32) &&& 1 = 0 := by decide
      refine ⟨?_, fun hh => ⟨?_, a5⟩, fun h1 hh => ⟨?_, a5⟩⟩
      · unfold xf_C_isGuestForm yzL yzS
        simp only [yxlt_d, a1, a2, a3, a4]
        by_cases h0 : h = 0 <;> by_cases h1 : h = 1 <;> by_cases h3 : h = 3 <;> by_cases hd : d = 0 <;> simp [h0, h1, h3, hd]
      · exact a6
      · exfalso; apply hh; unfold yzS; simp [a2, a3]
    · have a1 : xf_Z_isIn 53 48 52 = 0 := by simp [xf_Z_isIn, yxlt_d]
      have a2 : xf_Z_isIn 53 49 53 = 1 := by simp [xf_Z_isIn, yxlt_d]
      have a3 : (53 : Int32) - 53 / 2 * 2 = 1 := by decide
      have a4 : (1 : Int32) <<< (((53 - 48 : Int32) / 2) &&& 31) = 4 := by decide
      have a5 : ywsz ((53 - 48) >>> ((1 : Int32) &&& 31)) ((1 : Int32) <<< (((53 - (48 : Int32)) / (2 : Int32)) &&& 31)) := Or.inr (Or.inr ⟨by decide, by decide⟩)
      have a6 : (53 : Int32) &&& 1 = 1 := by decide
      refine ⟨?_, fun hh => ⟨?_, a5⟩, fun h1 hh => ⟨?_, a5⟩⟩
      · unfold xf_C_isGuestForm yzL yzS
        simp only [yxlt_d, a1, a2, a3, a4]
        by_cases h0 : h = 0 <;> by_cases h1 : h = 1 <;> by_cases h3 : h = 3 <;> by_cases hd : d = 0 <;> simp [h0, h1, h3, hd]
      · exfalso; apply hh; unfold yzL; simp [a1, a3]
      · rw [a6]; decide
  · have hL : yzL g h = 0 := by unfold yzL; rw [if_pos i1]
    have hS : yzS g d = 0 := by unfold yzS; rw [if_pos i2]
    refine ⟨⟨fun _ => ⟨hL, hS⟩, fun _ => ?_⟩, fun hh => absurd hL hh, fun _ hh => absurd hS hh⟩
    unfold xf_C_isGuestForm
    simp only [if_neg n1, if_neg n2, if_neg n3, if_neg n4, if_neg n5, if_neg n6]
theorem yasg_P (u : XH) (c : XZ) (b : Bool) : yxZof (xs_P_asGuest u b) c = yxZof u c := (Eq.refl _).trans (Eq.refl _)
theorem ypreA {u : XH} {c c' : XZ} (h : yxPre u c) (h1 : xg_Z_next c' = xg_Z_next c) (h2 : xg_Z_console c' = xg_Z_console c) : yxPreG (xs_P_asGuest u true) c' := ⟨ygu_P_asGuest (yg_con h.1 h2), (by show xg_P_cause u = -1; exact ypre_c h), (by show xg_P_guest u = 0; exact ypre_g h), (by show xg_P_inst u = 0; exact ypre_i h), (by show xg_Z_next c' = xg_C_next u; rw [h1]; exact h.2.2.1), (by show xg_C_next u &&& 3 = 0; exact ypre_n h)⟩
theorem ygM_4 (u : XH) : ym4 (ygM u) := by unfold ygM; cases ybt (xg_K_hstatus u) 8 <;> simp [ym4]
theorem ygM_V (u : XH) : yxmV (ygM u) = true := by unfold ygM; cases ybt (xg_K_hstatus u) 8 <;> decide
theorem ygM_S (u : XH) : yxmS (ygM u) = ybt (xg_K_hstatus u) 8 := by unfold ygM; cases ybt (xg_K_hstatus u) 8 <;> decide
theorem yasg_m (u : XH) (b : Bool) : xg_C_mode (xs_P_asGuest u b) = xg_C_mode u := (Eq.refl _).trans (Eq.refl _)
theorem yasg_a (u : XH) (b : Bool) : xg_P_asGuest (xs_P_asGuest u b) = b := (Eq.refl _).trans (Eq.refl _)
theorem ysp_e (u : XH) (c : XZ) : (if xf_Z_bit (yxZof u c) 1536 8 = 0 then (1 : Int32) else 0) = xz (!ybt (xg_K_hstatus u) 8) := by
  rw [yzbit _ 1536 8 8 (by decide) (by decide), yzv_1536]; cases ybt (xg_K_hstatus u) 8 <;> decide
theorem yhow_e (x : Int32) : (if x &&& 31 ≤ 0 then (0 : Int32) else 1) = xz (!decide (x &&& 31 = 0)) := by
  have h : (x &&& 31).toBitVec.toNat = x.toBitVec.toNat % 32 := yand_tn x 31 5 (by decide)
  have e0 : (0 : Int32).toInt = 0 := by decide
  have hi := ytoInt_tn (x &&& 31) (by omega)
  by_cases e : x &&& 31 = 0
  · rw [e]; decide
  · rw [if_neg (fun hh => e (ytn_ext (by have := Int32.le_iff_toInt_le.mp hh; rw [hi, e0] at this; show _ = 0; omega)))]
    simp [e, xz]
theorem ygs_store {u : XH} {c : XZ} (h : yxPre u c) (hmv : yxmV (xg_C_mode u) = false) {w size : Int32} (hw : ywsz w size) (a : Int32) :
    yxRes (xf_Z_give (xf_Z_asMode (yxZof u c) 2 1 (xz (!ybt (xg_K_hstatus u) 8)) 0) size a (xg_x u (xf_D_b (xg_C_word u)).toNatClampNeg)) (xf_C_store (xs_P_asGuest u true) a w (ygM u)) ∧ ∀ x, xv_Z_give (xf_Z_asMode (yxZof u c) 2 1 (xz (!ybt (xg_K_hstatus u) 8)) 0) size a x := by
  rw [yz_am, ← yasg_P u _ true]
  have h1 : yxPreG (xs_P_asGuest u true) (xf_Z_asMode c 2 1 (xz (!ybt (xg_K_hstatus u) 8)) 0) := ypreA h (yam_next _ _ _ _ _) (yam_console _ _ _ _ _)
  have k1 : xg_Z_kind (xf_Z_asMode c 2 1 (xz (!ybt (xg_K_hstatus u) 8)) 0) = 2 := yam_kind _ _ _ _ _
  have k2 : xg_Z_executes (xf_Z_asMode c 2 1 (xz (!ybt (xg_K_hstatus u) 8)) 0) = false := by rw [yam_executes]; rfl
  have k3 : xg_Z_user (xf_Z_asMode c 2 1 (xz (!ybt (xg_K_hstatus u) 8)) 0) = !yxmS (ygM u) := by rw [yam_user, yxb_xz, ygM_S]
  have k4 : xg_Z_virtual (xf_Z_asMode c 2 1 (xz (!ybt (xg_K_hstatus u) 8)) 0) = yxmV (ygM u) := by rw [yam_virtual, ygM_V]; rfl
  have k5 : yxmV (ygM u) = (yxmV (xg_C_mode (xs_P_asGuest u true)) || xg_P_asGuest (xs_P_asGuest u true)) := by rw [ygM_V, yasg_a, Bool.or_true]
  exact ⟨yres_give h1 (ygM_4 u) k1 k2 k3 k4 k5 hw a, fun x => yv_give h1 (ygM_4 u) k1 k2 k3 k4 k5 hw a x⟩
theorem ygs_load {u : XH} {c : XZ} (h : yxPre u c) (hmv : yxmV (xg_C_mode u) = false) {w size : Int32} (hw : ywsz w size) (pl x3 : Bool) (a d : Int32) (hd : xf_D_d (xg_C_word u) = d) (hd2 : vp_in d 32) :
    yxRes (xf_Z_take (xf_Z_asMode (yxZof u c) 1 1 (xz (!ybt (xg_K_hstatus u) 8)) (xz x3)) d size (xz pl) a) (xf_C_load (xs_P_asGuest u true) a w (xz pl) (if x3 then 2 else 1) (ygM u)) ∧ xv_Z_take (xf_Z_asMode (yxZof u c) 1 1 (xz (!ybt (xg_K_hstatus u) 8)) (xz x3)) d size (xz pl) a := by
  rw [yz_am, ← yasg_P u _ true]
  have h1 : yxPreG (xs_P_asGuest u true) (xf_Z_asMode c 1 1 (xz (!ybt (xg_K_hstatus u) 8)) (xz x3)) := ypreA h (yam_next _ _ _ _ _) (yam_console _ _ _ _ _)
  have k1 : xg_Z_kind (xf_Z_asMode c 1 1 (xz (!ybt (xg_K_hstatus u) 8)) (xz x3)) = ykOf (if x3 then 2 else 1) := by rw [yam_kind]; cases x3 <;> decide
  have k2 : xg_Z_executes (xf_Z_asMode c 1 1 (xz (!ybt (xg_K_hstatus u) 8)) (xz x3)) = decide ((if x3 then 2 else 1) = 2) := by rw [yam_executes, yxb_xz]; cases x3 <;> decide
  have k3 : xg_Z_user (xf_Z_asMode c 1 1 (xz (!ybt (xg_K_hstatus u) 8)) (xz x3)) = !yxmS (ygM u) := by rw [yam_user, yxb_xz, ygM_S]
  have k4 : xg_Z_virtual (xf_Z_asMode c 1 1 (xz (!ybt (xg_K_hstatus u) 8)) (xz x3)) = yxmV (ygM u) := by rw [yam_virtual, ygM_V]; rfl
  have k5 : yxmV (ygM u) = (yxmV (xg_C_mode (xs_P_asGuest u true)) || xg_P_asGuest (xs_P_asGuest u true)) := by rw [ygM_V, yasg_a, Bool.or_true]
  have p4 : (if x3 then 2 else 1) < 4 := by cases x3 <;> decide
  have p0 : ¬ (if x3 then 2 else 1) = 0 := by cases x3 <;> decide
  exact ⟨yres_take h1 p4 p0 (ygM_4 u) k1 k2 k3 k4 k5 hw pl a d (by rw [yasg_w]; exact hd) hd2, yv_take h1 p4 p0 (ygM_4 u) k1 k2 k3 k4 k5 hw (xz pl) a d hd2⟩
theorem yx3_e (x : Int32) : (if x = 3 then (1 : Int32) else 0) = xz (decide (x = 3)) := by by_cases h : x = 3 <;> simp [h, xz]
theorem yx3_p (x : Int32) : (if x = 3 then 2 else 1 : Nat) = (if decide (x = 3) then 2 else 1) := by by_cases h : x = 3 <;> simp [h]
theorem yam_v3 (v : XZ) (k : Int32) (a b : Bool) : xv_Z_asMode v k 1 (xz a) (xz b) := yv_am v k true a b
theorem yres_zG {u : XH} {c : XZ} (h : yxPre u c) (w : Int32) (hw : xg_C_word u = w) (hmv : yxmV (xg_C_mode u) = false) {L : Int32} (hL : yzL (xus w 25) ((w >>> ((20 : Int32) &&& 31)) &&& (31 : Int32)) = L) (hLS : ¬ (L = 0 ∧ yzS (xus w 25) ((w >>> ((7 : Int32) &&& 31)) &&& 31) = 0)) :
    yxRes (yzG (yxZof u c) w ((w >>> ((7 : Int32) &&& 31)) &&& 31) (xg_x u ((w >>> ((15 : Int32) &&& 31)) &&& 31).toNatClampNeg) (xg_x u ((w >>> ((20 : Int32) &&& 31)) &&& 31).toNatClampNeg) L) (ygG u (xus w 25) ((w >>> ((20 : Int32) &&& 31)) &&& (31 : Int32))) := by
  obtain ⟨_, f2, f3⟩ := yform_e (xus w 25) ((w >>> ((20 : Int32) &&& 31)) &&& (31 : Int32)) ((w >>> ((7 : Int32) &&& 31)) &&& 31)
  rw [hL] at f2 f3
  unfold yzG ygG
  rw [yxlt_d, ysp_e, yhow_e, hw, yfD_a]
  by_cases h0 : L = 0
  · simp only [if_pos h0]
    obtain ⟨g1, ws⟩ := f3 h0 (fun hh => hLS ⟨h0, hh⟩)
    rw [if_neg g1]
    have := (ygs_store h hmv ws (xg_x u ((w >>> ((15 : Int32) &&& 31)) &&& 31).toNatClampNeg)).1
    rw [hw, yfD_b] at this
    exact this
  · simp only [if_neg h0]
    obtain ⟨g1, ws⟩ := f2 h0
    rw [if_pos g1, yx3_e, yx3_p]
    exact (ygs_load h hmv ws _ _ _ _ (by rw [hw]; exact yfD_d w) (yvp31 _)).1
theorem yres_aiv {u : XH} {c : XZ} (h : yxPre u c) (w : Int32) (hw : xg_C_word u = w) :
    yxRes (xf_Z_asIfVirtual (yxZof u c) w ((w >>> ((7 : Int32) &&& 31)) &&& 31) (xg_x u ((w >>> ((15 : Int32) &&& 31)) &&& 31).toNatClampNeg) (xg_x u ((w >>> ((20 : Int32) &&& 31)) &&& 31).toNatClampNeg)) (xf_C_guestOp u) := by
  obtain ⟨f1, _, _⟩ := yform_e (xus w 25) ((w >>> ((20 : Int32) &&& 31)) &&& (31 : Int32)) ((w >>> ((7 : Int32) &&& 31)) &&& 31)
  rw [yaiv_e, yguest_e, hw, yfD_b, yfD_d]
  unfold xf_D_g
  by_cases hf : yzL (xus w 25) ((w >>> ((20 : Int32) &&& 31)) &&& (31 : Int32)) = 0 ∧ yzS (xus w 25) ((w >>> ((7 : Int32) &&& 31)) &&& 31) = 0
  · rw [if_pos hf, if_pos (f1.mpr hf)]
    exact yres_ill h w hw
  · rw [if_neg hf, if_neg (fun hh => hf (f1.mp hh)), yz_isV, yzg_mode]
    cases hv : yxmV (xg_C_mode u)
    · rw [if_pos (show xz false = 0 from rfl), yzbit _ 1536 9 9 (by decide) (by decide), yzv_1536]
      have hm2 : (xg_C_mode u = 0 ∧ xz (ybt (xg_K_hstatus u) 9) = 0) ↔ (xg_C_mode u = 0 ∧ ybt (xg_K_hstatus u) 9 = false) := by rw [yxz_0]
      by_cases hm : xg_C_mode u = 0 ∧ ybt (xg_K_hstatus u) 9 = false
      · rw [if_pos (hm2.mpr hm), if_pos hm]
        exact yres_nt h w hw 2 (by rw [hv]; rfl)
      · rw [if_neg (fun hh => hm (hm2.mp hh)), if_neg hm, if_neg (show ¬ false = true by decide)]
        exact yres_zG h w hw hv rfl hf
    · rw [if_neg (show ¬ xz true = 0 by decide)]
      have hm : ¬ (xg_C_mode u = 0 ∧ ybt (xg_K_hstatus u) 9 = false) := fun hh => by rw [hh.1] at hv; revert hv; decide
      rw [if_neg hm, if_pos rfl]
      exact yres_nt h w hw 22 (by rw [hv]; rfl)
theorem yv_aiv {u : XH} {c : XZ} (h : yxPre u c) (w : Int32) (hw : xg_C_word u = w) (b : Int32) :
    xv_Z_asIfVirtual (yxZof u c) w ((w >>> ((7 : Int32) &&& 31)) &&& 31) (xg_x u ((w >>> ((15 : Int32) &&& 31)) &&& 31).toNatClampNeg) b := by
  obtain ⟨_, f2, f3⟩ := yform_e (xus w 25) ((w >>> ((20 : Int32) &&& 31)) &&& (31 : Int32)) ((w >>> ((7 : Int32) &&& 31)) &&& 31)
  unfold xv_Z_asIfVirtual XVc
  refine ⟨?_, trivial⟩
  simp only [yxlt_d, yv_ill, yv_nt, yvb_1536, ysp_e, yhow_e, yx3_e, true_and, and_true]
  rw [show (if xf_Z_isIn (xus w 25) 48 52 = 0 then (0 : Int32) else (if (xus w 25 - xus w 25 / (2 : Int32) * (2 : Int32)) = 0 then (if (w >>> ((20 : Int32) &&& 31)) &&& (31 : Int32) = 0 then 1 else (if (w >>> ((20 : Int32) &&& 31)) &&& (31 : Int32) = 1 then (if ((1 : Int32) <<< (((xus w 25 - (48 : Int32)) / (2 : Int32)) &&& 31)) < 4 then 1 else (if (w >>> ((20 : Int32) &&& 31)) &&& (31 : Int32) = 3 then (if ((1 : Int32) <<< (((xus w 25 - (48 : Int32)) / (2 : Int32)) &&& 31)) ≤ 1 then 0 else 1) else 0)) else (if (w >>> ((20 : Int32) &&& 31)) &&& (31 : Int32) = 3 then (if ((1 : Int32) <<< (((xus w 25 - (48 : Int32)) / (2 : Int32)) &&& 31)) ≤ 1 then 0 else 1) else 0))) else 0)) = yzL (xus w 25) ((w >>> ((20 : Int32) &&& 31)) &&& (31 : Int32)) from rfl]
  rw [show (if xf_Z_isIn (xus w 25) 49 53 = 0 then (0 : Int32) else (if (xus w 25 - xus w 25 / (2 : Int32) * (2 : Int32)) = 1 then (if ((w >>> ((7 : Int32) &&& 31)) &&& 31) = 0 then 1 else 0) else 0)) = yzS (xus w 25) ((w >>> ((7 : Int32) &&& 31)) &&& 31) from rfl]
  generalize yzL (xus w 25) ((w >>> ((20 : Int32) &&& 31)) &&& (31 : Int32)) = L at *
  generalize yzS (xus w 25) ((w >>> ((7 : Int32) &&& 31)) &&& 31) = S at *
  rw [yz_isV, yzg_mode]
  cases hv : yxmV (xg_C_mode u)
  · simp only [show xz false = (0 : Int32) from rfl, if_true]
    by_cases hL : L = 0
    · by_cases hS : S = 0
      · simp only [if_pos hL, if_pos hS]
      · obtain ⟨g1, ws⟩ := f3 hL hS
        simp only [if_pos hL, if_neg hS]
        have hg := (ygs_store h hv ws (xg_x u ((w >>> ((15 : Int32) &&& 31)) &&& 31).toNatClampNeg)).2 b
        have hm := yam_v3 (yxZof u c) 2 (!ybt (xg_K_hstatus u) 8) false
        rw [show xz false = (0 : Int32) from rfl] at hm
        simp only [hg, hm, and_self, ite_self]
    · obtain ⟨g1, ws⟩ := f2 hL
      simp only [if_neg hL]
      have hg := (ygs_load h hv ws (!decide ((w >>> ((20 : Int32) &&& 31)) &&& (31 : Int32) = 0)) (decide ((w >>> ((20 : Int32) &&& 31)) &&& (31 : Int32) = 3)) (xg_x u ((w >>> ((15 : Int32) &&& 31)) &&& 31).toNatClampNeg) _ (by rw [hw]; exact yfD_d w) (yvp31 _)).2
      have hm := yam_v3 (yxZof u c) 1 (!ybt (xg_K_hstatus u) 8) (decide ((w >>> ((20 : Int32) &&& 31)) &&& (31 : Int32) = 3))
      simp only [hg, hm, and_self, ite_self]
  · simp only [show ¬ xz true = (0 : Int32) by decide, if_false, ite_self]
theorem yres_system {u : XH} {c : XZ} (h : yxPre u c) (w : Int32) (hw : xg_C_word u = w) :
    yxRes (xf_Z_system (yxZof u c) w ((w >>> ((7 : Int32) &&& 31)) &&& 31) ((w >>> ((12 : Int32) &&& 31)) &&& 7) (xg_x u ((w >>> ((15 : Int32) &&& 31)) &&& 31).toNatClampNeg) (xg_x u ((w >>> ((20 : Int32) &&& 31)) &&& 31).toNatClampNeg)) (if (w >>> ((12 : Int32) &&& 31)) &&& 7 = 0 then xf_C_systemOp u else (if (w >>> ((12 : Int32) &&& 31)) &&& 7 = 4 then xf_C_guestOp u else xf_C_controlOp u ((w >>> ((12 : Int32) &&& 31)) &&& 7))) := by
  have hf8 : yf8p ((w >>> ((12 : Int32) &&& 31)) &&& 7) := yf8 w
  unfold xf_Z_system
  by_cases yf4 : (w >>> ((12 : Int32) &&& 31)) &&& 7 = 4
  · rw [if_pos yf4, if_neg (by rw [yf4]; decide), if_pos yf4, yxlt_d, yprod_eta]
    exact yres_aiv h w hw
  · rw [if_neg yf4, if_neg yf4]
    by_cases f0 : (w >>> ((12 : Int32) &&& 31)) &&& 7 = 0
    · rw [if_pos f0, if_pos f0]
      unfold xf_C_systemOp xf_D_g
      simp only [yxlt_d, hw, yfD_d, yfD_a, yzg_mode, yprod_eta, yzbit _ 1536 20 20 (by decide) (by decide), yzbit _ 1536 21 21 (by decide) (by decide), yzbit _ 1536 22 22 (by decide) (by decide), yzv_1536, yset_e u 1048576 20 ⟨by decide, by decide⟩, yset_e u 2097152 21 ⟨by decide, by decide⟩]
      by_cases d0 : (w >>> ((7 : Int32) &&& 31)) &&& 31 = 0
      · rw [if_pos d0, if_pos d0]
        by_cases g9 : xus w 25 = 9
        · rw [if_pos g9, if_pos g9]
          exact yres_may h w hw _
        · rw [if_neg g9, if_neg g9]
          have hmt : yxRes (if xg_C_mode u = 1 then 1 else (if (xf_Z_notThere (yxZof u c) w).1 = 0 then 0 else 1), if xg_C_mode u = 1 then yxZof u c else (if (xf_Z_notThere (yxZof u c) w).1 = 0 then (xf_Z_notThere (yxZof u c) w).2 else (xf_Z_notThere (yxZof u c) w).2)) (xf_C_mayDo u 1).2 := by
            have := yres_may h w hw true
            simp only [show ¬ xz true = (0 : Int32) by decide, if_false, ite_self] at this
            simp only [ite_self]
            exact this
          by_cases g17 : xus w 25 = 17
          · rw [if_pos g17, if_pos g17]
            exact hmt
          · rw [if_neg g17, if_neg g17]
            by_cases g49 : xus w 25 = 49
            · rw [if_pos g49, if_pos g49]
              exact hmt
            · rw [if_neg g49, if_neg g49]
              by_cases a0 : (w >>> ((15 : Int32) &&& 31)) &&& 31 = 0
              · rw [if_pos a0, if_pos a0]
                by_cases i0 : xus w 20 = 0
                · rw [if_pos i0, if_pos i0]
                  exact yres_call h
                · rw [if_neg i0, if_neg i0]
                  by_cases i1 : xus w 20 = 1
                  · rw [if_pos i1, if_pos i1, yz_isV, yzg_mode, yzg_pc]
                    exact yres_ad h (k := 3) (Or.inr (Or.inr (Or.inl rfl))) (xg_C_pc u)
                  · rw [if_neg i1, if_neg i1]
                    by_cases i258 : xus w 20 = 258
                    · rw [if_pos i258, if_pos i258]
                      exact yres_ret h w hw
                    · rw [if_neg i258, if_neg i258]
                      by_cases i261 : xus w 20 = 261
                      · rw [if_pos i261, if_pos i261]
                        exact yres_may h w hw _
                      · rw [if_neg i261, if_neg i261]
                        exact yres_ill h w hw
              · rw [if_neg a0, if_neg a0]
                exact yres_ill h w hw
      · rw [if_neg d0, if_neg d0]
        exact yres_ill h w hw
    · rw [if_neg f0, if_neg f0, yxlt_d, yprod_eta]
      exact yres_control h w hw hf8 f0 yf4
theorem yv_system {u : XH} {c : XZ} (h : yxPre u c) (w : Int32) (hw : xg_C_word u = w) (b : Int32) : xv_Z_system (yxZof u c) w ((w >>> ((7 : Int32) &&& 31)) &&& 31) ((w >>> ((12 : Int32) &&& 31)) &&& 7) (xg_x u ((w >>> ((15 : Int32) &&& 31)) &&& 31).toNatClampNeg) b := by
  have hf8 : yf8p ((w >>> ((12 : Int32) &&& 31)) &&& 7) := yf8 w
  unfold xv_Z_system XVc
  refine ⟨?_, trivial⟩
  by_cases yf4 : (w >>> ((12 : Int32) &&& 31)) &&& 7 = 4
  · rw [if_pos yf4]
    exact ⟨yv_aiv h w hw b, trivial⟩
  · rw [if_neg yf4]
    by_cases f0 : (w >>> ((12 : Int32) &&& 31)) &&& 7 = 0
    · rw [if_pos f0]
      simp only [yxlt_d, yz_isV, yv_nt, yv_ill, yvb_1536, yv_call h, yv_fails, yv_backS, yv_backV, true_and, and_true, ite_self]
    · rw [if_neg f0]
      exact ⟨yv_control h w hf8 f0 yf4 _ _, trivial⟩
theorem yle2 {f : Int32} (hf : yf8p f) : f ≤ 2 ↔ (f = 0 ∨ f = 1 ∨ f = 2) := by
  rcases hf with e | e | e | e | e | e | e | e <;> subst e <;> decide
theorem yle5 {f : Int32} (hf : yf8p f) (h3 : ¬ f = 3) : f ≤ 5 ↔ (f = 0 ∨ f = 1 ∨ f = 2 ∨ f = 4 ∨ f = 5) := by
  rcases hf with e | e | e | e | e | e | e | e <;> subst e <;> first | exact absurd rfl h3 | decide
theorem ylt2_1 {f : Int32} : f < 2 ↔ f ≤ 1 := ylt2 f
theorem ynxt_x (c : XZ) (a : Int32) : xg_Z_next (xs_Z_next c a) = a := (Eq.refl _).trans (Eq.refl _)
set_option maxHeartbeats 1000000 in
theorem yres_perform {u : XH} {c : XZ} (h : yxPre u (xs_Z_next c (xg_C_pc u + 4))) (w : Int32) (hw : xg_C_word u = w) : yxRes (xf_Z_perform (yxZof u c) w) (xf_C_perform u) := by
  have hf8 : yf8p ((w >>> ((12 : Int32) &&& 31)) &&& 7) := yf8 w
  unfold xf_Z_perform xf_C_perform xf_D_op
  simp only [yzg_pc, yzs_next, yzg_x]
  rw [yxlt_d (xf_D_f (xg_C_word u)), yxlt_d (xg_C_word u &&& 127), hw, yfD_f]
  generalize xs_Z_next c (xg_C_pc u + 4) = c1 at *
  by_cases o3 : w &&& 127 = 3
  · rw [if_pos o3, if_pos o3]
    unfold xf_C_loadOp xf_D_immediate
    simp only [yxlt_d, hw, yfD_f, yfD_a]
    by_cases f3 : (w >>> ((12 : Int32) &&& 31)) &&& 7 = 3
    · simp only [if_pos f3]; exact yres_ill h w hw
    · simp only [if_neg f3]
      by_cases f5 : (w >>> ((12 : Int32) &&& 31)) &&& 7 ≤ 5
      · simp only [if_pos f5]; rw [yprod_eta]; exact yres_load h w hw ((yle5 hf8 f3).mp f5) _
      · simp only [if_neg f5]; exact yres_ill h w hw
  · rw [if_neg o3, if_neg o3]
    by_cases o15 : w &&& 127 = 15
    · rw [if_pos o15, if_pos o15]
      unfold xf_C_fenceOp
      simp only [yxlt_d, hw, yfD_f, ylt2_1]
      by_cases f1 : (w >>> ((12 : Int32) &&& 31)) &&& 7 ≤ 1
      · simp only [if_pos f1]
        exact ⟨c1, rfl, h.1, Or.inl ⟨rfl, ypre_c h, h.2.2.1, ypre_n h⟩⟩
      · simp only [if_neg f1, ite_self]
        have := yres_ill h w hw
        have e : (xf_Z_illegal (yxZof u c1) w).1 = 0 := by unfold xf_Z_illegal; rw [yxlt_d, yz_fails]
        rw [← yprod_eta (xf_Z_illegal (yxZof u c1) w), e] at this
        rw [if_pos e]
        exact this
    · rw [if_neg o15, if_neg o15]
      by_cases o19 : w &&& 127 = 19
      · rw [if_pos o19, if_pos o19, yxlt_d, yxlt_d, yprod_eta]
        exact yres_small h w hw
      · rw [if_neg o19, if_neg o19]
        by_cases o23 : w &&& 127 = 23
        · rw [if_pos o23, if_pos o23]
          unfold xf_D_upper
          simp only [yxlt_d, yfD_d, yprod_eta]
          exact yres_put h (yvp31 _) _
        · rw [if_neg o23, if_neg o23]
          by_cases o35 : w &&& 127 = 35
          · rw [if_pos o35, if_pos o35]
            unfold xf_C_storeOp
            simp only [yxlt_d, hw, yfD_f, yfD_a, yf_store]
            by_cases f2 : (w >>> ((12 : Int32) &&& 31)) &&& 7 ≤ 2
            · simp only [if_pos f2]
              have := yres_store h ((yle2 hf8).mp f2) (xg_x u ((w >>> ((15 : Int32) &&& 31)) &&& 31).toNatClampNeg + xf_D_storeOffset w)
              rw [hw, yfD_b] at this
              rw [yprod_eta]
              exact this
            · simp only [if_neg f2]; exact yres_ill h w hw
          · rw [if_neg o35, if_neg o35]
            by_cases o51 : w &&& 127 = 51
            · rw [if_pos o51, if_pos o51, yxlt_d, yxlt_d, yprod_eta]
              exact yres_pairOp h w hw
            · rw [if_neg o51, if_neg o51]
              by_cases o55 : w &&& 127 = 55
              · rw [if_pos o55, if_pos o55]
                unfold xf_D_upper
                simp only [yxlt_d, yfD_d, yprod_eta]
                exact yres_put h (yvp31 _) _
              · rw [if_neg o55, if_neg o55]
                by_cases o99 : w &&& 127 = 99
                · rw [if_pos o99, if_pos o99, yxlt_d, yxlt_d, yprod_eta]
                  exact yres_branch h w hw
                · rw [if_neg o99, if_neg o99]
                  by_cases o103 : w &&& 127 = 103
                  · rw [if_pos o103, if_pos o103]
                    unfold xf_C_jumpToRegisterOp xf_D_immediate
                    simp only [yxlt_d, hw, yfD_f, yfD_a, yfD_d]
                    by_cases f0 : (w >>> ((12 : Int32) &&& 31)) &&& 7 = 0
                    · simp only [if_pos f0, ite_self]
                      have hj := yres_jump h ((xg_x u ((w >>> ((15 : Int32) &&& 31)) &&& 31).toNatClampNeg + w >>> ((20 : Int32) &&& 31)) &&& (-2)) (yvp31 (w >>> ((7 : Int32) &&& 31)))
                      have e1 : ∀ v d x, (xf_Z_put v d x).1 = 1 := by intro v d x; unfold xf_Z_put; rw [yxlt_d]
                      simp only [e1, show ¬ (1 : Int32) = 0 by decide, if_false]
                      exact hj
                    · simp only [if_neg f0]; exact yres_ill h w hw
                  · rw [if_neg o103, if_neg o103]
                    by_cases o111 : w &&& 127 = 111
                    · rw [if_pos o111, if_pos o111]
                      simp only [yxlt_d, yf_jump, yfD_d, ite_self]
                      have hj := yres_jump h (xg_C_pc u + xf_D_jumpOffset w) (yvp31 (w >>> ((7 : Int32) &&& 31)))
                      have e1 : ∀ v d x, (xf_Z_put v d x).1 = 1 := by intro v d x; unfold xf_Z_put; rw [yxlt_d]
                      simp only [e1, show ¬ (1 : Int32) = 0 by decide, if_false]
                      exact hj
                    · rw [if_neg o111, if_neg o111]
                      by_cases o115 : w &&& 127 = 115
                      · rw [if_pos o115, if_pos o115]
                        simp only [yxlt_d]
                        rw [yprod_eta]
                        exact yres_system h w hw
                      · rw [if_neg o115, if_neg o115, yxlt_d, yxlt_d, yprod_eta]
                        exact yres_ill h w hw
set_option maxHeartbeats 1000000 in
theorem yv_perform {u : XH} {c : XZ} (h : yxPre u (xs_Z_next c (xg_C_pc u + 4))) (w : Int32) (hw : xg_C_word u = w) : xv_Z_perform (yxZof u c) w := by
  have hf8 : yf8p ((w >>> ((12 : Int32) &&& 31)) &&& 7) := yf8 w
  unfold xv_Z_perform XVc
  refine ⟨?_, trivial⟩
  simp only [yzg_pc, yzs_next, yzg_x]
  generalize xs_Z_next c (xg_C_pc u + 4) = c1 at *
  have hL : ∀ a, (if (w >>> ((12 : Int32) &&& 31)) &&& 7 = 3 then True else (if (w >>> ((12 : Int32) &&& 31)) &&& 7 ≤ 5 then xv_Z_load (yxZof u c1) ((w >>> ((7 : Int32) &&& 31)) &&& 31) ((w >>> ((12 : Int32) &&& 31)) &&& 7) a else True)) := by
    intro a
    by_cases f3 : (w >>> ((12 : Int32) &&& 31)) &&& 7 = 3
    · rw [if_pos f3]; trivial
    · rw [if_neg f3]
      by_cases f5 : (w >>> ((12 : Int32) &&& 31)) &&& 7 ≤ 5
      · rw [if_pos f5]; exact yv_load h _ ((yle5 hf8 f3).mp f5) a
      · rw [if_neg f5]; trivial
  have hS : ∀ a x, (if (w >>> ((12 : Int32) &&& 31)) &&& 7 ≤ 2 then xv_Z_store (yxZof u c1) ((1 : Int32) <<< (((w >>> ((12 : Int32) &&& 31)) &&& 7) &&& 31)) a x else True) := by
    intro a x
    by_cases f2 : (w >>> ((12 : Int32) &&& 31)) &&& 7 ≤ 2
    · rw [if_pos f2]; exact yv_store h ((yle2 hf8).mp f2) a x
    · rw [if_neg f2]; trivial
  by_cases o115 : w &&& 127 = 115
  · rw [o115]
    simp only [show ¬ (115 : Int32) = 3 by decide, show ¬ (115 : Int32) = 15 by decide, show ¬ (115 : Int32) = 19 by decide, show ¬ (115 : Int32) = 23 by decide, show ¬ (115 : Int32) = 35 by decide, show ¬ (115 : Int32) = 51 by decide, show ¬ (115 : Int32) = 55 by decide, show ¬ (115 : Int32) = 99 by decide, show ¬ (115 : Int32) = 103 by decide, show ¬ (115 : Int32) = 111 by decide, if_false, if_true]
    exact ⟨yv_system h w hw _, trivial⟩
  · simp only [if_neg o115, yxlt_d, yv_ill, yv_small, yv_put_d, yv_pair, yv_branch, yv_go, and_true, true_and, ite_self, hL, hS]
theorem yz_nw (u : XH) (c : XZ) (w a : Int32) : yxZof (xs_C_next (xs_C_word u w) a) c = yxZof u c := (Eq.refl _).trans (Eq.refl _)
theorem ygu_nw {u : XH} {c : XZ} (h : yxG u c) (w a : Int32) : yxG (xs_C_next (xs_C_word u w) a) c := ygu_C_next (ygu_C_word h)

theorem ynw_P (u : XH) (p : XP) (w a : Int32) : xg_P (xs_C_next (xs_C_word (xs_P u p) w) a) = p := by
  obtain ⟨⟨c1, c2, c3, c4, c5, c6, c7, c8, c9⟩, x, ⟨k1, k2, k3, k4, k5, k6, k7, k8, k9, k10, k11⟩, ⟨s1, s2, s3, s4, s5, s6, s7, s8, s9⟩, ⟨v1, v2, v3, v4, v5, v6, v7, v8, v9⟩, ⟨p1, p2, p3, p4, p5, p6⟩, ⟨⟨ym1, m2, m3⟩, ⟨n1, n2, n3⟩⟩⟩ := u
  simp only [xs_P, xg_C_consoleSize, xg_C_pc, xg_C_mode, xg_C_off, xg_C_trapsToS, xg_C_trapsToVs, xg_C_interrupts, xg_C_next, xg_C_word, xg_x, xg_K_hstatus, xg_K_hedeleg, xg_K_hideleg, xg_K_hie, xg_K_htval, xg_K_hvip, xg_K_htinst, xg_K_hgatp, xg_K_time, xg_K_alarm, xg_K_lineOn, xg_S_status, xg_S_ie, xg_S_tvec, xg_S_scratch, xg_S_epc, xg_S_cause, xg_S_tval, xg_S_ip, xg_S_atp, xg_V_status, xg_V_ie, xg_V_tvec, xg_V_scratch, xg_V_epc, xg_V_cause, xg_V_tval, xg_V_ip, xg_V_atp, xg_P_cause, xg_P_tval, xg_P_guest, xg_P_inst, xg_P_asGuest, xg_P_interruptForVs, xs_C_consoleSize, xs_C_pc, xs_C_mode, xs_C_off, xs_C_trapsToS, xs_C_trapsToVs, xs_C_interrupts, xs_C_next, xs_C_word, xs_x, xs_K_hstatus, xs_K_hedeleg, xs_K_hideleg, xs_K_hie, xs_K_htval, xs_K_hvip, xs_K_htinst, xs_K_hgatp, xs_K_time, xs_K_alarm, xs_K_lineOn, xs_S_status, xs_S_ie, xs_S_tvec, xs_S_scratch, xs_S_epc, xs_S_cause, xs_S_tval, xs_S_ip, xs_S_atp, xs_V_status, xs_V_ie, xs_V_tvec, xs_V_scratch, xs_V_epc, xs_V_cause, xs_V_tval, xs_V_ip, xs_V_atp, xs_P_cause, xs_P_tval, xs_P_guest, xs_P_inst, xs_P_asGuest, xs_P_interruptForVs, xg_M, xg_S, xg_V, xg_P, xs_M1, xs_M2, xs_M, xs_S, xs_V, yxZof, yxctl]
theorem ynw_pc (u : XH) (p : XP) (w a : Int32) : xg_C_pc (xs_C_next (xs_C_word (xs_P u p) w) a) = xg_C_pc u := by
  obtain ⟨⟨c1, c2, c3, c4, c5, c6, c7, c8, c9⟩, x, ⟨k1, k2, k3, k4, k5, k6, k7, k8, k9, k10, k11⟩, ⟨s1, s2, s3, s4, s5, s6, s7, s8, s9⟩, ⟨v1, v2, v3, v4, v5, v6, v7, v8, v9⟩, ⟨p1, p2, p3, p4, p5, p6⟩, ⟨⟨ym1, m2, m3⟩, ⟨n1, n2, n3⟩⟩⟩ := u
  simp only [xs_P, xg_C_consoleSize, xg_C_pc, xg_C_mode, xg_C_off, xg_C_trapsToS, xg_C_trapsToVs, xg_C_interrupts, xg_C_next, xg_C_word, xg_x, xg_K_hstatus, xg_K_hedeleg, xg_K_hideleg, xg_K_hie, xg_K_htval, xg_K_hvip, xg_K_htinst, xg_K_hgatp, xg_K_time, xg_K_alarm, xg_K_lineOn, xg_S_status, xg_S_ie, xg_S_tvec, xg_S_scratch, xg_S_epc, xg_S_cause, xg_S_tval, xg_S_ip, xg_S_atp, xg_V_status, xg_V_ie, xg_V_tvec, xg_V_scratch, xg_V_epc, xg_V_cause, xg_V_tval, xg_V_ip, xg_V_atp, xg_P_cause, xg_P_tval, xg_P_guest, xg_P_inst, xg_P_asGuest, xg_P_interruptForVs, xs_C_consoleSize, xs_C_pc, xs_C_mode, xs_C_off, xs_C_trapsToS, xs_C_trapsToVs, xs_C_interrupts, xs_C_next, xs_C_word, xs_x, xs_K_hstatus, xs_K_hedeleg, xs_K_hideleg, xs_K_hie, xs_K_htval, xs_K_hvip, xs_K_htinst, xs_K_hgatp, xs_K_time, xs_K_alarm, xs_K_lineOn, xs_S_status, xs_S_ie, xs_S_tvec, xs_S_scratch, xs_S_epc, xs_S_cause, xs_S_tval, xs_S_ip, xs_S_atp, xs_V_status, xs_V_ie, xs_V_tvec, xs_V_scratch, xs_V_epc, xs_V_cause, xs_V_tval, xs_V_ip, xs_V_atp, xs_P_cause, xs_P_tval, xs_P_guest, xs_P_inst, xs_P_asGuest, xs_P_interruptForVs, xg_M, xg_S, xg_V, xg_P, xs_M1, xs_M2, xs_M, xs_S, xs_V, yxZof, yxctl]
theorem ynw_next (u : XH) (w a : Int32) : xg_C_next (xs_C_next (xs_C_word u w) a) = a := by
  obtain ⟨⟨c1, c2, c3, c4, c5, c6, c7, c8, c9⟩, x, ⟨k1, k2, k3, k4, k5, k6, k7, k8, k9, k10, k11⟩, ⟨s1, s2, s3, s4, s5, s6, s7, s8, s9⟩, ⟨v1, v2, v3, v4, v5, v6, v7, v8, v9⟩, ⟨p1, p2, p3, p4, p5, p6⟩, ⟨⟨ym1, m2, m3⟩, ⟨n1, n2, n3⟩⟩⟩ := u
  simp only [xg_C_consoleSize, xg_C_pc, xg_C_mode, xg_C_off, xg_C_trapsToS, xg_C_trapsToVs, xg_C_interrupts, xg_C_next, xg_C_word, xg_x, xg_K_hstatus, xg_K_hedeleg, xg_K_hideleg, xg_K_hie, xg_K_htval, xg_K_hvip, xg_K_htinst, xg_K_hgatp, xg_K_time, xg_K_alarm, xg_K_lineOn, xg_S_status, xg_S_ie, xg_S_tvec, xg_S_scratch, xg_S_epc, xg_S_cause, xg_S_tval, xg_S_ip, xg_S_atp, xg_V_status, xg_V_ie, xg_V_tvec, xg_V_scratch, xg_V_epc, xg_V_cause, xg_V_tval, xg_V_ip, xg_V_atp, xg_P_cause, xg_P_tval, xg_P_guest, xg_P_inst, xg_P_asGuest, xg_P_interruptForVs, xs_C_consoleSize, xs_C_pc, xs_C_mode, xs_C_off, xs_C_trapsToS, xs_C_trapsToVs, xs_C_interrupts, xs_C_next, xs_C_word, xs_x, xs_K_hstatus, xs_K_hedeleg, xs_K_hideleg, xs_K_hie, xs_K_htval, xs_K_hvip, xs_K_htinst, xs_K_hgatp, xs_K_time, xs_K_alarm, xs_K_lineOn, xs_S_status, xs_S_ie, xs_S_tvec, xs_S_scratch, xs_S_epc, xs_S_cause, xs_S_tval, xs_S_ip, xs_S_atp, xs_V_status, xs_V_ie, xs_V_tvec, xs_V_scratch, xs_V_epc, xs_V_cause, xs_V_tval, xs_V_ip, xs_V_atp, xs_P_cause, xs_P_tval, xs_P_guest, xs_P_inst, xs_P_asGuest, xs_P_interruptForVs, xg_M, xg_S, xg_V, xg_P, xs_M1, xs_M2, xs_M, xs_S, xs_V, yxZof, yxctl]
theorem ynw_word (u : XH) (w a : Int32) : xg_C_word (xs_C_next (xs_C_word u w) a) = w := by
  obtain ⟨⟨c1, c2, c3, c4, c5, c6, c7, c8, c9⟩, x, ⟨k1, k2, k3, k4, k5, k6, k7, k8, k9, k10, k11⟩, ⟨s1, s2, s3, s4, s5, s6, s7, s8, s9⟩, ⟨v1, v2, v3, v4, v5, v6, v7, v8, v9⟩, ⟨p1, p2, p3, p4, p5, p6⟩, ⟨⟨ym1, m2, m3⟩, ⟨n1, n2, n3⟩⟩⟩ := u
  simp only [xg_C_consoleSize, xg_C_pc, xg_C_mode, xg_C_off, xg_C_trapsToS, xg_C_trapsToVs, xg_C_interrupts, xg_C_next, xg_C_word, xg_x, xg_K_hstatus, xg_K_hedeleg, xg_K_hideleg, xg_K_hie, xg_K_htval, xg_K_hvip, xg_K_htinst, xg_K_hgatp, xg_K_time, xg_K_alarm, xg_K_lineOn, xg_S_status, xg_S_ie, xg_S_tvec, xg_S_scratch, xg_S_epc, xg_S_cause, xg_S_tval, xg_S_ip, xg_S_atp, xg_V_status, xg_V_ie, xg_V_tvec, xg_V_scratch, xg_V_epc, xg_V_cause, xg_V_tval, xg_V_ip, xg_V_atp, xg_P_cause, xg_P_tval, xg_P_guest, xg_P_inst, xg_P_asGuest, xg_P_interruptForVs, xs_C_consoleSize, xs_C_pc, xs_C_mode, xs_C_off, xs_C_trapsToS, xs_C_trapsToVs, xs_C_interrupts, xs_C_next, xs_C_word, xs_x, xs_K_hstatus, xs_K_hedeleg, xs_K_hideleg, xs_K_hie, xs_K_htval, xs_K_hvip, xs_K_htinst, xs_K_hgatp, xs_K_time, xs_K_alarm, xs_K_lineOn, xs_S_status, xs_S_ie, xs_S_tvec, xs_S_scratch, xs_S_epc, xs_S_cause, xs_S_tval, xs_S_ip, xs_S_atp, xs_V_status, xs_V_ie, xs_V_tvec, xs_V_scratch, xs_V_epc, xs_V_cause, xs_V_tval, xs_V_ip, xs_V_atp, xs_P_cause, xs_P_tval, xs_P_guest, xs_P_inst, xs_P_asGuest, xs_P_interruptForVs, xg_M, xg_S, xg_V, xg_P, xs_M1, xs_M2, xs_M, xs_S, xs_V, yxZof, yxctl]
theorem yw_pc (u : XH) (w : Int32) : xg_C_pc (xs_C_word u w) = xg_C_pc u := by
  obtain ⟨⟨c1, c2, c3, c4, c5, c6, c7, c8, c9⟩, x, ⟨k1, k2, k3, k4, k5, k6, k7, k8, k9, k10, k11⟩, ⟨s1, s2, s3, s4, s5, s6, s7, s8, s9⟩, ⟨v1, v2, v3, v4, v5, v6, v7, v8, v9⟩, ⟨p1, p2, p3, p4, p5, p6⟩, ⟨⟨ym1, m2, m3⟩, ⟨n1, n2, n3⟩⟩⟩ := u
  simp only [xg_C_consoleSize, xg_C_pc, xg_C_mode, xg_C_off, xg_C_trapsToS, xg_C_trapsToVs, xg_C_interrupts, xg_C_next, xg_C_word, xg_x, xg_K_hstatus, xg_K_hedeleg, xg_K_hideleg, xg_K_hie, xg_K_htval, xg_K_hvip, xg_K_htinst, xg_K_hgatp, xg_K_time, xg_K_alarm, xg_K_lineOn, xg_S_status, xg_S_ie, xg_S_tvec, xg_S_scratch, xg_S_epc, xg_S_cause, xg_S_tval, xg_S_ip, xg_S_atp, xg_V_status, xg_V_ie, xg_V_tvec, xg_V_scratch, xg_V_epc, xg_V_cause, xg_V_tval, xg_V_ip, xg_V_atp, xg_P_cause, xg_P_tval, xg_P_guest, xg_P_inst, xg_P_asGuest, xg_P_interruptForVs, xs_C_consoleSize, xs_C_pc, xs_C_mode, xs_C_off, xs_C_trapsToS, xs_C_trapsToVs, xs_C_interrupts, xs_C_next, xs_C_word, xs_x, xs_K_hstatus, xs_K_hedeleg, xs_K_hideleg, xs_K_hie, xs_K_htval, xs_K_hvip, xs_K_htinst, xs_K_hgatp, xs_K_time, xs_K_alarm, xs_K_lineOn, xs_S_status, xs_S_ie, xs_S_tvec, xs_S_scratch, xs_S_epc, xs_S_cause, xs_S_tval, xs_S_ip, xs_S_atp, xs_V_status, xs_V_ie, xs_V_tvec, xs_V_scratch, xs_V_epc, xs_V_cause, xs_V_tval, xs_V_ip, xs_V_atp, xs_P_cause, xs_P_tval, xs_P_guest, xs_P_inst, xs_P_asGuest, xs_P_interruptForVs, xg_M, xg_S, xg_V, xg_P, xs_M1, xs_M2, xs_M, xs_S, xs_V, yxZof, yxctl]
/-- the step of both, where nothing is due -/
def yxP0 : XP := (-1, 0, 0, 0, false, false)
noncomputable def ycF (u : XH) (c : XZ) : XZ := xf_Z_asMode c 0 (xz (yxmV (xg_C_mode u))) (xz (!yxmS (xg_C_mode u))) 0
theorem yfin_ok {u3 : XH} {c3 : XZ} (hg : yxG u3 c3) (h1 : xg_P_cause u3 = -1) (h2 : xg_Z_next c3 = xg_C_next u3) (h3 : xg_C_next u3 &&& 3 = 0) : xs_Z_time (xs_Z_pc (yxZof u3 c3) (xg_Z_next (yxZof u3 c3))) (xg_Z_time (xs_Z_pc (yxZof u3 c3) (xg_Z_next (yxZof u3 c3))) + 1) = yxZof (xf_C_endStep u3) c3 ∧ yxG (xf_C_endStep u3) c3 := by
  have e : xf_C_endStep u3 = xs_K_time (xs_C_pc u3 (xg_C_next u3)) (xg_K_time (xs_C_pc u3 (xg_C_next u3)) + 1) := by
    unfold xf_C_endStep; rw [yxlt_d, if_pos h1]
  rw [e, yzg_next, h2, yzs_pc, yzg_time, yzs_time]
  exact ⟨rfl, ygu_K_time (ygu_C_pc hg h3)⟩
theorem yfin_bad {u3 : XH} {c3 : XZ} (hg : yxG u3 c3) (hb : yxBad u3 c3) : xs_Z_time (xf_Z_trap (yxZof u3 c3)) (xg_Z_time (xf_Z_trap (yxZof u3 c3)) + 1) = yxZof (xf_C_endStep u3) c3 ∧ yxG (xf_C_endStep u3) c3 := by
  have hn : ¬ xg_P_cause u3 = -1 := fun hh => by have := hb.1; rw [hh] at this; exact absurd this (by decide)
  rw [yendS u3 hn, yz_trap hg.1.1 hb, yzg_time, yzs_time]
  exact ⟨rfl, ygu_K_time (yg_take hg (ycOk_pos hb.1))⟩
theorem ystep_N {u : XH} {c : XZ} (hg : yxG u c) (h1 : xf_K_dueForS u (xg_C_mode u) = -1) (h2 : xf_K_dueForVs u (xg_C_mode u) = -1) : ∃ c', xf_Z_step (yxZof u c) = yxZof (xstepH u) c' ∧ yxG (xstepH u) c' ∧ xv_Z_step (yxZof u c) := by
  have hd := yz_due hg.1 c
  rw [if_pos h1, if_pos h2] at hd
  have hgF : yxG (xs_P u yxP0) (ycF u c) := ygu_P (yg_con hg (yam_console _ _ _ _ _)) _
  have k1 : xg_Z_kind (ycF u c) = ykOf 0 := by unfold ycF; rw [yam_kind]; rfl
  have k2 : xg_Z_executes (ycF u c) = decide (0 = 2) := by unfold ycF; rw [yam_executes]; rfl
  have k3 : xg_Z_user (ycF u c) = !yxmS (xg_C_mode u) := by unfold ycF; rw [yam_user, yxb_xz]
  have k4 : xg_Z_virtual (ycF u c) = yxmV (xg_C_mode u) := by unfold ycF; rw [yam_virtual, yxb_xz]
  have hpc : xg_C_pc u &&& 3 = 0 := hg.1.2.1
  have hal : (xg_C_pc u &&& (((1 : Int32) <<< ((2 : Int32) &&& 31)) - (1 : Int32))) = 0 := by rw [show (1 : Int32) <<< ((2 : Int32) &&& 31) - 1 = 3 by decide]; exact hpc
  have ht := ytransl (u := xs_P u yxP0) hgF.1 (ycF u c) (xg_C_pc u) 2 4 (p := 0) (by decide) (m := xg_C_mode u) hg.1.1 k1 k2 k3 k4 (by rw [yP_mode, yP_asG]; simp [yxP0]) (by rw [yP_guest]; rfl) (by rw [yP_inst]; rfl) (fun _ => hal) (fun hh => absurd rfl hh)
  have hvl := yv_lead (u := xs_P u yxP0) hgF.1 (ycF u c) (xg_C_pc u) 4 (p := 0) (by decide) (m := xg_C_mode u) k1 k2 k3 (by decide)
  rw [yz_P] at ht hvl
  -- the class's start
  have hst : xf_C_startStep u = (xlt (xf_T_translate (xs_P u yxP0) (xg_C_pc u) 2 0 (xg_C_mode u) : Int32 × XH) fun q4 => if 0 ≤ q4.1 then (xlt (xf_M_readWord 64 (xg_M q4.2).1 q4.1 : Int32 × XM1) fun q7 => (1, (xs_C_next (xs_C_word (xs_M1 q4.2 q7.2) q7.1) ((xg_C_pc (xs_C_word (xs_M1 q4.2 q7.2) q7.1)) + (4 : Int32))))) else (0, q4.2)) := by
    unfold xf_C_startStep xf_C_interrupted
    simp only [yxlt_d, yclear_e, yP_mode, yP_dS, yP_dV, h1, h2, if_true, yP_pc]
    rfl
  have hfe : xf_Z_fetchAndPerform (yxZof u c) = (xlt (xf_Z_lead (yxZof u (ycF u c)) (xg_C_pc u) 4) fun q8 => (if lg_cmp q8.1 0 < 0 then 0 else (if (xf_Z_perform q8.2 (xf_Z_word q8.2 q8.1)).1 = 0 then 0 else 1), if lg_cmp q8.1 0 < 0 then q8.2 else (xf_Z_perform q8.2 (xf_Z_word q8.2 q8.1)).2)) := by
    unfold xf_Z_fetchAndPerform
    simp only [yxlt_d, yz_isV, yzg_mode, yus_e hg.1.1, yz_am, yzg_pc, ite_self]
    rfl
  have hvf : xv_Z_fetchAndPerform (yxZof u c) → xv_Z_step (yxZof u c) := by
    intro h
    unfold xv_Z_step
    rw [hd]
    refine ⟨⟨yv_due _, ?_, trivial⟩, trivial⟩
    rw [if_pos (by decide)]
    refine ⟨h, ?_⟩
    generalize xf_Z_fetchAndPerform (yxZof u c) = q
    rw [yxlt_d]
    by_cases e : q.1 = 0
    · rw [if_pos e]; exact ⟨yv_trap _, trivial⟩
    · rw [if_neg e]; trivial
  have hvg : ∀ q8 : Int64 × XZ, q8 = xf_Z_lead (yxZof u (ycF u c)) (xg_C_pc u) 4 → (if lg_cmp q8.1 0 < 0 then True else (xv_Z_word q8.2 q8.1 ∧ xv_Z_perform q8.2 (xf_Z_word q8.2 q8.1))) → xv_Z_fetchAndPerform (yxZof u c) := by
    intro q8 hq hv
    unfold xv_Z_fetchAndPerform
    simp only [yz_isV, yzg_mode]
    rw [yxlt_d, yxlt_d, yus_e hg.1.1]
    refine ⟨⟨yv_am _ _ _ _ false, ?_⟩, trivial⟩
    rw [yxlt_d, yz_am, yzg_pc]
    refine ⟨hvl, ?_⟩
    have hq' : xf_Z_lead (yxZof u (xf_Z_asMode c 0 (xz (yxmV (xg_C_mode u))) (xz (!yxmS (xg_C_mode u))) 0)) (xg_C_pc u) 4 = q8 := hq.symm
    rw [hq', yxlt_d]
    refine ⟨?_, trivial⟩
    by_cases e : lg_cmp q8.1 0 < 0
    · rw [if_pos e]; trivial
    · rw [if_neg e] at hv ⊢
      exact ⟨hv.1, hv.2, yitr _⟩
  have hsz : xf_Z_step (yxZof u c) = (xlt (xf_Z_fetchAndPerform (yxZof u c)) fun q4 => xs_Z_time (if q4.1 = 0 then xf_Z_trap q4.2 else xs_Z_pc q4.2 (xg_Z_next q4.2)) (xg_Z_time (if q4.1 = 0 then xf_Z_trap q4.2 else xs_Z_pc q4.2 (xg_Z_next q4.2)) + 1)) := by
    unfold xf_Z_step
    rw [hd]
    simp only [yxlt_d, show (-1 : Int32) < 0 by decide, if_true]
  rcases ht with ⟨n, hn, hn4, e1, e2⟩ | ⟨k, P, c', e1, hk0, e2, hb, hc⟩
  · -- an instruction is there
    have hge := yll_ge0 (n := n) (by omega)
    have hnl : ¬ lg_cmp (yll n) 0 < 0 := fun hh => absurd (Int32.lt_iff_toInt_lt.mp hh) (by have := Int32.le_iff_toInt_le.mp hge; omega)
    have hst2 : xf_C_startStep u = (1, xs_C_next (xs_C_word (xs_P u yxP0) (yrdM (xs_P u yxP0) n)) (xg_C_pc u + 4)) := by
      rw [hst, yxlt_d, e1, if_pos (yi32_n hn), yxlt_d, yt_rd (xs_P u yxP0) hn]
      simp only [yxsM1_self, yw_pc, yP_pc]
    have hpre : yxPre (xs_C_next (xs_C_word (xs_P u yxP0) (yrdM (xs_P u yxP0) n)) (xg_C_pc u + 4)) (xs_Z_next (ycAd (ycF u c) (xg_C_pc u)) (xg_C_pc (xs_C_next (xs_C_word (xs_P u yxP0) (yrdM (xs_P u yxP0) n)) (xg_C_pc u + 4)) + 4)) := by
      refine ⟨ygc_next (ygu_nw (yg_con hgF (yad_c _ _)) _ _), ynw_P _ _ _ _, ?_, ?_⟩
      · rw [ynxt_x, ynw_pc, ynw_next]
      · rw [ynw_next, ynw_pc]
    have hR := yres_perform hpre (yrdM (xs_P u yxP0) n) (ynw_word _ _ _)
    have hV := yv_perform hpre (yrdM (xs_P u yxP0) n) (ynw_word _ _ _)
    have hxs : xstepH u = xf_C_endStep (xf_C_perform (xs_C_next (xs_C_word (xs_P u yxP0) (yrdM (xs_P u yxP0) n)) (xg_C_pc u + 4))) := by
      unfold xstepH
      rw [yxlt_d, hst2, if_neg (show ¬ (1 : Int32) = 0 by decide)]
    rw [yz_nw] at hR hV
    have hxw : xf_Z_word (yxZof (xs_P u yxP0) (ycAd (ycF u c) (xg_C_pc u))) (yll n) = yrdM (xs_P u yxP0) n := yz_word _ _ hn
    rw [hxs]
    generalize xf_C_perform (xs_C_next (xs_C_word (xs_P u yxP0) (yrdM (xs_P u yxP0) n)) (xg_C_pc u + 4)) = u3 at *
    have hvs : xv_Z_step (yxZof u c) := hvf (hvg _ rfl (by
      rw [e2, if_neg hnl]
      refine ⟨yv_word _ hn, ?_⟩
      rw [hxw]; exact hV))
    rw [hfe, yxlt_d (xf_Z_lead (yxZof u (ycF u c)) (xg_C_pc u) 4), e2] at hsz
    simp only [if_neg hnl, hxw] at hsz
    generalize xf_Z_perform (yxZof (xs_P u yxP0) (ycAd (ycF u c) (xg_C_pc u))) (yrdM (xs_P u yxP0) n) = R at *
    obtain ⟨c3, e3, hg3, hor⟩ := hR
    refine ⟨c3, ?_, ?_, hvs⟩
    · rw [hsz, yxlt_d, e3]
      rcases hor with ⟨r1, q1, q2, q3⟩ | ⟨r1, q1⟩
      · rw [r1, if_neg (show ¬ (if (1 : Int32) = 0 then (0 : Int32) else 1) = 0 by decide)]
        exact (yfin_ok hg3 q1 q2 q3).1
      · rw [r1, if_pos (show (if (0 : Int32) = 0 then (0 : Int32) else 1) = 0 by decide)]
        exact (yfin_bad hg3 q1).1
    · rcases hor with ⟨r1, q1, q2, q3⟩ | ⟨r1, q1⟩
      · exact (yfin_ok hg3 q1 q2 q3).2
      · exact (yfin_bad hg3 q1).2
  · -- nothing is there
    have hst2 : xf_C_startStep u = (0, xs_P (xs_P u yxP0) P) := by
      rw [hst, yxlt_d, e1, if_neg hk0]
    have hxs : xstepH u = xf_C_endStep (xs_P (xs_P u yxP0) P) := by
      unfold xstepH
      rw [yxlt_d, hst2, if_pos rfl]
    have hg3 : yxG (xs_P (xs_P u yxP0) P) c' := ygu_P (yg_con hgF hc) P
    have hneg : lg_cmp (-1) 0 < 0 := by decide
    have hvs : xv_Z_step (yxZof u c) := hvf (hvg _ rfl (by rw [e2, if_pos hneg]; trivial))
    rw [hfe, yxlt_d (xf_Z_lead (yxZof u (ycF u c)) (xg_C_pc u) 4), e2] at hsz
    simp only [if_pos hneg] at hsz
    refine ⟨c', ?_, ?_, hvs⟩
    · rw [hsz, yxlt_d, hxs]
      simp only [if_true]
      exact (yfin_bad hg3 hb).1
    · rw [hxs]; exact (yfin_bad hg3 hb).2
/-- ONE STEP OF BOTH -/
theorem ystep_all {u : XH} {c : XZ} (hg : yxG u c) : ∃ c', xf_Z_step (yxZof u c) = yxZof (xstepH u) c' ∧ yxG (xstepH u) c' ∧ xv_Z_step (yxZof u c) := by
  by_cases h1 : xf_K_dueForS u (xg_C_mode u) = -1
  · by_cases h2 : xf_K_dueForVs u (xg_C_mode u) = -1
    · exact ystep_N hg h1 h2
    · exact ⟨c, ystep_V hg h1 h2⟩
  · exact ⟨c, ystep_S hg h1⟩
theorem yrun_all : ∀ (n : Nat) (d : Int32) (u : XH) (c : XZ), yxG u c → ∃ c', xrunZ n d (yxZof u c) = ((xrunH n d u).1, yxZof (xrunH n d u).2 c') ∧ yxG (xrunH n d u).2 c' ∧ xvrunZ n (yxZof u c) := by
  intro n
  induction n with
  | zero => intro d u c hg; exact ⟨c, rfl, hg, ⟨trivial, trivial⟩⟩
  | succ n ih =>
    intro d u c hg
    obtain ⟨c1, e1, hg1, hv1⟩ := ystep_all hg
    obtain ⟨c2, e2, hg2, hv2⟩ := ih (d + 1) (xstepH u) c1 hg1
    unfold xrunZ xrunH xvrunZ
    rw [yzg_off]
    by_cases ho : xz (xg_C_off u) = 0
    · rw [if_pos ho, if_pos ho, if_pos ho, e1]
      exact ⟨c2, e2, hg2, ⟨⟨hv1, hv2⟩, trivial⟩⟩
    · rw [if_neg ho, if_neg ho, if_neg ho]
      exact ⟨c, rfl, hg, ⟨trivial, trivial⟩⟩
theorem yr_run {u : XH} {v : XZ} (h : yxRel u v) (p : Int32) : (xf_H_run u p).1 = (xf_Z_run v p).1 ∧ yxRel (xf_H_run u p).2 (xf_Z_run v p).2 ∧ (¬ xf_Z_isIn p 0 2000 = 0 → xvrunZ p.toNatClampNeg v) := by
  obtain ⟨c, rfl, hg⟩ := h
  obtain ⟨c1, e1, hg1, hv1⟩ := yrun_all p.toNatClampNeg 0 u c hg
  unfold xf_H_run xf_Z_run
  have hin := yisIn0 p 0 2000
  have hle : p ≤ 2000 ↔ ¬ 2000 < p := by rw [Int32.lt_iff_toInt_lt, Int32.le_iff_toInt_le]; omega
  by_cases h0 : p < 0
  · rw [if_pos h0, if_pos (hin.mpr (Or.inl h0))]
    exact ⟨rfl, ⟨c, rfl, hg⟩, fun _ => hv1⟩
  · rw [if_neg h0]
    by_cases h1 : p ≤ 2000
    · have hn : ¬ xf_Z_isIn p 0 2000 = 0 := fun hh => by
        rcases hin.mp hh with h | h
        · exact h0 h
        · exact hle.mp h1 h
      rw [if_pos h1, if_neg hn, e1]
      exact ⟨rfl, ⟨c1, rfl, hg1⟩, fun _ => hv1⟩
    · rw [if_neg h1, if_pos (hin.mpr (Or.inr (Decidable.byContradiction (fun hh => h1 (hle.mpr hh)))))]
      exact ⟨rfl, ⟨c, rfl, hg⟩, fun _ => hv1⟩
