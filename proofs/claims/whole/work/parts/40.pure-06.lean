theorem yany_e {p : Nat} (hp : p < 4) (b : Bool) : xf_A_anyWith p (xz b) = ycAny p b := by
  unfold xf_A_anyWith ycAny
  rw [yxlt_d]
  have hp4 : p = 0 ∨ p = 1 ∨ p = 2 ∨ p = 3 := by omega
  rcases hp4 with h | h | h | h <;> subst h <;> cases b <;> decide
theorem yall_e {p : Nat} (hp : p < 4) (b : Bool) : (if xz b = 0 then (((List.getD [65, 65, 65, 193] p 0) ||| (16 : Int32))) else ((List.getD [65, 65, 65, 193] p 0)) : Int32) = ycAll p (!b) := by
  unfold ycAll
  have hp4 : p = 0 ∨ p = 1 ∨ p = 2 ∨ p = 3 := by omega
  rcases hp4 with h | h | h | h <;> subst h <;> cases b <;> decide
theorem yall_t {p : Nat} (hp : p < 4) : ((List.getD [65, 65, 65, 193] p 0) ||| (16 : Int32)) = ycAll p true := by
  unfold ycAll
  have hp4 : p = 0 ∨ p = 1 ∨ p = 2 ∨ p = 3 := by omega
  rcases hp4 with h | h | h | h <;> subst h <;> decide
theorem ynone_e (p : Nat) (s sm : Bool) : (if xz s = 0 then (0 : Int32) else (if (if p = 0 then (0 : Int32) else xz sm) = 0 then 16 else 0)) = ycNone p (!s) sm := by
  unfold ycNone
  by_cases h : p = 0 <;> cases s <;> cases sm <;> simp [h, xz]
theorem ybit_e (x m : Int32) (k : Nat) (h : ypw m k) : (if x &&& m = 0 then (0 : Int32) else 1) = xz (ybt x k) := by
  rw [yifn, show decide (x &&& m = 0) = !ybt x k by rw [Bool.eq_iff_iff, decide_eq_true_eq, ypw_z h]; simp]; simp
/-- where the class's translation leads -/
noncomputable def ytPl (u : XH) (a : Int32) (p : Nat) (m : Int32) : Int64 × XH :=
  if yxmV m then
    xlt (xf_T_firstStage u (yll (ynn a)) (ycAny p (ybt (xg_V_status u) 19 || ybt (xg_S_status u) 19)) (ycAll p (!yxmS m)) (ycNone p (!yxmS m) (ybt (xg_V_status u) 18))) fun f =>
    if lg_cmp f.1 0 < 0 then f else xf_T_secondStage f.2 f.1 p
  else xf_T_walk u (xg_S_atp u) (yll (ynn a)) (ycAny p (ybt (xg_S_status u) 19)) (ycAll p (!yxmS m)) (ycNone p (!yxmS m) (ybt (xg_S_status u) 18))
theorem yite_fst {α β : Type} (p : Prop) [Decidable p] (a b : α × β) : (if p then a.1 else b.1) = (if p then a else b).1 := by by_cases h : p <;> simp [h]
theorem yite_snd {α β : Type} (p : Prop) [Decidable p] (a b : α × β) : (if p then a.2 else b.2) = (if p then a else b).2 := by by_cases h : p <;> simp [h]
theorem yt_trans (u : XH) (a w : Int32) {p : Nat} (hp : p < 4) {m : Int32} (hm : ym4 m) (hal : (a &&& (((1 : Int32) <<< (w &&& 31)) - (1 : Int32))) = 0) : xf_T_translate u a w p m = (Int64.toInt32 (ytPl u a p m).1, if 0 ≤ lg_cmp (ytPl u a p m).1 0 then (ytPl u a p m).2 else xf_P_raise (ytPl u a p m).2 (xf_A_causeOf p (ytPl u a p m).1) a) := by
  unfold xf_T_translate ytPl
  rw [if_pos hal, yxlt_d, yh_isV]
  cases hv : yxmV m
  · rw [if_pos (by decide)]
    simp only [yh_isS hm, Int32.or_self, ybit_e _ 524288 19 ⟨by decide, by decide⟩, ybit_e _ 262144 18 ⟨by decide, by decide⟩, yi64_lo, yxlt_d, yany_e hp, yall_e hp, ynone_e, Bool.false_eq_true, if_false, show xz false = 0 from rfl, if_true]
  · rw [if_neg (by decide)]
    simp only [yh_isS hm, ybit_e _ 524288 19 ⟨by decide, by decide⟩, ybit_e _ 262144 18 ⟨by decide, by decide⟩, yi64_lo, yxlt_d, yany_e hp, yall_e hp, ynone_e, ybt_or, if_true, show ¬ xz true = 0 by decide, if_false]
    generalize xf_T_firstStage u (yll (ynn a)) (ycAny p (ybt (xg_V_status u) 19 || ybt (xg_S_status u) 19)) (ycAll p (!yxmS m)) (ycNone p (!yxmS m) (ybt (xg_V_status u) 18)) = f
    by_cases h : lg_cmp f.1 0 < 0
    · simp only [if_pos h]
    · simp only [if_neg h]
theorem yt_second (u : XH) {A : Nat} (hA : A < 17179869184) {p : Nat} (hp : p < 4) : ∃ r, (r = -1 ∨ r = -3 ∨ ∃ n, n < 262144 ∧ r = yll n) ∧ yW2 u p A = r ∧ xf_T_secondStage u (yll A) p = (if r = -1 then (-2, ygst u A 0) else (r, u)) := by
  refine ⟨yW2 u p A, @ywk_v u (xg_K_hgatp u) A _ (fun _ _ => Classical.propDecidable _), rfl, ?_⟩
  unfold xf_T_secondStage
  simp only [ybit_e _ 524288 19 ⟨by decide, by decide⟩, yxlt_d, yany_e hp, yall_t hp, yt_w2 u hA p]
  rcases @ywk_v u (xg_K_hgatp u) A (yokC (ycAny p (ybt (xg_S_status u) 19)) (ycAll p true) 0) (fun _ _ => Classical.propDecidable _) with h | h | ⟨n, hn, h⟩
  · have h' : yW2 u p A = -1 := h
    simp only [h', if_neg ym1_lt0, ygv1, if_true]
  · have h' : yW2 u p A = -3 := h
    simp only [h', if_neg ym3_lt0, ygv3, show ¬ (-3 : Int64) = -1 by decide, if_false]
  · have h' : yW2 u p A = yll n := h
    simp only [h', if_pos (yll_ge0 (show n < 9223372036854775808 by omega)), if_neg (yll_neg1 (show n < 9223372036854775808 by omega))]
theorem ywk_v4 (u : XH) (atp : Int32) (A : Nat) (f : Int32 → Nat → Prop) [∀ e l, Decidable (f e l)] : ywk u atp A f = -1 ∨ ywk u atp A f = -3 ∨ ∃ n, n < 262144 ∧ ywk u atp A f = yll n ∧ n % 4 = A % 4 := by
  have hin : ∀ n, n % 4 = A % 4 → yinN n = -1 ∨ yinN n = -3 ∨ ∃ m, m < 262144 ∧ yinN n = yll m ∧ m % 4 = A % 4 := by
    intro n h4; unfold yinN
    by_cases h : n < 262144
    · rw [if_pos h]; exact Or.inr (Or.inr ⟨n, h, rfl, h4⟩)
    · rw [if_neg h]; exact Or.inr (Or.inl rfl)
  unfold ywk
  repeat' split
  all_goals first | exact hin _ (ynRes4 _ _ _) | exact hin _ rfl | exact Or.inl rfl | exact Or.inr (Or.inl rfl)
/-- where the reference's translation leads -/
noncomputable def yzPl (v : XZ) (a : Int32) : Int64 × XZ :=
  if xz (xg_Z_virtual v) = 0 then
    (if xf_Z_bit v 384 31 = 0 then xf_Z_inMemory v (yll (ynn a)) else xf_Z_walk_0 v (((Int32.toInt64 (xf_Z_value v 384)) &&& (4194303 : Int64)) * (4096 : Int64)) (yll (ynn a)) 0)
  else
    xlt (if xf_Z_bit v 640 31 = 0 then (yll (ynn a), v) else xf_Z_walk_1 v (((Int32.toInt64 (xf_Z_value v 640)) &&& (4194303 : Int64)) * (4096 : Int64)) (yll (ynn a)) 0) fun f =>
    if 0 ≤ lg_cmp f.1 0 then xf_Z_second f.2 f.1 0 else (-1, f.2)
def ycAd (c : XZ) (a : Int32) : XZ := xs_Z_asGuest (xs_Z_address c a) (xg_Z_virtual c)
theorem yad_k (c : XZ) (a : Int32) : xg_Z_kind (ycAd c a) = xg_Z_kind c := (Eq.refl _).trans (Eq.refl _)
theorem yad_v (c : XZ) (a : Int32) : xg_Z_virtual (ycAd c a) = xg_Z_virtual c := (Eq.refl _).trans (Eq.refl _)
theorem yad_u (c : XZ) (a : Int32) : xg_Z_user (ycAd c a) = xg_Z_user c := (Eq.refl _).trans (Eq.refl _)
theorem yad_x (c : XZ) (a : Int32) : xg_Z_executes (ycAd c a) = xg_Z_executes c := (Eq.refl _).trans (Eq.refl _)
theorem yad_a (c : XZ) (a : Int32) : xg_Z_address (ycAd c a) = a := (Eq.refl _).trans (Eq.refl _)
theorem yad_g (c : XZ) (a : Int32) : xg_Z_asGuest (ycAd c a) = xg_Z_virtual c := (Eq.refl _).trans (Eq.refl _)
theorem yad_v2 (c : XZ) (a : Int32) : xg_Z_virtual (xs_Z_address c a) = xg_Z_virtual c := (Eq.refl _).trans (Eq.refl _)
theorem yad_e (u : XH) (c : XZ) (a : Int32) : xs_Z_asGuest (xs_Z_address (yxZof u c) a) (xb (xz (xg_Z_virtual (xs_Z_address (yxZof u c) a)))) = yxZof u (ycAd c a) := by
  rw [yzs_address, yzg_virtual, yxb_xz, yzs_asGuest, yad_v2]; rfl
theorem yprod_eta {α β : Type} (a : α × β) : (a.1, a.2) = a := rfl
theorem yz_lead_f (u : XH) (c : XZ) (a size : Int32) (hk : xg_Z_kind c = 0) : xf_Z_lead (yxZof u c) a size = yzPl (yxZof u (ycAd c a)) a := by
  unfold xf_Z_lead yzPl
  simp only [yad_e]
  rw [yzg_kind, yad_k, if_pos hk]
  simp only [yi64_lo, yxlt_d, yite_fst, yite_snd]
  by_cases h1 : xz (xg_Z_virtual (yxZof u (ycAd c a))) = 0
  · rw [if_pos h1, if_pos h1]
  · rw [if_neg h1, if_neg h1]
    by_cases h2 : xf_Z_bit (yxZof u (ycAd c a)) 640 31 = 0
    · simp only [if_pos h2]
      by_cases h3 : 0 ≤ lg_cmp (yll (ynn a)) 0
      · simp only [if_pos h3]
      · simp only [if_neg h3]
    · simp only [if_neg h2]
      by_cases h3 : 0 ≤ lg_cmp (xf_Z_walk_1 (yxZof u (ycAd c a)) (((Int32.toInt64 (xf_Z_value (yxZof u (ycAd c a)) 640)) &&& (4194303 : Int64)) * (4096 : Int64)) (yll (ynn a)) 0).1 0
      · simp only [if_pos h3]
      · simp only [if_neg h3]
theorem yz_lead_l (u : XH) (c : XZ) (a size : Int32) (hk : ¬ xg_Z_kind c = 0) (hal : (a - a / size * size) = 0) : xf_Z_lead (yxZof u c) a size = yzPl (yxZof u (ycAd c a)) a := by
  unfold xf_Z_lead yzPl
  simp only [yad_e]
  rw [yzg_kind, yad_k, if_neg hk, if_pos hal]
  simp only [yi64_lo, yxlt_d, yite_fst, yite_snd]
  by_cases h1 : xz (xg_Z_virtual (yxZof u (ycAd c a))) = 0
  · rw [if_pos h1, if_pos h1]
  · rw [if_neg h1, if_neg h1]
    by_cases h2 : xf_Z_bit (yxZof u (ycAd c a)) 640 31 = 0
    · simp only [if_pos h2]
      by_cases h3 : 0 ≤ lg_cmp (yll (ynn a)) 0
      · simp only [if_pos h3]
      · simp only [if_neg h3]
    · simp only [if_neg h2]
      by_cases h3 : 0 ≤ lg_cmp (xf_Z_walk_1 (yxZof u (ycAd c a)) (((Int32.toInt64 (xf_Z_value (yxZof u (ycAd c a)) 640)) &&& (4194303 : Int64)) * (4096 : Int64)) (yll (ynn a)) 0).1 0
      · simp only [if_pos h3]
      · simp only [if_neg h3]
theorem yz_lead_m (u : XH) (c : XZ) (a size : Int32) (hk : ¬ xg_Z_kind c = 0) (hal : ¬ (a - a / size * size) = 0) : xf_Z_lead (yxZof u c) a size = (-1, yxZof u (xf_Z_fails (ycAd c a) (if xg_Z_kind c = 1 then 4 else 6) a (xz (xg_Z_virtual c))).2) := by
  unfold xf_Z_lead
  simp only [yad_e]
  rw [yzg_kind, yad_k, if_neg hk, if_neg hal, yxlt_d, yxlt_d, yz_fails, yzg_asGuest, yad_g]
set_option maxHeartbeats 1000000 in
theorem yplaces {u : XH} (hi : yxInv u) (c : XZ) (a : Int32) {p : Nat} (hp : p < 4) {m : Int32} (hm : ym4 m) (hk : xg_Z_kind c = ykOf p) (hx : xg_Z_executes c = decide (p = 2)) (hus : xg_Z_user c = !yxmS m) (hvt : xg_Z_virtual c = yxmV m) :
    ∃ r g ent s, g < 17179869184 ∧ (ent = 0 ∨ ent = 1) ∧ (s = 0 ∨ s = 1) ∧ yokR r (ynn a) 262144 ∧ ytPl u a p m = youtC r g ent u ∧ yzPl (yxZof u c) a = youtZ r g ent u c s (ynn a) := by
  have hA : ynn a < 4294967296 := ynn_lt a
  have hA2 : ynn a < 17179869184 := by omega
  unfold ytPl yzPl
  rw [yzg_virtual, hvt]
  cases hv : yxmV m
  · rw [if_neg (by decide), if_pos (by decide)]
    have d1 : ∀ e l, Decidable (yokC (ycAny p (ybt (xg_S_status u) 19)) (ycAll p (!yxmS m)) (ycNone p (!yxmS m) (ybt (xg_S_status u) 18)) e l) := fun _ _ => Classical.propDecidable _
    have d2 : ∀ e l, Decidable (yokZ (yxZof u c) 0 0 e l) := fun _ _ => Classical.propDecidable _
    rw [yt_walk u (xg_S_atp u) hA2]
    have hok : ∀ e l, ¬ e &&& 14 = 0 → (yokC (ycAny p (ybt (xg_S_status u) 19)) (ycAll p (!yxmS m)) (ycNone p (!yxmS m) (ybt (xg_S_status u) 18)) e l ↔ yokZ (yxZof u c) 0 0 e l) := by
      intro e l h
      have := yok01 (yxZof u c) 0 (Or.inl rfl) p hp (by rw [yzg_kind]; exact hk) (by rw [yzg_executes]; exact hx) e l h
      rw [yzv_256, yzv_512, yzg_user, hus, if_neg (by decide), yzv_256] at this
      simpa using this
    have ez : (if xf_Z_bit (yxZof u c) 384 31 = 0 then xf_Z_inMemory (yxZof u c) (yll (ynn a)) else xf_Z_walk_0 (yxZof u c) (((Int32.toInt64 (xf_Z_value (yxZof u c) 384)) &&& (4194303 : Int64)) * (4096 : Int64)) (yll (ynn a)) 0) = yresZ (ywk u (xg_S_atp u) (ynn a) (yokC (ycAny p (ybt (xg_S_status u) 19)) (ycAll p (!yxmS m)) (ycNone p (!yxmS m) (ybt (xg_S_status u) 18)))) u c 0 (ynn a) 0 := by
      rw [yzbit _ 384 31 31 (by decide) (by decide), yzv_384]
      cases hb : ybt (xg_S_atp u) 31
      · have h0 := (ybt31f _).mp hb
        rw [if_pos (by decide)]
        have e : ywk u (xg_S_atp u) (ynn a) (yokC (ycAny p (ybt (xg_S_status u) 19)) (ycAll p (!yxmS m)) (ycNone p (!yxmS m) (ybt (xg_S_status u) 18))) = yinN (ynn a) := by unfold ywk; rw [if_neg h0]
        rw [e, ← yz_inN u c 0 (ynn a) 0 (by omega)]
      · have h0 := (ybt31 _).mp hb
        rw [if_neg (by decide), yroot_m, yz_walk0 u c (xg_S_atp u) h0 hA2 rfl 0, ywk_congr u (xg_S_atp u) (ynn a) _ _ hok]
    rw [ez]
    rcases ywk_v4 u (xg_S_atp u) (ynn a) (yokC (ycAny p (ybt (xg_S_status u) 19)) (ycAll p (!yxmS m)) (ycNone p (!yxmS m) (ybt (xg_S_status u) 18))) with h | h | ⟨n, hn, h, h4⟩
    · exact ⟨-1, 0, 0, 0, by decide, Or.inl rfl, Or.inl rfl, Or.inl rfl, by rw [h, youtC_1], by rw [h, yresZ_1, youtZ_1]⟩
    · exact ⟨-3, 0, 0, 0, by decide, Or.inl rfl, Or.inl rfl, Or.inr (Or.inr (Or.inl rfl)), by rw [h, youtC_3], by rw [h, yresZ_3, youtZ_3]⟩
    · exact ⟨yll n, 0, 0, 0, by decide, Or.inl rfl, Or.inl rfl, Or.inr (Or.inr (Or.inr ⟨n, hn, rfl, h4⟩)), by rw [h, youtC_n (by omega)], by rw [h, yresZ_n _ _ _ _ _ (by omega), youtZ_n (by omega)]⟩
  · rw [if_pos rfl, if_neg (by decide), yxlt_d, yxlt_d]
    have hok : ∀ e l, ¬ e &&& 14 = 0 → (yokC (ycAny p (ybt (xg_V_status u) 19 || ybt (xg_S_status u) 19)) (ycAll p (!yxmS m)) (ycNone p (!yxmS m) (ybt (xg_V_status u) 18)) e l ↔ yokZ (yxZof u c) 1 0 e l) := by
      intro e l h
      have := yok01 (yxZof u c) 1 (Or.inr rfl) p hp (by rw [yzg_kind]; exact hk) (by rw [yzg_executes]; exact hx) e l h
      rw [yzv_256, yzv_512, yzg_user, hus, if_pos rfl, yzv_512, Bool.or_comm] at this
      simpa using this
    -- the second stage behind a place
    have fin : ∀ A, A < 17179869184 → A % 4 = ynn a % 4 → ∃ r g ent s, g < 17179869184 ∧ (ent = 0 ∨ ent = 1) ∧ (s = 0 ∨ s = 1) ∧ yokR r (ynn a) 262144 ∧ xf_T_secondStage u (yll A) p = youtC r g ent u ∧ xf_Z_second (yxZof u c) (yll A) 0 = youtZ r g ent u c s (ynn a) := by
      intro A hAA hA4
      obtain ⟨r, hr, hw, hs⟩ := yt_second u hAA hp
      have hz := yz_sec0 hi c hAA p hp hk hx
      rw [hw] at hz
      have h4 := @ywk_v4 u (xg_K_hgatp u) A (yokC (ycAny p (ybt (xg_S_status u) 19)) (ycAll p true) 0) (fun _ _ => Classical.propDecidable _)
      have h4' : r = -1 ∨ r = -3 ∨ ∃ n, n < 262144 ∧ r = yll n ∧ n % 4 = A % 4 := by rw [← hw]; exact h4
      rcases h4' with h | h | ⟨n, hn, h, hn4⟩
      · subst h
        exact ⟨-2, A, 0, 0, hAA, Or.inl rfl, Or.inl rfl, Or.inr (Or.inl rfl), by rw [hs, if_pos rfl, youtC_2, if_pos rfl], by rw [hz, yresZ_1, youtZ_2]⟩
      · subst h
        exact ⟨-3, 0, 0, 0, by decide, Or.inl rfl, Or.inl rfl, Or.inr (Or.inr (Or.inl rfl)), by rw [hs, if_neg (by decide), youtC_3], by rw [hz, yresZ_3, youtZ_3]⟩
      · subst h
        exact ⟨yll n, 0, 0, 0, by decide, Or.inl rfl, Or.inl rfl, Or.inr (Or.inr (Or.inr ⟨n, hn, rfl, by omega⟩)), by rw [hs, if_neg (yll_neg1 (by omega)), youtC_n (by omega)], by rw [hz, yresZ_n _ _ _ _ _ (by omega), youtZ_n (by omega)]⟩
    rw [yzbit _ 640 31 31 (by decide) (by decide), yzv_640]
    cases hb : ybt (xg_V_atp u) 31
    · have h0 := (ybt31f _).mp hb
      rw [if_pos (show xz false = 0 from rfl)]
      have ef : xf_T_firstStage u (yll (ynn a)) (ycAny p (ybt (xg_V_status u) 19 || ybt (xg_S_status u) 19)) (ycAll p (!yxmS m)) (ycNone p (!yxmS m) (ybt (xg_V_status u) 18)) = (yll (ynn a), u) := by
        unfold xf_T_firstStage; rw [if_neg h0]
      rw [ef]
      have hge := yll_ge0 (n := ynn a) (by omega)
      rw [if_pos hge, if_neg (show ¬ lg_cmp (yll (ynn a)) 0 < 0 from fun hh => absurd (Int32.lt_iff_toInt_lt.mp hh) (by have := Int32.le_iff_toInt_le.mp hge; omega))]
      exact fin (ynn a) hA2 rfl
    · have h0 := (ybt31 _).mp hb
      rw [if_neg (show ¬ xz true = 0 by decide), yroot_m]
      obtain ⟨r, g, hg, hr, e1, e2⟩ := ystage1 hi c h0 hA _ _ _ hok
      rw [e1, e2]
      rcases hr with h | h | h | ⟨n, hn, h, hn4⟩
      · subst h
        refine ⟨-1, g, 1, 1, hg, Or.inr rfl, Or.inr rfl, Or.inl rfl, ?_, ?_⟩
        · rw [youtC_1, if_pos (show lg_cmp (-1) 0 < 0 by decide)]
        · rw [youtZ_1, if_neg ym1_lt0]
      · subst h
        refine ⟨-2, g, 1, 1, hg, Or.inr rfl, Or.inr rfl, Or.inr (Or.inl rfl), ?_, ?_⟩
        · rw [youtC_2, if_pos (show lg_cmp (-2) 0 < 0 by decide)]
        · rw [youtZ_2, if_neg ym1_lt0]
      · subst h
        refine ⟨-3, g, 1, 1, hg, Or.inr rfl, Or.inr rfl, Or.inr (Or.inr (Or.inl rfl)), ?_, ?_⟩
        · rw [youtC_3, if_pos (show lg_cmp (-3) 0 < 0 by decide)]
        · rw [youtZ_3, if_neg ym1_lt0]
      · subst h
        have hge := yll_ge0 (n := n) (by omega)
        rw [youtC_n (by omega), youtZ_n (by omega), if_pos hge, if_neg (show ¬ lg_cmp (yll n) 0 < 0 from fun hh => absurd (Int32.lt_iff_toInt_lt.mp hh) (by have := Int32.le_iff_toInt_le.mp hge; omega))]
        exact fin n hn hn4
theorem yfl_cause (c : XZ) (a b g : Int32) : xg_Z_cause (xf_Z_fails c a b g).2 = a := by
  obtain ⟨z1, z2, z3, z4, z5, z6, z7, z8, z9, z10, z11, z12, z13, z14, z15, z16, z17, z18, z19, z20, z21, z22, z23, z24, z25, z26, z27⟩ := c
  simp only [xf_Z_fails, xg_Z_memory, xg_Z_x, xg_Z_pc, xg_Z_mode, xg_Z_time, xg_Z_alarm, xg_Z_line, xg_Z_off, xg_Z_controls, xg_Z_console, xg_Z_printed, xg_Z_toS, xg_Z_toVs, xg_Z_interrupts, xg_Z_cause, xg_Z_wrong, xg_Z_ofGuest, xg_Z_far, xg_Z_ofEntry, xg_Z_kind, xg_Z_virtual, xg_Z_user, xg_Z_executes, xg_Z_address, xg_Z_asGuest, xg_Z_next, xg_Z_thrown, xs_Z_memory, xs_Z_x, xs_Z_pc, xs_Z_mode, xs_Z_time, xs_Z_alarm, xs_Z_line, xs_Z_off, xs_Z_controls, xs_Z_console, xs_Z_printed, xs_Z_toS, xs_Z_toVs, xs_Z_interrupts, xs_Z_cause, xs_Z_wrong, xs_Z_ofGuest, xs_Z_far, xs_Z_ofEntry, xs_Z_kind, xs_Z_virtual, xs_Z_user, xs_Z_executes, xs_Z_address, xs_Z_asGuest, xs_Z_next, xs_Z_thrown]
theorem yfl_wrong (c : XZ) (a b g : Int32) : xg_Z_wrong (xf_Z_fails c a b g).2 = b := by
  obtain ⟨z1, z2, z3, z4, z5, z6, z7, z8, z9, z10, z11, z12, z13, z14, z15, z16, z17, z18, z19, z20, z21, z22, z23, z24, z25, z26, z27⟩ := c
  simp only [xf_Z_fails, xg_Z_memory, xg_Z_x, xg_Z_pc, xg_Z_mode, xg_Z_time, xg_Z_alarm, xg_Z_line, xg_Z_off, xg_Z_controls, xg_Z_console, xg_Z_printed, xg_Z_toS, xg_Z_toVs, xg_Z_interrupts, xg_Z_cause, xg_Z_wrong, xg_Z_ofGuest, xg_Z_far, xg_Z_ofEntry, xg_Z_kind, xg_Z_virtual, xg_Z_user, xg_Z_executes, xg_Z_address, xg_Z_asGuest, xg_Z_next, xg_Z_thrown, xs_Z_memory, xs_Z_x, xs_Z_pc, xs_Z_mode, xs_Z_time, xs_Z_alarm, xs_Z_line, xs_Z_off, xs_Z_controls, xs_Z_console, xs_Z_printed, xs_Z_toS, xs_Z_toVs, xs_Z_interrupts, xs_Z_cause, xs_Z_wrong, xs_Z_ofGuest, xs_Z_far, xs_Z_ofEntry, xs_Z_kind, xs_Z_virtual, xs_Z_user, xs_Z_executes, xs_Z_address, xs_Z_asGuest, xs_Z_next, xs_Z_thrown]
theorem yfl_ofGuest (c : XZ) (a b g : Int32) : xg_Z_ofGuest (xf_Z_fails c a b g).2 = xb g := by
  obtain ⟨z1, z2, z3, z4, z5, z6, z7, z8, z9, z10, z11, z12, z13, z14, z15, z16, z17, z18, z19, z20, z21, z22, z23, z24, z25, z26, z27⟩ := c
  simp only [xf_Z_fails, xg_Z_memory, xg_Z_x, xg_Z_pc, xg_Z_mode, xg_Z_time, xg_Z_alarm, xg_Z_line, xg_Z_off, xg_Z_controls, xg_Z_console, xg_Z_printed, xg_Z_toS, xg_Z_toVs, xg_Z_interrupts, xg_Z_cause, xg_Z_wrong, xg_Z_ofGuest, xg_Z_far, xg_Z_ofEntry, xg_Z_kind, xg_Z_virtual, xg_Z_user, xg_Z_executes, xg_Z_address, xg_Z_asGuest, xg_Z_next, xg_Z_thrown, xs_Z_memory, xs_Z_x, xs_Z_pc, xs_Z_mode, xs_Z_time, xs_Z_alarm, xs_Z_line, xs_Z_off, xs_Z_controls, xs_Z_console, xs_Z_printed, xs_Z_toS, xs_Z_toVs, xs_Z_interrupts, xs_Z_cause, xs_Z_wrong, xs_Z_ofGuest, xs_Z_far, xs_Z_ofEntry, xs_Z_kind, xs_Z_virtual, xs_Z_user, xs_Z_executes, xs_Z_address, xs_Z_asGuest, xs_Z_next, xs_Z_thrown]
theorem yfl_far (c : XZ) (a b g : Int32) : xg_Z_far (xf_Z_fails c a b g).2 = 0 := by
  obtain ⟨z1, z2, z3, z4, z5, z6, z7, z8, z9, z10, z11, z12, z13, z14, z15, z16, z17, z18, z19, z20, z21, z22, z23, z24, z25, z26, z27⟩ := c
  simp only [xf_Z_fails, xg_Z_memory, xg_Z_x, xg_Z_pc, xg_Z_mode, xg_Z_time, xg_Z_alarm, xg_Z_line, xg_Z_off, xg_Z_controls, xg_Z_console, xg_Z_printed, xg_Z_toS, xg_Z_toVs, xg_Z_interrupts, xg_Z_cause, xg_Z_wrong, xg_Z_ofGuest, xg_Z_far, xg_Z_ofEntry, xg_Z_kind, xg_Z_virtual, xg_Z_user, xg_Z_executes, xg_Z_address, xg_Z_asGuest, xg_Z_next, xg_Z_thrown, xs_Z_memory, xs_Z_x, xs_Z_pc, xs_Z_mode, xs_Z_time, xs_Z_alarm, xs_Z_line, xs_Z_off, xs_Z_controls, xs_Z_console, xs_Z_printed, xs_Z_toS, xs_Z_toVs, xs_Z_interrupts, xs_Z_cause, xs_Z_wrong, xs_Z_ofGuest, xs_Z_far, xs_Z_ofEntry, xs_Z_kind, xs_Z_virtual, xs_Z_user, xs_Z_executes, xs_Z_address, xs_Z_asGuest, xs_Z_next, xs_Z_thrown]
theorem yfl_ofEntry (c : XZ) (a b g : Int32) : xg_Z_ofEntry (xf_Z_fails c a b g).2 = false := by
  obtain ⟨z1, z2, z3, z4, z5, z6, z7, z8, z9, z10, z11, z12, z13, z14, z15, z16, z17, z18, z19, z20, z21, z22, z23, z24, z25, z26, z27⟩ := c
  simp only [xf_Z_fails, xg_Z_memory, xg_Z_x, xg_Z_pc, xg_Z_mode, xg_Z_time, xg_Z_alarm, xg_Z_line, xg_Z_off, xg_Z_controls, xg_Z_console, xg_Z_printed, xg_Z_toS, xg_Z_toVs, xg_Z_interrupts, xg_Z_cause, xg_Z_wrong, xg_Z_ofGuest, xg_Z_far, xg_Z_ofEntry, xg_Z_kind, xg_Z_virtual, xg_Z_user, xg_Z_executes, xg_Z_address, xg_Z_asGuest, xg_Z_next, xg_Z_thrown, xs_Z_memory, xs_Z_x, xs_Z_pc, xs_Z_mode, xs_Z_time, xs_Z_alarm, xs_Z_line, xs_Z_off, xs_Z_controls, xs_Z_console, xs_Z_printed, xs_Z_toS, xs_Z_toVs, xs_Z_interrupts, xs_Z_cause, xs_Z_wrong, xs_Z_ofGuest, xs_Z_far, xs_Z_ofEntry, xs_Z_kind, xs_Z_virtual, xs_Z_user, xs_Z_executes, xs_Z_address, xs_Z_asGuest, xs_Z_next, xs_Z_thrown]
  rfl
theorem yfl_console (c : XZ) (a b g : Int32) : xg_Z_console (xf_Z_fails c a b g).2 = xg_Z_console c := by
  obtain ⟨z1, z2, z3, z4, z5, z6, z7, z8, z9, z10, z11, z12, z13, z14, z15, z16, z17, z18, z19, z20, z21, z22, z23, z24, z25, z26, z27⟩ := c
  simp only [xf_Z_fails, xg_Z_memory, xg_Z_x, xg_Z_pc, xg_Z_mode, xg_Z_time, xg_Z_alarm, xg_Z_line, xg_Z_off, xg_Z_controls, xg_Z_console, xg_Z_printed, xg_Z_toS, xg_Z_toVs, xg_Z_interrupts, xg_Z_cause, xg_Z_wrong, xg_Z_ofGuest, xg_Z_far, xg_Z_ofEntry, xg_Z_kind, xg_Z_virtual, xg_Z_user, xg_Z_executes, xg_Z_address, xg_Z_asGuest, xg_Z_next, xg_Z_thrown, xs_Z_memory, xs_Z_x, xs_Z_pc, xs_Z_mode, xs_Z_time, xs_Z_alarm, xs_Z_line, xs_Z_off, xs_Z_controls, xs_Z_console, xs_Z_printed, xs_Z_toS, xs_Z_toVs, xs_Z_interrupts, xs_Z_cause, xs_Z_wrong, xs_Z_ofGuest, xs_Z_far, xs_Z_ofEntry, xs_Z_kind, xs_Z_virtual, xs_Z_user, xs_Z_executes, xs_Z_address, xs_Z_asGuest, xs_Z_next, xs_Z_thrown]
theorem yfe_cause (c : XZ) (a : Int64) (b : Bool) : xg_Z_cause (xs_Z_ofEntry (xs_Z_far c a) b) = xg_Z_cause c := (Eq.refl _).trans (Eq.refl _)
theorem yfe_wrong (c : XZ) (a : Int64) (b : Bool) : xg_Z_wrong (xs_Z_ofEntry (xs_Z_far c a) b) = xg_Z_wrong c := (Eq.refl _).trans (Eq.refl _)
theorem yfe_ofGuest (c : XZ) (a : Int64) (b : Bool) : xg_Z_ofGuest (xs_Z_ofEntry (xs_Z_far c a) b) = xg_Z_ofGuest c := (Eq.refl _).trans (Eq.refl _)
theorem yfe_far (c : XZ) (a : Int64) (b : Bool) : xg_Z_far (xs_Z_ofEntry (xs_Z_far c a) b) = a := (Eq.refl _).trans (Eq.refl _)
theorem yfe_ofEntry (c : XZ) (a : Int64) (b : Bool) : xg_Z_ofEntry (xs_Z_ofEntry (xs_Z_far c a) b) = b := (Eq.refl _).trans (Eq.refl _)
theorem yfe_console (c : XZ) (a : Int64) (b : Bool) : xg_Z_console (xs_Z_ofEntry (xs_Z_far c a) b) = xg_Z_console c := (Eq.refl _).trans (Eq.refl _)
theorem yad_c (c : XZ) (a : Int32) : xg_Z_console (ycAd c a) = xg_Z_console c := (Eq.refl _).trans (Eq.refl _)
theorem yg_con {u : XH} {c c' : XZ} (h : yxG u c) (e : xg_Z_console c' = xg_Z_console c) : yxG u c' := ⟨h.1, fun i h0 h1 => by rw [e]; exact h.2 i h0 h1⟩
theorem ysf_e (c : XZ) (s : Int32) (a : Int64) (ent : Int32) : ysf c s a ent = xs_Z_ofEntry (xs_Z_far (xf_Z_fails c (if 2 ≤ s then (if xg_Z_kind c = 0 then 20 else if xg_Z_kind c = 1 then 21 else 23) else (if xg_Z_kind c = 0 then 12 else if xg_Z_kind c = 1 then 13 else 15)) (xg_Z_address c) (xz (xg_Z_asGuest c))).2 (if s = 2 then a else 0)) (xb (if s = 2 then (if ent = 0 then 0 else 1) else 0)) := by
  unfold ysf xf_Z_stageFault
  simp only [yxlt_d]
theorem yP_gst (u : XH) (g : Nat) (i : Int32) : ygst u g i = xs_P u (xg_P_cause u, xg_P_tval u, Int64.toInt32 (xul (yll g) 2), i, xg_P_asGuest u, xg_P_interruptForVs u) := rfl
theorem yP_raise2 (u : XH) (a b : Int32) : xf_P_raise u a b = xs_P u (a, b, xg_P_guest u, xg_P_inst u, xg_P_asGuest u, xg_P_interruptForVs u) := rfl
theorem yP_guest (u : XH) (p : XP) : xg_P_guest (xs_P u p) = p.2.2.1 := (Eq.refl _).trans (Eq.refl _)
theorem yP_inst (u : XH) (p : XP) : xg_P_inst (xs_P u p) = p.2.2.2.1 := (Eq.refl _).trans (Eq.refl _)
theorem yP_asG (u : XH) (p : XP) : xg_P_asGuest (xs_P u p) = p.2.2.2.2.1 := (Eq.refl _).trans (Eq.refl _)
/-- causes that tell an address -/
def yisAd (k : Int32) : Prop := k = 0 ∨ k = 1 ∨ k = 3 ∨ k = 4 ∨ k = 5 ∨ k = 6 ∨ k = 7 ∨ k = 12 ∨ k = 13 ∨ k = 15 ∨ k = 20 ∨ k = 21 ∨ k = 23
theorem ytells_ad {u : XH} {p : XP} (h : yisAd p.1) (m : Int32) : yxgva (xs_P u p) m = (yxmV m || p.2.2.2.2.1) := by
  unfold yxgva yxtells xf_P_tellsAddress
  rw [yxlt_d, yP_cause, yP_asG]
  rcases h with h | h | h | h | h | h | h | h | h | h | h | h | h <;> rw [h] <;> simp [show xus 11579643 0 &&& 1 = 1 by decide, show xus 11579643 1 &&& 1 = 1 by decide, show xus 11579643 3 &&& 1 = 1 by decide, show xus 11579643 4 &&& 1 = 1 by decide, show xus 11579643 5 &&& 1 = 1 by decide, show xus 11579643 6 &&& 1 = 1 by decide, show xus 11579643 7 &&& 1 = 1 by decide, show xus 11579643 12 &&& 1 = 1 by decide, show xus 11579643 13 &&& 1 = 1 by decide, show xus 11579643 15 &&& 1 = 1 by decide, show xus 11579643 20 &&& 1 = 1 by decide, show xus 11579643 21 &&& 1 = 1 by decide, show xus 11579643 23 &&& 1 = 1 by decide]
theorem yisAd_pos {k : Int32} (h : yisAd k) : 0 ≤ k := by
  rcases h with h | h | h | h | h | h | h | h | h | h | h | h | h <;> subst h <;> decide
/-- a fault in both states -/
theorem ybad_of {u : XH} {c : XZ} {k a g i : Int32} {asg fv : Bool} (hk : yisAd k) (h1 : xg_Z_cause c = k) (h2 : xg_Z_wrong c = a) (h3 : Int64.toInt32 (xg_Z_far c / 4) = g) (h4 : (if xz (xg_Z_ofEntry c) = 0 then (0 : Int32) else 8192) = i) (h5 : xg_Z_ofGuest c = (yxmV (xg_C_mode u) || asg)) : yxBad (xs_P u (k, a, g, i, asg, fv)) c := by
  refine ⟨?_, ?_, ?_, ?_, ?_, ?_⟩
  · rw [yP_cause]; exact yisAd_pos hk
  · rw [yP_cause]; exact h1
  · rw [yP_tval]; exact h2
  · rw [yP_guest]; exact h3
  · rw [yP_inst]; exact h4
  · rw [ytells_ad hk, yP_mode]; exact h5
theorem yco1 (p : Nat) : xf_A_causeOf p (-1) = List.getD [12, 13, 13, 15] p 0 := by unfold xf_A_causeOf; rw [if_pos ycm1]
theorem yco2 (p : Nat) : xf_A_causeOf p (-2) = List.getD [20, 21, 21, 23] p 0 := by unfold xf_A_causeOf; rw [if_neg (show ¬ lg_cmp (-2) (-1) = 0 by decide), yxlt_d, if_pos (show lg_cmp (-2) (-2) = 0 by decide)]
theorem yco3 (p : Nat) : xf_A_causeOf p (-3) = List.getD [1, 5, 5, 7] p 0 := by unfold xf_A_causeOf; rw [if_neg ycm3, yxlt_d, if_neg (show ¬ lg_cmp (-3) (-2) = 0 by decide)]
theorem ytoI32_neg : ¬ 0 ≤ Int64.toInt32 (-1) ∧ ¬ 0 ≤ Int64.toInt32 (-2) ∧ ¬ 0 ≤ Int64.toInt32 (-3) := by decide
theorem yfar4 (g : Nat) (h : g < 17179869184) : Int64.toInt32 (yll g / 4) = Int64.toInt32 (xul (yll g) 2) := by
  have e : yll g / 4 = yll (g / 4) := yll_div (b := 4) (by omega) (by decide) (by decide)
  rw [e, yll_xul 2 2 (by decide) (by omega)]
theorem ykOf_v {p : Nat} (hp : p < 4) : (p = 0 ∧ ykOf p = 0) ∨ (p = 1 ∧ ykOf p = 1) ∨ (p = 2 ∧ ykOf p = 1) ∨ (p = 3 ∧ ykOf p = 2) := by
  have hp4 : p = 0 ∨ p = 1 ∨ p = 2 ∨ p = 3 := by omega
  rcases hp4 with h | h | h | h <;> subst h <;> decide
/-- what a translation comes to, in both -/
def ytrOK (u : XH) (c : XZ) (a : Int32) (T : Int32 × XH) (Z : Int64 × XZ) : Prop := ∃ n, n < 262144 ∧ n % 4 = ynn a % 4 ∧ T = (Int64.toInt32 (yll n), u) ∧ Z = (yll n, yxZof u (ycAd c a))
def ytrNo (u : XH) (c : XZ) (T : Int32 × XH) (Z : Int64 × XZ) : Prop := ∃ k p c', T = (k, xs_P u p) ∧ ¬ 0 ≤ k ∧ Z = (-1, yxZof (xs_P u p) c') ∧ yxBad (xs_P u p) c' ∧ xg_Z_console c' = xg_Z_console c
set_option maxHeartbeats 1000000 in
theorem ytransl {u : XH} (hi : yxInv u) (c : XZ) (a w size : Int32) {p : Nat} (hp : p < 4) {m : Int32} (hm : ym4 m) (hk : xg_Z_kind c = ykOf p) (hx : xg_Z_executes c = decide (p = 2)) (hus : xg_Z_user c = !yxmS m) (hvt : xg_Z_virtual c = yxmV m)
    (has : yxmV m = (yxmV (xg_C_mode u) || xg_P_asGuest u)) (hg0 : xg_P_guest u = 0) (hi0 : xg_P_inst u = 0)
    (hal0 : p = 0 → (a &&& (((1 : Int32) <<< (w &&& 31)) - (1 : Int32))) = 0) (hal : ¬ p = 0 → ((a &&& (((1 : Int32) <<< (w &&& 31)) - (1 : Int32))) = 0 ↔ (a - a / size * size) = 0)) :
    ytrOK u c a (xf_T_translate u a w p m) (xf_Z_lead (yxZof u c) a size) ∨ ytrNo u c (xf_T_translate u a w p m) (xf_Z_lead (yxZof u c) a size) := by
  have hkv := ykOf_v hp
  by_cases ha : (a &&& (((1 : Int32) <<< (w &&& 31)) - (1 : Int32))) = 0
  · have ez : xf_Z_lead (yxZof u c) a size = yzPl (yxZof u (ycAd c a)) a := by
      by_cases h0 : p = 0
      · exact yz_lead_f u c a size (by rw [hk, h0]; rfl)
      · refine yz_lead_l u c a size ?_ ((hal h0).mp ha)
        rw [hk]; rcases hkv with h | h | h | h
        · exact absurd h.1 h0
        · rw [h.2]; decide
        · rw [h.2]; decide
        · rw [h.2]; decide
    rw [ez, yt_trans u a w hp hm ha]
    obtain ⟨r, g, ent, s, hg, hent, hs, hr, e1, e2⟩ := yplaces hi (ycAd c a) a hp hm (by rw [yad_k]; exact hk) (by rw [yad_x]; exact hx) (by rw [yad_u]; exact hus) (by rw [yad_v]; exact hvt)
    rw [e1, e2]
    rcases hr with h | h | h | ⟨n, hn, h, hn4⟩
    · right
      subst h
      refine ⟨Int64.toInt32 (-1), (List.getD [12, 13, 13, 15] p 0, a, 0, 0, xg_P_asGuest u, xg_P_interruptForVs u), ysf (ycAd c a) s (yll (ynn a)) 0, ?_, ytoI32_neg.1, ?_, ?_, ?_⟩
      · rw [youtC_1, if_neg ym1_lt0, yP_raise2, hg0, hi0, yco1]
      · rw [youtZ_1, yz_P]
      · have yhs2 : ¬ s = 2 := by rcases hs with h | h <;> rw [h] <;> decide
        have hs3 : ¬ 2 ≤ s := by rcases hs with h | h <;> rw [h] <;> decide
        rw [ysf_e, if_neg yhs2, if_neg yhs2, if_neg hs3, yad_k, yad_a, yad_g, hk]
        refine ybad_of ?_ ?_ ?_ ?_ ?_ ?_
        · rcases hkv with h | h | h | h <;> rw [h.1] <;> simp [yisAd]
        · rw [yfe_cause, yfl_cause]; rcases hkv with h | h | h | h <;> rw [h.2, h.1] <;> rfl
        · rw [yfe_wrong, yfl_wrong]
        · rw [yfe_far]; decide
        · rw [yfe_ofEntry]; decide
        · rw [yfe_ofGuest, yfl_ofGuest, yxb_xz, hvt]; exact has
      · rw [ysf_e, yfe_console, yfl_console, yad_c]
    · right
      subst h
      refine ⟨Int64.toInt32 (-2), (List.getD [20, 21, 21, 23] p 0, a, Int64.toInt32 (xul (yll g) 2), (if ent = 0 then 0 else 8192), xg_P_asGuest u, xg_P_interruptForVs u), ysf (ycAd c a) 2 (yll g) ent, ?_, ytoI32_neg.2.1, ?_, ?_, ?_⟩
      · rw [youtC_2, if_neg ym2_lt0, yP_raise2, yP_gst, yP_P, yP_guest, yP_inst, yP_asG, yP_for, yco2]
      · rw [youtZ_2, yz_P]
      · rw [ysf_e, if_pos (show (2 : Int32) ≤ 2 by decide), if_pos rfl, if_pos rfl, yad_k, yad_a, yad_g, hk]
        refine ybad_of ?_ ?_ ?_ ?_ ?_ ?_
        · rcases hkv with h | h | h | h <;> rw [h.1] <;> simp [yisAd]
        · rw [yfe_cause, yfl_cause]; rcases hkv with h | h | h | h <;> rw [h.2, h.1] <;> rfl
        · rw [yfe_wrong, yfl_wrong]
        · rw [yfe_far]; exact yfar4 g hg
        · rw [yfe_ofEntry]; rcases hent with h | h <;> subst h <;> decide
        · rw [yfe_ofGuest, yfl_ofGuest, yxb_xz, hvt]; exact has
      · rw [ysf_e, yfe_console, yfl_console, yad_c]
    · right
      subst h
      refine ⟨Int64.toInt32 (-3), (List.getD [1, 5, 5, 7] p 0, a, 0, 0, xg_P_asGuest u, xg_P_interruptForVs u), ymf (ycAd c a), ?_, ytoI32_neg.2.2, ?_, ?_, ?_⟩
      · rw [youtC_3, if_neg ym3_lt0, yP_raise2, hg0, hi0, yco3]
      · rw [youtZ_3, yz_P]
      · unfold ymf
        rw [yad_k, yad_a, yad_g, hk]
        refine ybad_of ?_ ?_ ?_ ?_ ?_ ?_
        · rcases hkv with h | h | h | h <;> rw [h.1] <;> simp [yisAd]
        · rw [yfl_cause]; rcases hkv with h | h | h | h <;> rw [h.2, h.1] <;> rfl
        · rw [yfl_wrong]
        · rw [yfl_far]; decide
        · rw [yfl_ofEntry]; decide
        · rw [yfl_ofGuest, yxb_xz, hvt]; exact has
      · unfold ymf; rw [yfl_console, yad_c]
    · left
      subst h
      exact ⟨n, hn, hn4, by rw [youtC_n (by omega), if_pos (yll_ge0 (by omega))], by rw [youtZ_n (by omega)]⟩
  · right
    have h0 : ¬ p = 0 := fun h => ha (hal0 h)
    have hk0 : ¬ xg_Z_kind c = 0 := by
      rw [hk]; rcases hkv with h | h | h | h
      · exact absurd h.1 h0
      · rw [h.2]; decide
      · rw [h.2]; decide
      · rw [h.2]; decide
    rw [yz_lead_m u c a size hk0 (fun hh => ha ((hal h0).mpr hh))]
    refine ⟨-1, (List.getD [0, 4, 4, 6] p 0, a, 0, 0, xg_P_asGuest u, xg_P_interruptForVs u), (xf_Z_fails (ycAd c a) (if xg_Z_kind c = 1 then 4 else 6) a (xz (xg_Z_virtual c))).2, ?_, by decide, ?_, ?_, ?_⟩
    · unfold xf_T_translate; rw [if_neg ha, yxlt_d, yP_raise2, hg0, hi0]
    · rw [yz_P]
    · refine ybad_of ?_ ?_ ?_ ?_ ?_ ?_
      · rcases hkv with h | h | h | h <;> rw [h.1] <;> simp [yisAd]
      · rw [yfl_cause, hk]; rcases hkv with h | h | h | h
        · exact absurd h.1 h0
        · rw [h.2, h.1]; rfl
        · rw [h.2, h.1]; rfl
        · rw [h.2, h.1]; rfl
      · rw [yfl_wrong]
      · rw [yfl_far]; decide
      · rw [yfl_ofEntry]; decide
      · rw [yfl_ofGuest, yxb_xz, hvt]; exact has
    · rw [yfl_console, yad_c]
set_option maxHeartbeats 1000000 in
theorem yv_walk1 {u : XH} (hi : yxInv u) (c : XZ) {A R : Nat} (hA : A < 4294967296) (hR : R ≤ 17179865088) (ent : Int32) : xv_Z_walk_1 (yxZof u c) (yll R) (yll A) ent := by
  unfold xv_Z_walk_1 XVc
  have hA2 : A < 17179869184 := by omega
  have hF : R + 4 * (A / 4194304) < 17179869184 := by omega
  rw [ye_first R hA2]
  have hq : (xf_Z_entryAt_1 (yxZof u c) (yll (R + 4 * (A / 4194304)))).1 = -1 ∨ ∃ e, xf_Z_entryAt_1 (yxZof u c) (yll (R + 4 * (A / 4194304))) = (yll (ynn e), yxZof u c) := by
    rcases yW2e_v u (R + 4 * (A / 4194304)) with h | h | ⟨n1, hn1, h⟩
    · exact Or.inl (by rw [yz_ent1_1 hi c hF h])
    · exact Or.inl (by rw [yz_ent1_3 hi c hF h])
    · exact Or.inr ⟨_, yz_ent1_n hi c hF hn1 h⟩
  generalize xf_Z_entryAt_1 (yxZof u c) (yll (R + 4 * (A / 4194304))) = q at hq ⊢
  refine ⟨⟨yv_ent1 hi c hF, ?_⟩, trivial⟩
  rw [yxlt_d]
  rcases hq with h | ⟨e, h⟩
  · rw [h, if_neg ym1_lt0]; trivial
  · subst h
    have hn := ynn_lt e
    rw [if_pos (yll_ge0 (by omega)), ye_next e hA2]
    simp only [yxlt_d, yv_sf, yv_allowed, yv_inMem, yv_ent1 hi c (ynNext_lt e hA2), and_self, ite_self]
theorem yhokV {u : XH} (c : XZ) {p : Nat} (hp : p < 4) {m : Int32} (hk : xg_Z_kind c = ykOf p) (hx : xg_Z_executes c = decide (p = 2)) (hus : xg_Z_user c = !yxmS m) : ∀ e l, ¬ e &&& 14 = 0 → (yokC (ycAny p (ybt (xg_V_status u) 19 || ybt (xg_S_status u) 19)) (ycAll p (!yxmS m)) (ycNone p (!yxmS m) (ybt (xg_V_status u) 18)) e l ↔ yokZ (yxZof u c) 1 0 e l) := by
  intro e l h
  have := yok01 (yxZof u c) 1 (Or.inr rfl) p hp (by rw [yzg_kind]; exact hk) (by rw [yzg_executes]; exact hx) e l h
  rw [yzv_256, yzv_512, yzg_user, hus, if_pos rfl, yzv_512, Bool.or_comm] at this
  simpa using this
theorem yv_lead {u : XH} (hi : yxInv u) (c : XZ) (a size : Int32) {p : Nat} (hp : p < 4) {m : Int32} (hk : xg_Z_kind c = ykOf p) (hx : xg_Z_executes c = decide (p = 2)) (hus : xg_Z_user c = !yxmS m) (hsz : ¬ size = 0) : xv_Z_lead (yxZof u c) a size := by
  have hA : ynn a < 4294967296 := ynn_lt a
  have hA2 : ynn a < 17179869184 := by omega
  have hr0 : ynn (xg_S_atp u) % 4194304 * 4096 < 17179869184 := by omega
  have hr1 : ynn (xg_V_atp u) % 4194304 * 4096 ≤ 17179865088 := by omega
  have key : ∀ f : Int64 × XZ, f = (if xf_Z_bit (yxZof u (ycAd c a)) 640 31 = 0 then (yll (ynn a), yxZof u (ycAd c a)) else xf_Z_walk_1 (yxZof u (ycAd c a)) (yll (ynn (xg_V_atp u) % 4194304 * 4096)) (yll (ynn a)) 0) → (if 0 ≤ lg_cmp f.1 0 then (xv_Z_second f.2 f.1 0 ∧ True) else True) := by
    intro f hf
    rw [yzbit _ 640 31 31 (by decide) (by decide), yzv_640] at hf
    cases hb : ybt (xg_V_atp u) 31
    · rw [hb, if_pos (show xz false = 0 from rfl)] at hf
      subst hf
      rw [if_pos (yll_ge0 (by omega))]
      exact ⟨yv_second hi _ hA2 0, trivial⟩
    · have h0 := (ybt31 _).mp hb
      rw [hb, if_neg (show ¬ xz true = 0 by decide)] at hf
      obtain ⟨r, g, hg, hr, e1, e2⟩ := ystage1 hi (ycAd c a) h0 hA _ _ _ (yhokV (u := u) (ycAd c a) hp (m := m) (by rw [yad_k]; exact hk) (by rw [yad_x]; exact hx) (by rw [yad_u]; exact hus))
      rw [e2] at hf
      rcases hr with h | h | h | ⟨n, hn, h, hn4⟩
      · subst h; rw [youtZ_1] at hf; subst hf; rw [if_neg ym1_lt0]; trivial
      · subst h; rw [youtZ_2] at hf; subst hf; rw [if_neg ym1_lt0]; trivial
      · subst h; rw [youtZ_3] at hf; subst hf; rw [if_neg ym1_lt0]; trivial
      · subst h; rw [youtZ_n (by omega)] at hf; subst hf
        rw [if_pos (yll_ge0 (by omega))]
        exact ⟨yv_second hi _ hn 0, trivial⟩
  have key2 := key _ rfl
  unfold xv_Z_lead XVc
  simp only [yad_e, yi64_lo, yxlt_d, yzv_384, yzv_640, yroot_m, yvb_384, yvb_640, yv_inMem, yzvv_384, yzvv_640, yv_walk0 u (ycAd c a) hA2 hr0 0, yv_walk1 hi (ycAd c a) hA hr1 0, yv_fails, yite_fst, yite_snd, and_self, ite_self, true_and, and_true, hsz, not_false_eq_true]
  by_cases h1 : xz (xg_Z_virtual (yxZof u (ycAd c a))) = 0
  · simp only [if_pos h1, ite_self]
  · simp only [if_neg h1, ite_self]
    by_cases h2 : xf_Z_bit (yxZof u (ycAd c a)) 640 31 = 0
    · simp only [if_pos h2, and_true] at key2 ⊢
      simp only [key2, ite_self]
    · simp only [if_neg h2, and_true] at key2 ⊢
      simp only [key2, ite_self]
