
/-- how many of the first n are made -/
def xcnt : Nat → (Nat → Bool) → Nat
  | 0, _ => 0
  | n + 1, b => xcnt n b + (if b n then 1 else 0)
theorem xcnt_le (n : Nat) (b : Nat → Bool) : xcnt n b ≤ n := by
  induction n with
  | zero => exact Nat.le_refl 0
  | succ n ih => simp only [xcnt]; split <;> omega
theorem xcnt_out {n i : Nat} {b : Nat → Bool} (h : n ≤ i) : xcnt n (va_up b i true) = xcnt n b := by
  induction n with
  | zero => rfl
  | succ n ih => simp only [xcnt]; rw [ih (by omega), va_up_ne _ _ (by omega)]
theorem xcnt_up {n i : Nat} {b : Nat → Bool} (h : i < n) (hb : b i = false) : xcnt n (va_up b i true) = xcnt n b + 1 := by
  induction n with
  | zero => omega
  | succ n ih =>
    simp only [xcnt]
    by_cases e : i = n
    · subst e
      rw [xcnt_out (Nat.le_refl _), va_up_self, hb]; simp
    · rw [ih (by omega), va_up_ne _ _ (by omega)]; omega
theorem xup_same {b : Nat → Bool} {i : Nat} (hb : b i = true) : va_up b i true = b := by
  funext j
  by_cases h : j = i
  · subst h; rw [va_up_self, hb]
  · rw [va_up_ne _ _ h]
theorem xcnt_mono (n : Nat) (b : Nat → Bool) (i : Nat) : xcnt n b ≤ xcnt n (va_up b i true) := by
  by_cases h : i < n
  · cases hb : b i with
    | false => rw [xcnt_up h hb]; omega
    | true => rw [xup_same hb]; exact Nat.le_refl _
  · rw [xcnt_out (by omega)]; exact Nat.le_refl _
/-- the frames as the words and the cells say: a frame that is not made holds 0; those that are made lie apart -/
def xok1 (k : ClassId) (n : Nat) (g : XG1) (u : XM1) : Prop := ∃ wd : Nat → Nat,
  (∀ i, i < n → (g.1 i = none ∧ u.2.1 i = false ∧ u.1 i = fun _ => 0) ∨ (∃ p, g.1 i = some p ∧ u.2.1 i = true ∧ p ∈ g.2.1 ∧ wd i ∈ g.2.1 ∧ g.2.2 p = .inr (5, [.ref (wd i)]) ∧ g.2.2 (wd i) = .inl (k, 1024, .inl (u.1 i)))) ∧
  ∀ i j, i < n → j < n → u.2.1 i = true → u.2.1 j = true → wd i = wd j → i = j
theorem xin_lt' {i : Int32} {n : Nat} (h : vp_in i n) : i.toNatClampNeg < n := Nat.not_le.mp (fun q => h (Or.inr q))
theorem xus_nat (x : Int32) (s : Int32) (k : Nat) (hs : ((s.toUInt32 &&& Int32.toUInt32 31).toBitVec % 32).toNat = k) (hk : 1 ≤ k) : (xus x s).toInt = ((x.toBitVec.toNat / 2 ^ k : Nat) : Int) := by
  have e := pk_ushr x s k hs
  show (xus x s).toBitVec.toInt = _
  have h1 : x.toBitVec.toNat / 2 ^ k < 2 ^ 31 := by
    have h2 := x.toBitVec.isLt
    have h3 : 2 ^ 1 ≤ 2 ^ k := Nat.pow_le_pow_right (by decide) hk
    have h4 : x.toBitVec.toNat / 2 ^ k ≤ x.toBitVec.toNat / 2 ^ 1 := Nat.div_le_div_left h3 (by decide)
    omega
  have e2 : (xus x s).toBitVec.toNat = x.toBitVec.toNat / 2 ^ k := e
  rw [BitVec.toInt_eq_toNat_of_lt (by omega), e2]
theorem xus_in {p0 : Int32} {n : Nat} (hn : n ≤ 64) (h : xus p0 12 < Int32.ofNat n) : vp_in (xus p0 12) n := by
  have e := xus_nat p0 12 12 (by decide) (by decide)
  have h1 := Int32.lt_iff_toInt_lt.mp h
  have h2 : (Int32.ofNat n).toInt = (n : Int) := nI_toInt (by omega)
  exact vp_in_iff.mpr ⟨by omega, by omega⟩
theorem xwd_in (p0 : Int32) : vp_in (xus p0 2 &&& 1023) 1024 := pk_andIn _ 10 (by decide) (by decide)
abbrev xmI (p0 : Int32) : Nat := (xus p0 12).toNatClampNeg
abbrev xmJ (p0 : Int32) : Nat := (xus p0 2 &&& 1023).toNatClampNeg
def xf_M_readWord (n : Nat) (u : XM1) (p0 : Int32) : Int32 × XM1 :=
  if xus p0 12 < Int32.ofNat n then (u.1 (xmI p0) (xmJ p0), u) else (0, (u.1, u.2.1, u.2.2 + 1))
def xf_M_writeWord (n : Nat) (u : XM1) (p0 p1 : Int32) : XM1 :=
  if xus p0 12 < Int32.ofNat n then (va_up u.1 (xmI p0) (upd (u.1 (xmI p0)) (xmJ p0) p1), va_up u.2.1 (xmI p0) true, u.2.2) else (u.1, u.2.1, u.2.2 + 1)
theorem xok1_set {k : ClassId} {n : Nat} {f : Nat → Option Nat} {L : List Nat} {F : Nat → va_E} {u : XM1} {wd : Nat → Nat} {i : Nat} (hn : i < n)
    (h1 : ∀ i, i < n → (f i = none ∧ u.2.1 i = false ∧ u.1 i = fun _ => 0) ∨ (∃ p, f i = some p ∧ u.2.1 i = true ∧ p ∈ L ∧ wd i ∈ L ∧ F p = .inr (5, [.ref (wd i)]) ∧ F (wd i) = .inl (k, 1024, .inl (u.1 i))))
    (h2 : ∀ i j, i < n → j < n → u.2.1 i = true → u.2.1 j = true → wd i = wd j → i = j) (hm : u.2.1 i = true) (v : Nat → Int32) :
    xok1 k n (f, L, va_up F (wd i) (.inl (k, 1024, .inl v))) (va_up u.1 i v, va_up u.2.1 i true, u.2.2) := by
  refine ⟨wd, fun j hj => ?_, ?_⟩
  · rw [xup_same hm]
    rcases h1 j hj with ⟨e1, e2, e3⟩ | ⟨p, e1, e2, e3, e4, e5, e6⟩
    · have hne : j ≠ i := fun e => by subst e; rw [hm] at e2; cases e2
      exact Or.inl ⟨e1, e2, by show va_up u.1 i v j = _; rw [va_up_ne _ _ hne]; exact e3⟩
    · refine Or.inr ⟨p, e1, e2, e3, e4, ?_, ?_⟩
      · show va_up F (wd i) _ p = _
        have hp : p ≠ wd i := by
          intro e
          rcases h1 i hn with ⟨_, q2, _⟩ | ⟨_, _, _, _, _, _, q6⟩
          · rw [hm] at q2; cases q2
          · rw [e, q6] at e5; cases e5
        rw [va_up_ne _ _ hp]; exact e5
      · show va_up F (wd i) _ (wd j) = .inl (k, 1024, .inl (va_up u.1 i v j))
        by_cases e : j = i
        · subst e; rw [va_up_self, va_up_self]
        · rw [va_up_ne _ _ (fun q => e (h2 j i hj hn e2 hm q)), va_up_ne _ _ e]; exact e6
  · rw [xup_same hm]; exact h2
theorem xok1_new {k : ClassId} {n : Nat} {f : Nat → Option Nat} {L : List Nat} {F : Nat → va_E} {u : XM1} {i q w : Nat} (hn : i < n) (h : xok1 k n (f, L, F) u) (hm : u.2.1 i = false) (hq : q ∉ L) (hw : w ∉ L ++ [q]) (v : Nat → Int32) :
    xok1 k n (va_up f i (some q), (L ++ [q]) ++ [w], va_up (va_up F q (.inr (5, [.ref w]))) w (.inl (k, 1024, .inl v))) (va_up u.1 i v, va_up u.2.1 i true, u.2.2) := by
  obtain ⟨wd, h1, h2⟩ := h
  have hqw : q ≠ w := fun e => hw (e ▸ List.mem_append_right _ (List.mem_singleton.mpr rfl))
  have hwL : w ∉ L := fun e => hw (List.mem_append_left _ e)
  refine ⟨va_up wd i w, fun j hj => ?_, fun a b ha hb ma mb e => ?_⟩
  · by_cases e : j = i
    · subst e
      refine Or.inr ⟨q, va_up_self _ _ _, va_up_self _ _ _, ?_, ?_, ?_, ?_⟩
      · simp
      · rw [va_up_self]; simp
      · show va_up (va_up F q _) w _ q = _
        rw [va_up_ne _ _ hqw, va_up_self, va_up_self]
      · show va_up (va_up F q _) w _ (va_up wd j w j) = .inl (k, 1024, .inl (va_up u.1 j v j))
        rw [va_up_self, va_up_self, va_up_self]
    · rcases h1 j hj with ⟨e1, e2, e3⟩ | ⟨p, e1, e2, e3, e4, e5, e6⟩
      · exact Or.inl ⟨by show va_up f i _ j = _; rw [va_up_ne _ _ e]; exact e1, by show va_up u.2.1 i _ j = _; rw [va_up_ne _ _ e]; exact e2, by show va_up u.1 i v j = _; rw [va_up_ne _ _ e]; exact e3⟩
      · have hp1 : p ≠ q := fun h => hq (h ▸ e3)
        have hp2 : p ≠ w := fun h => hwL (h ▸ e3)
        have hw1 : wd j ≠ q := fun h => hq (h ▸ e4)
        have hw2 : wd j ≠ w := fun h => hwL (h ▸ e4)
        refine Or.inr ⟨p, by show va_up f i _ j = _; rw [va_up_ne _ _ e]; exact e1, by show va_up u.2.1 i _ j = _; rw [va_up_ne _ _ e]; exact e2, List.mem_append_left _ (List.mem_append_left _ e3), ?_, ?_, ?_⟩
        · rw [va_up_ne _ _ e]; exact List.mem_append_left _ (List.mem_append_left _ e4)
        · show va_up (va_up F q _) w _ p = _
          rw [va_up_ne _ _ hp2, va_up_ne _ _ hp1, va_up_ne _ _ e]; exact e5
        · show va_up (va_up F q _) w _ (va_up wd i w j) = .inl (k, 1024, .inl (va_up u.1 i v j))
          rw [va_up_ne _ _ e, va_up_ne _ _ hw2, va_up_ne _ _ hw1, va_up_ne _ _ e]; exact e6
  · have wl : ∀ a, a < n → a ≠ i → va_up u.2.1 i true a = true → wd a ∈ L := by
      intro a ha hai m
      rw [va_up_ne _ _ hai] at m
      rcases h1 a ha with ⟨_, e2, _⟩ | ⟨_, _, _, _, e4, _⟩
      · rw [m] at e2; cases e2
      · exact e4
    by_cases ea : a = i
    · by_cases eb : b = i
      · rw [ea, eb]
      · subst ea
        rw [va_up_self, va_up_ne _ _ eb] at e
        exact absurd (e ▸ wl b hb eb mb) hwL
    · by_cases eb : b = i
      · subst eb
        rw [va_up_self, va_up_ne _ _ ea] at e
        exact absurd (e ▸ wl a ha ea ma) hwL
      · rw [va_up_ne _ _ ea, va_up_ne _ _ eb] at e
        have ma' : va_up u.2.1 i true a = true := ma
        have mb' : va_up u.2.1 i true b = true := mb
        rw [va_up_ne _ _ ea] at ma'
        rw [va_up_ne _ _ eb] at mb'
        exact h2 a b ha hb ma' mb' e


theorem xfresh2 {A : Nat → Prop} {X : va_W} {L : List Nat} {f : Nat → va_E} {q w : Nat} {e1 e2 : va_E} (hD : va_D A ((X ++ va_pl L f) ++ [(q, e1), (w, e2)])) (hq : q ∉ L) : w ∉ L ++ [q] := by
  have h : va_D A ((X ++ va_pl (L ++ [q]) (va_up f q e1)) ++ [(w, e2)]) := by
    have e : (X ++ va_pl L f) ++ [(q, e1), (w, e2)] = (X ++ va_pl (L ++ [q]) (va_up f q e1)) ++ [(w, e2)] := by
      rw [← va_pl_push hq]; simp
    rw [← e]; exact hD
  exact xfresh h
theorem xpush2 {X : va_W} {L : List Nat} {f : Nat → va_E} {q w : Nat} {e1 e2 : va_E} (hq : q ∉ L) (hw : w ∉ L ++ [q]) : (X ++ va_pl L f) ++ [(q, e1), (w, e2)] = X ++ va_pl (L ++ [q] ++ [w]) (va_up (va_up f q e1) w e2) := by
  rw [← va_pl_push hw, ← va_pl_push hq]; simp
theorem xstep_new {D : va_G} {k : ClassId × ClassId} {h f n : Nat} {g : XG1} {b : Int32} {q w : Nat} {e1 e2 : va_E} {F : Nat → Option Nat} {H : Heap} (hq : q ∉ g.2.1) (hw : w ∉ g.2.1 ++ [q]) (hP : va_P D xCl ((xWM k h f n g b ++ [(q, e1), (w, e2)]).set 1 (f, .inl (k.2, n, .inr (.inr (.inr (.inr F)))))) H) : va_P D xCl (xWM k h f n (F, g.2.1 ++ [q] ++ [w], va_up (va_up g.2.2 q e1) w e2) b) H := by
  have e : (xWM k h f n g b ++ [(q, e1), (w, e2)]).set 1 (f, .inl (k.2, n, .inr (.inr (.inr (.inr F))))) = xWM k h f n (F, g.2.1 ++ [q] ++ [w], va_up (va_up g.2.2 q e1) w e2) b := by
    unfold xWM
    rw [xpush2 hq hw]
    rfl
  rw [← e]; exact hP
theorem xstep_newD {A : Nat → Prop} {k : ClassId × ClassId} {h f n : Nat} {g : XG1} {b : Int32} {q w : Nat} {e1 e2 : va_E} {F : Nat → Option Nat} (hq : q ∉ g.2.1) (hw : w ∉ g.2.1 ++ [q]) (hP : va_D A ((xWM k h f n g b ++ [(q, e1), (w, e2)]).set 1 (f, .inl (k.2, n, .inr (.inr (.inr (.inr F))))))) : va_D A (xWM k h f n (F, g.2.1 ++ [q] ++ [w], va_up (va_up g.2.2 q e1) w e2) b) := by
  have e : (xWM k h f n g b ++ [(q, e1), (w, e2)]).set 1 (f, .inl (k.2, n, .inr (.inr (.inr (.inr F))))) = xWM k h f n (F, g.2.1 ++ [q] ++ [w], va_up (va_up g.2.2 q e1) w e2) b := by
    unfold xWM
    rw [xpush2 hq hw]
    rfl
  rw [← e]; exact hP
theorem xfin_eq {A : Nat → Prop} {k : ClassId × ClassId} {h f n : Nat} {g : XG1} {b : Int32} {w q2 : Nat} {e : va_E} (hD : va_D A (xWM k h f n g b)) (hw : w ∈ g.2.1) (hq : (xWM k h f n g b)[q2]? = some (w, g.2.2 w)) : (xWM k h f n g b).set q2 (w, e) = xWM k h f n (g.1, g.2.1, va_up g.2.2 w e) b :=
  va_pl_set (X := [(h, .inr (6, [.ref f, .int b])), (f, .inl (k.2, n, .inr (.inr (.inr (.inr g.1)))))]) hD hw hq
theorem xfin_set {D : va_G} {A : Nat → Prop} {k : ClassId × ClassId} {h f n : Nat} {g : XG1} {b : Int32} {w q2 : Nat} {e : va_E} {H : Heap} (hD : va_D A (xWM k h f n g b)) (hw : w ∈ g.2.1) (hq : (xWM k h f n g b)[q2]? = some (w, g.2.2 w)) (hP : va_P D xCl ((xWM k h f n g b).set q2 (w, e)) H) : va_P D xCl (xWM k h f n (g.1, g.2.1, va_up g.2.2 w e) b) H := by
  rw [← xfin_eq hD hw hq]; exact hP
theorem xfin_setD {B A : Nat → Prop} {k : ClassId × ClassId} {h f n : Nat} {g : XG1} {b : Int32} {w q2 : Nat} {e : va_E} (hD : va_D B (xWM k h f n g b)) (hw : w ∈ g.2.1) (hq : (xWM k h f n g b)[q2]? = some (w, g.2.2 w)) (hP : va_D A ((xWM k h f n g b).set q2 (w, e))) : va_D A (xWM k h f n (g.1, g.2.1, va_up g.2.2 w e) b) := by
  rw [← xfin_eq hD hw hq]; exact hP
theorem xup_up {α : Type} (f : Nat → α) (w : Nat) (x y : α) : va_up (va_up f w x) w y = va_up f w y := by
  funext j
  by_cases h : j = w
  · subst h; rw [va_up_self, va_up_self]
  · rw [va_up_ne _ _ h, va_up_ne _ _ h, va_up_ne _ _ h]
theorem xfin_new {D : va_G} {A : Nat → Prop} {k : ClassId × ClassId} {h f n : Nat} {F : Nat → Option Nat} {L : List Nat} {G : Nat → va_E} {b : Int32} {w q2 j : Nat} {x : Int32} {y : Nat → Int32} {e0 : va_E} {H : Heap} (hD : va_D A (xWM k h f n (F, L ++ [w], va_up G w e0) b)) (hq : (xWM k h f n (F, L ++ [w], va_up G w e0) b)[q2]? = some (w, va_up G w e0 w)) (h3 : y = fun _ => 0) (hP : va_P D xCl ((xWM k h f n (F, L ++ [w], va_up G w e0) b).set q2 (w, .inl (k.1, 1024, .inl (upd (fun _ => 0) j x)))) H) : va_P D xCl (xWM k h f n (F, L ++ [w], va_up G w (.inl (k.1, 1024, .inl (upd y j x)))) b) H := by
  have h := xfin_set hD (by simp) hq hP
  rw [xup_up] at h
  rw [h3]; exact h
theorem xfin_newD {B A : Nat → Prop} {k : ClassId × ClassId} {h f n : Nat} {F : Nat → Option Nat} {L : List Nat} {G : Nat → va_E} {b : Int32} {w q2 j : Nat} {x : Int32} {y : Nat → Int32} {e0 : va_E} (hD : va_D B (xWM k h f n (F, L ++ [w], va_up G w e0) b)) (hq : (xWM k h f n (F, L ++ [w], va_up G w e0) b)[q2]? = some (w, va_up G w e0 w)) (h3 : y = fun _ => 0) (hP : va_D A ((xWM k h f n (F, L ++ [w], va_up G w e0) b).set q2 (w, .inl (k.1, 1024, .inl (upd (fun _ => 0) j x))))) : va_D A (xWM k h f n (F, L ++ [w], va_up G w (.inl (k.1, 1024, .inl (upd y j x)))) b) := by
  have h := xfin_setD hD (by simp) hq hP
  rw [xup_up] at h
  rw [h3]; exact h

set_option maxHeartbeats 4000000 in
set_option maxRecDepth 100000 in
theorem c_F_init (l : Launch) (D : va_G) (z : (Nat → Nat) × (Nat → Nat)) (k : ClassId × ClassId) (sz q : Nat) : Met l xy_F_init (xk_F_init :: lw_g) { frames := 1, cells := 1, slots := 1024, locals := 20 } (va_Pc [.ref q] (xB D (xTy k) z sz [(q, .inr (5, [.null]))])) (va_Qv (fun _ : Nat => True) (fun w t => xQ D (xTy k) [(q, .inr (5, [.ref w])), (w, .inl (k.1, 1024, .inl (fun _ => 0)))] (va_A [(q, .inr (5, [.null]))] sz) t) (va_A [(q, .inr (5, [.null]))] sz)) 1 1024 (va_A [(q, .inr (5, [.null]))] sz) := by
  refine xopen_v (wf := fun w : Nat => [(q, .inr (5, [.ref w])), (w, .inl (k.1, 1024, .inl (fun _ => 0)))]) (lv := [(0, .ref q)]) (by decide) rfl (Nat.le_of_ble_eq_true rfl) ?_
  intro p e s m args below meth c Q ls A H locs hx hb hml htg hown hin hK hP hD hE hS hA hl hret
  refine lv_aload_n hx hb xd_F_init_0 rfl (lv_at hl 0 rfl) ?_
  refine W.objInit hx hb hown (htg _ xw_298) (htg _ xw_21) (htg _ xkin_O_init) rfl (by rw [hml]; exact hl.1) rfl xd_F_init_1 (Nat.le_of_ble_eq_true rfl) (Nat.le_of_ble_eq_true rfl) ?_
  refine lv_aload_n hx hb xd_F_init_4 rfl (lv_at hl 0 rfl) ?_
  refine lv_sipush (v := 1024) hx hb xd_F_init_5 (by decide) ?_
  refine va_newa (atype := .int) (a0 := (1024, .inl (fun _ => 0))) (ty := .int) hx hb (htg _ xw_45) rfl hK hP hD hS hA (fun cA => rfl) (by decide) (by decide) (by decide) (Nat.le_of_ble_eq_true rfl) (Nat.le_of_ble_eq_true rfl) xd_F_init_8 (fun w cA H hK2 hP hD hS => ?_)
  have hc : cA = k.1 := xKA hK2 rfl
  rw [hc] at hP hD
  refine va_putF (D := D) (ci := 5) (v := .ref w) (ty := .array .int) (C := xR_F) (T := xF_F) (N := 1) hx hb htg xin_F xT_F xO_F xN_F hown hK hP hD hS 0 rfl rfl 0 (by decide) (htg _ xw_299) (fun _ h9 => h9) rfl hin rfl (by decide +kernel) rfl rfl (Nat.le_of_ble_eq_true rfl) xd_F_init_10 (fun H locs hP hD hS => ?_)
  exact hret w H locs ls _ trivial hP hD hS xd_F_init_13

set_option maxHeartbeats 4000000 in
set_option maxRecDepth 100000 in
theorem c_M_readWord (l : Launch) (D : va_G) (z : (Nat → Nat) × (Nat → Nat)) (k : ClassId × ClassId) (sz h f n : Nat) (hn : n ≤ 64) (g : XG1) (u : XM1) (hg : xok1 k.1 n g u) (p0 : Int32) : Met l xy_M_readWord (xk_M_readWord :: lw_g) { frames := 0, cells := 0, slots := 0, locals := 0 } (va_Pc [.ref h, .int p0] (xB D (xTy k) z sz (xWM k h f n g u.2.2))) (va_Qi (fun r (q : XM1 × XG1) => (r, q.1) = xf_M_readWord n u p0 ∧ xok1 k.1 n q.2 q.1) (fun q t => xQ D (xTy k) (xWM k h f n q.2 q.1.2.2) (va_A (xWM k h f n g u.2.2) sz) t) (va_A (xWM k h f n g u.2.2) sz)) 0 0 (va_A (xWM k h f n g u.2.2) sz) := by
  refine xopen_i (wf := fun q : XM1 × XG1 => xWM k h f n q.2 q.1.2.2) (lv := [(0, .ref h), (1, .int p0)]) (by decide) rfl (Nat.le_of_ble_eq_true rfl) ?_
  intro p e s m args below meth c Q ls A H locs hx hb hml htg hown hin hK hP hD hE hS hA hl hret
  have hg0 := hg
  obtain ⟨wd, hok, hwd⟩ := hg0
  refine lv_iload_n hx hb xd_M_readWord_0 rfl (lv_at hl 1 rfl) ?_
  refine lv_bipush (v := 12) hx hb xd_M_readWord_1 (by decide) ?_
  refine lv_iushr (v := (xus p0 (12 : Int32))) hx hb xd_M_readWord_3 rfl ?_
  refine lv_istore_n (lv' := [(2, .int ((xus p0 (12 : Int32)))), (0, .ref h), (1, .int p0)]) hx hb xd_M_readWord_4 rfl hl (by decide) rfl (fun ls hl => ?_)
  refine lv_iload_n hx hb xd_M_readWord_5 rfl (lv_at hl 0 rfl) ?_
  refine lv_aload_n hx hb xd_M_readWord_6 rfl (lv_at hl 1 rfl) ?_
  refine va_get (D := D) (ci := 6) (v := .ref f) (C := xR_M) (T := xF_M) (N := 2) hx hb htg xin_M hown hK hP 0 rfl rfl 0 (by decide) (htg _ xw_37) (fun _ h9 => h9) rfl xd_M_readWord_7 ?_
  refine va_alen (v := Int32.ofNat n) hx hb hK hP 1 1 rfl rfl rfl xd_M_readWord_10 ?_
  refine lv_icmp_lt (tgt := 26) hx hb xd_M_readWord_11 rfl (fun h1 => ?_) (fun h1 => ?_)
  · refine lv_aload_n hx hb xd_M_readWord_26 rfl (lv_at hl 1 rfl) ?_
    refine va_get (D := D) (ci := 6) (v := .ref f) (C := xR_M) (T := xF_M) (N := 2) hx hb htg xin_M hown hK hP 0 rfl rfl 0 (by decide) (htg _ xw_37) (fun _ h9 => h9) rfl xd_M_readWord_27 ?_
    refine lv_iload_n hx hb xd_M_readWord_30 rfl (lv_at hl 0 rfl) ?_
    have hi : vp_in (xus p0 12) n := xus_in hn h1
    refine va_aldq hx hb hK hP 1 1 rfl rfl hi xd_M_readWord_31 ?_
    rcases hok (xmI p0) (xin_lt' hi) with ⟨e1, e2, e3⟩ | ⟨pp, e1, e2, e3, e4, e5, e6⟩
    · rw [e1]
      show W p l e { frames := 0, cells := 0, slots := 0, locals := 0 } s m args below meth c H locs (0) (0) Q (F0 m 32 ls [.null])
      refine lv_astore_nN (lv' := [(3, .null), (2, .int ((xus p0 (12 : Int32)))), (0, .ref h), (1, .int p0)]) hx hb xd_M_readWord_32 rfl hl (by decide) rfl (fun ls hl => ?_)
      refine lv_aload_nN hx hb xd_M_readWord_33 rfl (lv_at hl 0 rfl) ?_
      refine lv_ifnonnullN hx hb xd_M_readWord_34 ?_
      refine lv_iconst (v := 0) hx hb xd_M_readWord_37 (by decide) ?_
      refine lv_goto (tgt := 53) hx hb xd_M_readWord_38 rfl ?_
      exact hret _ (u, g) H locs ls _ ⟨by rw [xf_M_readWord, if_pos h1, e3], hg⟩ hP hD hS xd_M_readWord_53
    · rw [e1]
      show W p l e { frames := 0, cells := 0, slots := 0, locals := 0 } s m args below meth c H locs (0) (0) Q (F0 m 32 ls [.ref pp])
      obtain ⟨q1, hq1⟩ := va_pl_get (X := [(h, .inr (6, [.ref f, .int u.2.2])), (f, .inl (k.2, n, .inr (.inr (.inr (.inr g.1)))))]) (f := g.2.2) e3
      rw [e5] at hq1
      obtain ⟨q2, hq2⟩ := va_pl_get (X := [(h, .inr (6, [.ref f, .int u.2.2])), (f, .inl (k.2, n, .inr (.inr (.inr (.inr g.1)))))]) (f := g.2.2) e4
      have hq3 := hq2
      rw [e6] at hq3
      refine lv_astore_n (lv' := [(3, .ref pp), (2, .int ((xus p0 (12 : Int32)))), (0, .ref h), (1, .int p0)]) hx hb xd_M_readWord_32 rfl hl (by decide) rfl (fun ls hl => ?_)
      refine lv_aload_n hx hb xd_M_readWord_33 rfl (lv_at hl 0 rfl) ?_
      refine lv_ifnonnull (tgt := 41) hx hb xd_M_readWord_34 rfl ?_
      refine lv_aload_n hx hb xd_M_readWord_41 rfl (lv_at hl 0 rfl) ?_
      refine va_get (D := D) (ci := 5) (v := .ref (wd (xmI p0))) (C := xR_F) (T := xF_F) (N := 1) hx hb htg xin_F hown hK hP q1 hq1 rfl 0 (by decide) (htg _ xw_300) (fun _ h9 => h9) rfl xd_M_readWord_42 ?_
      refine lv_iload_n hx hb xd_M_readWord_45 rfl (lv_at hl 3 rfl) ?_
      refine lv_iconst (v := 2) hx hb xd_M_readWord_46 (by decide) ?_
      refine lv_iushr (v := (xus p0 (2 : Int32))) hx hb xd_M_readWord_47 rfl ?_
      refine lv_sipush (v := 1023) hx hb xd_M_readWord_48 (by decide) ?_
      refine lv_iand hx hb xd_M_readWord_51 ?_
      refine va_iald hx hb hK hP q2 0 hq3 rfl (xwd_in p0) xd_M_readWord_52 ?_
      exact hret _ (u, g) H locs ls _ ⟨by rw [xf_M_readWord, if_pos h1], hg⟩ hP hD hS xd_M_readWord_53
  · refine lv_aload_n hx hb xd_M_readWord_14 rfl (lv_at hl 1 rfl) ?_
    refine lv_dup hx hb xd_M_readWord_15 rfl ?_
    refine va_get (D := D) (ci := 6) (v := .int u.2.2) (C := xR_M) (T := xF_M) (N := 2) hx hb htg xin_M hown hK hP 0 rfl rfl 1 (by decide) (htg _ xw_38) (fun _ h9 => h9) rfl xd_M_readWord_16 ?_
    refine lv_iconst (v := 1) hx hb xd_M_readWord_19 (by decide) ?_
    refine lv_iadd hx hb xd_M_readWord_20 ?_
    refine va_put (D := D) (ci := 6) (v := .int ((u.2.2 + (1 : Int32)))) (ty := .int) (C := xR_M) (T := xF_M) (N := 2) hx hb htg xin_M xT_M xO_M xN_M hown hK hP hD hS 0 rfl rfl 1 (by decide) (htg _ xw_38) (fun _ h9 => h9) rfl (by decide +kernel) rfl rfl (Nat.le_of_ble_eq_true rfl) xd_M_readWord_21 (fun H locs hP hD hS => ?_)
    have hP : va_P D xCl (xWM k h f n g (u.2.2 + (1 : Int32))) H := hP
    have hD : va_D A (xWM k h f n g (u.2.2 + (1 : Int32))) := hD
    refine lv_iconst (v := 0) hx hb xd_M_readWord_24 (by decide) ?_
    exact hret _ ((u.1, u.2.1, (u.2.2 + (1 : Int32))), g) H locs ls _ ⟨by rw [xf_M_readWord, if_neg h1], hg⟩ hP hD hS xd_M_readWord_25

set_option maxHeartbeats 4000000 in
set_option maxRecDepth 100000 in
theorem c_M_writeWord (l : Launch) (D : va_G) (z : (Nat → Nat) × (Nat → Nat)) (k : ClassId × ClassId) (sz h f n : Nat) (hn : n ≤ 64) (g : XG1) (u : XM1) (hg : xok1 k.1 n g u) (p0 p1 : Int32) (kk : Nat) (hk : xcnt n (xf_M_writeWord n u p0 p1).2.1 ≤ xcnt n u.2.1 + kk) : Met l xy_M_writeWord (xk_M_writeWord :: lw_g) { frames := 2, cells := 2 * kk, slots := 1025 * kk, locals := 40 } (va_Pc [.ref h, .int p0, .int p1] (xB D (xTy k) z sz (xWM k h f n g u.2.2))) (va_Qv (fun q : XM1 × XG1 => q.1 = xf_M_writeWord n u p0 p1 ∧ xok1 k.1 n q.2 q.1) (fun q t => xQ D (xTy k) (xWM k h f n q.2 q.1.2.2) (va_A (xWM k h f n g u.2.2) sz) t) (va_A (xWM k h f n g u.2.2) sz)) (2 * kk) (1025 * kk) (va_A (xWM k h f n g u.2.2) sz) := by
  refine xopen_v (wf := fun q : XM1 × XG1 => xWM k h f n q.2 q.1.2.2) (lv := [(0, .ref h), (1, .int p0), (2, .int p1)]) (by decide) rfl (Nat.le_of_ble_eq_true rfl) ?_
  intro p e s m args below meth c Q ls A H locs hx hb hml htg hown hin hK hP hD hE hS hA hl hret
  have hg0 := hg
  obtain ⟨wd, hok, hwd⟩ := hg0
  refine lv_iload_n hx hb xd_M_writeWord_0 rfl (lv_at hl 1 rfl) ?_
  refine lv_bipush (v := 12) hx hb xd_M_writeWord_1 (by decide) ?_
  refine lv_iushr (v := (xus p0 (12 : Int32))) hx hb xd_M_writeWord_3 rfl ?_
  refine lv_istore_n (lv' := [(3, .int ((xus p0 (12 : Int32)))), (0, .ref h), (1, .int p0), (2, .int p1)]) hx hb xd_M_writeWord_4 rfl hl (by decide) rfl (fun ls hl => ?_)
  refine lv_iload_n hx hb xd_M_writeWord_5 rfl (lv_at hl 0 rfl) ?_
  refine lv_aload_n hx hb xd_M_writeWord_6 rfl (lv_at hl 1 rfl) ?_
  refine va_get (D := D) (ci := 6) (v := .ref f) (C := xR_M) (T := xF_M) (N := 2) hx hb htg xin_M hown hK hP 0 rfl rfl 0 (by decide) (htg _ xw_37) (fun _ h9 => h9) rfl xd_M_writeWord_7 ?_
  refine va_alen (v := Int32.ofNat n) hx hb hK hP 1 1 rfl rfl rfl xd_M_writeWord_10 ?_
  refine lv_icmp_lt (tgt := 25) hx hb xd_M_writeWord_11 rfl (fun h1 => ?_) (fun h1 => ?_)
  · refine lv_aload_n hx hb xd_M_writeWord_25 rfl (lv_at hl 1 rfl) ?_
    refine va_get (D := D) (ci := 6) (v := .ref f) (C := xR_M) (T := xF_M) (N := 2) hx hb htg xin_M hown hK hP 0 rfl rfl 0 (by decide) (htg _ xw_37) (fun _ h9 => h9) rfl xd_M_writeWord_26 ?_
    refine lv_iload_n hx hb xd_M_writeWord_29 rfl (lv_at hl 0 rfl) ?_
    have hi : vp_in (xus p0 12) n := xus_in hn h1
    refine va_aldq hx hb hK hP 1 1 rfl rfl hi xd_M_writeWord_30 ?_
    rcases hok (xmI p0) (xin_lt' hi) with ⟨e1, e2, e3⟩ | ⟨pp, e1, e2, e3, e4, e5, e6⟩
    · rw [e1]
      show W p l e { frames := 2, cells := 2 * kk, slots := 1025 * kk, locals := 40 } s m args below meth c H locs (0) (0) Q (F0 m 31 ls [.null])
      have hk1 : 1 ≤ kk := by
        rw [xf_M_writeWord, if_pos h1] at hk
        have h9 : xcnt n (va_up u.2.1 (xmI p0) true) = xcnt n u.2.1 + 1 := xcnt_up (xin_lt' hi) e2
        dsimp only at hk
        omega
      refine lv_astoreN (lv' := [(4, .null), (3, .int ((xus p0 (12 : Int32)))), (0, .ref h), (1, .int p0), (2, .int p1)]) hx hb xd_M_writeWord_31 hl (by decide) rfl (fun ls hl => ?_)
      refine lv_aloadN hx hb xd_M_writeWord_33 (lv_at hl 0 rfl) ?_
      refine lv_ifnonnullN hx hb xd_M_writeWord_35 ?_
      refine va_new (ci := 5) (fs := [.null]) hx hb htg xin_F xT_F xO_F hown (htg _ xw_35) (htg _ xw_294) (htg _ xw_10) hK hP hD hS hA rfl (fun j hj => by obtain rfl : j = 0 := (by omega); rfl) (by show 0 + 1 ≤ 2 * kk; omega) (by show 0 + 1 ≤ 1025 * kk; omega) xd_M_writeWord_38 (fun q H hP hD hS => ?_)
      have hqL := xfresh hD
      refine lv_dup hx hb xd_M_writeWord_41 rfl ?_
      refine xcS_v (wf := fun w : Nat => [(q, .inr (5, [.ref w])), (w, .inl (k.1, 1024, .inl (fun _ => 0)))]) (X := xWM k h f n g u.2.2) (Y := []) (va_runIN (As := []) (rest := [.ref q]) ⟨hx, hb, hml, hown, htg⟩ (c_F_init l D z k H.size q) ⟨va_cnB (host := "HyperHost") 0 htg (xg_C0 xkin_F_init) rfl rfl rfl (xnest hE (by decide +kernel)) (htg _ xw_10) (by decide +kernel) ⟨Nat.le_of_ble_eq_true rfl, Nat.le_of_ble_eq_true rfl⟩, rfl, htg _ xw_296⟩ ⟨xB_blind, fun U hU hW => xB_mk (xPs (X := xWM k h f n g u.2.2) (Y := []) hP) hK (xDs (X := xWM k h f n g u.2.2) (Y := []) hD) hE hS (xsubS (X := xWM k h f n g u.2.2) (Y := []) hD hA hS) hU hW⟩ rfl rfl hl.1 rfl (lv_room (Nat.le_of_ble_eq_true rfl)) xd_M_writeWord_42 ⟨by show 0 + 1 + 1 ≤ 2 * kk; omega, by show 0 + 1 + 1024 ≤ 1025 * kk; omega⟩) hP hD hA hS (fun ww H locs _ hP hD hS => ?_)
      have hP : va_P D xCl (xWM k h f n g u.2.2 ++ [(q, .inr (5, [.ref ww])), (ww, .inl (k.1, 1024, .inl (fun _ => 0)))]) H := hP
      have hD : va_D A (xWM k h f n g u.2.2 ++ [(q, .inr (5, [.ref ww])), (ww, .inl (k.1, 1024, .inl (fun _ => 0)))]) := hD
      have hwL : ww ∉ g.2.1 ++ [q] := xfresh2 hD hqL
      refine lv_astore (lv' := [(4, .ref q), (3, .int ((xus p0 (12 : Int32)))), (0, .ref h), (1, .int p0), (2, .int p1)]) hx hb xd_M_writeWord_45 hl (by decide) rfl (fun ls hl => ?_)
      refine lv_aload_n hx hb xd_M_writeWord_47 rfl (lv_at hl 2 rfl) ?_
      refine va_get (D := D) (ci := 6) (v := .ref f) (C := xR_M) (T := xF_M) (N := 2) hx hb htg xin_M hown hK hP 0 rfl rfl 0 (by decide) (htg _ xw_37) (fun _ h9 => h9) rfl xd_M_writeWord_48 ?_
      refine lv_iload_n hx hb xd_M_writeWord_51 rfl (lv_at hl 1 rfl) ?_
      refine lv_aload hx hb xd_M_writeWord_52 (lv_at hl 0 rfl) ?_
      refine va_astq (r := (xR_F, xF_F, 1)) hx hb hK hP hD hS 1 1 (xWM k h f n g u.2.2).length 5 rfl rfl xat0 rfl hi xd_M_writeWord_54 (fun H locs hP hD hS => ?_)
      have hP := xstep_new hqL hwL hP
      have hD := xstep_newD hqL hwL hD
      obtain ⟨q1, hq1⟩ := va_pl_get (X := [(h, .inr (6, [.ref f, .int u.2.2])), (f, .inl (k.2, n, .inr (.inr (.inr (.inr (va_up g.1 (xmI p0) (some q)))))))]) (L := g.2.1 ++ [q] ++ [ww]) (f := va_up (va_up g.2.2 q (.inr (5, [.ref ww]))) ww (.inl (k.1, 1024, .inl (fun _ => 0)))) (a := q) (by simp)
      have hqw : q ≠ ww := fun e => hwL (e ▸ List.mem_append_right _ (List.mem_singleton.mpr rfl))
      rw [va_up_ne _ _ hqw, va_up_self] at hq1
      obtain ⟨q2, hq2⟩ := va_pl_get (X := [(h, .inr (6, [.ref f, .int u.2.2])), (f, .inl (k.2, n, .inr (.inr (.inr (.inr (va_up g.1 (xmI p0) (some q)))))))]) (L := g.2.1 ++ [q] ++ [ww]) (f := va_up (va_up g.2.2 q (.inr (5, [.ref ww]))) ww (.inl (k.1, 1024, .inl (fun _ => 0)))) (a := ww) (by simp)
      have hq3 := hq2
      rw [va_up_self] at hq3
      refine lv_aload hx hb xd_M_writeWord_55 (lv_at hl 0 rfl) ?_
      refine va_get (D := D) (ci := 5) (v := .ref ww) (C := xR_F) (T := xF_F) (N := 1) hx hb htg xin_F hown hK hP q1 hq1 rfl 0 (by decide) (htg _ xw_300) (fun _ h9 => h9) rfl xd_M_writeWord_57 ?_
      refine lv_iload_n hx hb xd_M_writeWord_60 rfl (lv_at hl 3 rfl) ?_
      refine lv_iconst (v := 2) hx hb xd_M_writeWord_61 (by decide) ?_
      refine lv_iushr (v := (xus p0 (2 : Int32))) hx hb xd_M_writeWord_62 rfl ?_
      refine lv_sipush (v := 1023) hx hb xd_M_writeWord_63 (by decide) ?_
      refine lv_iand hx hb xd_M_writeWord_66 ?_
      refine lv_iload_n hx hb xd_M_writeWord_67 rfl (lv_at hl 4 rfl) ?_
      have hD0 := hD
      refine va_iast hx hb hK hP hD hS q2 0 hq3 rfl (xwd_in p0) xd_M_writeWord_68 (fun H locs hP hD hS => ?_)
      exact W.widen (by show 0 + 1 + 1 ≤ 2 * kk; omega) (by show 0 + 1 + 1024 ≤ 1025 * kk; omega) (hret ((va_up u.1 (xmI p0) (upd (u.1 (xmI p0)) (xmJ p0) p1), va_up u.2.1 (xmI p0) true, u.2.2), (va_up g.1 (xmI p0) (some q), (g.2.1 ++ [q]) ++ [ww], va_up (va_up g.2.2 q (.inr (5, [.ref ww]))) ww (.inl (k.1, 1024, .inl (upd (u.1 (xmI p0)) (xmJ p0) p1))))) H locs ls _ ⟨by rw [xf_M_writeWord, if_pos h1], xok1_new (xin_lt' hi) hg e2 hqL hwL _⟩ (xfin_new hD0 hq2 e3 hP) (xfin_newD hD0 hq2 e3 hD) hS xd_M_writeWord_69)
    · rw [e1]
      show W p l e { frames := 2, cells := 2 * kk, slots := 1025 * kk, locals := 40 } s m args below meth c H locs (0) (0) Q (F0 m 31 ls [.ref pp])
      obtain ⟨q1, hq1⟩ := va_pl_get (X := [(h, .inr (6, [.ref f, .int u.2.2])), (f, .inl (k.2, n, .inr (.inr (.inr (.inr g.1)))))]) (f := g.2.2) e3
      rw [e5] at hq1
      obtain ⟨q2, hq2⟩ := va_pl_get (X := [(h, .inr (6, [.ref f, .int u.2.2])), (f, .inl (k.2, n, .inr (.inr (.inr (.inr g.1)))))]) (f := g.2.2) e4
      have hq3 := hq2
      rw [e6] at hq3
      refine lv_astore (lv' := [(4, .ref pp), (3, .int ((xus p0 (12 : Int32)))), (0, .ref h), (1, .int p0), (2, .int p1)]) hx hb xd_M_writeWord_31 hl (by decide) rfl (fun ls hl => ?_)
      refine lv_aload hx hb xd_M_writeWord_33 (lv_at hl 0 rfl) ?_
      refine lv_ifnonnull (tgt := 55) hx hb xd_M_writeWord_35 rfl ?_
      refine lv_aload hx hb xd_M_writeWord_55 (lv_at hl 0 rfl) ?_
      refine va_get (D := D) (ci := 5) (v := .ref (wd (xmI p0))) (C := xR_F) (T := xF_F) (N := 1) hx hb htg xin_F hown hK hP q1 hq1 rfl 0 (by decide) (htg _ xw_300) (fun _ h9 => h9) rfl xd_M_writeWord_57 ?_
      refine lv_iload_n hx hb xd_M_writeWord_60 rfl (lv_at hl 3 rfl) ?_
      refine lv_iconst (v := 2) hx hb xd_M_writeWord_61 (by decide) ?_
      refine lv_iushr (v := (xus p0 (2 : Int32))) hx hb xd_M_writeWord_62 rfl ?_
      refine lv_sipush (v := 1023) hx hb xd_M_writeWord_63 (by decide) ?_
      refine lv_iand hx hb xd_M_writeWord_66 ?_
      refine lv_iload_n hx hb xd_M_writeWord_67 rfl (lv_at hl 4 rfl) ?_
      have hD0 := hD
      refine va_iast hx hb hK hP hD hS q2 0 hq3 rfl (xwd_in p0) xd_M_writeWord_68 (fun H locs hP hD hS => ?_)
      exact W.widen (Nat.zero_le _) (Nat.zero_le _) (hret ((va_up u.1 (xmI p0) (upd (u.1 (xmI p0)) (xmJ p0) p1), va_up u.2.1 (xmI p0) true, u.2.2), (g.1, g.2.1, va_up g.2.2 (wd (xmI p0)) (.inl (k.1, 1024, .inl (upd (u.1 (xmI p0)) (xmJ p0) p1))))) H locs ls _ ⟨by rw [xf_M_writeWord, if_pos h1], xok1_set (xin_lt' hi) hok hwd e2 _⟩ (xfin_set hD0 e4 hq2 hP) (xfin_setD hD0 e4 hq2 hD) hS xd_M_writeWord_69)
  · refine lv_aload_n hx hb xd_M_writeWord_14 rfl (lv_at hl 1 rfl) ?_
    refine lv_dup hx hb xd_M_writeWord_15 rfl ?_
    refine va_get (D := D) (ci := 6) (v := .int u.2.2) (C := xR_M) (T := xF_M) (N := 2) hx hb htg xin_M hown hK hP 0 rfl rfl 1 (by decide) (htg _ xw_38) (fun _ h9 => h9) rfl xd_M_writeWord_16 ?_
    refine lv_iconst (v := 1) hx hb xd_M_writeWord_19 (by decide) ?_
    refine lv_iadd hx hb xd_M_writeWord_20 ?_
    refine va_put (D := D) (ci := 6) (v := .int ((u.2.2 + (1 : Int32)))) (ty := .int) (C := xR_M) (T := xF_M) (N := 2) hx hb htg xin_M xT_M xO_M xN_M hown hK hP hD hS 0 rfl rfl 1 (by decide) (htg _ xw_38) (fun _ h9 => h9) rfl (by decide +kernel) rfl rfl (Nat.le_of_ble_eq_true rfl) xd_M_writeWord_21 (fun H locs hP hD hS => ?_)
    have hP : va_P D xCl (xWM k h f n g (u.2.2 + (1 : Int32))) H := hP
    have hD : va_D A (xWM k h f n g (u.2.2 + (1 : Int32))) := hD
    exact W.widen (Nat.zero_le _) (Nat.zero_le _) (hret ((u.1, u.2.1, (u.2.2 + (1 : Int32))), g) H locs ls _ ⟨by rw [xf_M_writeWord, if_neg h1], hg⟩ hP hD hS xd_M_writeWord_24)

