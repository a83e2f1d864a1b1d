theorem yandz (e m : Int32) : e &&& m = 0 ↔ ∀ i, i < 32 → ybt m i = true → ybt e i = false := by
  constructor
  · intro h i hi hm
    have := congrArg (fun z => ybt z i) h
    simpa [ybt_and, hm, ybt0] using this
  · intro h; apply ybt_ext; intro i hi; rw [ybt_and, ybt0]
    cases hm : ybt m i
    · simp
    · simp [h i hi hm]
theorem yanda (e m : Int32) : e &&& m = m ↔ ∀ i, i < 32 → ybt m i = true → ybt e i = true := by
  constructor
  · intro h i hi hm
    have := congrArg (fun z => ybt z i) h
    simpa [ybt_and, hm] using this
  · intro h; apply ybt_ext; intro i hi; rw [ybt_and]
    cases hm : ybt m i
    · simp
    · simp [h i hi hm]

theorem ydz_2 (e : Int32) : decide (e &&& 2 = 0) = (!ybt e 1) := by
  rw [Bool.eq_iff_iff, decide_eq_true_eq, yandz]
  have hk : ∀ i, i < 32 → ybt 2 i = true → i = 1 := by decide +kernel
  constructor
  · intro h; simp [h 1 (by decide) (by decide)]
  · intro h i hi hm
    simp at h
    rcases hk i hi hm with h2 <;> subst h2 <;> simp [h]
theorem ydz_4 (e : Int32) : decide (e &&& 4 = 0) = (!ybt e 2) := by
  rw [Bool.eq_iff_iff, decide_eq_true_eq, yandz]
  have hk : ∀ i, i < 32 → ybt 4 i = true → i = 2 := by decide +kernel
  constructor
  · intro h; simp [h 2 (by decide) (by decide)]
  · intro h i hi hm
    simp at h
    rcases hk i hi hm with h2 <;> subst h2 <;> simp [h]
theorem ydz_8 (e : Int32) : decide (e &&& 8 = 0) = (!ybt e 3) := by
  rw [Bool.eq_iff_iff, decide_eq_true_eq, yandz]
  have hk : ∀ i, i < 32 → ybt 8 i = true → i = 3 := by decide +kernel
  constructor
  · intro h; simp [h 3 (by decide) (by decide)]
  · intro h i hi hm
    simp at h
    rcases hk i hi hm with h2 <;> subst h2 <;> simp [h]
theorem ydz_10 (e : Int32) : decide (e &&& 10 = 0) = (!ybt e 1 && !ybt e 3) := by
  rw [Bool.eq_iff_iff, decide_eq_true_eq, yandz]
  have hk : ∀ i, i < 32 → ybt 10 i = true → i = 1 ∨ i = 3 := by decide +kernel
  constructor
  · intro h; simp [h 1 (by decide) (by decide), h 3 (by decide) (by decide)]
  · intro h i hi hm
    simp at h
    rcases hk i hi hm with h2 | h2 <;> subst h2 <;> simp [h]
theorem ydz_16 (e : Int32) : decide (e &&& 16 = 0) = (!ybt e 4) := by
  rw [Bool.eq_iff_iff, decide_eq_true_eq, yandz]
  have hk : ∀ i, i < 32 → ybt 16 i = true → i = 4 := by decide +kernel
  constructor
  · intro h; simp [h 4 (by decide) (by decide)]
  · intro h i hi hm
    simp at h
    rcases hk i hi hm with h2 <;> subst h2 <;> simp [h]
theorem yda_65 (e : Int32) : decide (e &&& 65 = 65) = (ybt e 0 && ybt e 6) := by
  rw [Bool.eq_iff_iff, decide_eq_true_eq, yanda]
  have hk : ∀ i, i < 32 → ybt 65 i = true → i = 0 ∨ i = 6 := by decide +kernel
  constructor
  · intro h; simp [h 0 (by decide) (by decide), h 6 (by decide) (by decide)]
  · intro h i hi hm
    simp at h
    rcases hk i hi hm with h2 | h2 <;> subst h2 <;> simp [h]
theorem yda_81 (e : Int32) : decide (e &&& 81 = 81) = (ybt e 0 && ybt e 4 && ybt e 6) := by
  rw [Bool.eq_iff_iff, decide_eq_true_eq, yanda]
  have hk : ∀ i, i < 32 → ybt 81 i = true → i = 0 ∨ i = 4 ∨ i = 6 := by decide +kernel
  constructor
  · intro h; simp [h 0 (by decide) (by decide), h 4 (by decide) (by decide), h 6 (by decide) (by decide)]
  · intro h i hi hm
    simp at h
    rcases hk i hi hm with h2 | h2 | h2 <;> subst h2 <;> simp [h]
theorem yda_193 (e : Int32) : decide (e &&& 193 = 193) = (ybt e 0 && ybt e 6 && ybt e 7) := by
  rw [Bool.eq_iff_iff, decide_eq_true_eq, yanda]
  have hk : ∀ i, i < 32 → ybt 193 i = true → i = 0 ∨ i = 6 ∨ i = 7 := by decide +kernel
  constructor
  · intro h; simp [h 0 (by decide) (by decide), h 6 (by decide) (by decide), h 7 (by decide) (by decide)]
  · intro h i hi hm
    simp at h
    rcases hk i hi hm with h2 | h2 | h2 <;> subst h2 <;> simp [h]
theorem yda_209 (e : Int32) : decide (e &&& 209 = 209) = (ybt e 0 && ybt e 4 && ybt e 6 && ybt e 7) := by
  rw [Bool.eq_iff_iff, decide_eq_true_eq, yanda]
  have hk : ∀ i, i < 32 → ybt 209 i = true → i = 0 ∨ i = 4 ∨ i = 6 ∨ i = 7 := by decide +kernel
  constructor
  · intro h; simp [h 0 (by decide) (by decide), h 4 (by decide) (by decide), h 6 (by decide) (by decide), h 7 (by decide) (by decide)]
  · intro h i hi hm
    simp at h
    rcases hk i hi hm with h2 | h2 | h2 | h2 <;> subst h2 <;> simp [h]
theorem ydz_0 (e : Int32) : decide (e &&& 0 = 0) = true := by simp
theorem yde_6 (e : Int32) : decide (e &&& 6 = 4) = (!ybt e 1 && ybt e 2) := by
  rw [Bool.eq_iff_iff, decide_eq_true_eq]
  have h6 : ∀ i, i < 32 → ybt 6 i = (decide (i = 1) || decide (i = 2)) := by decide +kernel
  have h4 : ∀ i, i < 32 → ybt 4 i = decide (i = 2) := by decide +kernel
  constructor
  · intro h
    have h1 := congrArg (fun z => ybt z 1) h
    have h2 := congrArg (fun z => ybt z 2) h
    simp only [ybt_and] at h1 h2
    rw [h6 1 (by decide), h4 1 (by decide)] at h1
    rw [h6 2 (by decide), h4 2 (by decide)] at h2
    simp at h1 h2
    simp [h1, h2]
  · intro h
    simp at h
    apply ybt_ext; intro i hi
    rw [ybt_and, h6 i hi, h4 i hi]
    by_cases e1 : i = 1
    · subst e1; simp [h]
    · by_cases e2 : i = 2
      · subst e2; simp [h]
      · simp [e1, e2]
/-- what the class asks of a leaf, by bits -/
theorem yallows_b (e : Int32) (l : Nat) (any all none : Int32) [d : Decidable (yokC any all none e l)] : (decide (yokC any all none e l)) = (!decide (e &&& 6 = 4) && (!decide (l = 0) || decide (e &&& 1047552 = 0)) && !decide (e &&& any = 0) && decide (e &&& all = all) && decide (e &&& none = 0)) := by
  unfold yokC xf_T_allows
  simp only [yxlt_d]
  by_cases h1 : e &&& 6 = 4
  · simp [h1]
  · by_cases h2 : l = 0
    · by_cases h3 : e &&& 1047552 = 0
      · by_cases h4 : e &&& any = 0
        · simp [h1, h2, h3, h4]
        · by_cases h5 : e &&& all = all
          · by_cases h6 : e &&& none = 0
            · simp [h1, h2, h3, h4, h5, h6]
            · simp [h1, h2, h3, h4, h5, h6]
          · simp [h1, h2, h3, h4, h5]
      · simp [h1, h2, h3]
    · by_cases h4 : e &&& any = 0
      · simp [h1, h2, h4]
      · by_cases h5 : e &&& all = all
        · by_cases h6 : e &&& none = 0
          · simp [h1, h2, h4, h5, h6]
          · simp [h1, h2, h4, h5, h6]
        · simp [h1, h2, h4, h5]
def yb2 (b : Bool) : Int32 := if b then 0 else 1
theorem yifn (p : Prop) [Decidable p] : (if p then (0 : Int32) else 1) = xz (!decide p) := by by_cases h : p <;> simp [h, xz]
theorem yifp (p : Prop) [Decidable p] : (if p then (1 : Int32) else 0) = xz (decide p) := by by_cases h : p <;> simp [h, xz]
theorem yxz_if {α : Type} (b : Bool) (x y : α) : (if xz b = 0 then x else y) = if b then y else x := by cases b <;> simp [xz]
theorem yxz_ite (a b d : Bool) : (if a then xz b else xz d) = xz (if a then b else d) := by cases a <;> rfl
theorem yxz_ite0 (a d : Bool) : (if a then (0 : Int32) else xz d) = xz (!a && d) := by cases a <;> rfl
theorem yxz_ite1 (a d : Bool) : (if a then (1 : Int32) else xz d) = xz (a || d) := by cases a <;> rfl
theorem yxz_iteD (a d : Bool) : (if a then xz d else (0 : Int32)) = xz (a && d) := by cases a <;> rfl
theorem yxz_iteE (a d : Bool) : (if a then xz d else (1 : Int32)) = xz (!a || d) := by cases a <;> rfl
theorem yxz_01 (a : Bool) : (if a then (0 : Int32) else 1) = xz (!a) := by cases a <;> rfl
theorem yxz_10 (a : Bool) : (if a then (1 : Int32) else 0) = xz a := by cases a <;> rfl
/-- what the reference asks of a leaf, by bits; st: a store, ft: a fetch, xr: a load for execution (of none of them where an entry is read) -/
def yalB (V R W X A D st xr also wh : Bool) : Bool := V && (R || W || X) && !(W && !R) && (if st then W else if xr then X else R || (also && X)) && wh && A && (!st || D)

theorem yL19 (R W X : Bool) : (if xz R = 0 then (if xz W = 0 then (if xz X = 0 then (0 : Int32) else 1) else 1) else 1) = xz (R || W || X) := by cases R <;> cases W <;> cases X <;> rfl
theorem yL23 (p : Prop) [Decidable p] (en : Bool) : (if p then (if xz en = 0 then (1 : Int32) else 0) else 0) = xz (decide p && !en) := by by_cases h : p <;> cases en <;> simp [h, xz]
theorem yL37 (p : Prop) [Decidable p] (en m0 ym1 : Bool) : (if xz en = 0 then (xlt (xz m0 : Int32) fun q30 => if q30 = 0 then (if p then (xlt (xz ym1 : Int32) fun q34 => if q34 = 0 then (0 : Int32) else 1) else 0) else 1) else 0) = xz (!en && (m0 || (decide p && ym1))) := by
  by_cases h : p <;> cases en <;> cases m0 <;> cases ym1 <;> simp [h, xz, yxlt_d]
theorem yL49 (st ft ex en R al X W : Bool) : (if xz st = 0 then (if xz ft = 0 then (if xz ex = 0 then (if xz R = 0 then (if xz al = 0 then (0 : Int32) else (if xz X = 0 then 0 else 1)) else 1) else (if xz en = 0 then xz X else (if xz R = 0 then (if xz al = 0 then 0 else (if xz X = 0 then 0 else 1)) else 1))) else xz X) else xz W) = xz (if st then W else if ft || (ex && !en) then X else R || (al && X)) := by
  cases st <;> cases ft <;> cases ex <;> cases en <;> cases R <;> cases al <;> cases X <;> cases W <;> rfl
theorem yL59 (p q : Prop) [Decidable p] [Decidable q] (f : Int32 → Bool) : (if p then (0 : Int32) else (xlt (if q then (512 : Int32) else 256) fun v53 => xlt (xz (f v53) : Int32) fun q55 => if q55 = 0 then 0 else 1)) = xz (!decide p && f (if q then 512 else 256)) := by
  by_cases h : p
  · simp [h, xz]
  · simp only [h, if_false, yxlt_d]
    cases f (if q then 512 else 256) <;> simp [xz]
theorem yL65 (p : Prop) [Decidable p] (U us su : Bool) : (if p then xz U else (if xz us = 0 then (if xz U = 0 then (1 : Int32) else (if xz su = 0 then 0 else 1)) else xz U)) = xz (if decide p || us then U else (!U || su)) := by
  by_cases h : p <;> cases U <;> cases us <;> cases su <;> simp [h, xz]
theorem yL81 (V lf W R rt wh A st D : Bool) (p q : Prop) [Decidable p] [Decidable q] (hp : decide p = !A) (hq : decide q = !D) : (if xz V = 0 then (0 : Int32) else (if xz lf = 0 then 0 else (if xz W = 0 then (if xz rt = 0 then 0 else (if xz wh = 0 then 0 else (if p then 0 else (if xz st = 0 then 1 else (if q then 0 else 1))))) else (if xz R = 0 then 0 else (if xz rt = 0 then 0 else (if xz wh = 0 then 0 else (if p then 0 else (if xz st = 0 then 1 else (if q then 0 else 1)))))))) ) = xz (V && lf && !(W && !R) && rt && wh && A && (!st || D)) := by
  have hp' : p ↔ A = false := by rw [← decide_eq_true_eq (p := p), hp]; simp
  have hq' : q ↔ D = false := by rw [← decide_eq_true_eq (p := q), hq]; simp
  simp only [hp', hq']
  cases V <;> cases lf <;> cases W <;> cases R <;> cases rt <;> cases wh <;> cases A <;> cases st <;> cases D <;> rfl
theorem yallowed_b (v : XZ) (s e : Int32) (en : Bool) : xf_Z_isAllowed v s e (xz en) = xz (yalB (ybt e 0) (ybt e 1) (ybt e 2) (ybt e 3) (ybt e 6) (ybt e 7) (decide (xg_Z_kind v = 2) && !en) ((decide (xg_Z_kind v = 0) && !en) || (xg_Z_executes v && !en)) (!en && (ybt (xf_Z_value v 256) 19 || (decide (s = 1) && ybt (xf_Z_value v 512) 19))) (if decide (s = 2) || xg_Z_user v then ybt e 4 else (!ybt e 4 || (!decide (xg_Z_kind v = 0) && ybt (xf_Z_value v (if s = 1 then 512 else 256)) 18)))) := by
  unfold xf_Z_isAllowed
  have hd : ∀ (m : Int32) (k : Nat), ypw m k → decide (e &&& m = 0) = !ybt e k := by
    intro m k h; rw [Bool.eq_iff_iff, decide_eq_true_eq, ypw_z h]; simp
  have hp : ∀ (m : Int32) (k : Nat), ypw m k → (if e &&& m = 0 then (0 : Int32) else 1) = xz (ybt e k) := by
    intro m k h
    rw [yifn, hd m k h]; simp
  have hb : ∀ n, xf_Z_bit v n 18 = xz (ybt (xf_Z_value v n) 18) := fun n => yzbit _ _ 18 18 (by decide) (by decide)
  simp only [hb]
  rw [hp 1 0 ⟨by decide, by decide⟩, hp 2 1 ⟨by decide, by decide⟩, hp 4 2 ⟨by decide, by decide⟩, hp 8 3 ⟨by decide, by decide⟩, hp 16 4 ⟨by decide, by decide⟩]
  rw [yzbit _ 256 19 19 (by decide) (by decide), yzbit _ 512 19 19 (by decide) (by decide)]
  rw [yxlt_d, yxlt_d, yxlt_d, yxlt_d, yxlt_d, yL19, yxlt_d, yL23, yxlt_d, yL23, yxlt_d, yL37, yxlt_d, yL49, yxlt_d, yL59 _ _ (fun n => ybt (xf_Z_value v n) 18), yxlt_d, yL65, yxlt_d, yL81 _ _ _ _ _ _ (ybt e 6) _ (ybt e 7) _ _ (hd 64 6 ⟨by decide, by decide⟩) (hd 128 7 ⟨by decide, by decide⟩), yxlt_d]
  rfl
theorem yxz_ne (b : Bool) : (¬ xz b = 0) ↔ b = true := by cases b <;> decide
/-- the bits that the class asks for: any, all, none, by the access (0 fetch, 1 load, 2 load for execution, 3 store) -/
def ycAny (p : Nat) (mx : Bool) : Int32 := if p = 0 then 8 else if p = 1 then (if mx then 10 else 2) else if p = 2 then 8 else 4
def ycAll (p : Nat) (us : Bool) : Int32 := if p = 3 then (if us then 209 else 193) else (if us then 81 else 65)
def ycNone (p : Nat) (us sm : Bool) : Int32 := if us || (!decide (p = 0) && sm) then 0 else 16
def ykOf (p : Nat) : Int32 := if p = 0 then 0 else if p = 3 then 2 else 1
theorem yok01 (v : XZ) (s : Int32) (hs : s = 0 ∨ s = 1) (p : Nat) (hp : p < 4) (hk : xg_Z_kind v = ykOf p) (hx : xg_Z_executes v = decide (p = 2)) (e : Int32) (l : Nat) (hl : ¬ e &&& 14 = 0) :
    yokC (ycAny p (ybt (xf_Z_value v 256) 19 || (decide (s = 1) && ybt (xf_Z_value v 512) 19))) (ycAll p (xg_Z_user v)) (ycNone p (xg_Z_user v) (ybt (xf_Z_value v (if s = 1 then 512 else 256)) 18)) e l ↔ yokZ v s 0 e l := by
  have hlf : (ybt e 1 || ybt e 2 || ybt e 3) = true := by
    cases h1 : ybt e 1 <;> cases h2 : ybt e 2 <;> cases h3 : ybt e 3 <;> try rfl
    exact absurd ((yandz e 14).mpr (fun i hi hm => by
      have hk : ∀ i, i < 32 → ybt 14 i = true → i = 1 ∨ i = 2 ∨ i = 3 := by decide +kernel
      rcases hk i hi hm with h | h | h <;> subst h <;> assumption)) hl
  have d1 := Classical.propDecidable (yokC (ycAny p (ybt (xf_Z_value v 256) 19 || (decide (s = 1) && ybt (xf_Z_value v 512) 19))) (ycAll p (xg_Z_user v)) (ycNone p (xg_Z_user v) (ybt (xf_Z_value v (if s = 1 then 512 else 256)) 18)) e l)
  have hz : yokZ v s 0 e l ↔ (yalB (ybt e 0) (ybt e 1) (ybt e 2) (ybt e 3) (ybt e 6) (ybt e 7) (decide (xg_Z_kind v = 2) && !false) ((decide (xg_Z_kind v = 0) && !false) || (xg_Z_executes v && !false)) (!false && (ybt (xf_Z_value v 256) 19 || (decide (s = 1) && ybt (xf_Z_value v 512) 19))) (if decide (s = 2) || xg_Z_user v then ybt e 4 else (!ybt e 4 || (!decide (xg_Z_kind v = 0) && ybt (xf_Z_value v (if s = 1 then 512 else 256)) 18))) = true ∧ (l = 0 → e &&& 1047552 = 0)) := by
    have ha := yallowed_b v s e false
    rw [show xz false = (0 : Int32) from rfl] at ha
    unfold yokZ
    rw [ha, yxz_ne]
  rw [hz, ← decide_eq_true_eq (p := yokC _ _ _ e l), yallows_b, yde_6, hk, hx]
  have yhs2 : decide (s = 2) = false := by rcases hs with h | h <;> subst h <;> decide
  rw [yhs2]
  generalize hmx : (ybt (xf_Z_value v 256) 19 || (decide (s = 1) && ybt (xf_Z_value v 512) 19)) = mx
  generalize ybt (xf_Z_value v (if s = 1 then 512 else 256)) 18 = sm
  generalize xg_Z_user v = us
  have hlow : (!decide (l = 0) || decide (e &&& 1047552 = 0)) = true ↔ (l = 0 → e &&& 1047552 = 0) := by
    by_cases h1 : l = 0 <;> by_cases h2 : e &&& 1047552 = 0 <;> simp [h1, h2]
  rw [← hlow]
  generalize (!decide (l = 0) || decide (e &&& 1047552 = 0)) = low
  have hp4 : p = 0 ∨ p = 1 ∨ p = 2 ∨ p = 3 := by omega
  unfold ycAny ycAll ycNone ykOf yalB
  rw [hlf]
  rcases hp4 with h | h | h | h <;> subst h <;> cases mx <;> cases us <;> cases sm <;>
    simp [ydz_2, ydz_4, ydz_8, ydz_10, ydz_16, yda_65, yda_81, yda_193, yda_209] <;>
    (generalize ybt e 0 = V; generalize ybt e 1 = R; generalize ybt e 2 = W; generalize ybt e 3 = X; generalize ybt e 4 = U; generalize ybt e 6 = A; generalize ybt e 7 = D
     cases V <;> cases R <;> cases W <;> cases X <;> cases U <;> cases A <;> cases D <;> cases low <;> decide)
theorem yleafb {e : Int32} (hl : ¬ e &&& 14 = 0) : (ybt e 1 || ybt e 2 || ybt e 3) = true := by
  cases h1 : ybt e 1 <;> cases h2 : ybt e 2 <;> cases h3 : ybt e 3 <;> try rfl
  exact absurd ((yandz e 14).mpr (fun i hi hm => by
    have hk : ∀ i, i < 32 → ybt 14 i = true → i = 1 ∨ i = 2 ∨ i = 3 := by decide +kernel
    rcases hk i hi hm with h | h | h <;> subst h <;> assumption)) hl
theorem yok2 (v : XZ) (p : Nat) (hp : p < 4) (hk : xg_Z_kind v = ykOf p) (hx : xg_Z_executes v = decide (p = 2)) (e : Int32) (l : Nat) (hl : ¬ e &&& 14 = 0) :
    yokC (ycAny p (ybt (xf_Z_value v 256) 19)) (ycAll p true) 0 e l ↔ yokZ v 2 0 e l := by
  have hlf := yleafb hl
  have d1 := Classical.propDecidable (yokC (ycAny p (ybt (xf_Z_value v 256) 19)) (ycAll p true) 0 e l)
  have ha := yallowed_b v 2 e false
  rw [show xz false = (0 : Int32) from rfl] at ha
  unfold yokZ
  rw [ha, yxz_ne, ← decide_eq_true_eq (p := yokC _ _ _ e l), yallows_b, yde_6, hk, hx]
  generalize ybt (xf_Z_value v 256) 19 = mx
  have hlow : (!decide (l = 0) || decide (e &&& 1047552 = 0)) = true ↔ (l = 0 → e &&& 1047552 = 0) := by
    by_cases h1 : l = 0 <;> by_cases h2 : e &&& 1047552 = 0 <;> simp [h1, h2]
  rw [← hlow]
  generalize (!decide (l = 0) || decide (e &&& 1047552 = 0)) = low
  have hp4 : p = 0 ∨ p = 1 ∨ p = 2 ∨ p = 3 := by omega
  unfold ycAny ycAll ykOf yalB
  rw [hlf]
  rcases hp4 with h | h | h | h <;> subst h <;> cases mx <;>
    simp [ydz_2, ydz_4, ydz_8, ydz_10, ydz_16, yda_65, yda_81, yda_193, yda_209] <;>
    (generalize ybt e 0 = V; generalize ybt e 1 = R; generalize ybt e 2 = W; generalize ybt e 3 = X; generalize ybt e 4 = U; generalize ybt e 6 = A; generalize ybt e 7 = D
     cases V <;> cases R <;> cases W <;> cases X <;> cases U <;> cases A <;> cases D <;> cases low <;> decide)
theorem yok2e (v : XZ) (e : Int32) (l : Nat) (hl : ¬ e &&& 14 = 0) : yokC 2 81 0 e l ↔ yokZ v 2 1 e l := by
  have hlf := yleafb hl
  have d1 := Classical.propDecidable (yokC 2 81 0 e l)
  have ha := yallowed_b v 2 e true
  rw [show xz true = (1 : Int32) from rfl] at ha
  unfold yokZ
  rw [ha, yxz_ne, ← decide_eq_true_eq (p := yokC _ _ _ e l), yallows_b, yde_6]
  have hlow : (!decide (l = 0) || decide (e &&& 1047552 = 0)) = true ↔ (l = 0 → e &&& 1047552 = 0) := by
    by_cases h1 : l = 0 <;> by_cases h2 : e &&& 1047552 = 0 <;> simp [h1, h2]
  rw [← hlow]
  generalize (!decide (l = 0) || decide (e &&& 1047552 = 0)) = low
  unfold yalB
  rw [hlf]
  simp [ydz_2, ydz_4, ydz_8, ydz_10, ydz_16, yda_65, yda_81, yda_193, yda_209]
  generalize ybt e 0 = V; generalize ybt e 1 = R; generalize ybt e 2 = W; generalize ybt e 3 = X; generalize ybt e 4 = U; generalize ybt e 6 = A; generalize ybt e 7 = D
  cases V <;> cases R <;> cases W <;> cases X <;> cases U <;> cases A <;> cases D <;> cases low <;> decide
theorem ywk_congr (u : XH) (atp : Int32) (A : Nat) (f g : Int32 → Nat → Prop) [∀ e l, Decidable (f e l)] [∀ e l, Decidable (g e l)] (h : ∀ e l, ¬ e &&& 14 = 0 → (f e l ↔ g e l)) : ywk u atp A f = ywk u atp A g := by
  unfold ywk
  by_cases h0 : atp < 0
  · rw [if_pos h0, if_pos h0]
    by_cases h1 : ynFirst atp A < 262144
    · rw [if_pos h1, if_pos h1]
      by_cases h2 : yrdM u (ynFirst atp A) &&& 14 = 0
      · rw [if_pos h2, if_pos h2]
        by_cases h3 : yrdM u (ynFirst atp A) &&& 209 = 1
        · rw [if_pos h3, if_pos h3]
          by_cases h4 : ynNext (yrdM u (ynFirst atp A)) A < 262144
          · rw [if_pos h4, if_pos h4]
            by_cases h5 : yrdM u (ynNext (yrdM u (ynFirst atp A)) A) &&& 14 = 0
            · rw [if_pos h5, if_pos h5]
            · rw [if_neg h5, if_neg h5]
              simp only [h _ _ h5]
          · rw [if_neg h4, if_neg h4]
        · rw [if_neg h3, if_neg h3]
      · rw [if_neg h2, if_neg h2]
        simp only [h _ _ h2]
    · rw [if_neg h1, if_neg h1]
  · rw [if_neg h0, if_neg h0]
theorem ybt31 (x : Int32) : ybt x 31 = true ↔ x < 0 := by
  rw [Int32.lt_iff_toInt_lt]
  have e0 : (0 : Int32).toInt = 0 := by decide
  have e : x.toInt = x.toBitVec.toInt := rfl
  have hm : x.toBitVec.msb = ybt x 31 := BitVec.msb_eq_getLsbD_last _
  have hl := x.toBitVec.isLt
  rw [e0, e, BitVec.toInt_eq_msb_cond, hm]
  cases ybt x 31 <;> simp <;> omega
theorem ybt31f (x : Int32) : ybt x 31 = false ↔ ¬ x < 0 := by rw [← ybt31]; simp
theorem yi64_and {x : Int32} (k : Nat) (m : Int64) (hm : m = yll (2 ^ k - 1)) (hk : k ≤ 32) : (Int32.toInt64 x) &&& m = yll (ynn x % 2 ^ k) := by
  have h : (Int32.toInt64 x) &&& m = ((Int32.toInt64 x) &&& 4294967295) &&& m := by
    rw [Int64.and_assoc]
    congr 1
    rw [hm, Int64.and_comm]
    have := yll_and (2 ^ k - 1) 32 (by have : 2 ^ k ≤ 2 ^ 32 := Nat.pow_le_pow_right (by decide) hk; omega) (by decide)
    rw [Nat.mod_eq_of_lt (by have : 2 ^ k ≤ 2 ^ 32 := Nat.pow_le_pow_right (by decide) hk; have h0 : 0 < 2 ^ k := Nat.two_pow_pos k; omega)] at this
    exact this.symm
  rw [h, yi64_lo, hm, yll_and _ k (by have := ynn_lt x; omega) (by omega)]
theorem yroot_m (x : Int32) : ((Int32.toInt64 x) &&& (4194303 : Int64)) * (4096 : Int64) = yll (ynn x % 4194304 * 4096) := by
  rw [yi64_and 22 4194303 rfl (by decide)]
  exact yll_mul _ 4096
theorem yroot_g {x : Int32} (h : x &&& 3 = 0) : ((Int32.toInt64 x) &&& (4194300 : Int64)) * (4096 : Int64) = yll (ynn x % 4194304 * 4096) := by
  have e : (Int32.toInt64 x) &&& (4194300 : Int64) = (Int32.toInt64 x) &&& (4194303 : Int64) := by
    have h3 : (Int32.toInt64 x) &&& 3 = 0 := by
      rw [yi64_and 2 3 rfl (by decide)]
      have := (yand3 x).mp h
      show yll (ynn x % 4) = 0
      rw [show ynn x % 4 = 0 from this]; rfl
    apply Int64.toBitVec_inj.mp
    apply BitVec.eq_of_getLsbD_eq
    intro i hi
    have hb := congrArg (fun z : Int64 => z.toBitVec.getLsbD i) h3
    simp only [Int64.toBitVec_and, BitVec.getLsbD_and] at hb ⊢
    have hk : ∀ i, i < 64 → (Int64.toBitVec 4194303).getLsbD i = ((Int64.toBitVec 4194300).getLsbD i || (Int64.toBitVec 3).getLsbD i) := by decide +kernel
    rw [hk i hi]
    have h0 : (Int64.toBitVec 0).getLsbD i = false := by simp
    rw [h0] at hb
    cases hx : (Int32.toInt64 x).toBitVec.getLsbD i
    · simp
    · rw [hx] at hb
      simp at hb
      simp [hb]
  rw [e]; exact yroot_m x
theorem yz_second {u : XH} (hi : yxInv u) (c : XZ) {A : Nat} (hA : A < 17179869184) (ent : Int32) [d : ∀ e l, Decidable (yokZ (yxZof u c) 2 ent e l)] : xf_Z_second (yxZof u c) (yll A) ent = yresZ (ywk u (xg_K_hgatp u) A (yokZ (yxZof u c) 2 ent)) u c 2 A ent := by
  unfold xf_Z_second
  simp only [yxlt_d]
  rw [yzbit _ 1664 31 31 (by decide) (by decide), yzv_1664]
  cases hb : ybt (xg_K_hgatp u) 31
  · have h0 := (ybt31f _).mp hb
    rw [if_pos (by decide), if_pos (by decide)]
    have e : ywk u (xg_K_hgatp u) A (yokZ (yxZof u c) 2 ent) = yinN A := by unfold ywk; rw [if_neg h0]
    rw [e, ← yz_inN u c 2 A ent (by omega)]
  · have h0 := (ybt31 _).mp hb
    rw [if_neg (by decide), if_neg (by decide), yroot_g hi.2.2.2.2.2.2.2.2.1, yz_walk2 u c (xg_K_hgatp u) h0 hA rfl ent]
theorem yv_second {u : XH} (hi : yxInv u) (c : XZ) {A : Nat} (hA : A < 17179869184) (ent : Int32) : xv_Z_second (yxZof u c) (yll A) ent := by
  unfold xv_Z_second XVc
  simp only [yxlt_d, yzv_1664, yroot_g hi.2.2.2.2.2.2.2.2.1, yvb_1664, yv_inMem, yzvv_1664, yv_walk2 u c hA (show ynn (xg_K_hgatp u) % 4194304 * 4096 < 17179869184 by omega) ent, and_self, ite_self]
theorem ywk_v (u : XH) (atp : Int32) (A : Nat) (f : Int32 → Nat → Prop) [∀ e l, Decidable (f e l)] : ywk u atp A f = -1 ∨ ywk u atp A f = -3 ∨ ∃ n, n < 262144 ∧ ywk u atp A f = yll n := by
  have hin : ∀ n, yinN n = -1 ∨ yinN n = -3 ∨ ∃ m, m < 262144 ∧ yinN n = yll m := by
    intro n; unfold yinN
    by_cases h : n < 262144
    · rw [if_pos h]; exact Or.inr (Or.inr ⟨n, h, rfl⟩)
    · rw [if_neg h]; exact Or.inr (Or.inl rfl)
  unfold ywk
  repeat' split
  all_goals first | exact hin _ | exact Or.inl rfl | exact Or.inr (Or.inl rfl)
/-- the second stage as the class walks it -/
noncomputable def yW2e (u : XH) (A : Nat) : Int64 := @ywk u (xg_K_hgatp u) A (yokC 2 81 0) (fun _ _ => Classical.propDecidable _)
noncomputable def yW2 (u : XH) (p A : Nat) : Int64 := @ywk u (xg_K_hgatp u) A (yokC (ycAny p (ybt (xg_S_status u) 19)) (ycAll p true) 0) (fun _ _ => Classical.propDecidable _)
theorem yz_sec1 {u : XH} (hi : yxInv u) (c : XZ) {A : Nat} (hA : A < 17179869184) : xf_Z_second (yxZof u c) (yll A) 1 = yresZ (yW2e u A) u c 2 A 1 := by
  have d : ∀ e l, Decidable (yokZ (yxZof u c) 2 1 e l) := fun _ _ => Classical.propDecidable _
  rw [yz_second hi c hA 1]
  have e : ywk u (xg_K_hgatp u) A (yokZ (yxZof u c) 2 1) = yW2e u A := (@ywk_congr u (xg_K_hgatp u) A (yokC 2 81 0) (yokZ (yxZof u c) 2 1) (fun _ _ => Classical.propDecidable _) d (fun e l h => yok2e (yxZof u c) e l h)).symm
  rw [e]
theorem yz_sec0 {u : XH} (hi : yxInv u) (c : XZ) {A : Nat} (hA : A < 17179869184) (p : Nat) (hp : p < 4) (hk : xg_Z_kind c = ykOf p) (hx : xg_Z_executes c = decide (p = 2)) : xf_Z_second (yxZof u c) (yll A) 0 = yresZ (yW2 u p A) u c 2 A 0 := by
  have d : ∀ e l, Decidable (yokZ (yxZof u c) 2 0 e l) := fun _ _ => Classical.propDecidable _
  rw [yz_second hi c hA 0]
  have e : ywk u (xg_K_hgatp u) A (yokZ (yxZof u c) 2 0) = yW2 u p A := by
    refine (@ywk_congr u (xg_K_hgatp u) A (yokC (ycAny p (ybt (xg_S_status u) 19)) (ycAll p true) 0) (yokZ (yxZof u c) 2 0) (fun _ _ => Classical.propDecidable _) d (fun e l h => ?_)).symm
    have := yok2 (yxZof u c) p hp (by rw [yzg_kind]; exact hk) (by rw [yzg_executes]; exact hx) e l h
    rw [yzv_256] at this
    exact this
  rw [e]
theorem yt_w2e (u : XH) {A : Nat} (hA : A < 17179869184) : xf_T_walk u (xg_K_hgatp u) (yll A) 2 81 0 = (yW2e u A, u) := @yt_walk u (xg_K_hgatp u) A hA 2 81 0 (fun _ _ => Classical.propDecidable _)
theorem yt_w2 (u : XH) {A : Nat} (hA : A < 17179869184) (p : Nat) : xf_T_walk u (xg_K_hgatp u) (yll A) (ycAny p (ybt (xg_S_status u) 19)) (ycAll p true) 0 = (yW2 u p A, u) := @yt_walk u (xg_K_hgatp u) A hA _ _ 0 (fun _ _ => Classical.propDecidable _)
def ygst (u : XH) (g : Nat) (i : Int32) : XH := xs_P_inst (xs_P_guest u (Int64.toInt32 (xul (yll g) 2))) i
noncomputable def youtC (r : Int64) (g : Nat) (ent : Int32) (u : XH) : Int64 × XH := if r = -2 then (-2, ygst u g (if ent = 0 then 0 else 8192)) else (r, u)
noncomputable def youtZ (r : Int64) (g : Nat) (ent : Int32) (u : XH) (c : XZ) (s : Int32) (A : Nat) : Int64 × XZ := if r = -1 then (-1, yxZof u (ysf c s (yll A) 0)) else if r = -2 then (-1, yxZof u (ysf c 2 (yll g) ent)) else if r = -3 then (-1, yxZof u (ymf c)) else (r, yxZof u c)
def yokR (r : Int64) (A lim : Nat) : Prop := r = -1 ∨ r = -2 ∨ r = -3 ∨ ∃ n, n < lim ∧ r = yll n ∧ n % 4 = A % 4
theorem yW2e_v (u : XH) (A : Nat) : yW2e u A = -1 ∨ yW2e u A = -3 ∨ ∃ n, n < 262144 ∧ yW2e u A = yll n := @ywk_v u (xg_K_hgatp u) A (yokC 2 81 0) (fun _ _ => Classical.propDecidable _)
theorem yll_neg2 {n : Nat} (h : n < 9223372036854775808) : ¬ yll n = -2 := by
  intro hh
  have := congrArg Int64.toInt hh
  rw [yll_toInt h] at this
  have e : (-2 : Int64).toInt = -2 := by decide
  omega
theorem youtC_1 (g : Nat) (ent : Int32) (u : XH) : youtC (-1) g ent u = (-1, u) := by unfold youtC; rw [if_neg (by decide)]
theorem youtC_2 (g : Nat) (ent : Int32) (u : XH) : youtC (-2) g ent u = (-2, ygst u g (if ent = 0 then 0 else 8192)) := by unfold youtC; rw [if_pos rfl]
theorem youtC_3 (g : Nat) (ent : Int32) (u : XH) : youtC (-3) g ent u = (-3, u) := by unfold youtC; rw [if_neg (by decide)]
theorem youtC_n {n : Nat} (h : n < 9223372036854775808) (g : Nat) (ent : Int32) (u : XH) : youtC (yll n) g ent u = (yll n, u) := by unfold youtC; rw [if_neg (yll_neg2 h)]
theorem youtZ_1 (g : Nat) (ent : Int32) (u : XH) (c : XZ) (s : Int32) (A : Nat) : youtZ (-1) g ent u c s A = (-1, yxZof u (ysf c s (yll A) 0)) := by unfold youtZ; rw [if_pos rfl]
theorem youtZ_2 (g : Nat) (ent : Int32) (u : XH) (c : XZ) (s : Int32) (A : Nat) : youtZ (-2) g ent u c s A = (-1, yxZof u (ysf c 2 (yll g) ent)) := by unfold youtZ; rw [if_neg (by decide), if_pos rfl]
theorem youtZ_3 (g : Nat) (ent : Int32) (u : XH) (c : XZ) (s : Int32) (A : Nat) : youtZ (-3) g ent u c s A = (-1, yxZof u (ymf c)) := by unfold youtZ; rw [if_neg (by decide), if_neg (by decide), if_pos rfl]
theorem youtZ_n {n : Nat} (h : n < 9223372036854775808) (g : Nat) (ent : Int32) (u : XH) (c : XZ) (s : Int32) (A : Nat) : youtZ (yll n) g ent u c s A = (yll n, yxZof u c) := by unfold youtZ; rw [if_neg (yll_neg1 h), if_neg (yll_neg2 h), if_neg (yll_neg3 h)]
theorem yz_ent1_1 {u : XH} (hi : yxInv u) (c : XZ) {g : Nat} (hg : g < 17179869184) (h : yW2e u g = -1) : xf_Z_entryAt_1 (yxZof u c) (yll g) = (-1, yxZof u (ysf c 2 (yll g) 1)) := by
  unfold xf_Z_entryAt_1
  simp only [yxlt_d, yz_sec1 hi c hg, h, yresZ_1, if_neg ym1_lt0]
theorem yz_ent1_3 {u : XH} (hi : yxInv u) (c : XZ) {g : Nat} (hg : g < 17179869184) (h : yW2e u g = -3) : xf_Z_entryAt_1 (yxZof u c) (yll g) = (-1, yxZof u (ymf c)) := by
  unfold xf_Z_entryAt_1
  simp only [yxlt_d, yz_sec1 hi c hg, h, yresZ_3, if_neg ym1_lt0]
theorem yz_ent1_n {u : XH} (hi : yxInv u) (c : XZ) {g n : Nat} (hg : g < 17179869184) (hn : n < 262144) (h : yW2e u g = yll n) : xf_Z_entryAt_1 (yxZof u c) (yll g) = (yll (ynn (yrdM u n)), yxZof u c) := by
  unfold xf_Z_entryAt_1
  simp only [yxlt_d, yz_sec1 hi c hg, h, yresZ_n u c 2 g 1 (show n < 9223372036854775808 by omega), if_pos (yll_ge0 (show n < 9223372036854775808 by omega)), yz_word u c hn, yi64_lo]
theorem yv_ent1 {u : XH} (hi : yxInv u) (c : XZ) {g : Nat} (hg : g < 17179869184) : xv_Z_entryAt_1 (yxZof u c) (yll g) := by
  unfold xv_Z_entryAt_1
  refine ⟨⟨yv_second hi c hg 1, ?_⟩, trivial⟩
  simp only [yxlt_d, yz_sec1 hi c hg]
  rcases yW2e_v u g with h | h | ⟨n, hn, h⟩
  · simp only [h, yresZ_1, if_neg ym1_lt0, and_self]
  · simp only [h, yresZ_3, if_neg ym1_lt0, and_self]
  · simp only [h, yresZ_n u c 2 g 1 (show n < 9223372036854775808 by omega), if_pos (yll_ge0 (show n < 9223372036854775808 by omega)), yv_word _ hn, and_self]
theorem ynFirst_lt2 (atp : Int32) {A : Nat} (hA : A < 4294967296) : ynFirst atp A < 17179869184 := by unfold ynFirst; omega
theorem ynRes4 (e : Int32) (l A : Nat) : ynRes e l A % 4 = A % 4 := by
  unfold ynRes; by_cases h : l = 0
  · rw [if_pos h]; omega
  · rw [if_neg h]; omega
theorem ycm1 : lg_cmp (-1) (-1) = 0 := by decide
theorem ycm3 : ¬ lg_cmp (-3) (-1) = 0 := by decide
theorem ym3_lt0 : ¬ 0 ≤ lg_cmp (-3) 0 := by decide
theorem ym2_lt0 : ¬ 0 ≤ lg_cmp (-2) 0 := by decide
theorem ygv1 (u : XH) (g : Nat) (i : Int32) : xf_T_guestVerdict u (-1) (yll g) i = (-2, ygst u g i) := by
  unfold xf_T_guestVerdict; rw [if_pos ycm1]; rfl
theorem ygv3 (u : XH) (a : Int64) (i : Int32) : xf_T_guestVerdict u (-3) a i = (-3, u) := by
  unfold xf_T_guestVerdict; rw [if_neg ycm3]
set_option maxHeartbeats 1000000 in
theorem ystage1 {u : XH} (hi : yxInv u) (c : XZ) (hv : xg_V_atp u < 0) {A : Nat} (hA : A < 4294967296) (any all none : Int32) (hok : ∀ e l, ¬ e &&& 14 = 0 → (yokC any all none e l ↔ yokZ (yxZof u c) 1 0 e l)) :
    ∃ r g, g < 17179869184 ∧ yokR r A 17179869184 ∧ xf_T_firstStage u (yll A) any all none = youtC r g 1 u ∧ xf_Z_walk_1 (yxZof u c) (yll (ynn (xg_V_atp u) % 4194304 * 4096)) (yll A) 0 = youtZ r g 1 u c 1 A := by
  have hA2 : A < 17179869184 := by omega
  have hg1 := ynFirst_lt2 (xg_V_atp u) hA
  have hF : ynn (xg_V_atp u) % 4194304 * 4096 + 4 * (A / 4194304) = ynFirst (xg_V_atp u) A := rfl
  unfold xf_T_firstStage xf_Z_walk_1
  rw [if_pos hv, yxlt_d, yt_first _ hA2, yxlt_d, yt_w2e u hg1, ye_first _ hA2, hF, yxlt_d (xf_Z_entryAt_1 (yxZof u c) (yll (ynFirst (xg_V_atp u) A)))]
  rcases yW2e_v u (ynFirst (xg_V_atp u) A) with h | h | ⟨n1, hn1, h⟩
  · refine ⟨-2, ynFirst (xg_V_atp u) A, hg1, Or.inr (Or.inl rfl), ?_, ?_⟩
    · rw [h, if_neg ym1_lt0, yxlt_d, ygv1, youtC_2]; rfl
    · rw [yz_ent1_1 hi c hg1 h, if_neg ym1_lt0, youtZ_2]
  · refine ⟨-3, 0, by decide, Or.inr (Or.inr (Or.inl rfl)), ?_, ?_⟩
    · rw [h, if_neg ym3_lt0, yxlt_d, ygv3, youtC_3]
    · rw [yz_ent1_3 hi c hg1 h, if_neg ym1_lt0, youtZ_3]
  · rw [h, if_pos (yll_ge0 (by omega)), yz_ent1_n hi c hg1 hn1 h, yxlt_d, yt_rd u hn1]
    simp only [yxsM1_self]
    generalize yrdM u n1 = e
    have hne := ynn_lt e
    rw [if_pos (yll_ge0 (by omega))]
    simp only [yxlt_d, ye_14, ye_1, ye_208]
    by_cases h2 : e &&& 14 = 0
    · rw [if_pos ((yt_leaf e).mpr h2), if_pos (if_pos h2)]
      by_cases h3 : e &&& 1 = 0
      · refine ⟨-1, 0, by decide, Or.inl rfl, ?_, ?_⟩
        · rw [if_pos ((yt_ptr e).mpr (fun hh => ((ye_ptr e).mp hh).1 h3)), youtC_1]
        · rw [if_pos h3, yz_sf, youtZ_1]
      · rw [if_neg h3]
        by_cases h4 : e &&& 208 = 0
        · rw [if_neg (fun hh => (yt_ptr e).mp hh ((ye_ptr e).mpr ⟨h3, h4⟩)), if_pos h4, yt_next e hA2, ye_next e hA2, yt_w2e u (ynNext_lt e hA2)]
          have hg2 := ynNext_lt e hA2
          rcases yW2e_v u (ynNext e A) with h5 | h5 | ⟨n2, hn2, h5⟩
          · refine ⟨-2, ynNext e A, hg2, Or.inr (Or.inl rfl), ?_, ?_⟩
            · rw [h5, if_neg ym1_lt0, ygv1, youtC_2]; rfl
            · rw [yz_ent1_1 hi c hg2 h5, if_neg ym1_lt0, youtZ_2]
          · refine ⟨-3, 0, by decide, Or.inr (Or.inr (Or.inl rfl)), ?_, ?_⟩
            · rw [h5, if_neg ym3_lt0, ygv3, youtC_3]
            · rw [yz_ent1_3 hi c hg2 h5, if_neg ym1_lt0, youtZ_3]
          · rw [h5, if_pos (yll_ge0 (by omega)), yz_ent1_n hi c hg2 hn2 h5, yt_rd u hn2]
            simp only [yxsM1_self]
            generalize yrdM u n2 = e2
            have hne2 := ynn_lt e2
            rw [if_pos (yll_ge0 (by omega)), ye_i32, if_pos h2]
            by_cases h6 : e2 &&& 14 = 0
            · refine ⟨-1, 0, by decide, Or.inl rfl, ?_, ?_⟩
              · rw [if_pos ((yt_leaf e2).mpr h6), ite_self, youtC_1]
              · rw [if_pos (ynotleaf _ _ _ _ h6), yz_sf, youtZ_1]
            · rw [if_neg (fun hh => h6 ((yt_leaf e2).mp hh))]
              have hk := hok e2 1 h6
              by_cases h7 : xf_T_allows e2 1 any all none = 0
              · refine ⟨-1, 0, by decide, Or.inl rfl, ?_, ?_⟩
                · rw [if_pos h7, youtC_1]
                · have h8 : xf_Z_isAllowed (yxZof u c) 1 e2 0 = 0 := Decidable.byContradiction (fun hh => hk.mpr ⟨hh, fun hh => absurd hh (by decide)⟩ h7)
                  rw [if_pos h8, yz_sf, youtZ_1]
              · have hlim := ynRes_lt e2 1 (A := A) (Or.inr (by decide))
                refine ⟨yll (ynRes e2 1 A), 0, by decide, Or.inr (Or.inr (Or.inr ⟨ynRes e2 1 A, hlim, rfl, ynRes4 _ _ _⟩)), ?_, ?_⟩
                · rw [if_neg h7, yt_res1 e2 hA2, youtC_n (by omega)]
                · have h8 : ¬ xf_Z_isAllowed (yxZof u c) 1 e2 0 = 0 := (hk.mp (show yokC any all none e2 1 from h7)).1
                  rw [if_neg h8, if_pos rfl, if_pos rfl, ye_res1 e2 hA2, youtZ_n (by omega)]
        · refine ⟨-1, 0, by decide, Or.inl rfl, ?_, ?_⟩
          · rw [if_pos ((yt_ptr e).mpr (fun hh => h4 ((ye_ptr e).mp hh).2)), youtC_1]
          · rw [if_neg h4, yz_sf, youtZ_1]
    · rw [if_neg (fun hh => h2 ((yt_leaf e).mp hh)), if_neg h2, ye_i32]
      have hk := hok e 0 h2
      simp only [show ¬ (1 : Int32) = 0 by decide, if_false]
      by_cases h7 : xf_T_allows e 0 any all none = 0
      · refine ⟨-1, 0, by decide, Or.inl rfl, ?_, ?_⟩
        · rw [if_pos h7, youtC_1]
        · by_cases h8 : xf_Z_isAllowed (yxZof u c) 1 e 0 = 0
          · rw [if_pos h8, yz_sf, youtZ_1]
          · have h9 : ¬ e &&& 1047552 = 0 := fun hh => hk.mpr ⟨h8, fun _ => hh⟩ h7
            rw [if_neg h8, if_neg (fun hh => h9 ((ye_low e).mp hh)), yz_sf, youtZ_1]
      · have h8 := hk.mp (show yokC any all none e 0 from h7)
        have hlim := ynRes_lt e 0 (A := A) (Or.inl (h8.2 rfl))
        refine ⟨yll (ynRes e 0 A), 0, by decide, Or.inr (Or.inr (Or.inr ⟨ynRes e 0 A, hlim, rfl, ynRes4 _ _ _⟩)), ?_, ?_⟩
        · rw [if_neg h7, yt_res0 e hA2 (h8.2 rfl), youtC_n (by omega)]
        · rw [if_neg h8.1, if_pos ((ye_low e).mpr (h8.2 rfl)), ye_res0 e hA2 (h8.2 rfl), youtZ_n (by omega)]
