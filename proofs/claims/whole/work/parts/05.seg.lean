/-! Parts of a world: a callee's cells are a stretch of the caller's list. -/
theorem xd_pw {A : Nat → Prop} {ws : va_W} : va_D A ws ↔ ws.Pairwise (fun p q => p.1 ≠ q.1) ∧ ∀ q ∈ ws, A q.1 := by
  constructor
  · intro h
    refine ⟨List.pairwise_iff_getElem.mpr (fun i j hi hj hij e => ?_), fun q hq => ?_⟩
    · have := h.1 i j _ _ (List.getElem?_eq_getElem hi) (List.getElem?_eq_getElem hj) e
      omega
    · obtain ⟨k, hk⟩ := List.getElem?_of_mem hq
      exact h.2 k q hk
  · intro h
    refine ⟨fun i j p q hi hj e => ?_, fun k q hk => h.2 q (List.mem_of_getElem? hk)⟩
    obtain ⟨hi', ei⟩ := List.getElem?_eq_some_iff.mp hi
    obtain ⟨hj', ej⟩ := List.getElem?_eq_some_iff.mp hj
    rcases Nat.lt_trichotomy i j with h1 | h1 | h1
    · exact absurd (by rw [ei, ej]; exact e) (List.pairwise_iff_getElem.mp h.1 i j hi' hj' h1)
    · exact h1
    · exact absurd (by rw [ei, ej]; exact e.symm) (List.pairwise_iff_getElem.mp h.1 j i hj' hi' h1)
theorem xPs {D : va_G} {X w Y : va_W} {H : Heap} (hP : va_P D xCl (X ++ (w ++ Y)) H) : va_P D xCl w H :=
  va_P_iff.mpr (fun q hq => va_P_iff.mp hP q (List.mem_append_right _ (List.mem_append_left _ hq)))
theorem xDs {A : Nat → Prop} {X w Y : va_W} (hD : va_D A (X ++ (w ++ Y))) : va_D A w := by
  have h := xd_pw.mp hD
  have p1 := h.1
  rw [List.pairwise_append, List.pairwise_append] at p1
  exact xd_pw.mpr ⟨p1.2.1.1, fun q hq => h.2 q (List.mem_append_right _ (List.mem_append_left _ hq))⟩
theorem xseg {D : va_G} {A : Nat → Prop} {X w Y w1 : va_W} {H H1 : Heap} (hP : va_P D xCl (X ++ (w ++ Y)) H) (hD : va_D A (X ++ (w ++ Y))) (hsub : ∀ q, va_A w H.size q → A q) (hf : ∀ q : Nat, q < H.size → ¬ va_A w H.size q → H1[q]? = H[q]?) (h1 : va_P D xCl w1 H1) (d1 : va_D (va_A w H.size) w1) : va_P D xCl (X ++ (w1 ++ Y)) H1 ∧ va_D A (X ++ (w1 ++ Y)) := by
  have hd := xd_pw.mp hD
  have hp := va_P_iff.mp hP
  have hd1 := xd_pw.mp d1
  have pw := hd.1
  rw [List.pairwise_append, List.pairwise_append] at pw
  obtain ⟨pX, ⟨pw', pY, pwY⟩, pXr⟩ := pw
  have mX : ∀ q, q ∈ X → q ∈ X ++ (w ++ Y) := fun q h => List.mem_append_left _ h
  have mY : ∀ q, q ∈ Y → q ∈ X ++ (w ++ Y) := fun q h => List.mem_append_right _ (List.mem_append_right _ h)
  have aX : ∀ q, q ∈ X → ¬ va_A w H.size q.1 := by
    intro q hq ha
    rcases ha with ⟨k, e, hk⟩ | ha
    · exact pXr q hq _ (List.mem_append_left _ (List.mem_of_getElem? hk)) rfl
    · exact absurd (hp q (mX q hq)).lt (Nat.not_lt.mpr ha)
  have aY : ∀ q, q ∈ Y → ¬ va_A w H.size q.1 := by
    intro q hq ha
    rcases ha with ⟨k, e, hk⟩ | ha
    · exact pwY _ (List.mem_of_getElem? hk) q hq rfl
    · exact absurd (hp q (mY q hq)).lt (Nat.not_lt.mpr ha)
  constructor
  · rw [va_P_iff]
    intro q hq
    rcases List.mem_append.mp hq with h | h
    · exact (hp q (mX q h)).kept (hf q.1 (hp q (mX q h)).lt (aX q h))
    · rcases List.mem_append.mp h with h | h
      · exact va_P_iff.mp h1 q h
      · exact (hp q (mY q h)).kept (hf q.1 (hp q (mY q h)).lt (aY q h))
  · rw [xd_pw]
    refine ⟨?_, fun q hq => ?_⟩
    · rw [List.pairwise_append, List.pairwise_append]
      refine ⟨pX, ⟨hd1.1, pY, fun a ha b hb e => aY b hb (e ▸ hd1.2 a ha)⟩, fun a ha b hb e => ?_⟩
      rcases List.mem_append.mp hb with h | h
      · exact aX a ha (e ▸ hd1.2 b h)
      · exact pXr a ha b (List.mem_append_right _ h) e
    · rcases List.mem_append.mp hq with h | h
      · exact hd.2 q (mX q h)
      · rcases List.mem_append.mp h with h | h
        · exact hsub _ (hd1.2 q h)
        · exact hd.2 q (mY q h)
section XSG
variable {p : Program} {l : Launch} {e : Env} {R : Room} {s : State} {m : MethodId} {args : Array Value} {below : List Frame} {meth : Method} {c : Code} {H : Heap} {locs : List Loc} {cells slots : Nat} {Q : State → Prop}
variable {pc : Nat} {ls : Array Slot} {rest st0 : List Value} {a : Array Value} {A : Nat → Prop} {D : va_G} {tys : List (ClassId × FieldType)} {X w Y : va_W} {mc ms : Nat} {S : Type} {wf : S → va_W}
theorem xsubS (hD : va_D A (X ++ (w ++ Y))) (hA : ∀ q, s.heap.size ≤ q → A q) (hS : va_S A s.heap H locs) : ∀ q, va_A w H.size q → A q := xsubW (xDs hD) hA hS
theorem xcS_i {post : Int32 → S → Prop} (hr : va_Run p l e R s m args below meth c H locs cells slots mc ms (F0 m pc ls st0) rest (va_Qi post (fun u t => xQ D tys (wf u) (va_A w H.size) t) (va_A w H.size) a) (va_A w H.size)) (hP : va_P D xCl (X ++ (w ++ Y)) H) (hD : va_D A (X ++ (w ++ Y))) (hA : ∀ q, s.heap.size ≤ q → A q) (hS : va_S A s.heap H locs)
    (kk : ∀ (r : Int32) (u : S) (H1 : Heap) (locs1 : List Loc), post r u → va_P D xCl (X ++ (wf u ++ Y)) H1 → va_D A (X ++ (wf u ++ Y)) → va_S A s.heap H1 locs1 → W p l e R s m args below meth c H1 locs1 (cells + mc) (slots + ms) Q (F0 m (pc + 3) ls (.int r :: rest))) : W p l e R s m args below meth c H locs cells slots Q (F0 m pc ls st0) :=
  va_calli hr hS (fun q _ h => xsubS hD hA hS q h) (xsubS hD hA hS) (fun r u _ H1 locs1 ht _ hw hB _ hf hS1 => kk r u H1 locs1 hw (xseg hP hD (xsubS hD hA hS) hf (by rw [← ht]; exact hB.1) hB.2.2).1 (xseg hP hD (xsubS hD hA hS) hf (by rw [← ht]; exact hB.1) hB.2.2).2 hS1)
theorem xcS_v {post : S → Prop} (hr : va_Run p l e R s m args below meth c H locs cells slots mc ms (F0 m pc ls st0) rest (va_Qv post (fun u t => xQ D tys (wf u) (va_A w H.size) t) (va_A w H.size) a) (va_A w H.size)) (hP : va_P D xCl (X ++ (w ++ Y)) H) (hD : va_D A (X ++ (w ++ Y))) (hA : ∀ q, s.heap.size ≤ q → A q) (hS : va_S A s.heap H locs)
    (kk : ∀ (u : S) (H1 : Heap) (locs1 : List Loc), post u → va_P D xCl (X ++ (wf u ++ Y)) H1 → va_D A (X ++ (wf u ++ Y)) → va_S A s.heap H1 locs1 → W p l e R s m args below meth c H1 locs1 (cells + mc) (slots + ms) Q (F0 m (pc + 3) ls rest)) : W p l e R s m args below meth c H locs cells slots Q (F0 m pc ls st0) :=
  va_callv hr hS (fun q _ h => xsubS hD hA hS q h) (xsubS hD hA hS) (fun u _ H1 locs1 ht _ hw hB _ hf hS1 => kk u H1 locs1 hw (xseg hP hD (xsubS hD hA hS) hf (by rw [← ht]; exact hB.1) hB.2.2).1 (xseg hP hD (xsubS hD hA hS) hf (by rw [← ht]; exact hB.1) hB.2.2).2 hS1)
end XSG
theorem xfresh {A : Nat → Prop} {X : va_W} {L : List Nat} {f : Nat → va_E} {q : Nat} {e : va_E} (hD : va_D A ((X ++ va_pl L f) ++ [(q, e)])) : q ∉ L := by
  intro h
  obtain ⟨i, hi⟩ := va_pl_get (X := X) (f := f) h
  have hl := (List.getElem?_eq_some_iff.mp hi).1
  have := hD.1 i (X ++ va_pl L f).length (q, f q) (q, e) (by rw [List.getElem?_append_left hl]; exact hi) (List.getElem?_concat_length) rfl
  omega
theorem xat0 {ws : va_W} {x y : Nat × va_E} : (ws ++ [x, y])[ws.length]? = some x := by simp
theorem xat1 {ws : va_W} {x y : Nat × va_E} : (ws ++ [x, y])[ws.length + 1]? = some y := by simp
theorem xKA {D : va_G} {cl : List vw_C} {tys : List (ClassId × FieldType)} {s : State} {cA cB : ClassId} (h : va_K D cl (tys ++ [(cA, .int)]) s) (h0 : tys[0]? = some (cB, .int)) : cA = cB := by
  have h1 := (h.2 tys.length (cA, .int) List.getElem?_concat_length).2
  have h2 := (h.2 0 (cB, .int) (by rw [List.getElem?_append_left (List.getElem?_eq_some_iff.mp h0).1]; exact h0)).2
  exact Option.some.inj (h1.symm.trans h2)
