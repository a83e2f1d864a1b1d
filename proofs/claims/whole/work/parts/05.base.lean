/-! The rows that every walk here uses: a contract's opening, its end, calls. My own; over the kit's rows by name. -/
/-- what holds of the statics (the accesses at z.1, the tables at z.2) and of the nest's words; A: what may be written -/
theorem xS.same {z : (Nat → Nat) × (Nat → Nat)} {A : Nat → Prop} {u U : State} {H : Heap} (h : u.vm = U.vm) (hS : xS z A u H) : xS z A U H :=
  ⟨va_En.moved (h ▸ Vm.Alike.refl u.vm) hS.1, ⟨va_Z.moved (h ▸ Vm.Alike.refl u.vm) hS.2.1.1, va_T.moved (h ▸ Vm.Alike.refl u.vm) hS.2.1.2⟩, ⟨va_Z.moved (h ▸ Vm.Alike.refl u.vm) hS.2.2.1.1, va_T.moved (h ▸ Vm.Alike.refl u.vm) hS.2.2.1.2⟩, va_AO.moved (h ▸ Vm.Alike.refl u.vm) hS.2.2.2.1, fun w hw => va_Nw.same (xNest_on w hw) h (hS.2.2.2.2 w hw)⟩
theorem xS.moved {z : (Nat → Nat) × (Nat → Nat)} {A : Nat → Prop} {s U : State} {H : Heap} (hW : s.WarmedH U.vm) (hS : xS z A s H) : xS z A U H :=
  ⟨va_En.moved hW.alike hS.1, ⟨va_Z.moved hW.alike hS.2.1.1, va_T.moved hW.alike hS.2.1.2⟩, ⟨va_Z.moved hW.alike hS.2.2.1.1, va_T.moved hW.alike hS.2.2.1.2⟩, va_AO.moved hW.alike hS.2.2.2.1, fun w hw => xNest_warm w hw hW (hS.2.2.2.2 w hw)⟩
theorem xS.kept {z : (Nat → Nat) × (Nat → Nat)} {A : Nat → Prop} {U : State} {H H1 : Heap} (hS : xS z A U H) (hq : ∀ a : Nat, a < H.size → ¬ A a → H1[a]? = H[a]?) : xS z A U H1 :=
  ⟨hS.1.kept hq, ⟨hS.2.1.1.kept hq, hS.2.1.2.kept hq⟩, ⟨hS.2.2.1.1.kept hq, hS.2.2.1.2.kept hq⟩, hS.2.2.2.1, hS.2.2.2.2⟩
theorem xS.narrow {z : (Nat → Nat) × (Nat → Nat)} {A B : Nat → Prop} {U : State} {H : Heap} (hS : xS z A U H) (hAB : ∀ q, B q → A q) : xS z B U H :=
  ⟨hS.1.narrow hAB, ⟨hS.2.1.1.narrow hAB, hS.2.1.2.narrow hAB⟩, ⟨hS.2.2.1.1.narrow hAB, hS.2.2.1.2.narrow hAB⟩, hS.2.2.2.1, hS.2.2.2.2⟩
/-- a contract's start, its end's world -/
def xB (D : va_G) (tys : List (ClassId × FieldType)) (z : (Nat → Nat) × (Nat → Nat)) (sz : Nat) (ws : va_W) (U : State) : Prop :=
  U.heap.size = sz ∧ va_P D xCl ws U.heap ∧ va_K D xCl tys U ∧ va_D (fun _ => True) ws ∧ xS z (va_A ws sz) U U.heap
def xQ (D : va_G) (tys : List (ClassId × FieldType)) (ws : va_W) (A : Nat → Prop) (t : State) : Prop := va_P D xCl ws t.heap ∧ va_K D xCl tys t ∧ va_D A ws
theorem xB_blind {av : List Value} {D : va_G} {tys : List (ClassId × FieldType)} {z : (Nat → Nat) × (Nat → Nat)} {sz : Nat} {ws : va_W} : FrameBlind (va_Pc av (xB D tys z sz ws)) := by
  intro a U g mk q
  obtain ⟨q0, q1, qP, qK, qD, qS⟩ := q
  exact ⟨q0, q1, qP, va_K.moved (u := U) (U := U.calling g mk a) (Vm.Alike.refl U.vm) qK, qD, xS.same (u := U) (U := U.calling g mk a) rfl qS⟩
section XO
variable {l : Launch} {y : MethodName} {cc : ByteArray} {maxL : Nat} {rm : Room} {av : List Value} {lv : List (Nat × Value)} {D : va_G} {tys : List (ClassId × FieldType)} {z : (Nat → Nat) × (Nat → Nat)} {sz : Nat} {ws : va_W} {S : Type} {wf : S → va_W} {mc ms : Nat}
/-- the opening of a contract of a method that returns an int -/
theorem xopen_i {post : Int32 → S → Prop} (hy : plainName y.cls = true) (hlv : lv_args 0 av = lv) (hle : (lg_sl av).length ≤ maxL)
    (body : ∀ (p : Program) (e : Env) (s : State) (m : MethodId) (args : Array Value) (below : List Frame) (meth : Method) (c : Code) (Q : State → Prop) (ls : Array Slot) (A : Nat → Prop) (H : Heap) (locs : List Loc),
      p.tables.exec = Jvm.exec → c.code = cc → c.maxLocals = maxL → (∀ w ∈ lw_g, w.before args s = true) → s.vm.findClass y.cls = some m.cls → meth.name = y.name →
      va_K D xCl tys s → va_P D xCl ws H → va_D A ws → xS z A s s.heap → va_S A s.heap H locs → (∀ q, s.heap.size ≤ q → A q) → lv_has ls maxL lv →
      (∀ (r : Int32) (u : S) (H : Heap) (locs : List Loc) (ls : Array Slot) (pc : Nat), post r u → va_P D xCl (wf u) H → va_D A (wf u) → va_S A s.heap H locs → decode cc pc = .ok (.ireturn, 1) → W p l e rm s m args below meth c H locs mc ms Q (F0 m pc ls [.int r])) →
      W p l e rm s m args below meth c H locs 0 0 Q (F0 m 0 ls [])) :
    Met l y (.code y cc maxL (some .int) :: lw_g) rm (va_Pc av (xB D tys z sz ws)) (va_Qi post (fun u t => xQ D tys (wf u) (va_A ws sz) t) (va_A ws sz)) mc ms (va_A ws sz) := by
  refine Met.ofW (cc := cc) (maxL := maxL) (ret := some .int) hy rfl ?_
  intro p e s m args below meth c s₁ B hml hv
  obtain ⟨hargs, hsz, hP, hK, hD0, hE⟩ := hv
  subst hsz
  have hts := atoms_spec (ws := .code y cc maxL (some .int) :: lw_g) B.pre
  have hl := lv_entry av hle
  rw [hlv] at hl
  have hen : entryFrame m args maxL = F0 m 0 ((lg_sl av ++ List.replicate (maxL - (lg_sl av).length) Slot.unset).toArray) [] := by rw [hargs]; exact lg_entry_eq m av maxL
  rw [hen]
  exact body p e s m args below meth c _ _ (va_A ws s.heap.size) s.heap [] B.exec B.bytes hml (fun w h => hts w (List.mem_cons_of_mem _ h)) (findClass_of_methodNamed B.named) (name_of_methodNamed B.named B.method).1 hK hP hD0.self hE va_S.rf (fun q h => Or.inr h) hl
    (fun r u H locs ls pc hp hP hD hS hd => W.iret B.exec B.bytes B.returns (fun t ht hW => ⟨⟨r, u, rfl, hp, by rw [ht]; exact hP, va_K.moved hW.alike hK, hD⟩, hS.F ht⟩) hS.2.2 hd B.notSynchronized)
/-- of one that returns a boolean -/
theorem xopen_z {post : Int32 → S → Prop} (hy : plainName y.cls = true) (hlv : lv_args 0 av = lv) (hle : (lg_sl av).length ≤ maxL)
    (body : ∀ (p : Program) (e : Env) (s : State) (m : MethodId) (args : Array Value) (below : List Frame) (meth : Method) (c : Code) (Q : State → Prop) (ls : Array Slot) (A : Nat → Prop) (H : Heap) (locs : List Loc),
      p.tables.exec = Jvm.exec → c.code = cc → c.maxLocals = maxL → (∀ w ∈ lw_g, w.before args s = true) → s.vm.findClass y.cls = some m.cls → meth.name = y.name →
      va_K D xCl tys s → va_P D xCl ws H → va_D A ws → xS z A s s.heap → va_S A s.heap H locs → (∀ q, s.heap.size ≤ q → A q) → lv_has ls maxL lv →
      (∀ (r : Int32) (u : S) (H : Heap) (locs : List Loc) (ls : Array Slot) (pc : Nat), narrow .boolean (.int r) = .int r → post r u → va_P D xCl (wf u) H → va_D A (wf u) → va_S A s.heap H locs → decode cc pc = .ok (.ireturn, 1) → W p l e rm s m args below meth c H locs mc ms Q (F0 m pc ls [.int r])) →
      W p l e rm s m args below meth c H locs 0 0 Q (F0 m 0 ls [])) :
    Met l y (.code y cc maxL (some .boolean) :: lw_g) rm (va_Pc av (xB D tys z sz ws)) (va_Qi post (fun u t => xQ D tys (wf u) (va_A ws sz) t) (va_A ws sz)) mc ms (va_A ws sz) := by
  refine Met.ofW (cc := cc) (maxL := maxL) (ret := some .boolean) hy rfl ?_
  intro p e s m args below meth c s₁ B hml hv
  obtain ⟨hargs, hsz, hP, hK, hD0, hE⟩ := hv
  subst hsz
  have hts := atoms_spec (ws := .code y cc maxL (some .boolean) :: lw_g) B.pre
  have hl := lv_entry av hle
  rw [hlv] at hl
  have hen : entryFrame m args maxL = F0 m 0 ((lg_sl av ++ List.replicate (maxL - (lg_sl av).length) Slot.unset).toArray) [] := by rw [hargs]; exact lg_entry_eq m av maxL
  rw [hen]
  exact body p e s m args below meth c _ _ (va_A ws s.heap.size) s.heap [] B.exec B.bytes hml (fun w h => hts w (List.mem_cons_of_mem _ h)) (findClass_of_methodNamed B.named) (name_of_methodNamed B.named B.method).1 hK hP hD0.self hE va_S.rf (fun q h => Or.inr h) hl
    (fun r u H locs ls pc hn hp hP hD hS hd => W.zret B.exec B.bytes B.returns hn (fun t ht hW => ⟨⟨r, u, rfl, hp, by rw [ht]; exact hP, va_K.moved hW.alike hK, hD⟩, hS.F ht⟩) hS.2.2 hd B.notSynchronized)
/-- of one that returns a long -/
theorem xopen_l {post : Int64 → S → Prop} (hy : plainName y.cls = true) (hlv : lv_args 0 av = lv) (hle : (lg_sl av).length ≤ maxL)
    (body : ∀ (p : Program) (e : Env) (s : State) (m : MethodId) (args : Array Value) (below : List Frame) (meth : Method) (c : Code) (Q : State → Prop) (ls : Array Slot) (A : Nat → Prop) (H : Heap) (locs : List Loc),
      p.tables.exec = Jvm.exec → c.code = cc → c.maxLocals = maxL → (∀ w ∈ lw_g, w.before args s = true) → s.vm.findClass y.cls = some m.cls → meth.name = y.name →
      va_K D xCl tys s → va_P D xCl ws H → va_D A ws → xS z A s s.heap → va_S A s.heap H locs → (∀ q, s.heap.size ≤ q → A q) → lv_has ls maxL lv →
      (∀ (r : Int64) (u : S) (H : Heap) (locs : List Loc) (ls : Array Slot) (pc : Nat), post r u → va_P D xCl (wf u) H → va_D A (wf u) → va_S A s.heap H locs → decode cc pc = .ok (.lreturn, 1) → W p l e rm s m args below meth c H locs mc ms Q (F0 m pc ls [.long r])) →
      W p l e rm s m args below meth c H locs 0 0 Q (F0 m 0 ls [])) :
    Met l y (.code y cc maxL (some .long) :: lw_g) rm (va_Pc av (xB D tys z sz ws)) (va_Ql post (fun u t => xQ D tys (wf u) (va_A ws sz) t) (va_A ws sz)) mc ms (va_A ws sz) := by
  refine Met.ofW (cc := cc) (maxL := maxL) (ret := some .long) hy rfl ?_
  intro p e s m args below meth c s₁ B hml hv
  obtain ⟨hargs, hsz, hP, hK, hD0, hE⟩ := hv
  subst hsz
  have hts := atoms_spec (ws := .code y cc maxL (some .long) :: lw_g) B.pre
  have hl := lv_entry av hle
  rw [hlv] at hl
  have hen : entryFrame m args maxL = F0 m 0 ((lg_sl av ++ List.replicate (maxL - (lg_sl av).length) Slot.unset).toArray) [] := by rw [hargs]; exact lg_entry_eq m av maxL
  rw [hen]
  exact body p e s m args below meth c _ _ (va_A ws s.heap.size) s.heap [] B.exec B.bytes hml (fun w h => hts w (List.mem_cons_of_mem _ h)) (findClass_of_methodNamed B.named) (name_of_methodNamed B.named B.method).1 hK hP hD0.self hE va_S.rf (fun q h => Or.inr h) hl
    (fun r u H locs ls pc hp hP hD hS hd => W.lret B.exec B.bytes B.returns (fun t ht hW => ⟨⟨r, u, rfl, hp, by rw [ht]; exact hP, va_K.moved hW.alike hK, hD⟩, hS.F ht⟩) hS.2.2 hd B.notSynchronized)
/-- of one that returns nothing -/
theorem xopen_v {post : S → Prop} (hy : plainName y.cls = true) (hlv : lv_args 0 av = lv) (hle : (lg_sl av).length ≤ maxL)
    (body : ∀ (p : Program) (e : Env) (s : State) (m : MethodId) (args : Array Value) (below : List Frame) (meth : Method) (c : Code) (Q : State → Prop) (ls : Array Slot) (A : Nat → Prop) (H : Heap) (locs : List Loc),
      p.tables.exec = Jvm.exec → c.code = cc → c.maxLocals = maxL → (∀ w ∈ lw_g, w.before args s = true) → s.vm.findClass y.cls = some m.cls → meth.name = y.name →
      va_K D xCl tys s → va_P D xCl ws H → va_D A ws → xS z A s s.heap → va_S A s.heap H locs → (∀ q, s.heap.size ≤ q → A q) → lv_has ls maxL lv →
      (∀ (u : S) (H : Heap) (locs : List Loc) (ls : Array Slot) (pc : Nat), post u → va_P D xCl (wf u) H → va_D A (wf u) → va_S A s.heap H locs → decode cc pc = .ok (.return_, 1) → W p l e rm s m args below meth c H locs mc ms Q (F0 m pc ls [])) →
      W p l e rm s m args below meth c H locs 0 0 Q (F0 m 0 ls [])) :
    Met l y (.code y cc maxL none :: lw_g) rm (va_Pc av (xB D tys z sz ws)) (va_Qv post (fun u t => xQ D tys (wf u) (va_A ws sz) t) (va_A ws sz)) mc ms (va_A ws sz) := by
  refine Met.ofW (cc := cc) (maxL := maxL) (ret := none) hy rfl ?_
  intro p e s m args below meth c s₁ B hml hv
  obtain ⟨hargs, hsz, hP, hK, hD0, hE⟩ := hv
  subst hsz
  have hts := atoms_spec (ws := .code y cc maxL none :: lw_g) B.pre
  have hl := lv_entry av hle
  rw [hlv] at hl
  have hen : entryFrame m args maxL = F0 m 0 ((lg_sl av ++ List.replicate (maxL - (lg_sl av).length) Slot.unset).toArray) [] := by rw [hargs]; exact lg_entry_eq m av maxL
  rw [hen]
  exact body p e s m args below meth c _ _ (va_A ws s.heap.size) s.heap [] B.exec B.bytes hml (fun w h => hts w (List.mem_cons_of_mem _ h)) (findClass_of_methodNamed B.named) (name_of_methodNamed B.named B.method).1 hK hP hD0.self hE va_S.rf (fun q h => Or.inr h) hl
    (fun u H locs ls pc hp hP hD hS hd => W.vret B.exec B.bytes B.returns (fun t ht hW => ⟨⟨u, rfl, hp, by rw [ht]; exact hP, va_K.moved hW.alike hK, hD⟩, hS.F ht⟩) hS.2.2 hd B.notSynchronized)
end XO
section XC
variable {p : Program} {l : Launch} {e : Env} {R : Room} {s : State} {m : MethodId} {args : Array Value} {below : List Frame} {meth : Method} {c : Code} {H : Heap} {locs : List Loc} {cells slots : Nat} {Q : State → Prop}
variable {pc : Nat} {ls : Array Slot} {rest st0 : List Value} {a : Array Value} {A : Nat → Prop} {D : va_G} {tys : List (ClassId × FieldType)} {z : (Nat → Nat) × (Nat → Nat)} {ws wc : va_W} {mc ms : Nat} {S : Type} {wf : S → va_W}
/-- the callee's start, in its own cells wc of the caller's world -/
theorem xB_mk {av : List Value} (hP : va_P D xCl wc H) (hK : va_K D xCl tys s) (hD : va_D A wc) (hE : xS z A s s.heap) (hS : va_S A s.heap H locs) (hsub : ∀ q, va_A wc H.size q → A q) {U : State} (hU : U.heap = H) (hW : s.WarmedH U.vm) : va_Pc av (xB D tys z H.size wc) av.toArray U := by
  subst hU
  exact ⟨rfl, rfl, hP, va_K.moved hW.alike hK, hD.weaken (fun _ _ _ _ => trivial), (((hE.kept hS.2.1).moved hW).narrow hsub)⟩
theorem xsub0 (hA : ∀ q, s.heap.size ≤ q → A q) (hS : va_S A s.heap H locs) : ∀ q, va_A [] H.size q → A q := by
  intro q h
  rcases h with ⟨k, e, hk⟩ | h
  · simp at hk
  · exact hA q (Nat.le_trans hS.1 h)
theorem xkeep0 {H1 : Heap} (hP : va_P D xCl ws H) (hk : ∀ q : Nat, q < H.size → ¬ va_A [] H.size q → H1[q]? = H[q]?) : va_P D xCl ws H1 := by
  refine hP.kept (fun k q hq => ?_)
  have hlt := (hP k q hq).lt
  refine hk q.1 hlt (fun h => ?_)
  rcases h with ⟨j, e, hj⟩ | h
  · simp at hj
  · exact absurd h (Nat.not_le.mpr hlt)
/-- a call of a method without a world of its own: nothing changes -/
theorem xc0_i {post : Int32 → Unit → Prop} (hr : va_Run p l e R s m args below meth c H locs cells slots 0 0 (F0 m pc ls st0) rest (va_Qi post (fun _ t => xQ D tys [] (va_A [] H.size) t) (va_A [] H.size) a) (va_A [] H.size)) (hP : va_P D xCl ws H) (hA : ∀ q, s.heap.size ≤ q → A q) (hS : va_S A s.heap H locs)
    (kk : ∀ (r : Int32) (H1 : Heap) (locs1 : List Loc), post r () → va_P D xCl ws H1 → va_S A s.heap H1 locs1 → W p l e R s m args below meth c H1 locs1 cells slots Q (F0 m (pc + 3) ls (.int r :: rest))) : W p l e R s m args below meth c H locs cells slots Q (F0 m pc ls st0) :=
  va_calli hr hS (fun q _ h => xsub0 hA hS q h) (xsub0 hA hS) (fun r _ _ H1 locs1 _ _ hw _ _ hk hS1 => kk r H1 locs1 hw (xkeep0 hP hk) hS1)
theorem xc0_l {post : Int64 → Unit → Prop} (hr : va_Run p l e R s m args below meth c H locs cells slots 0 0 (F0 m pc ls st0) rest (va_Ql post (fun _ t => xQ D tys [] (va_A [] H.size) t) (va_A [] H.size) a) (va_A [] H.size)) (hP : va_P D xCl ws H) (hA : ∀ q, s.heap.size ≤ q → A q) (hS : va_S A s.heap H locs)
    (kk : ∀ (r : Int64) (H1 : Heap) (locs1 : List Loc), post r () → va_P D xCl ws H1 → va_S A s.heap H1 locs1 → W p l e R s m args below meth c H1 locs1 cells slots Q (F0 m (pc + 3) ls (.long r :: rest))) : W p l e R s m args below meth c H locs cells slots Q (F0 m pc ls st0) :=
  va_calll hr hS (fun q _ h => xsub0 hA hS q h) (xsub0 hA hS) (fun r _ _ H1 locs1 _ _ hw _ _ hk hS1 => kk r H1 locs1 hw (xkeep0 hP hk) hS1)
/-- a call of a method whose world is the caller's whole one -/
theorem xsubW (hD : va_D A ws) (hA : ∀ q, s.heap.size ≤ q → A q) (hS : va_S A s.heap H locs) : ∀ q, va_A ws H.size q → A q := by
  intro q h
  rcases h with ⟨k, e, hk⟩ | h
  · exact hD.2 k _ hk
  · exact hA q (Nat.le_trans hS.1 h)
theorem xcW_i {post : Int32 → S → Prop} (hr : va_Run p l e R s m args below meth c H locs cells slots mc ms (F0 m pc ls st0) rest (va_Qi post (fun u t => xQ D tys (wf u) (va_A ws H.size) t) (va_A ws H.size) a) (va_A ws H.size)) (hD : va_D A ws) (hA : ∀ q, s.heap.size ≤ q → A q) (hS : va_S A s.heap H locs)
    (kk : ∀ (r : Int32) (u : S) (H1 : Heap) (locs1 : List Loc), post r u → va_P D xCl (wf u) H1 → va_D A (wf u) → va_S A s.heap H1 locs1 → W p l e R s m args below meth c H1 locs1 (cells + mc) (slots + ms) Q (F0 m (pc + 3) ls (.int r :: rest))) : W p l e R s m args below meth c H locs cells slots Q (F0 m pc ls st0) :=
  va_calli hr hS (fun q _ h => xsubW hD hA hS q h) (xsubW hD hA hS) (fun r u _ H1 locs1 ht _ hw hB _ _ hS1 => kk r u H1 locs1 hw (by rw [← ht]; exact hB.1) (hB.2.2.weaken (fun _ _ _ h => xsubW hD hA hS _ h)) hS1)
theorem xcW_l {post : Int64 → S → Prop} (hr : va_Run p l e R s m args below meth c H locs cells slots mc ms (F0 m pc ls st0) rest (va_Ql post (fun u t => xQ D tys (wf u) (va_A ws H.size) t) (va_A ws H.size) a) (va_A ws H.size)) (hD : va_D A ws) (hA : ∀ q, s.heap.size ≤ q → A q) (hS : va_S A s.heap H locs)
    (kk : ∀ (r : Int64) (u : S) (H1 : Heap) (locs1 : List Loc), post r u → va_P D xCl (wf u) H1 → va_D A (wf u) → va_S A s.heap H1 locs1 → W p l e R s m args below meth c H1 locs1 (cells + mc) (slots + ms) Q (F0 m (pc + 3) ls (.long r :: rest))) : W p l e R s m args below meth c H locs cells slots Q (F0 m pc ls st0) :=
  va_calll hr hS (fun q _ h => xsubW hD hA hS q h) (xsubW hD hA hS) (fun r u _ H1 locs1 ht _ hw hB _ _ hS1 => kk r u H1 locs1 hw (by rw [← ht]; exact hB.1) (hB.2.2.weaken (fun _ _ _ h => xsubW hD hA hS _ h)) hS1)
theorem xcW_v {post : S → Prop} (hr : va_Run p l e R s m args below meth c H locs cells slots mc ms (F0 m pc ls st0) rest (va_Qv post (fun u t => xQ D tys (wf u) (va_A ws H.size) t) (va_A ws H.size) a) (va_A ws H.size)) (hD : va_D A ws) (hA : ∀ q, s.heap.size ≤ q → A q) (hS : va_S A s.heap H locs)
    (kk : ∀ (u : S) (H1 : Heap) (locs1 : List Loc), post u → va_P D xCl (wf u) H1 → va_D A (wf u) → va_S A s.heap H1 locs1 → W p l e R s m args below meth c H1 locs1 (cells + mc) (slots + ms) Q (F0 m (pc + 3) ls rest)) : W p l e R s m args below meth c H locs cells slots Q (F0 m pc ls st0) :=
  va_callv hr hS (fun q _ h => xsubW hD hA hS q h) (xsubW hD hA hS) (fun u _ H1 locs1 ht _ hw hB _ _ hS1 => kk u H1 locs1 hw (by rw [← ht]; exact hB.1) (hB.2.2.weaken (fun _ _ _ h => xsubW hD hA hS _ h)) hS1)
end XC
/-- the shifts to the right without sign, as the class's functions here write them -/
def xus (x y : Int32) : Int32 := (x.toUInt32 >>> (y.toUInt32 &&& Int32.toUInt32 31)).toInt32
def xul (x : Int64) (y : Int32) : Int64 := (x.toUInt64 >>> (y.toInt64.toUInt64 &&& Int64.toUInt64 63)).toInt64

theorem va_P0 {D : va_G} {cl : List vw_C} {H : Heap} : va_P D cl [] H := fun k q h => by simp at h
theorem va_D0 {A : Nat → Prop} : va_D A [] := ⟨fun i j p q h => by simp at h, fun k q h => by simp at h⟩
theorem xnest {z : (Nat → Nat) × (Nat → Nat)} {A : Nat → Prop} {U : State} {H : Heap} (hE : xS z A U H) {w : Cond} (h : w ∈ xNest) : va_Nw w U := hE.2.2.2.2 w h
theorem xnar {r : Int32} (h : r = 0 ∨ r = 1) : narrow .boolean (.int r) = .int r := by rcases h with e | e <;> subst e <;> rfl
theorem xti {x k : Int32} {n : Int} (h : ¬ x = k) (hk : k.toInt = n) : x.toInt ≠ n := fun e => h (Int32.toInt_inj.mp (e.trans hk.symm))
theorem xsw_out {x : Int32} {lo hi : Int} (ks : List Int32) (hc : ks.map (fun k => k.toInt) = (List.range (hi - lo + 1).toNat).map (fun i : Nat => lo + (i : Int))) (h : ∀ k ∈ ks, ¬ x = k) : x.toInt < lo ∨ hi < x.toInt := by
  rcases Int.lt_or_le x.toInt lo with h1 | h1
  · exact Or.inl h1
  rcases Int.lt_or_le hi x.toInt with h2 | h2
  · exact Or.inr h2
  exfalso
  have hm : x.toInt ∈ ks.map (fun k => k.toInt) := by
    rw [hc]
    exact List.mem_map.mpr ⟨(x.toInt - lo).toNat, List.mem_range.mpr (by omega), by omega⟩
  obtain ⟨k, hk, e⟩ := List.mem_map.mp hm
  exact h k hk (Int32.toInt_inj.mp e.symm)
/-- a world as a set of cells -/
theorem va_P_iff {D : va_G} {cl : List vw_C} {ws : va_W} {H : Heap} : va_P D cl ws H ↔ ∀ q ∈ ws, va_at D cl q H :=
  ⟨fun h q hq => by obtain ⟨k, hk⟩ := List.getElem?_of_mem hq; exact h k q hk, fun h k q hk => h q (List.mem_of_getElem? hk)⟩
section X1
variable {p : Program} {l : Launch} {e : Env} {R : Room} {s : State} {m : MethodId} {args : Array Value} {below : List Frame} {meth : Method} {c : Code} {H : Heap} {locs : List Loc} {cells slots : Nat} {Q : State → Prop}
variable {pc : Nat} {ls : Array Slot} {rest st0 : List Value} {a : Array Value} {A : Nat → Prop} {D : va_G} {tys : List (ClassId × FieldType)} {ws : va_W} {mc ms : Nat} {S : Type}
/-- a callee whose world is one cell of the caller's -/
theorem xsub1 {k h : Nat} {e0 : va_E} (hk : ws[k]? = some (h, e0)) (hD : va_D A ws) (hA : ∀ q, s.heap.size ≤ q → A q) (hS : va_S A s.heap H locs) : ∀ q, va_A [(h, e0)] H.size q → A q := by
  intro q hq
  rcases hq with ⟨j, e1, hj⟩ | hq
  · rcases j with _ | j
    · simp only [List.getElem?_cons_zero, Option.some.injEq, Prod.mk.injEq] at hj
      rw [← hj.1]; exact hD.2 k _ hk
    · simp at hj
  · exact hA q (Nat.le_trans hS.1 hq)
theorem xP1 {k h : Nat} {e0 : va_E} (hP : va_P D xCl ws H) (hk : ws[k]? = some (h, e0)) : va_P D xCl [(h, e0)] H := by
  intro j q hj
  rcases j with _ | j
  · simp only [List.getElem?_cons_zero, Option.some.injEq] at hj
    subst hj; exact hP k _ hk
  · simp at hj
theorem xD1 {A : Nat → Prop} {k h : Nat} {e0 : va_E} (hD : va_D A ws) (hk : ws[k]? = some (h, e0)) : va_D A [(h, e0)] := by
  refine ⟨fun i j p q hi hj _ => ?_, fun j q hj => ?_⟩
  · rcases i with _ | i
    · rcases j with _ | j
      · rfl
      · simp at hj
    · simp at hi
  · rcases j with _ | j
    · simp only [List.getElem?_cons_zero, Option.some.injEq] at hj
      subst hj; exact hD.2 k _ hk
    · simp at hj
theorem xjoin1 {k h : Nat} {e0 e1 : va_E} {H1 : Heap} (hP : va_P D xCl ws H) (hD : va_D A ws) (hk : ws[k]? = some (h, e0)) (hf : ∀ q : Nat, q < H.size → ¬ va_A [(h, e0)] H.size q → H1[q]? = H[q]?) (h1 : va_P D xCl [(h, e1)] H1) : va_P D xCl (ws.set k (h, e1)) H1 ∧ va_D A (ws.set k (h, e1)) := by
  refine ⟨fun j q hj => ?_, hD.set hk⟩
  rw [List.getElem?_set] at hj
  split at hj
  · split at hj
    · simp only [Option.some.injEq] at hj
      subst hj; exact h1 0 _ rfl
    · cases hj
  · rename_i hne
    have hlt := (hP j q hj).lt
    refine (hP j q hj).kept (hf q.1 hlt (fun hh => ?_))
    rcases hh with ⟨i, e2, hi⟩ | hh
    · rcases i with _ | i
      · simp only [List.getElem?_cons_zero, Option.some.injEq, Prod.mk.injEq] at hi
        exact hne (hD.1 k j _ q hk hj hi.1)
      · simp at hi
    · exact absurd hh (Nat.not_le.mpr hlt)
theorem xc1_i {post : Int32 → S → Prop} {ef : S → va_E} {k h : Nat} {e0 : va_E} (hr : va_Run p l e R s m args below meth c H locs cells slots 0 0 (F0 m pc ls st0) rest (va_Qi post (fun u t => xQ D tys [(h, ef u)] (va_A [(h, e0)] H.size) t) (va_A [(h, e0)] H.size) a) (va_A [(h, e0)] H.size)) (hk : ws[k]? = some (h, e0)) (hP : va_P D xCl ws H) (hD : va_D A ws) (hA : ∀ q, s.heap.size ≤ q → A q) (hS : va_S A s.heap H locs)
    (kk : ∀ (r : Int32) (u : S) (H1 : Heap) (locs1 : List Loc), post r u → va_P D xCl (ws.set k (h, ef u)) H1 → va_D A (ws.set k (h, ef u)) → va_S A s.heap H1 locs1 → W p l e R s m args below meth c H1 locs1 cells slots Q (F0 m (pc + 3) ls (.int r :: rest))) : W p l e R s m args below meth c H locs cells slots Q (F0 m pc ls st0) :=
  va_calli hr hS (fun q _ h => xsub1 hk hD hA hS q h) (xsub1 hk hD hA hS) (fun r u _ H1 locs1 ht _ hw hB _ hf hS1 => kk r u H1 locs1 hw (xjoin1 hP hD hk hf (by rw [← ht]; exact hB.1)).1 (hD.set hk) hS1)
theorem xc1_v {post : S → Prop} {ef : S → va_E} {k h : Nat} {e0 : va_E} (hr : va_Run p l e R s m args below meth c H locs cells slots 0 0 (F0 m pc ls st0) rest (va_Qv post (fun u t => xQ D tys [(h, ef u)] (va_A [(h, e0)] H.size) t) (va_A [(h, e0)] H.size) a) (va_A [(h, e0)] H.size)) (hk : ws[k]? = some (h, e0)) (hP : va_P D xCl ws H) (hD : va_D A ws) (hA : ∀ q, s.heap.size ≤ q → A q) (hS : va_S A s.heap H locs)
    (kk : ∀ (u : S) (H1 : Heap) (locs1 : List Loc), post u → va_P D xCl (ws.set k (h, ef u)) H1 → va_D A (ws.set k (h, ef u)) → va_S A s.heap H1 locs1 → W p l e R s m args below meth c H1 locs1 cells slots Q (F0 m (pc + 3) ls rest)) : W p l e R s m args below meth c H locs cells slots Q (F0 m pc ls st0) :=
  va_callv hr hS (fun q _ h => xsub1 hk hD hA hS q h) (xsub1 hk hD hA hS) (fun u _ H1 locs1 ht _ hw hB _ hf hS1 => kk u H1 locs1 hw (xjoin1 hP hD hk hf (by rw [← ht]; exact hB.1)).1 (hD.set hk) hS1)
end X1

theorem xl32 : ∀ i, i < 32 → (4294967295 : Int64).toBitVec.getLsbD i = true := by decide +kernel
theorem xlow (q : Int32) : (Int32.toInt64 q &&& 4294967295).toInt32 = q := by
  apply Int32.toBitVec_inj.mp
  rw [Int64.toBitVec_toInt32, Int64.toBitVec_and, Int32.toBitVec_toInt64]
  apply BitVec.eq_of_getLsbD_eq
  intro i hi
  rw [BitVec.getLsbD_signExtend]
  simp only [hi, show i < 64 by omega, decide_true, if_true, Bool.true_and, BitVec.getLsbD_and, xl32 i hi, Bool.and_true]
  rw [BitVec.getLsbD_signExtend]
  simp [hi, show i < 64 by omega]
theorem xne_u {q : Int32} (h : ¬ q = 0) : ¬ (Int32.toInt64 q &&& 4294967295) = 0 := fun e => h (by rw [← xlow q, e]; decide)
theorem xne_l {q : Int32} (h : ¬ q = 0) : ¬ Int32.toInt64 q = 0 := fun e => h (by
  have h1 := xlow q
  rw [e] at h1
  rw [← h1]; decide)

/-- a value with a name, in the functions that are read off the bytecode -/
def xlt {α β : Type} (a : α) (f : α → β) : β := f a
theorem xlt_e {α β : Type} {a x : α} {f : α → β} {r : β} (h : x = a) (k : r = f x) : r = xlt a f := by subst h; exact k
theorem xit {α : Type} {c : Prop} {d : Decidable c} {t e r : α} (h : c) (k : r = t) : r = @ite α c d t e := by rw [if_pos h]; exact k
theorem xif {α : Type} {c : Prop} {d : Decidable c} {t e r : α} (h : ¬ c) (k : r = e) : r = @ite α c d t e := by rw [if_neg h]; exact k

def X01 (y : Int32) : Prop := y = 0 ∨ y = 1
def X01p {β : Type} (y : Int32 × β) : Prop := X01 y.1
theorem xlt_01 {α : Type} {a : α} {f : α → Int32} (h : ∀ x, x = a → X01 (f x)) : X01 (xlt a f) := h a rfl
theorem xlt_01p {α β : Type} {a : α} {f : α → Int32 × β} (h : ∀ x, x = a → X01p (f x)) : X01p (xlt a f) := h a rfl
theorem xit_01 {c : Prop} {d : Decidable c} {t e : Int32} (h1 : X01 t) (h2 : X01 e) : X01 (@ite Int32 c d t e) := by by_cases h : c <;> simp only [h, if_true, if_false] <;> assumption
theorem xit_01p {β : Type} {c : Prop} {d : Decidable c} {t e : Int32 × β} (h1 : X01p t) (h2 : X01p e) : X01p (@ite (Int32 × β) c d t e) := by by_cases h : c <;> simp only [h, if_true, if_false] <;> assumption
theorem X01_of {x a : Int32} (h : x = a) (k : X01 a) : X01 x := h ▸ k
theorem X01_ofp {β : Type} {x a : Int32 × β} (h : x = a) (k : X01p a) : X01 x.1 := h ▸ k
/-- a boolean as the machine holds it -/
def xz (b : Bool) : Int32 := if b then 1 else 0
theorem xz01 (b : Bool) : X01 (xz b) := by cases b; exact Or.inl rfl; exact Or.inr rfl
theorem xz_n (b : Bool) : narrow .boolean (.int (xz b)) = .int (xz b) := by cases b <;> rfl
theorem xz_f (b : Bool) : fits .boolean (.int (xz b)) = true := by cases b <;> rfl
