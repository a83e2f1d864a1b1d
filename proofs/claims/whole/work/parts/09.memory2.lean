
theorem xarr_congr {cA : ClassId} {N : Nat} {f g : Nat → Int32} (h : ∀ j, j < N → f j = g j) : vp_cell cA (N, .inl f) = vp_cell cA (N, .inl g) := by
  have e : (fun j : Fin N => Value.int (f j.val)) = fun j : Fin N => Value.int (g j.val) := funext fun j => by rw [h j.val j.isLt]
  simp only [vp_cell_i, arrV]
  rw [e]
theorem xPcongr {D : va_G} {h : Nat} {cA : ClassId} {N : Nat} {f g : Nat → Int32} {H : Heap} (hc : ∀ j, j < N → f j = g j) (hP : va_P D xCl [(h, .inl (cA, N, .inl f))] H) : va_P D xCl [(h, .inl (cA, N, .inl g))] H := by
  refine va_P_iff.mpr (fun q hq => ?_)
  rw [List.mem_singleton] at hq
  subst hq
  have h1 : H[h]? = some (vp_cell cA (N, .inl f)) := va_P_iff.mp hP _ List.mem_cons_self
  show H[h]? = some (vp_cell cA (N, .inl g))
  rw [← xarr_congr hc]
  exact h1
theorem xDc {A : Nat → Prop} {h : Nat} {x y : va_E} (hD : va_D A [(h, x)]) : va_D A [(h, y)] := xd_pw.mpr ⟨by simp, fun q hq => by
  rw [List.mem_singleton] at hq
  subst hq
  exact (xd_pw.mp hD).2 (h, x) List.mem_cons_self⟩
theorem xok1_congr {k : ClassId} {n : Nat} {g : XG1} {u v : XM1} (h : xok1 k n g u) (h1 : ∀ i, i < n → u.1 i = v.1 i) (h2 : u.2.1 = v.2.1) : xok1 k n g v := by
  obtain ⟨wd, a, b⟩ := h
  refine ⟨wd, fun i hi => ?_, ?_⟩
  · rw [← h1 i hi, ← h2]; exact a i hi
  · rw [← h2]; exact b
theorem xKB {D : va_G} {cl : List vw_C} {tys : List (ClassId × FieldType)} {s : State} {cA cB : ClassId} {C : String} (h : va_K D cl (tys ++ [(cA, .object C)]) s) (h0 : tys[1]? = some (cB, .object C)) : cA = cB := by
  obtain ⟨_, _, _, _, _, h1⟩ := (h.2 tys.length (cA, .object C) List.getElem?_concat_length).2
  obtain ⟨_, _, _, _, _, h2⟩ := (h.2 1 (cB, .object C) (by rw [List.getElem?_append_left (List.getElem?_eq_some_iff.mp h0).1]; exact h0)).2
  exact Option.some.inj (h1.symm.trans h2)
def xf_M_clear (u : XM1) : XM1 := (fun _ _ => 0, u.2.1, 0)


set_option maxHeartbeats 4000000 in
set_option maxRecDepth 100000 in
theorem c_Y_fill (l : Launch) (D : va_G) (z : (Nat → Nat) × (Nat → Nat)) (k : ClassId × ClassId) (sz h N : Nat) (hN : N < 2 ^ 31) (f0 : Nat → Int32) (v : Int32) : Met l xy_Y_fill (xk_Y_fill :: lw_g) { frames := 0, cells := 0, slots := 0, locals := 0 } (va_Pc [.ref h, .int v] (xB D (xTy k) z sz [(h, .inl (k.1, N, .inl f0))])) (va_Qv (fun _ : Unit => True) (fun _ t => xQ D (xTy k) [(h, .inl (k.1, N, .inl (fun _ => v)))] (va_A [(h, .inl (k.1, N, .inl f0))] sz) t) (va_A [(h, .inl (k.1, N, .inl f0))] sz)) 0 0 (va_A [(h, .inl (k.1, N, .inl f0))] sz) := by
  refine xopen_v (wf := fun _ : Unit => [(h, .inl (k.1, N, .inl (fun _ => v)))]) (lv := [(0, .ref h), (1, .int v)]) (by decide) rfl (Nat.le_of_ble_eq_true rfl) ?_
  intro p e s m args below meth c Q ls A H locs hx hb hml htg hown hin hK hP hD hE hS hA hl hret
  refine lv_iconst (v := 0) hx hb xd_Y_fill_0 (by decide) ?_
  refine lv_istore_n (lv' := [(2, .int 0), (0, .ref h), (1, .int v)]) hx hb xd_Y_fill_1 rfl hl (by decide) rfl (fun ls hl => ?_)
  refine lv_aload_n hx hb xd_Y_fill_2 rfl (lv_at hl 1 rfl) ?_
  refine va_alen (v := nI N) hx hb hK hP 0 0 rfl rfl rfl xd_Y_fill_3 ?_
  refine lv_istore_n (lv' := [(3, .int (nI N)), (2, .int 0), (0, .ref h), (1, .int v)]) hx hb xd_Y_fill_4 rfl hl (by decide) rfl (fun ls hl => ?_)
  have loop : ∀ (d i : Nat) (f : Nat → Int32) (H : Heap) (locs : List Loc) (ls : Array Slot), i + d = N → (∀ j, j < i → f j = v) → lv_has ls 4 [(3, .int (nI N)), (2, .int (nI i)), (0, .ref h), (1, .int v)] → va_P D xCl [(h, .inl (k.1, N, .inl f))] H → va_D A [(h, .inl (k.1, N, .inl f))] → va_S A s.heap H locs → W p l e { frames := 0, cells := 0, slots := 0, locals := 0 } s m args below meth c H locs 0 0 Q (F0 m 5 ls []) := by
    intro d
    induction d with
    | zero =>
      intro i f H locs ls hid hf hl hP hD hS
      obtain rfl : i = N := by omega
      refine lv_iload_n hx hb xd_Y_fill_5 rfl (lv_at hl 1 rfl) ?_
      refine lv_iload_n hx hb xd_Y_fill_6 rfl (lv_at hl 0 rfl) ?_
      refine lv_icmp_ge (tgt := 20) hx hb xd_Y_fill_7 rfl (fun _ => ?_) (fun h9 => absurd (Int32.le_refl _) h9)
      exact hret () H locs ls _ trivial (xPcongr (fun j hj => hf j hj) hP) (xDc hD) hS xd_Y_fill_20
    | succ d ih =>
      intro i f H locs ls hid hf hl hP hD hS
      have hi : i < N := by omega
      refine lv_iload_n hx hb xd_Y_fill_5 rfl (lv_at hl 1 rfl) ?_
      refine lv_iload_n hx hb xd_Y_fill_6 rfl (lv_at hl 0 rfl) ?_
      refine lv_icmp_ge (tgt := 20) hx hb xd_Y_fill_7 rfl (fun h9 => absurd h9 (nI_ge hi hN)) (fun _ => ?_)
      refine lv_aload_n hx hb xd_Y_fill_10 rfl (lv_at hl 2 rfl) ?_
      refine lv_iload_n hx hb xd_Y_fill_11 rfl (lv_at hl 1 rfl) ?_
      refine lv_iload_n hx hb xd_Y_fill_12 rfl (lv_at hl 3 rfl) ?_
      refine va_iast hx hb hK hP hD hS 0 0 rfl rfl (vp_in_nI hi hN) xd_Y_fill_13 (fun H locs hP hD hS => ?_)
      refine lv_iinc (k := 1) (v := nI (i + 1)) (lv' := [(2, .int (nI (i + 1))), (3, .int (nI N)), (0, .ref h), (1, .int v)]) hx hb xd_Y_fill_14 hl rfl (by rw [← nI_1]; rfl) (by decide) rfl (fun ls hl => ?_)
      refine lv_goto (tgt := 5) hx hb xd_Y_fill_17 rfl ?_
      refine ih (i + 1) (upd f (nI i).toNatClampNeg v) H locs ls (by omega) (fun j hj => ?_) (lv_sub hl [1, 0, 2, 3] rfl) hP hD hS
      rw [nI_clamp (by omega)]
      by_cases e9 : j = i
      · subst e9; exact pk_us
      · rw [pk_un e9]; exact hf j (by omega)
  exact loop N 0 f0 H locs ls (by omega) (fun j hj => absurd hj (Nat.not_lt_zero _)) (by rw [nI_0]; exact hl) hP hD hS


set_option maxHeartbeats 4000000 in
set_option maxRecDepth 100000 in
theorem c_M_clear (l : Launch) (D : va_G) (z : (Nat → Nat) × (Nat → Nat)) (k : ClassId × ClassId) (sz h f n : Nat) (hn : n ≤ 64) (g : XG1) (u : XM1) (hg : xok1 k.1 n g u) : Met l xy_M_clear (xk_M_clear :: lw_g) { frames := 1, cells := 0, slots := 0, locals := 23 } (va_Pc [.ref h] (xB D (xTy k) z sz (xWM k h f n g u.2.2))) (va_Qv (fun q : XM1 × XG1 => q.1 = xf_M_clear u ∧ xok1 k.1 n q.2 q.1) (fun q t => xQ D (xTy k) (xWM k h f n q.2 q.1.2.2) (va_A (xWM k h f n g u.2.2) sz) t) (va_A (xWM k h f n g u.2.2) sz)) 0 0 (va_A (xWM k h f n g u.2.2) sz) := by
  refine xopen_v (wf := fun q : XM1 × XG1 => xWM k h f n q.2 q.1.2.2) (lv := [(0, .ref h)]) (by decide) rfl (Nat.le_of_ble_eq_true rfl) ?_
  intro p e s m args below meth c Q ls A H locs hx hb hml htg hown hin hK hP hD hE hS hA hl hret
  refine lv_aload_n hx hb xd_M_clear_0 rfl (lv_at hl 0 rfl) ?_
  refine lv_iconst (v := 0) hx hb xd_M_clear_1 (by decide) ?_
  refine va_put (D := D) (ci := 6) (v := .int 0) (ty := .int) (C := xR_M) (T := xF_M) (N := 2) hx hb htg xin_M xT_M xO_M xN_M hown hK hP hD hS 0 rfl rfl 1 (by decide) (htg _ xw_38) (fun _ h9 => h9) rfl (by decide +kernel) rfl rfl (Nat.le_of_ble_eq_true rfl) xd_M_clear_2 (fun H locs hP hD hS => ?_)
  have hP : va_P D xCl (xWM k h f n g 0) H := hP
  have hD : va_D A (xWM k h f n g 0) := hD
  refine lv_iconst (v := 0) hx hb xd_M_clear_5 (by decide) ?_
  refine lv_istore_n (lv' := [(1, .int 0), (0, .ref h)]) hx hb xd_M_clear_6 rfl hl (by decide) rfl (fun ls hl => ?_)
  have loop : ∀ (d i : Nat) (g : XG1) (H : Heap) (locs : List Loc) (ls : Array Slot), i + d = n → xok1 k.1 n g (fun j => if j < i then fun _ => 0 else u.1 j, u.2.1, 0) → lv_has ls 3 [(1, .int (nI i)), (0, .ref h)] → va_P D xCl (xWM k h f n g 0) H → va_D A (xWM k h f n g 0) → va_S A s.heap H locs → W p l e { frames := 1, cells := 0, slots := 0, locals := 23 } s m args below meth c H locs 0 0 Q (F0 m 7 ls []) := by
    intro d
    induction d with
    | zero =>
      intro i g H locs ls hid hg hl hP hD hS
      obtain rfl : i = n := by omega
      refine lv_iload_n hx hb xd_M_clear_7 rfl (lv_at hl 0 rfl) ?_
      refine lv_aload_n hx hb xd_M_clear_8 rfl (lv_at hl 1 rfl) ?_
      refine va_get (D := D) (ci := 6) (v := .ref f) (C := xR_M) (T := xF_M) (N := 2) hx hb htg xin_M hown hK hP 0 rfl rfl 0 (by decide) (htg _ xw_37) (fun _ h9 => h9) rfl xd_M_clear_9 ?_
      refine va_alen (v := nI i) hx hb hK hP 1 1 rfl rfl rfl xd_M_clear_12 ?_
      refine lv_icmp_ge (tgt := 41) hx hb xd_M_clear_13 rfl (fun _ => ?_) (fun h9 => absurd (Int32.le_refl _) h9)
      exact hret (xf_M_clear u, g) H locs ls _ ⟨rfl, xok1_congr hg (fun j hj => by show (if j < i then fun _ => 0 else u.1 j) = _; rw [if_pos hj]; rfl) rfl⟩ hP hD hS xd_M_clear_41
    | succ d ih =>
      intro i g H locs ls hid hg hl hP hD hS
      have hi : i < n := by omega
      refine lv_iload_n hx hb xd_M_clear_7 rfl (lv_at hl 0 rfl) ?_
      refine lv_aload_n hx hb xd_M_clear_8 rfl (lv_at hl 1 rfl) ?_
      refine va_get (D := D) (ci := 6) (v := .ref f) (C := xR_M) (T := xF_M) (N := 2) hx hb htg xin_M hown hK hP 0 rfl rfl 0 (by decide) (htg _ xw_37) (fun _ h9 => h9) rfl xd_M_clear_9 ?_
      refine va_alen (v := nI n) hx hb hK hP 1 1 rfl rfl rfl xd_M_clear_12 ?_
      refine lv_icmp_ge (tgt := 41) hx hb xd_M_clear_13 rfl (fun h9 => absurd h9 (nI_ge hi (by omega))) (fun _ => ?_)
      refine lv_aload_n hx hb xd_M_clear_16 rfl (lv_at hl 1 rfl) ?_
      refine va_get (D := D) (ci := 6) (v := .ref f) (C := xR_M) (T := xF_M) (N := 2) hx hb htg xin_M hown hK hP 0 rfl rfl 0 (by decide) (htg _ xw_37) (fun _ h9 => h9) rfl xd_M_clear_17 ?_
      refine lv_iload_n hx hb xd_M_clear_20 rfl (lv_at hl 0 rfl) ?_
      refine va_aldq hx hb hK hP 1 1 rfl rfl (vp_in_nI hi (by omega)) xd_M_clear_21 ?_
      rw [nI_clamp (by omega)]
      have hg0 := hg
      obtain ⟨wd, hok, hwd⟩ := hg0
      have hnx : ∀ (g : XG1) (H : Heap) (locs : List Loc) (ls : Array Slot) (y : Value), xok1 k.1 n g (fun j => if j < i + 1 then fun _ => 0 else u.1 j, u.2.1, 0) → lv_has ls 3 [(2, y), (1, .int (nI i)), (0, .ref h)] → va_P D xCl (xWM k h f n g 0) H → va_D A (xWM k h f n g 0) → va_S A s.heap H locs → W p l e { frames := 1, cells := 0, slots := 0, locals := 23 } s m args below meth c H locs 0 0 Q (F0 m 35 ls []) := by
        intro g H locs ls y hg hl hP hD hS
        refine lv_iinc (k := 0) (v := nI (i + 1)) (lv' := [(1, .int (nI (i + 1))), (0, .ref h)]) hx hb xd_M_clear_35 (lv_sub hl [1, 2] rfl) rfl (by rw [← nI_1]; rfl) (by decide) rfl (fun ls hl => ?_)
        refine lv_goto (tgt := 7) hx hb xd_M_clear_38 rfl ?_
        exact ih (i + 1) g H locs ls (by omega) hg hl hP hD hS
      rcases hok i hi with ⟨e1, e2, e3⟩ | ⟨pp, e1, e2, e3, e4, e5, e6⟩
      · rw [e1]
        show W p l e { frames := 1, cells := 0, slots := 0, locals := 23 } s m args below meth c H locs 0 0 Q (F0 m 22 ls [.null])
        refine lv_astore_nN (lv' := [(2, .null), (1, .int (nI i)), (0, .ref h)]) hx hb xd_M_clear_22 rfl hl (by decide) rfl (fun ls hl => ?_)
        refine lv_aload_nN hx hb xd_M_clear_23 rfl (lv_at hl 0 rfl) ?_
        refine lv_ifnullN (tgt := 35) hx hb xd_M_clear_24 rfl ?_
        refine hnx g H locs ls .null (xok1_congr hg (fun j hj => ?_) rfl) hl hP hD hS
        show (if j < i then fun _ => 0 else u.1 j) = (if j < i + 1 then fun _ => 0 else u.1 j)
        by_cases h9 : j < i
        · rw [if_pos h9, if_pos (by omega)]
        · by_cases h8 : j = i
          · subst h8
            have e3' : (if j < j then fun _ => 0 else u.1 j) = fun _ => (0 : Int32) := e3
            rw [e3', if_pos (by omega)]
          · rw [if_neg h9, if_neg (by omega)]
      · rw [e1]
        show W p l e { frames := 1, cells := 0, slots := 0, locals := 23 } s m args below meth c H locs 0 0 Q (F0 m 22 ls [.ref pp])
        refine lv_astore_n (lv' := [(2, .ref pp), (1, .int (nI i)), (0, .ref h)]) hx hb xd_M_clear_22 rfl hl (by decide) rfl (fun ls hl => ?_)
        refine lv_aload_n hx hb xd_M_clear_23 rfl (lv_at hl 0 rfl) ?_
        refine lv_ifnull hx hb xd_M_clear_24 ?_
        refine lv_aload_n hx hb xd_M_clear_27 rfl (lv_at hl 0 rfl) ?_
        obtain ⟨q1, hq1⟩ := va_pl_get (X := [(h, .inr (6, [.ref f, .int 0])), (f, .inl (k.2, n, .inr (.inr (.inr (.inr g.1)))))]) (f := g.2.2) e3
        rw [e5] at hq1
        obtain ⟨q2, hq2⟩ := va_pl_get (X := [(h, .inr (6, [.ref f, .int 0])), (f, .inl (k.2, n, .inr (.inr (.inr (.inr g.1)))))]) (f := g.2.2) e4
        have hq3 := hq2
        rw [e6] at hq3
        have hq3 : (xWM k h f n g 0)[q2]? = some (wd i, .inl (k.1, 1024, .inl (if i < i then fun _ => 0 else u.1 i))) := hq3
        refine va_get (D := D) (ci := 5) (v := .ref (wd i)) (C := xR_F) (T := xF_F) (N := 1) hx hb htg xin_F hown hK hP q1 hq1 rfl 0 (by decide) (htg _ xw_300) (fun _ h9 => h9) rfl xd_M_clear_28 ?_
        refine lv_iconst (v := 0) hx hb xd_M_clear_31 (by decide) ?_
        refine xc1_v (ef := fun _ : Unit => .inl (k.1, 1024, .inl (fun _ => 0))) (k := q2) (va_runS (As := [.ref (wd i), .int 0]) (rest := []) ⟨hx, hb, hml, hown, htg⟩ (c_Y_fill l D z k H.size (wd i) 1024 (by decide) (if i < i then fun _ => 0 else u.1 i) 0) (va_cwS 2 htg (xg_S0 xkin_Y_fill xw_267 xw_261 xw_8) rfl rfl rfl (by decide +kernel) ⟨Nat.le_of_ble_eq_true rfl, Nat.le_of_ble_eq_true rfl⟩) ⟨xB_blind, fun U hU hW => xB_mk (xP1 hP hq3) hK (xD1 hD hq3) hE hS (xsub1 hq3 hD hA hS) hU hW⟩ rfl rfl hl.1 rfl (lv_room (Nat.le_of_ble_eq_true rfl)) xd_M_clear_32 ⟨Nat.le_of_ble_eq_true rfl, Nat.le_of_ble_eq_true rfl⟩) hq3 hP hD hA hS (fun _ H locs _ hP1 hD1 hS => ?_)
        have hok1 := xok1_set hi hok hwd e2 (fun _ => (0 : Int32))
        refine hnx _ H locs ls (.ref pp) (xok1_congr hok1 (fun j hj => ?_) ?_) hl (xfin_set hD e4 hq2 hP1) (xfin_setD hD e4 hq2 hD1) hS
        · show va_up (fun j => if j < i then fun _ => 0 else u.1 j) i (fun _ => 0) j = (if j < i + 1 then fun _ => 0 else u.1 j)
          by_cases h9 : j = i
          · subst h9; rw [va_up_self, if_pos (by omega)]
          · rw [va_up_ne _ _ h9]
            by_cases h8 : j < i
            · rw [if_pos h8, if_pos (by omega)]
            · rw [if_neg h8, if_neg (by omega)]
        · exact xup_same e2
  exact loop n 0 g H locs ls (by omega) (xok1_congr hg (fun j hj => by show _ = (if j < 0 then fun _ => 0 else u.1 j); rw [if_neg (Nat.not_lt_zero _)]) rfl) (by rw [nI_0]; exact hl) hP hD hS


set_option maxHeartbeats 4000000 in
set_option maxRecDepth 100000 in
theorem c_M_init (l : Launch) (D : va_G) (z : (Nat → Nat) × (Nat → Nat)) (k : ClassId × ClassId) (sz h n : Nat) (hn : n ≤ 64) : Met l xy_M_init (xk_M_init :: lw_g) { frames := 1, cells := 1, slots := n, locals := 20 } (va_Pc [.ref h, .int (nI n)] (xB D (xTy k) z sz [(h, .inr (6, [.null, .int 0]))])) (va_Qv (fun _ : Nat => True) (fun f t => xQ D (xTy k) (xWM k h f n (fun _ => none, [], fun _ => .inr (0, [])) 0) (va_A [(h, .inr (6, [.null, .int 0]))] sz) t) (va_A [(h, .inr (6, [.null, .int 0]))] sz)) 1 n (va_A [(h, .inr (6, [.null, .int 0]))] sz) := by
  refine xopen_v (wf := fun f : Nat => xWM k h f n (fun _ => none, [], fun _ => .inr (0, [])) 0) (lv := [(0, .ref h), (1, .int (nI n))]) (by decide) rfl (Nat.le_of_ble_eq_true rfl) ?_
  intro p e s m args below meth c Q ls A H locs hx hb hml htg hown hin hK hP hD hE hS hA hl hret
  refine lv_aload_n hx hb xd_M_init_0 rfl (lv_at hl 0 rfl) ?_
  refine W.objInit hx hb hown (htg _ xw_34) (htg _ xw_21) (htg _ xkin_O_init) rfl (by rw [hml]; exact hl.1) rfl xd_M_init_1 (Nat.le_of_ble_eq_true rfl) (Nat.le_of_ble_eq_true rfl) ?_
  refine lv_aload_n hx hb xd_M_init_4 rfl (lv_at hl 0 rfl) ?_
  refine lv_iload_n hx hb xd_M_init_5 rfl (lv_at hl 1 rfl) ?_
  refine va_newq (N' := n) hx hb hown (htg _ xw_35) hE.2.2.2.1 hK hP hD hS hA (nI_pos (by omega)) (nI_clamp (by omega)) (by omega) (Nat.le_of_ble_eq_true rfl) (by show 0 + n ≤ n; omega) xd_M_init_6 (fun f cA H hK2 hP hD hS => ?_)
  have hc : cA = k.2 := xKB hK2 rfl
  rw [hc] at hP hD
  refine va_putF (D := D) (ci := 6) (v := .ref f) (ty := .array (.object "HyperHost$Frame")) (C := xR_M) (T := xF_M) (N := 2) hx hb htg xin_M xT_M xO_M xN_M hown hK hP hD hS 0 rfl rfl 0 (by decide) (htg _ xw_37) (fun _ h9 => h9) rfl hin rfl (by decide +kernel) rfl rfl (Nat.le_of_ble_eq_true rfl) xd_M_init_9 (fun H locs hP hD hS => ?_)
  exact W.widen (Nat.le_refl _) (by omega) (hret f H locs ls _ trivial hP hD hS xd_M_init_12)

theorem xf_M_readWord_made (n : Nat) (u : XM1) (p0 : Int32) : (xf_M_readWord n u p0).2.2.1 = u.2.1 := by unfold xf_M_readWord; split <;> rfl
noncomputable def xf_M_read (n : Nat) (u : XM1) (p0 p1 : Int32) : Int32 × XM1 :=
  xlt (xf_M_readWord n u p0 : Int32 × XM1) fun q1 =>
  if p1 = 0 then
    ((Int8.toInt32 (Int32.toInt8 (xus q1.1 ((8 : Int32) * (p0 &&& (3 : Int32)))))), q1.2)
  else
    xlt (if p1 = 1 then ((Int16.toInt32 (Int32.toInt16 (xus q1.1 ((8 : Int32) * (p0 &&& (3 : Int32))))))) else ((xus q1.1 ((8 : Int32) * (p0 &&& (3 : Int32))))) : Int32) fun v4 =>
    (v4, q1.2)
set_option maxHeartbeats 4000000 in
set_option maxRecDepth 100000 in
theorem c_M_read (l : Launch) (D : va_G) (z : (Nat → Nat) × (Nat → Nat)) (k : ClassId × ClassId) (sz h f n : Nat) (hn : n ≤ 64) (g : XG1) (u : XM1) (hg : xok1 k.1 n g u) (p0 p1 : Int32) : Met l xy_M_read (xk_M_read :: lw_g) { frames := 1, cells := 0, slots := 0, locals := 23 } (va_Pc [.ref h, .int p0, .int p1] (xB D (xTy k) z sz (xWM k h f n g u.2.2))) (va_Qi (fun r (q : XM1 × XG1) => (r, q.1) = xf_M_read n u p0 p1 ∧ xok1 k.1 n q.2 q.1) (fun q t => xQ D (xTy k) (xWM k h f n q.2 q.1.2.2) (va_A (xWM k h f n g u.2.2) sz) t) (va_A (xWM k h f n g u.2.2) sz)) 0 0 (va_A (xWM k h f n g u.2.2) sz) := by
  refine xopen_i (wf := fun q : XM1 × XG1 => xWM k h f n q.2 q.1.2.2) (lv := [(0, .ref h), (1, .int p0), (2, .int p1)]) (by decide) rfl (Nat.le_of_ble_eq_true rfl) ?_
  intro p e s m args below meth c Q ls A H locs hx hb hml htg hown hin hK hP hD hE hS hA hl hret
  refine lv_aload_n hx hb xd_M_read_0 rfl (lv_at hl 0 rfl) ?_
  refine lv_iload_n hx hb xd_M_read_1 rfl (lv_at hl 1 rfl) ?_
  refine xcW_i (wf := fun q : XM1 × XG1 => xWM k h f n q.2 q.1.2.2) (va_runV (As := [.int p0]) (rest := []) ⟨hx, hb, hml, hown, htg⟩ (c_M_readWord l D z k H.size h f n hn g u hg p0) (cwV 1 htg (xg_V0 xkin_M_readWord xw_528 xw_310 xsel_M_readWord xw_3) rfl rfl rfl (by decide +kernel) ⟨Nat.le_of_ble_eq_true rfl, Nat.le_of_ble_eq_true rfl⟩) ⟨xB_blind, va_recv hK hP rfl (q0 := 0) rfl, fun U hU hW => xB_mk hP hK hD hE hS (xsubW hD hA hS) hU hW⟩ rfl rfl hl.1 rfl (lv_room (Nat.le_of_ble_eq_true rfl)) xd_M_read_2 ⟨by simp, by simp⟩) hD hA hS (fun r w1 H locs hw hP hD hS => ?_)
  obtain ⟨u1, gq1⟩ := w1
  obtain ⟨hw, hg⟩ := hw
  obtain ⟨q1, hq1⟩ : ∃ q, q = xf_M_readWord n u p0 := ⟨_, rfl⟩
  rw [← hq1] at hw
  obtain rfl : r = q1.1 := congrArg Prod.fst hw
  obtain rfl : u1 = q1.2 := congrArg Prod.snd hw
  refine lv_bipush (v := 8) hx hb xd_M_read_5 (by decide) ?_
  refine lv_iload_n hx hb xd_M_read_7 rfl (lv_at hl 1 rfl) ?_
  refine lv_iconst (v := 3) hx hb xd_M_read_8 (by decide) ?_
  refine lv_iand hx hb xd_M_read_9 ?_
  refine lv_imul hx hb xd_M_read_10 ?_
  refine lv_iushr (v := (xus q1.1 ((8 : Int32) * (p0 &&& (3 : Int32))))) hx hb xd_M_read_11 rfl ?_
  refine lv_istore_n (lv' := [(3, .int ((xus q1.1 ((8 : Int32) * (p0 &&& (3 : Int32)))))), (0, .ref h), (1, .int p0), (2, .int p1)]) hx hb xd_M_read_12 rfl hl (by decide) rfl (fun ls hl => ?_)
  refine lv_iload_n hx hb xd_M_read_13 rfl (lv_at hl 3 rfl) ?_
  refine lv_if_ne (tgt := 20) hx hb xd_M_read_14 rfl (fun h2 => ?_) (fun h2 => ?_)
  · refine lv_iload_n hx hb xd_M_read_20 rfl (lv_at hl 3 rfl) ?_
    refine lv_iconst (v := 1) hx hb xd_M_read_21 (by decide) ?_
    have hj5 : ∀ (H : Heap) (locs : List Loc) (ls : Array Slot) (v4 : Int32), v4 = (if p1 = 1 then ((Int16.toInt32 (Int32.toInt16 (xus q1.1 ((8 : Int32) * (p0 &&& (3 : Int32))))))) else ((xus q1.1 ((8 : Int32) * (p0 &&& (3 : Int32)))))) → lv_has ls 4 [(3, .int ((xus q1.1 ((8 : Int32) * (p0 &&& (3 : Int32)))))), (0, .ref h), (1, .int p0), (2, .int p1)] → va_P D xCl (xWM k h f n gq1 q1.2.2.2) H → va_D A (xWM k h f n gq1 q1.2.2.2) → va_S A s.heap H locs → W p l e { frames := 1, cells := 0, slots := 0, locals := 23 } s m args below meth c H locs (0) (0) Q (F0 m 31 ls [.int v4]) := by
      intro H locs ls v4 hv4 hl hP hD hS
      exact hret _ (q1.2, gq1) H locs ls _ ⟨(by unfold xf_M_read; exact (xlt_e hq1 (xif h2 (xlt_e hv4 rfl)))), hg⟩ hP hD hS xd_M_read_31
    refine lv_icmp_ne (tgt := 30) hx hb xd_M_read_22 rfl (fun h6 => ?_) (fun h6 => ?_)
    · refine lv_iload_n hx hb xd_M_read_30 rfl (lv_at hl 0 rfl) ?_
      exact hj5 H locs ls (xus q1.1 ((8 : Int32) * (p0 &&& (3 : Int32)))) (xif h6 rfl) hl hP hD hS
    · refine lv_iload_n hx hb xd_M_read_25 rfl (lv_at hl 0 rfl) ?_
      refine lv_i2s (v := (Int16.toInt32 (Int32.toInt16 (xus q1.1 ((8 : Int32) * (p0 &&& (3 : Int32))))))) hx hb xd_M_read_26 rfl ?_
      refine lv_goto (tgt := 31) hx hb xd_M_read_27 rfl ?_
      exact hj5 H locs ls (Int16.toInt32 (Int32.toInt16 (xus q1.1 ((8 : Int32) * (p0 &&& (3 : Int32)))))) (xit h6 rfl) hl hP hD hS
  · refine lv_iload_n hx hb xd_M_read_17 rfl (lv_at hl 0 rfl) ?_
    refine lv_i2b (v := (Int8.toInt32 (Int32.toInt8 (xus q1.1 ((8 : Int32) * (p0 &&& (3 : Int32))))))) hx hb xd_M_read_18 rfl ?_
    exact hret _ (q1.2, gq1) H locs ls _ ⟨(by unfold xf_M_read; exact (xlt_e hq1 (xit h2 rfl))), hg⟩ hP hD hS xd_M_read_19

noncomputable def xf_M_write (n : Nat) (u : XM1) (p0 p1 p2 : Int32) : XM1 :=
  if p1 = 2 then
    xlt (xf_M_writeWord n u p0 p2 : XM1) fun q8 =>
    q8
  else
    xlt (if p1 = 0 then (255) else (65535) : Int32) fun v3 =>
    xlt (xf_M_readWord n u p0 : Int32 × XM1) fun q5 =>
    xlt (xf_M_writeWord n q5.2 p0 ((q5.1 &&& ((v3 <<< (((8 : Int32) * (p0 &&& (3 : Int32))) &&& 31)) ^^^ (-1 : Int32))) ||| ((p2 <<< (((8 : Int32) * (p0 &&& (3 : Int32))) &&& 31)) &&& (v3 <<< (((8 : Int32) * (p0 &&& (3 : Int32))) &&& 31)))) : XM1) fun q6 =>
    q6
set_option maxHeartbeats 4000000 in
set_option maxRecDepth 100000 in
theorem c_M_write (l : Launch) (D : va_G) (z : (Nat → Nat) × (Nat → Nat)) (k : ClassId × ClassId) (sz h f n : Nat) (hn : n ≤ 64) (g : XG1) (u : XM1) (hg : xok1 k.1 n g u) (p0 p1 p2 : Int32) (kk : Nat) (hk : xcnt n (xf_M_write n u p0 p1 p2).2.1 ≤ xcnt n u.2.1 + kk) : Met l xy_M_write (xk_M_write :: lw_g) { frames := 3, cells := 2 * kk, slots := 1025 * kk, locals := 64 } (va_Pc [.ref h, .int p0, .int p1, .int p2] (xB D (xTy k) z sz (xWM k h f n g u.2.2))) (va_Qv (fun q : XM1 × XG1 => q.1 = xf_M_write n u p0 p1 p2 ∧ xok1 k.1 n q.2 q.1) (fun q t => xQ D (xTy k) (xWM k h f n q.2 q.1.2.2) (va_A (xWM k h f n g u.2.2) sz) t) (va_A (xWM k h f n g u.2.2) sz)) (2 * kk) (1025 * kk) (va_A (xWM k h f n g u.2.2) sz) := by
  refine xopen_v (wf := fun q : XM1 × XG1 => xWM k h f n q.2 q.1.2.2) (lv := [(0, .ref h), (1, .int p0), (2, .int p1), (3, .int p2)]) (by decide) rfl (Nat.le_of_ble_eq_true rfl) ?_
  intro p e s m args below meth c Q ls A H locs hx hb hml htg hown hin hK hP hD hE hS hA hl hret
  refine lv_iload_n hx hb xd_M_write_0 rfl (lv_at hl 2 rfl) ?_
  refine lv_iconst (v := 2) hx hb xd_M_write_1 (by decide) ?_
  refine lv_icmp_ne (tgt := 12) hx hb xd_M_write_2 rfl (fun h1 => ?_) (fun h1 => ?_)
  · refine lv_bipush (v := 8) hx hb xd_M_write_12 (by decide) ?_
    refine lv_iload_n hx hb xd_M_write_14 rfl (lv_at hl 1 rfl) ?_
    refine lv_iconst (v := 3) hx hb xd_M_write_15 (by decide) ?_
    refine lv_iand hx hb xd_M_write_16 ?_
    refine lv_imul hx hb xd_M_write_17 ?_
    refine lv_istore (lv' := [(4, .int (((8 : Int32) * (p0 &&& (3 : Int32))))), (0, .ref h), (1, .int p0), (2, .int p1), (3, .int p2)]) hx hb xd_M_write_18 hl (by decide) rfl (fun ls hl => ?_)
    refine lv_iload_n hx hb xd_M_write_20 rfl (lv_at hl 3 rfl) ?_
    have hj4 : ∀ (H : Heap) (locs : List Loc) (ls : Array Slot) (v3 : Int32), v3 = (if p1 = 0 then (255) else (65535)) → lv_has ls 6 [(4, .int (((8 : Int32) * (p0 &&& (3 : Int32))))), (0, .ref h), (1, .int p0), (2, .int p1), (3, .int p2)] → va_P D xCl (xWM k h f n g u.2.2) H → va_D A (xWM k h f n g u.2.2) → va_S A s.heap H locs → W p l e { frames := 3, cells := 2 * kk, slots := 1025 * kk, locals := 64 } s m args below meth c H locs (0) (0) Q (F0 m 32 ls [.int v3]) := by
      intro H locs ls v3 hv3 hl hP hD hS
      refine lv_iload hx hb xd_M_write_32 (lv_at hl 0 rfl) ?_
      refine lv_ishl hx hb xd_M_write_34 ?_
      refine lv_istore (lv' := [(5, .int ((v3 <<< (((8 : Int32) * (p0 &&& (3 : Int32))) &&& 31)))), (4, .int (((8 : Int32) * (p0 &&& (3 : Int32))))), (0, .ref h), (1, .int p0), (2, .int p1), (3, .int p2)]) hx hb xd_M_write_35 hl (by decide) rfl (fun ls hl => ?_)
      refine lv_aload_n hx hb xd_M_write_37 rfl (lv_at hl 2 rfl) ?_
      refine lv_iload_n hx hb xd_M_write_38 rfl (lv_at hl 3 rfl) ?_
      refine lv_aload_n hx hb xd_M_write_39 rfl (lv_at hl 2 rfl) ?_
      refine lv_iload_n hx hb xd_M_write_40 rfl (lv_at hl 3 rfl) ?_
      refine xcW_i (wf := fun q : XM1 × XG1 => xWM k h f n q.2 q.1.2.2) (va_runV (As := [.int p0]) (rest := [.int p0, .ref h]) ⟨hx, hb, hml, hown, htg⟩ (c_M_readWord l D z k H.size h f n hn g u hg p0) (cwV 1 htg (xg_V0 xkin_M_readWord xw_528 xw_310 xsel_M_readWord xw_3) rfl rfl rfl (by decide +kernel) ⟨Nat.le_of_ble_eq_true rfl, Nat.le_of_ble_eq_true rfl⟩) ⟨xB_blind, va_recv hK hP rfl (q0 := 0) rfl, fun U hU hW => xB_mk hP hK hD hE hS (xsubW hD hA hS) hU hW⟩ rfl rfl hl.1 rfl (lv_room (Nat.le_of_ble_eq_true rfl)) xd_M_write_41 ⟨by simp, by simp⟩) hD hA hS (fun r w1 H locs hw hP hD hS => ?_)
      obtain ⟨u1, gq5⟩ := w1
      obtain ⟨hw, hg⟩ := hw
      obtain ⟨q5, hq5⟩ : ∃ q, q = xf_M_readWord n u p0 := ⟨_, rfl⟩
      rw [← hq5] at hw
      obtain rfl : r = q5.1 := congrArg Prod.fst hw
      obtain rfl : u1 = q5.2 := congrArg Prod.snd hw
      refine lv_iload hx hb xd_M_write_44 (lv_at hl 0 rfl) ?_
      refine lv_iconst (v := (-1)) hx hb xd_M_write_46 (by decide) ?_
      refine lv_ixor hx hb xd_M_write_47 ?_
      refine lv_iand hx hb xd_M_write_48 ?_
      refine lv_iload_n hx hb xd_M_write_49 rfl (lv_at hl 5 rfl) ?_
      refine lv_iload hx hb xd_M_write_50 (lv_at hl 1 rfl) ?_
      refine lv_ishl hx hb xd_M_write_52 ?_
      refine lv_iload hx hb xd_M_write_53 (lv_at hl 0 rfl) ?_
      refine lv_iand hx hb xd_M_write_55 ?_
      refine lv_ior hx hb xd_M_write_56 ?_
      refine xcW_v (wf := fun q : XM1 × XG1 => xWM k h f n q.2 q.1.2.2) (va_runV (As := [.int p0, .int (((q5.1 &&& ((v3 <<< (((8 : Int32) * (p0 &&& (3 : Int32))) &&& 31)) ^^^ (-1 : Int32))) ||| ((p2 <<< (((8 : Int32) * (p0 &&& (3 : Int32))) &&& 31)) &&& (v3 <<< (((8 : Int32) * (p0 &&& (3 : Int32))) &&& 31)))))]) (rest := []) ⟨hx, hb, hml, hown, htg⟩ (c_M_writeWord l D z k H.size h f n hn gq5 q5.2 hg p0 ((q5.1 &&& ((v3 <<< (((8 : Int32) * (p0 &&& (3 : Int32))) &&& 31)) ^^^ (-1 : Int32))) ||| ((p2 <<< (((8 : Int32) * (p0 &&& (3 : Int32))) &&& 31)) &&& (v3 <<< (((8 : Int32) * (p0 &&& (3 : Int32))) &&& 31)))) kk (by subst hv3; subst hq5; simp only [xf_M_write, xlt, if_neg h1] at hk; rw [xf_M_readWord_made] at *; exact hk)) (cwV 2 htg (xg_V0 xkin_M_writeWord xw_576 xw_291 xsel_M_writeWord xw_3) rfl rfl rfl (by decide +kernel) ⟨Nat.le_of_ble_eq_true rfl, Nat.le_of_ble_eq_true rfl⟩) ⟨xB_blind, va_recv hK hP rfl (q0 := 0) rfl, fun U hU hW => xB_mk hP hK hD hE hS (xsubW hD hA hS) hU hW⟩ rfl rfl hl.1 rfl (lv_room (Nat.le_of_ble_eq_true rfl)) xd_M_write_57 ⟨by show 0 + 2 * kk ≤ 2 * kk; omega, by show 0 + 1025 * kk ≤ 1025 * kk; omega⟩) hD hA hS (fun w1 H locs hw hP hD hS => ?_)
      obtain ⟨u1, gq6⟩ := w1
      obtain ⟨hw, hg⟩ := hw
      obtain ⟨q6, hq6⟩ : ∃ q, q = xf_M_writeWord n q5.2 p0 ((q5.1 &&& ((v3 <<< (((8 : Int32) * (p0 &&& (3 : Int32))) &&& 31)) ^^^ (-1 : Int32))) ||| ((p2 <<< (((8 : Int32) * (p0 &&& (3 : Int32))) &&& 31)) &&& (v3 <<< (((8 : Int32) * (p0 &&& (3 : Int32))) &&& 31)))) := ⟨_, rfl⟩
      rw [← hq6] at hw
      obtain rfl : q6 = u1 := hw.symm
      exact W.widen (by omega) (by omega) (hret (q6, gq6) H locs ls _ ⟨(by unfold xf_M_write; exact (xif h1 (xlt_e hv3 (xlt_e hq5 (xlt_e hq6 rfl))))), hg⟩ hP hD hS xd_M_write_60)
    refine lv_if_ne (tgt := 30) hx hb xd_M_write_21 rfl (fun h7 => ?_) (fun h7 => ?_)
    · refine lv_ldc (v := 65535) hx hb hown (htg _ xw_577) xd_M_write_30 ?_
      exact hj4 H locs ls (65535 : Int32) (xif h7 rfl) hl hP hD hS
    · refine lv_sipush (v := 255) hx hb xd_M_write_24 (by decide) ?_
      refine lv_goto (tgt := 32) hx hb xd_M_write_27 rfl ?_
      exact hj4 H locs ls (255 : Int32) (xit h7 rfl) hl hP hD hS
  · refine lv_aload_n hx hb xd_M_write_5 rfl (lv_at hl 0 rfl) ?_
    refine lv_iload_n hx hb xd_M_write_6 rfl (lv_at hl 1 rfl) ?_
    refine lv_iload_n hx hb xd_M_write_7 rfl (lv_at hl 3 rfl) ?_
    refine xcW_v (wf := fun q : XM1 × XG1 => xWM k h f n q.2 q.1.2.2) (va_runV (As := [.int p0, .int p2]) (rest := []) ⟨hx, hb, hml, hown, htg⟩ (c_M_writeWord l D z k H.size h f n hn g u hg p0 p2 kk (by simp only [xf_M_write, xlt, if_pos h1] at hk; exact hk)) (cwV 2 htg (xg_V0 xkin_M_writeWord xw_576 xw_291 xsel_M_writeWord xw_3) rfl rfl rfl (by decide +kernel) ⟨Nat.le_of_ble_eq_true rfl, Nat.le_of_ble_eq_true rfl⟩) ⟨xB_blind, va_recv hK hP rfl (q0 := 0) rfl, fun U hU hW => xB_mk hP hK hD hE hS (xsubW hD hA hS) hU hW⟩ rfl rfl hl.1 rfl (lv_room (Nat.le_of_ble_eq_true rfl)) xd_M_write_8 ⟨by show 0 + 2 * kk ≤ 2 * kk; omega, by show 0 + 1025 * kk ≤ 1025 * kk; omega⟩) hD hA hS (fun w1 H locs hw hP hD hS => ?_)
    obtain ⟨u1, gq8⟩ := w1
    obtain ⟨hw, hg⟩ := hw
    obtain ⟨q8, hq8⟩ : ∃ q, q = xf_M_writeWord n u p0 p2 := ⟨_, rfl⟩
    rw [← hq8] at hw
    obtain rfl : q8 = u1 := hw.symm
    exact W.widen (by omega) (by omega) (hret (q8, gq8) H locs ls _ ⟨(by unfold xf_M_write; exact (xit h1 (xlt_e hq8 rfl))), hg⟩ hP hD hS xd_M_write_11)

