
theorem xPset {D : va_G} {ws : va_W} {q a : Nat} {e0 e : va_E} {H : Heap} (hP : va_P D xCl ws H) (hq : ws[q]? = some (a, e0)) (he : va_at D xCl (a, e) H) : va_P D xCl (ws.set q (a, e)) H := by
  intro j x hj
  rw [List.getElem?_set] at hj
  split at hj
  · split at hj
    · cases hj; exact he
    · cases hj
  · exact hP j x hj

theorem xss_Z_memory (u : XZ) (f g : Nat → Int32) : xs_Z_memory (xs_Z_memory u f) g = xs_Z_memory u g := rfl
theorem xgs_Z_memory (u : XZ) (f : Nat → Int32) : xg_Z_memory (xs_Z_memory u f) = f := rfl
theorem xsg_Z_memory (u : XZ) : xs_Z_memory u (xg_Z_memory u) = u := rfl
theorem xZw_memory (k : ClassId × ClassId) (b : Nat → Nat) (u : XZ) (f g : Nat → Int32) : xWZ k b (xs_Z_memory u g) = (xWZ k b (xs_Z_memory u f)).set 1 (b 1, .inl (k.1, 65536, .inl g)) := rfl
theorem xZp_memory (k : ClassId × ClassId) (b : Nat → Nat) (u : XZ) (f : Nat → Int32) : (xWZ k b (xs_Z_memory u f))[1]? = some (b 1, .inl (k.1, 65536, .inl f)) := rfl
theorem xZc_memory {D : va_G} {k : ClassId × ClassId} {b : Nat → Nat} {u : XZ} {f g : Nat → Int32} {H : Heap} (hc : ∀ j, j < 65536 → f j = g j) (hP : va_P D xCl (xWZ k b (xs_Z_memory u f)) H) : va_P D xCl (xWZ k b (xs_Z_memory u g)) H := by
  rw [xZw_memory k b u f g]
  refine xPset hP (xZp_memory k b u f) ?_
  have h1 : H[b 1]? = some (vp_cell k.1 (65536, .inl f)) := hP 1 _ (xZp_memory k b u f)
  show H[b 1]? = some (vp_cell k.1 (65536, .inl g))
  rw [← xarr_congr hc]
  exact h1
theorem xZd_memory {A : Nat → Prop} {k : ClassId × ClassId} {b : Nat → Nat} {u : XZ} {f g : Nat → Int32} (hD : va_D A (xWZ k b (xs_Z_memory u f))) : va_D A (xWZ k b (xs_Z_memory u g)) := by
  rw [xZw_memory k b u f g]
  exact hD.set (xZp_memory k b u f)
theorem xss_Z_x (u : XZ) (f g : Nat → Int32) : xs_Z_x (xs_Z_x u f) g = xs_Z_x u g := rfl
theorem xgs_Z_x (u : XZ) (f : Nat → Int32) : xg_Z_x (xs_Z_x u f) = f := rfl
theorem xsg_Z_x (u : XZ) : xs_Z_x u (xg_Z_x u) = u := rfl
theorem xZw_x (k : ClassId × ClassId) (b : Nat → Nat) (u : XZ) (f g : Nat → Int32) : xWZ k b (xs_Z_x u g) = (xWZ k b (xs_Z_x u f)).set 2 (b 2, .inl (k.1, 32, .inl g)) := rfl
theorem xZp_x (k : ClassId × ClassId) (b : Nat → Nat) (u : XZ) (f : Nat → Int32) : (xWZ k b (xs_Z_x u f))[2]? = some (b 2, .inl (k.1, 32, .inl f)) := rfl
theorem xZc_x {D : va_G} {k : ClassId × ClassId} {b : Nat → Nat} {u : XZ} {f g : Nat → Int32} {H : Heap} (hc : ∀ j, j < 32 → f j = g j) (hP : va_P D xCl (xWZ k b (xs_Z_x u f)) H) : va_P D xCl (xWZ k b (xs_Z_x u g)) H := by
  rw [xZw_x k b u f g]
  refine xPset hP (xZp_x k b u f) ?_
  have h1 : H[b 2]? = some (vp_cell k.1 (32, .inl f)) := hP 2 _ (xZp_x k b u f)
  show H[b 2]? = some (vp_cell k.1 (32, .inl g))
  rw [← xarr_congr hc]
  exact h1
theorem xZd_x {A : Nat → Prop} {k : ClassId × ClassId} {b : Nat → Nat} {u : XZ} {f g : Nat → Int32} (hD : va_D A (xWZ k b (xs_Z_x u f))) : va_D A (xWZ k b (xs_Z_x u g)) := by
  rw [xZw_x k b u f g]
  exact hD.set (xZp_x k b u f)
theorem xss_Z_controls (u : XZ) (f g : Nat → Int32) : xs_Z_controls (xs_Z_controls u f) g = xs_Z_controls u g := rfl
theorem xgs_Z_controls (u : XZ) (f : Nat → Int32) : xg_Z_controls (xs_Z_controls u f) = f := rfl
theorem xsg_Z_controls (u : XZ) : xs_Z_controls u (xg_Z_controls u) = u := rfl
theorem xZw_controls (k : ClassId × ClassId) (b : Nat → Nat) (u : XZ) (f g : Nat → Int32) : xWZ k b (xs_Z_controls u g) = (xWZ k b (xs_Z_controls u f)).set 3 (b 3, .inl (k.1, 29, .inl g)) := rfl
theorem xZp_controls (k : ClassId × ClassId) (b : Nat → Nat) (u : XZ) (f : Nat → Int32) : (xWZ k b (xs_Z_controls u f))[3]? = some (b 3, .inl (k.1, 29, .inl f)) := rfl
theorem xZc_controls {D : va_G} {k : ClassId × ClassId} {b : Nat → Nat} {u : XZ} {f g : Nat → Int32} {H : Heap} (hc : ∀ j, j < 29 → f j = g j) (hP : va_P D xCl (xWZ k b (xs_Z_controls u f)) H) : va_P D xCl (xWZ k b (xs_Z_controls u g)) H := by
  rw [xZw_controls k b u f g]
  refine xPset hP (xZp_controls k b u f) ?_
  have h1 : H[b 3]? = some (vp_cell k.1 (29, .inl f)) := hP 3 _ (xZp_controls k b u f)
  show H[b 3]? = some (vp_cell k.1 (29, .inl g))
  rw [← xarr_congr hc]
  exact h1
theorem xZd_controls {A : Nat → Prop} {k : ClassId × ClassId} {b : Nat → Nat} {u : XZ} {f g : Nat → Int32} (hD : va_D A (xWZ k b (xs_Z_controls u f))) : va_D A (xWZ k b (xs_Z_controls u g)) := by
  rw [xZw_controls k b u f g]
  exact hD.set (xZp_controls k b u f)
theorem xss_Z_console (u : XZ) (f g : Nat → Int32) : xs_Z_console (xs_Z_console u f) g = xs_Z_console u g := rfl
theorem xgs_Z_console (u : XZ) (f : Nat → Int32) : xg_Z_console (xs_Z_console u f) = f := rfl
theorem xsg_Z_console (u : XZ) : xs_Z_console u (xg_Z_console u) = u := rfl
theorem xZw_console (k : ClassId × ClassId) (b : Nat → Nat) (u : XZ) (f g : Nat → Int32) : xWZ k b (xs_Z_console u g) = (xWZ k b (xs_Z_console u f)).set 4 (b 4, .inl (k.1, 4096, .inl g)) := rfl
theorem xZp_console (k : ClassId × ClassId) (b : Nat → Nat) (u : XZ) (f : Nat → Int32) : (xWZ k b (xs_Z_console u f))[4]? = some (b 4, .inl (k.1, 4096, .inl f)) := rfl
theorem xZc_console {D : va_G} {k : ClassId × ClassId} {b : Nat → Nat} {u : XZ} {f g : Nat → Int32} {H : Heap} (hc : ∀ j, j < 4096 → f j = g j) (hP : va_P D xCl (xWZ k b (xs_Z_console u f)) H) : va_P D xCl (xWZ k b (xs_Z_console u g)) H := by
  rw [xZw_console k b u f g]
  refine xPset hP (xZp_console k b u f) ?_
  have h1 : H[b 4]? = some (vp_cell k.1 (4096, .inl f)) := hP 4 _ (xZp_console k b u f)
  show H[b 4]? = some (vp_cell k.1 (4096, .inl g))
  rw [← xarr_congr hc]
  exact h1
theorem xZd_console {A : Nat → Prop} {k : ClassId × ClassId} {b : Nat → Nat} {u : XZ} {f g : Nat → Int32} (hD : va_D A (xWZ k b (xs_Z_console u f))) : va_D A (xWZ k b (xs_Z_console u g)) := by
  rw [xZw_console k b u f g]
  exact hD.set (xZp_console k b u f)

noncomputable def xf_Z_clearMachine (u : XZ) : XZ :=
  (xs_Z_interrupts (xs_Z_toVs (xs_Z_toS (xs_Z_printed (xs_Z_off (xs_Z_line (xs_Z_alarm (xs_Z_time (xs_Z_mode (xs_Z_pc (xs_Z_controls (xs_Z_x (xs_Z_memory u (fun _ => 0)) (fun _ => 0)) (fun _ => 0)) (0 : Int32)) (1 : Int32)) (0 : Int64)) (9223372036854775807 : Int64)) (xb (0 : Int32))) (xb (0 : Int32))) (0 : Int32)) (0 : Int32)) (0 : Int32)) (0 : Int32))
set_option maxHeartbeats 4000000 in
set_option maxRecDepth 100000 in
theorem c_Z_clearMachine (l : Launch) (D : va_G) (z : (Nat → Nat) × (Nat → Nat)) (k : ClassId × ClassId) (b : Nat → Nat) (sz : Nat) (u : XZ) : Met l xy_Z_clearMachine (xk_Z_clearMachine :: lw_g) { frames := 0, cells := 0, slots := 0, locals := 0 } (va_Pc [.ref ((b 0))] (xB D (xTy k) z sz (xWZ k b u))) (va_Qv (fun q : XZ => q = xf_Z_clearMachine u) (fun q t => xQ D (xTy k) (xWZ k b q) (va_A (xWZ k b u) sz) t) (va_A (xWZ k b u) sz)) 0 0 (va_A (xWZ k b u) sz) := by
  refine xopen_v (wf := fun q : XZ => xWZ k b q) (lv := [(0, .ref ((b 0)))]) (by decide) rfl (Nat.le_of_ble_eq_true rfl) ?_
  intro p e s m args below meth c Q ls A H locs hx hb hml htg hown hin hK hP hD hE hS hA hl hret
  have K63 : ∀ (H : Heap) (locs : List Loc) (ls : Array Slot), lv_has ls 2 [(0, .ref (b 0))] → va_P D xCl (xWZ k b (xs_Z_controls (xs_Z_x (xs_Z_memory u (fun _ => 0)) (fun _ => 0)) (fun _ => 0))) H → va_D A (xWZ k b (xs_Z_controls (xs_Z_x (xs_Z_memory u (fun _ => 0)) (fun _ => 0)) (fun _ => 0))) → va_S A s.heap H locs → W p l e { frames := 0, cells := 0, slots := 0, locals := 0 } s m args below meth c H locs 0 0 Q (F0 m 63 ls []) := by
    intro H locs ls hl hP hD hS
    refine lv_aload_n hx hb xd_Z_clearMachine_63 rfl (lv_at hl 0 rfl) ?_
    refine lv_iconst (v := 0) hx hb xd_Z_clearMachine_64 (by decide) ?_
    refine xput_Z_pc (v := (0 : Int32)) hx hb htg hown hK hP hD hS (htg _ xw_730) xd_Z_clearMachine_65 (fun H locs hP hD hS => ?_)
    refine lv_aload_n hx hb xd_Z_clearMachine_68 rfl (lv_at hl 0 rfl) ?_
    refine lv_iconst (v := 1) hx hb xd_Z_clearMachine_69 (by decide) ?_
    refine xput_Z_mode (v := (1 : Int32)) hx hb htg hown hK hP hD hS (htg _ xw_731) xd_Z_clearMachine_70 (fun H locs hP hD hS => ?_)
    refine lv_aload_n hx hb xd_Z_clearMachine_73 rfl (lv_at hl 0 rfl) ?_
    refine lv_lconst (v := 0) hx hb xd_Z_clearMachine_74 (by decide) ?_
    refine xput_Z_time (v := (0 : Int64)) hx hb htg hown hK hP hD hS (htg _ xw_732) xd_Z_clearMachine_75 (fun H locs hP hD hS => ?_)
    refine lv_aload_n hx hb xd_Z_clearMachine_78 rfl (lv_at hl 0 rfl) ?_
    refine lv_ldc2 (v := 9223372036854775807) hx hb hown (htg _ xw_727) xd_Z_clearMachine_79 ?_
    refine xput_Z_alarm (v := (9223372036854775807 : Int64)) hx hb htg hown hK hP hD hS (htg _ xw_733) xd_Z_clearMachine_82 (fun H locs hP hD hS => ?_)
    refine lv_aload_n hx hb xd_Z_clearMachine_85 rfl (lv_at hl 0 rfl) ?_
    refine lv_iconst (v := 0) hx hb xd_Z_clearMachine_86 (by decide) ?_
    refine xput_Z_line (v := (0 : Int32)) hx hb htg hown hK hP hD hS (htg _ xw_734) (Or.inl rfl) xd_Z_clearMachine_87 (fun H locs hP hD hS => ?_)
    refine lv_aload_n hx hb xd_Z_clearMachine_90 rfl (lv_at hl 0 rfl) ?_
    refine lv_iconst (v := 0) hx hb xd_Z_clearMachine_91 (by decide) ?_
    refine xput_Z_off (v := (0 : Int32)) hx hb htg hown hK hP hD hS (htg _ xw_735) (Or.inl rfl) xd_Z_clearMachine_92 (fun H locs hP hD hS => ?_)
    refine lv_aload_n hx hb xd_Z_clearMachine_95 rfl (lv_at hl 0 rfl) ?_
    refine lv_iconst (v := 0) hx hb xd_Z_clearMachine_96 (by decide) ?_
    refine xput_Z_printed (v := (0 : Int32)) hx hb htg hown hK hP hD hS (htg _ xw_738) xd_Z_clearMachine_97 (fun H locs hP hD hS => ?_)
    refine lv_aload_n hx hb xd_Z_clearMachine_100 rfl (lv_at hl 0 rfl) ?_
    refine lv_iconst (v := 0) hx hb xd_Z_clearMachine_101 (by decide) ?_
    refine xput_Z_toS (v := (0 : Int32)) hx hb htg hown hK hP hD hS (htg _ xw_739) xd_Z_clearMachine_102 (fun H locs hP hD hS => ?_)
    refine lv_aload_n hx hb xd_Z_clearMachine_105 rfl (lv_at hl 0 rfl) ?_
    refine lv_iconst (v := 0) hx hb xd_Z_clearMachine_106 (by decide) ?_
    refine xput_Z_toVs (v := (0 : Int32)) hx hb htg hown hK hP hD hS (htg _ xw_740) xd_Z_clearMachine_107 (fun H locs hP hD hS => ?_)
    refine lv_aload_n hx hb xd_Z_clearMachine_110 rfl (lv_at hl 0 rfl) ?_
    refine lv_iconst (v := 0) hx hb xd_Z_clearMachine_111 (by decide) ?_
    refine xput_Z_interrupts (v := (0 : Int32)) hx hb htg hown hK hP hD hS (htg _ xw_741) xd_Z_clearMachine_112 (fun H locs hP hD hS => ?_)
    exact hret (xs_Z_interrupts (xs_Z_toVs (xs_Z_toS (xs_Z_printed (xs_Z_off (xs_Z_line (xs_Z_alarm (xs_Z_time (xs_Z_mode (xs_Z_pc (xs_Z_controls (xs_Z_x (xs_Z_memory u (fun _ => 0)) (fun _ => 0)) (fun _ => 0)) (0 : Int32)) (1 : Int32)) (0 : Int64)) (9223372036854775807 : Int64)) (xb (0 : Int32))) (xb (0 : Int32))) (0 : Int32)) (0 : Int32)) (0 : Int32)) (0 : Int32)) H locs ls _ (by unfold xf_Z_clearMachine; exact rfl) hP hD hS xd_Z_clearMachine_115
  have K42 : ∀ (H : Heap) (locs : List Loc) (ls : Array Slot), lv_has ls 2 [(0, .ref (b 0))] → va_P D xCl (xWZ k b (xs_Z_x (xs_Z_memory u (fun _ => 0)) (fun _ => 0))) H → va_D A (xWZ k b (xs_Z_x (xs_Z_memory u (fun _ => 0)) (fun _ => 0))) → va_S A s.heap H locs → W p l e { frames := 0, cells := 0, slots := 0, locals := 0 } s m args below meth c H locs 0 0 Q (F0 m 42 ls []) := by
    intro H locs ls hl hP hD hS
    refine lv_iconst (v := 0) hx hb xd_Z_clearMachine_42 (by decide) ?_
    refine lv_istore_n (lv' := [(1, .int 0), (0, .ref (b 0))]) hx hb xd_Z_clearMachine_43 rfl hl (by decide) rfl (fun ls hl => ?_)
    have loop : ∀ (d i : Nat) (f : Nat → Int32) (H : Heap) (locs : List Loc) (ls : Array Slot), i + d = 29 → (∀ j, j < i → f j = 0) → lv_has ls 2 [(1, .int (nI i)), (0, .ref (b 0))] → va_P D xCl (xWZ k b (xs_Z_controls (xs_Z_x (xs_Z_memory u (fun _ => 0)) (fun _ => 0)) f)) H → va_D A (xWZ k b (xs_Z_controls (xs_Z_x (xs_Z_memory u (fun _ => 0)) (fun _ => 0)) f)) → va_S A s.heap H locs → W p l e { frames := 0, cells := 0, slots := 0, locals := 0 } s m args below meth c H locs 0 0 Q (F0 m 44 ls []) := by
      intro d
      induction d with
      | zero =>
        intro i f H locs ls hid hf hl hP hD hS
        obtain rfl : i = 29 := by omega
        refine lv_iload_n hx hb xd_Z_clearMachine_44 rfl (lv_at hl 0 rfl) ?_
        refine lv_bipush (v := 29) hx hb xd_Z_clearMachine_45 (by decide) ?_
        refine lv_icmp_ge (tgt := 63) hx hb xd_Z_clearMachine_47 rfl (fun _ => ?_) (fun h9 => absurd (show (29 : Int32) ≤ nI 29 from by decide) h9)
        exact K63 H locs ls (lv_sub hl [1] rfl) (xZc_controls (fun j hj => hf j hj) hP) (xZd_controls hD) hS
      | succ d ih =>
        intro i f H locs ls hid hf hl hP hD hS
        have hi : i < 29 := by omega
        refine lv_iload_n hx hb xd_Z_clearMachine_44 rfl (lv_at hl 0 rfl) ?_
        refine lv_bipush (v := 29) hx hb xd_Z_clearMachine_45 (by decide) ?_
        refine lv_icmp_ge (tgt := 63) hx hb xd_Z_clearMachine_47 rfl (fun h9 => absurd (show nI 29 ≤ nI i from h9) (nI_ge hi (by decide))) (fun _ => ?_)
        refine lv_aload_n hx hb xd_Z_clearMachine_50 rfl (lv_at hl 1 rfl) ?_
        refine xget_Z_controls hx hb htg hown hK hP (htg _ xw_736) xd_Z_clearMachine_51 ?_
        refine lv_iload_n hx hb xd_Z_clearMachine_54 rfl (lv_at hl 0 rfl) ?_
        refine lv_iconst (v := 0) hx hb xd_Z_clearMachine_55 (by decide) ?_
        refine xast_Z_controls hx hb hK hP hD hS (vp_in_nI hi (by decide)) xd_Z_clearMachine_56 (fun H locs hP hD hS => ?_)
        rw [xss_Z_controls, xgs_Z_controls] at hP hD
        refine lv_iinc (k := 0) (v := nI (i + 1)) (lv' := [(1, .int (nI (i + 1))), (0, .ref (b 0))]) hx hb xd_Z_clearMachine_57 hl rfl (by rw [← nI_1]; rfl) (by decide) rfl (fun ls hl => ?_)
        refine lv_goto (tgt := 44) hx hb xd_Z_clearMachine_60 rfl ?_
        refine ih (i + 1) (upd f (nI i).toNatClampNeg 0) H locs ls (by omega) (fun j hj => ?_) hl hP hD hS
        rw [nI_clamp (by omega)]
        by_cases e9 : j = i
        · subst e9; exact pk_us
        · rw [pk_un e9]; exact hf j (by omega)
    exact loop 29 0 (xg_Z_controls (xs_Z_x (xs_Z_memory u (fun _ => 0)) (fun _ => 0))) H locs ls (by omega) (fun j hj => absurd hj (Nat.not_lt_zero _)) (by rw [nI_0]; exact hl) (by rw [xsg_Z_controls]; exact hP) (by rw [xsg_Z_controls]; exact hD) hS
  have K21 : ∀ (H : Heap) (locs : List Loc) (ls : Array Slot), lv_has ls 2 [(0, .ref (b 0))] → va_P D xCl (xWZ k b (xs_Z_memory u (fun _ => 0))) H → va_D A (xWZ k b (xs_Z_memory u (fun _ => 0))) → va_S A s.heap H locs → W p l e { frames := 0, cells := 0, slots := 0, locals := 0 } s m args below meth c H locs 0 0 Q (F0 m 21 ls []) := by
    intro H locs ls hl hP hD hS
    refine lv_iconst (v := 0) hx hb xd_Z_clearMachine_21 (by decide) ?_
    refine lv_istore_n (lv' := [(1, .int 0), (0, .ref (b 0))]) hx hb xd_Z_clearMachine_22 rfl hl (by decide) rfl (fun ls hl => ?_)
    have loop : ∀ (d i : Nat) (f : Nat → Int32) (H : Heap) (locs : List Loc) (ls : Array Slot), i + d = 32 → (∀ j, j < i → f j = 0) → lv_has ls 2 [(1, .int (nI i)), (0, .ref (b 0))] → va_P D xCl (xWZ k b (xs_Z_x (xs_Z_memory u (fun _ => 0)) f)) H → va_D A (xWZ k b (xs_Z_x (xs_Z_memory u (fun _ => 0)) f)) → va_S A s.heap H locs → W p l e { frames := 0, cells := 0, slots := 0, locals := 0 } s m args below meth c H locs 0 0 Q (F0 m 23 ls []) := by
      intro d
      induction d with
      | zero =>
        intro i f H locs ls hid hf hl hP hD hS
        obtain rfl : i = 32 := by omega
        refine lv_iload_n hx hb xd_Z_clearMachine_23 rfl (lv_at hl 0 rfl) ?_
        refine lv_bipush (v := 32) hx hb xd_Z_clearMachine_24 (by decide) ?_
        refine lv_icmp_ge (tgt := 42) hx hb xd_Z_clearMachine_26 rfl (fun _ => ?_) (fun h9 => absurd (show (32 : Int32) ≤ nI 32 from by decide) h9)
        exact K42 H locs ls (lv_sub hl [1] rfl) (xZc_x (fun j hj => hf j hj) hP) (xZd_x hD) hS
      | succ d ih =>
        intro i f H locs ls hid hf hl hP hD hS
        have hi : i < 32 := by omega
        refine lv_iload_n hx hb xd_Z_clearMachine_23 rfl (lv_at hl 0 rfl) ?_
        refine lv_bipush (v := 32) hx hb xd_Z_clearMachine_24 (by decide) ?_
        refine lv_icmp_ge (tgt := 42) hx hb xd_Z_clearMachine_26 rfl (fun h9 => absurd (show nI 32 ≤ nI i from h9) (nI_ge hi (by decide))) (fun _ => ?_)
        refine lv_aload_n hx hb xd_Z_clearMachine_29 rfl (lv_at hl 1 rfl) ?_
        refine xget_Z_x hx hb htg hown hK hP (htg _ xw_729) xd_Z_clearMachine_30 ?_
        refine lv_iload_n hx hb xd_Z_clearMachine_33 rfl (lv_at hl 0 rfl) ?_
        refine lv_iconst (v := 0) hx hb xd_Z_clearMachine_34 (by decide) ?_
        refine xast_Z_x hx hb hK hP hD hS (vp_in_nI hi (by decide)) xd_Z_clearMachine_35 (fun H locs hP hD hS => ?_)
        rw [xss_Z_x, xgs_Z_x] at hP hD
        refine lv_iinc (k := 0) (v := nI (i + 1)) (lv' := [(1, .int (nI (i + 1))), (0, .ref (b 0))]) hx hb xd_Z_clearMachine_36 hl rfl (by rw [← nI_1]; rfl) (by decide) rfl (fun ls hl => ?_)
        refine lv_goto (tgt := 23) hx hb xd_Z_clearMachine_39 rfl ?_
        refine ih (i + 1) (upd f (nI i).toNatClampNeg 0) H locs ls (by omega) (fun j hj => ?_) hl hP hD hS
        rw [nI_clamp (by omega)]
        by_cases e9 : j = i
        · subst e9; exact pk_us
        · rw [pk_un e9]; exact hf j (by omega)
    exact loop 32 0 (xg_Z_x (xs_Z_memory u (fun _ => 0))) H locs ls (by omega) (fun j hj => absurd hj (Nat.not_lt_zero _)) (by rw [nI_0]; exact hl) (by rw [xsg_Z_x]; exact hP) (by rw [xsg_Z_x]; exact hD) hS
  have K0 : ∀ (H : Heap) (locs : List Loc) (ls : Array Slot), lv_has ls 2 [(0, .ref (b 0))] → va_P D xCl (xWZ k b u) H → va_D A (xWZ k b u) → va_S A s.heap H locs → W p l e { frames := 0, cells := 0, slots := 0, locals := 0 } s m args below meth c H locs 0 0 Q (F0 m 0 ls []) := by
    intro H locs ls hl hP hD hS
    refine lv_iconst (v := 0) hx hb xd_Z_clearMachine_0 (by decide) ?_
    refine lv_istore_n (lv' := [(1, .int 0), (0, .ref (b 0))]) hx hb xd_Z_clearMachine_1 rfl hl (by decide) rfl (fun ls hl => ?_)
    have loop : ∀ (d i : Nat) (f : Nat → Int32) (H : Heap) (locs : List Loc) (ls : Array Slot), i + d = 65536 → (∀ j, j < i → f j = 0) → lv_has ls 2 [(1, .int (nI i)), (0, .ref (b 0))] → va_P D xCl (xWZ k b (xs_Z_memory u f)) H → va_D A (xWZ k b (xs_Z_memory u f)) → va_S A s.heap H locs → W p l e { frames := 0, cells := 0, slots := 0, locals := 0 } s m args below meth c H locs 0 0 Q (F0 m 2 ls []) := by
      intro d
      induction d with
      | zero =>
        intro i f H locs ls hid hf hl hP hD hS
        obtain rfl : i = 65536 := by omega
        refine lv_iload_n hx hb xd_Z_clearMachine_2 rfl (lv_at hl 0 rfl) ?_
        refine lv_ldc (v := 65536) hx hb hown (htg _ xw_722) xd_Z_clearMachine_3 ?_
        refine lv_icmp_ge (tgt := 21) hx hb xd_Z_clearMachine_5 rfl (fun _ => ?_) (fun h9 => absurd (show (65536 : Int32) ≤ nI 65536 from by decide) h9)
        exact K21 H locs ls (lv_sub hl [1] rfl) (xZc_memory (fun j hj => hf j hj) hP) (xZd_memory hD) hS
      | succ d ih =>
        intro i f H locs ls hid hf hl hP hD hS
        have hi : i < 65536 := by omega
        refine lv_iload_n hx hb xd_Z_clearMachine_2 rfl (lv_at hl 0 rfl) ?_
        refine lv_ldc (v := 65536) hx hb hown (htg _ xw_722) xd_Z_clearMachine_3 ?_
        refine lv_icmp_ge (tgt := 21) hx hb xd_Z_clearMachine_5 rfl (fun h9 => absurd (show nI 65536 ≤ nI i from h9) (nI_ge hi (by decide))) (fun _ => ?_)
        refine lv_aload_n hx hb xd_Z_clearMachine_8 rfl (lv_at hl 1 rfl) ?_
        refine xget_Z_memory hx hb htg hown hK hP (htg _ xw_728) xd_Z_clearMachine_9 ?_
        refine lv_iload_n hx hb xd_Z_clearMachine_12 rfl (lv_at hl 0 rfl) ?_
        refine lv_iconst (v := 0) hx hb xd_Z_clearMachine_13 (by decide) ?_
        refine xast_Z_memory hx hb hK hP hD hS (vp_in_nI hi (by decide)) xd_Z_clearMachine_14 (fun H locs hP hD hS => ?_)
        rw [xss_Z_memory, xgs_Z_memory] at hP hD
        refine lv_iinc (k := 0) (v := nI (i + 1)) (lv' := [(1, .int (nI (i + 1))), (0, .ref (b 0))]) hx hb xd_Z_clearMachine_15 hl rfl (by rw [← nI_1]; rfl) (by decide) rfl (fun ls hl => ?_)
        refine lv_goto (tgt := 2) hx hb xd_Z_clearMachine_18 rfl ?_
        refine ih (i + 1) (upd f (nI i).toNatClampNeg 0) H locs ls (by omega) (fun j hj => ?_) hl hP hD hS
        rw [nI_clamp (by omega)]
        by_cases e9 : j = i
        · subst e9; exact pk_us
        · rw [pk_un e9]; exact hf j (by omega)
    exact loop 65536 0 (xg_Z_memory u) H locs ls (by omega) (fun j hj => absurd hj (Nat.not_lt_zero _)) (by rw [nI_0]; exact hl) (by rw [xsg_Z_memory]; exact hP) (by rw [xsg_Z_memory]; exact hD) hS
  exact K0 H locs ls hl hP hD hS
noncomputable def xf_Z_begin (u : XZ) : XZ :=
  xlt (xf_Z_clearMachine u : XZ) fun q1 =>
  q1
set_option maxHeartbeats 4000000 in
set_option maxRecDepth 100000 in
theorem c_Z_begin (l : Launch) (D : va_G) (z : (Nat → Nat) × (Nat → Nat)) (k : ClassId × ClassId) (b : Nat → Nat) (sz : Nat) (u : XZ) : Met l xy_Z_begin (xk_Z_begin :: lw_g) { frames := 1, cells := 0, slots := 0, locals := 21 } (va_Pc [.ref ((b 0))] (xB D (xTy k) z sz (xWZ k b u))) (va_Qv (fun q : XZ => q = xf_Z_begin u) (fun q t => xQ D (xTy k) (xWZ k b q) (va_A (xWZ k b u) sz) t) (va_A (xWZ k b u) sz)) 0 0 (va_A (xWZ k b u) sz) := by
  refine xopen_v (wf := fun q : XZ => xWZ k b q) (lv := [(0, .ref ((b 0)))]) (by decide) rfl (Nat.le_of_ble_eq_true rfl) ?_
  intro p e s m args below meth c Q ls A H locs hx hb hml htg hown hin hK hP hD hE hS hA hl hret
  refine lv_aload_n hx hb xd_Z_begin_0 rfl (lv_at hl 0 rfl) ?_
  refine xcW_v (va_runV (As := []) (rest := []) ⟨hx, hb, hml, hown, htg⟩ (c_Z_clearMachine l D z k b H.size u) (cwV 0 htg (xg_V0 xkin_Z_clearMachine xw_723 xw_725 xsel_Z_clearMachine xw_9) rfl rfl rfl (by decide +kernel) ⟨Nat.le_of_ble_eq_true rfl, Nat.le_of_ble_eq_true rfl⟩) ⟨xB_blind, xrecv_Z hK hP, fun U hU hW => xB_mk hP hK hD hE hS (xsubW hD hA hS) hU hW⟩ rfl rfl hl.1 rfl (lv_room (Nat.le_of_ble_eq_true rfl)) xd_Z_begin_1 ⟨Nat.le_of_ble_eq_true rfl, Nat.le_of_ble_eq_true rfl⟩) hD hA hS (fun u1 H locs hw hP hD hS => ?_)
  obtain ⟨q1, hq1⟩ : ∃ q, q = xf_Z_clearMachine u := ⟨_, rfl⟩
  rw [← hq1] at hw
  obtain rfl : q1 = u1 := hw.symm
  have hP : va_P D xCl (xWZ k b q1) H := hP
  have hD : va_D A (xWZ k b q1) := hD
  exact hret q1 H locs ls _ (by unfold xf_Z_begin; exact (xlt_e hq1 rfl)) hP hD hS xd_Z_begin_4


