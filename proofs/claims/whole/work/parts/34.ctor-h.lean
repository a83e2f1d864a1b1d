theorem xdef_C : ∀ j, j < 15 → defaultValue (xT_C j) = vp_V [.null, .null, .null, .null, .null, .null, .int 0, .int 0, .int 0, .int 0, .int 0, .int 0, .int 0, .int 0, .int 0] j := by
  intro j hj
  have h9 : j = 0 ∨ j = 1 ∨ j = 2 ∨ j = 3 ∨ j = 4 ∨ j = 5 ∨ j = 6 ∨ j = 7 ∨ j = 8 ∨ j = 9 ∨ j = 10 ∨ j = 11 ∨ j = 12 ∨ j = 13 ∨ j = 14 := by omega
  rcases h9 with rfl | rfl | rfl | rfl | rfl | rfl | rfl | rfl | rfl | rfl | rfl | rfl | rfl | rfl | rfl <;> rfl

def xH0 : XH := ((0, 0, 0, false, 0, 0, 0, 0, 0), (fun _ => 0), (0, 0, 0, 0, 0, 0, 0, 0, 0, 0, false), (0, 0, 0, 0, 0, 0, 0, 0, 0), (0, 0, 0, 0, 0, 0, 0, 0, 0), (0, 0, 0, 0, false, false), ((fun _ _ => 0, fun _ => false, 0), (fun _ _ => 0, fun _ => false, 0)))
def xG0 : XG := ((fun _ => none, [], fun _ => .inr (0, [])), (fun _ => none, [], fun _ => .inr (0, [])))
theorem xok0 (k : ClassId × ClassId) : xok k xG0 xH0 := ⟨⟨fun _ => 0, fun _ _ => Or.inl ⟨rfl, rfl, rfl⟩, fun _ _ _ _ h _ _ => (by cases h)⟩, ⟨fun _ => 0, fun _ _ => Or.inl ⟨rfl, rfl, rfl⟩, fun _ _ _ _ h _ _ => (by cases h)⟩⟩
def xadrH (w : Nat × Nat × Nat × Nat × Nat × Nat × Nat × Nat × Nat × Nat × Nat × Nat) : Nat → Nat := fun i => match i with
  | 0 => w.1
  | 1 => w.2.1
  | 2 => w.2.2.1
  | 3 => w.2.2.2.1
  | 4 => w.2.2.2.2.1
  | 5 => w.2.2.2.2.2.1
  | 6 => w.2.2.2.2.2.2.1
  | 7 => w.2.2.2.2.2.2.2.1
  | 8 => w.2.2.2.2.2.2.2.2.1
  | 9 => w.2.2.2.2.2.2.2.2.2.1
  | 10 => w.2.2.2.2.2.2.2.2.2.2.1
  | _ => w.2.2.2.2.2.2.2.2.2.2.2
set_option maxHeartbeats 4000000 in
set_option maxRecDepth 100000 in
theorem c_H_init (l : Launch) (D : va_G) (z : (Nat → Nat) × (Nat → Nat)) (k : ClassId × ClassId) (sz q : Nat) : Met l xy_H_init (xk_H_init :: lw_g) { frames := 5, cells := 11, slots := 156, locals := 100 } (va_Pc [.ref q] (xB D (xTy k) z sz [(q, .inr (0, [.null]))])) (va_Qv (fun w : (Nat × Nat × Nat × Nat × Nat × Nat × Nat × Nat × Nat × Nat × Nat × Nat) × XH × XG => w.1.1 = q ∧ w.2.1 = xf_C_reset xH0 ∧ xok k w.2.2 w.2.1) (fun w t => xQ D (xTy k) ((fun w : (Nat × Nat × Nat × Nat × Nat × Nat × Nat × Nat × Nat × Nat × Nat × Nat) × XH × XG => xWH k (xadrH w.1) w.2.2 w.2.1) w) (va_A [(q, .inr (0, [.null]))] sz) t) (va_A [(q, .inr (0, [.null]))] sz)) 11 156 (va_A [(q, .inr (0, [.null]))] sz) := by
  refine xopen_v (wf := (fun w : (Nat × Nat × Nat × Nat × Nat × Nat × Nat × Nat × Nat × Nat × Nat × Nat) × XH × XG => xWH k (xadrH w.1) w.2.2 w.2.1)) (lv := [(0, .ref q)]) (by decide) rfl (Nat.le_of_ble_eq_true rfl) ?_
  intro p e s m args below meth c Q ls A H locs hx hb hml htg hown hin hK hP hD hE hS hA hl hret
  refine lv_aload_n hx hb xd_H_init_0 rfl (lv_at hl 0 rfl) ?_
  refine W.objInit hx hb hown (htg _ xw_20) (htg _ xw_21) (htg _ xkin_O_init) rfl (by rw [hml]; exact hl.1) rfl xd_H_init_1 (Nat.le_of_ble_eq_true rfl) (Nat.le_of_ble_eq_true rfl) ?_
  refine lv_aload_n hx hb xd_H_init_4 rfl (lv_at hl 0 rfl) ?_
  refine va_new (ci := 4) (fs := [.null, .null, .null, .null, .null, .null, .int 0, .int 0, .int 0, .int 0, .int 0, .int 0, .int 0, .int 0, .int 0]) hx hb htg xin_C xT_C xO_C hown (htg _ xw_23) (htg _ xw_24) (htg _ xw_2) hK hP hD hS hA rfl xdef_C (Nat.le_of_ble_eq_true rfl) (Nat.le_of_ble_eq_true rfl) xd_H_init_5 (fun cc H hP hD hS => ?_)
  refine lv_dup hx hb xd_H_init_8 rfl ?_
  refine xcS_v (wf := (fun w : Nat × Nat × Nat × Nat × Nat × Nat × Nat × Nat × Nat × Nat => [(cc, .inr (4, [.ref w.1, .ref w.2.1, .ref w.2.2.2.1, .ref w.2.2.2.2.1, .ref w.2.2.2.2.2.2.1, .ref w.2.2.2.2.2.2.2.2.2, .int 0, .int 0, .int 0, .int 0, .int 0, .int 0, .int 0, .int 0, .int 0])), (w.1, .inl (k.1, 32, .inl (fun _ => 0))), (w.2.1, .inr (6, [.ref w.2.2.1, .int 0])), (w.2.2.1, (.inl (k.2, 1, .inr (.inr (.inr (.inr (fun _ => none))))))), (w.2.2.2.1, .inr (7, [.ref w.2.2.2.2.1, .ref w.2.2.2.2.2.2.1, .ref w.2.2.2.2.2.2.2.2.2])), (w.2.2.2.2.1, .inr (6, [.ref w.2.2.2.2.2.1, .int 0])), (w.2.2.2.2.2.1, (.inl (k.2, 64, .inr (.inr (.inr (.inr (fun _ => none))))))), (w.2.2.2.2.2.2.1, .inr (3, [.ref w.2.2.2.2.2.2.2.1, .ref w.2.2.2.2.2.2.2.2.1, .int 0, .int 0, .int 0, .int 0, .int 0, .int 0, .int 0, .int 0, .long 0, .long 0, .int 0])), (w.2.2.2.2.2.2.2.1, .inr (2, [.int 0, .int 0, .int 0, .int 0, .int 0, .int 0, .int 0, .int 0, .int 0])), (w.2.2.2.2.2.2.2.2.1, .inr (2, [.int 0, .int 0, .int 0, .int 0, .int 0, .int 0, .int 0, .int 0, .int 0])), (w.2.2.2.2.2.2.2.2.2, .inr (8, [.int 0, .int 0, .int 0, .int 0, .int 0, .int 0]))])) (X := [(q, .inr (0, [.null]))]) (Y := []) (va_runI (As := []) (rest := [.ref cc, .ref q]) ⟨hx, hb, hml, hown, htg⟩ (c_C_init l D z k H.size cc) (cwI 0 htg (xg_C0 xkin_C_init) rfl rfl rfl (htg _ xw_2) (htg _ xw_25) (htg _ xw_26) rfl (by decide +kernel) ⟨Nat.le_of_ble_eq_true rfl, Nat.le_of_ble_eq_true rfl⟩) ⟨xB_blind, fun U hU hW => xB_mk (xPs (X := [(q, .inr (0, [.null]))]) (Y := []) hP) hK (xDs (X := [(q, .inr (0, [.null]))]) (Y := []) hD) hE hS (xsubS (X := [(q, .inr (0, [.null]))]) (Y := []) hD hA hS) hU hW⟩ rfl rfl hl.1 rfl (lv_room (Nat.le_of_ble_eq_true rfl)) xd_H_init_9 ⟨Nat.le_of_ble_eq_true rfl, Nat.le_of_ble_eq_true rfl⟩) hP hD hA hS (fun w2 H locs _ hP hD hS => ?_)
  obtain ⟨xx, cm, cf, tt, mm, f, kc, s1, s2, pp⟩ := w2
  have hP : va_P D xCl [(q, .inr (0, [.null])), (cc, .inr (4, [.ref xx, .ref cm, .ref tt, .ref mm, .ref kc, .ref pp, .int 0, .int 0, .int 0, .int 0, .int 0, .int 0, .int 0, .int 0, .int 0])), (xx, .inl (k.1, 32, .inl (fun _ => 0))), (cm, .inr (6, [.ref cf, .int 0])), (cf, (.inl (k.2, 1, .inr (.inr (.inr (.inr (fun _ => none))))))), (tt, .inr (7, [.ref mm, .ref kc, .ref pp])), (mm, .inr (6, [.ref f, .int 0])), (f, (.inl (k.2, 64, .inr (.inr (.inr (.inr (fun _ => none))))))), (kc, .inr (3, [.ref s1, .ref s2, .int 0, .int 0, .int 0, .int 0, .int 0, .int 0, .int 0, .int 0, .long 0, .long 0, .int 0])), (s1, .inr (2, [.int 0, .int 0, .int 0, .int 0, .int 0, .int 0, .int 0, .int 0, .int 0])), (s2, .inr (2, [.int 0, .int 0, .int 0, .int 0, .int 0, .int 0, .int 0, .int 0, .int 0])), (pp, .inr (8, [.int 0, .int 0, .int 0, .int 0, .int 0, .int 0]))] H := hP
  have hD : va_D A [(q, .inr (0, [.null])), (cc, .inr (4, [.ref xx, .ref cm, .ref tt, .ref mm, .ref kc, .ref pp, .int 0, .int 0, .int 0, .int 0, .int 0, .int 0, .int 0, .int 0, .int 0])), (xx, .inl (k.1, 32, .inl (fun _ => 0))), (cm, .inr (6, [.ref cf, .int 0])), (cf, (.inl (k.2, 1, .inr (.inr (.inr (.inr (fun _ => none))))))), (tt, .inr (7, [.ref mm, .ref kc, .ref pp])), (mm, .inr (6, [.ref f, .int 0])), (f, (.inl (k.2, 64, .inr (.inr (.inr (.inr (fun _ => none))))))), (kc, .inr (3, [.ref s1, .ref s2, .int 0, .int 0, .int 0, .int 0, .int 0, .int 0, .int 0, .int 0, .long 0, .long 0, .int 0])), (s1, .inr (2, [.int 0, .int 0, .int 0, .int 0, .int 0, .int 0, .int 0, .int 0, .int 0])), (s2, .inr (2, [.int 0, .int 0, .int 0, .int 0, .int 0, .int 0, .int 0, .int 0, .int 0])), (pp, .inr (8, [.int 0, .int 0, .int 0, .int 0, .int 0, .int 0]))] := hD
  refine va_putF (D := D) (ci := 0) (v := .ref cc) (ty := .object "HyperHost$Core") (C := xR_H) (T := xF_H) (N := 1) hx hb htg xin_H xT_H xO_H xN_H hown hK hP hD hS 0 rfl rfl 0 (by decide) (htg _ xw_277) (fun _ h9 => h9) rfl hin rfl (by decide +kernel) rfl rfl (Nat.le_of_ble_eq_true rfl) xd_H_init_12 (fun H locs hP hD hS => ?_)
  have hP : va_P D xCl (xWH k (xadrH (q, cc, xx, tt, kc, s1, s2, pp, mm, cm, f, cf)) xG0 xH0) H := hP.sub [0, 1, 2, 5, 8, 9, 10, 11, 6, 7, 3, 4] rfl
  have hD : va_D A (xWH k (xadrH (q, cc, xx, tt, kc, s1, s2, pp, mm, cm, f, cf)) xG0 xH0) := hD.sub [0, 1, 2, 5, 8, 9, 10, 11, 6, 7, 3, 4] (by decide) rfl
  have hg := xok0 k
  refine lv_aload_n hx hb xd_H_init_15 rfl (lv_at hl 0 rfl) ?_
  refine xget_H_core (a := (xadrH (q, cc, xx, tt, kc, s1, s2, pp, mm, cm, f, cf))) hx hb htg hown hK hP (htg _ xw_277) xd_H_init_16 ?_
  refine xcW_v (wf := fun w : XH × XG => xWH k (xadrH (q, cc, xx, tt, kc, s1, s2, pp, mm, cm, f, cf)) w.2 w.1) (va_runV (As := []) (rest := []) ⟨hx, hb, hml, hown, htg⟩ (c_C_reset l D z k (xadrH (q, cc, xx, tt, kc, s1, s2, pp, mm, cm, f, cf)) xG0 H.size xH0 hg) (cwV 0 htg (xg_V0 xkin_C_reset xw_256 xw_257 xsel_C_reset xw_2) rfl rfl rfl (by decide +kernel) ⟨Nat.le_of_ble_eq_true rfl, Nat.le_of_ble_eq_true rfl⟩) ⟨xB_blind, xrecv_C hK hP, fun U hU hW => xB_mk hP hK hD hE hS (xsubW hD hA hS) hU hW⟩ rfl rfl hl.1 rfl (lv_room (Nat.le_of_ble_eq_true rfl)) xd_H_init_19 ⟨Nat.le_of_ble_eq_true rfl, Nat.le_of_ble_eq_true rfl⟩) hD hA hS (fun w1 H locs hw hP hD hS => ?_)
  exact W.widen (Nat.le_of_ble_eq_true rfl) (Nat.le_of_ble_eq_true rfl) (hret ((q, cc, xx, tt, kc, s1, s2, pp, mm, cm, f, cf), w1) H locs ls _ ⟨rfl, hw.1, hw.2⟩ hP hD hS xd_H_init_22)

