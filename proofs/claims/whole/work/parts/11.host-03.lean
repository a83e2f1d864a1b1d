noncomputable def xf_H_register (u : XH) (p0 : Int32) : Int32 :=
  xlt (if p0 < 0 then (0) else (if p0 < 32 then (((xg_x u) p0.toNatClampNeg)) else (0)) : Int32) fun v1 =>
  v1
set_option maxHeartbeats 4000000 in
set_option maxRecDepth 100000 in
theorem c_H_register (l : Launch) (D : va_G) (z : (Nat → Nat) × (Nat → Nat)) (k : ClassId × ClassId) (a : Nat → Nat) (g : XG) (sz : Nat) (u : XH) (hg : xok k g u) (p0 : Int32) : Met l xy_H_register (xk_H_register :: lw_g) { frames := 0, cells := 0, slots := 0, locals := 0 } (va_Pc [.ref ((a 0)), .int p0] (xB D (xTy k) z sz (xWH k a g u))) (va_Qi (fun r (q : XH × XG) => r = xf_H_register u p0 ∧ q.1 = u ∧ xok k q.2 q.1) (fun q t => xQ D (xTy k) (xWH k a q.2 q.1) (va_A (xWH k a g u) sz) t) (va_A (xWH k a g u) sz)) 0 0 (va_A (xWH k a g u) sz) := by
  refine xopen_i (wf := fun q : XH × XG => xWH k a q.2 q.1) (lv := [(0, .ref ((a 0))), (1, .int p0)]) (by decide) rfl (Nat.le_of_ble_eq_true rfl) ?_
  intro p e s m args below meth c Q ls A H locs hx hb hml htg hown hin hK hP hD hE hS hA hl hret
  refine lv_iload_n hx hb xd_H_register_0 rfl (lv_at hl 1 rfl) ?_
  have hj2 : ∀ (H : Heap) (locs : List Loc) (ls : Array Slot) (g : XG) (v1 : Int32), v1 = (if p0 < 0 then (0) else (if p0 < 32 then (((xg_x u) p0.toNatClampNeg)) else (0))) → xok k g u → lv_has ls 2 [(0, .ref ((a 0))), (1, .int p0)] → va_P D xCl (xWH k a g u) H → va_D A (xWH k a g u) → va_S A s.heap H locs → W p l e { frames := 0, cells := 0, slots := 0, locals := 0 } s m args below meth c H locs (0) (0) Q (F0 m 23 ls [.int v1]) := by
    intro H locs ls g v1 hv1 hg hl hP hD hS
    exact hret _ (u, g) H locs ls _ ⟨(by unfold xf_H_register; exact (xlt_e hv1 rfl)), rfl, hg⟩ hP hD hS xd_H_register_23
  refine lv_if_lt (tgt := 10) hx hb xd_H_register_1 rfl (fun h3 => ?_) (fun h3 => ?_)
  · refine lv_iconst (v := 0) hx hb xd_H_register_10 (by decide) ?_
    refine lv_goto (tgt := 23) hx hb xd_H_register_11 rfl ?_
    exact hj2 H locs ls g (0 : Int32) (xit h3 rfl) hg hl hP hD hS
  · refine lv_iload_n hx hb xd_H_register_4 rfl (lv_at hl 1 rfl) ?_
    refine lv_bipush (v := 32) hx hb xd_H_register_5 (by decide) ?_
    refine lv_icmp_lt (tgt := 14) hx hb xd_H_register_7 rfl (fun h4 => ?_) (fun h4 => ?_)
    · refine lv_aload_n hx hb xd_H_register_14 rfl (lv_at hl 0 rfl) ?_
      refine xget_H_core hx hb htg hown hK hP (htg _ xw_277) xd_H_register_15 ?_
      refine xget_C_x hx hb htg hown hK hP (htg _ xw_200) xd_H_register_18 ?_
      refine lv_iload_n hx hb xd_H_register_21 rfl (lv_at hl 1 rfl) ?_
      refine xald_x (f := (xg_x u)) hx hb hK hP (xin_lt2 h3 h4) rfl xd_H_register_22 ?_
      exact hj2 H locs ls g ((xg_x u) p0.toNatClampNeg) (xif h3 (xit h4 rfl)) hg hl hP hD hS
    · refine lv_iconst (v := 0) hx hb xd_H_register_10 (by decide) ?_
      refine lv_goto (tgt := 23) hx hb xd_H_register_11 rfl ?_
      exact hj2 H locs ls g (0 : Int32) (xif h3 (xif h4 rfl)) hg hl hP hD hS

noncomputable def xf_H_place (u : XH) (p0 : Int32) (p1 : Int32) : Int32 × XH :=
  if (p0 &&& (3 : Int32)) = 0 then
    if p1 < 0 then
      ((-1), u)
    else
      if p1 ≤ 3 then
        ((xg_C_mode u), (xs_C_mode (xs_C_pc u p0) p1))
      else
        ((-1), u)
  else
    ((-1), u)
set_option maxHeartbeats 4000000 in
set_option maxRecDepth 100000 in
theorem c_H_place (l : Launch) (D : va_G) (z : (Nat → Nat) × (Nat → Nat)) (k : ClassId × ClassId) (a : Nat → Nat) (g : XG) (sz : Nat) (u : XH) (hg : xok k g u) (p0 : Int32) (p1 : Int32) : Met l xy_H_place (xk_H_place :: lw_g) { frames := 0, cells := 0, slots := 0, locals := 0 } (va_Pc [.ref ((a 0)), .int p0, .int p1] (xB D (xTy k) z sz (xWH k a g u))) (va_Qi (fun r (q : XH × XG) => (r, q.1) = xf_H_place u p0 p1 ∧ xok k q.2 q.1) (fun q t => xQ D (xTy k) (xWH k a q.2 q.1) (va_A (xWH k a g u) sz) t) (va_A (xWH k a g u) sz)) 0 0 (va_A (xWH k a g u) sz) := by
  refine xopen_i (wf := fun q : XH × XG => xWH k a q.2 q.1) (lv := [(0, .ref ((a 0))), (1, .int p0), (2, .int p1)]) (by decide) rfl (Nat.le_of_ble_eq_true rfl) ?_
  intro p e s m args below meth c Q ls A H locs hx hb hml htg hown hin hK hP hD hE hS hA hl hret
  refine lv_iload_n hx hb xd_H_place_0 rfl (lv_at hl 1 rfl) ?_
  refine lv_iconst (v := 3) hx hb xd_H_place_1 (by decide) ?_
  refine lv_iand hx hb xd_H_place_2 ?_
  refine lv_if_ne (tgt := 15) hx hb xd_H_place_3 rfl (fun h1 => ?_) (fun h1 => ?_)
  · refine lv_iconst (v := (-1)) hx hb xd_H_place_15 (by decide) ?_
    exact hret _ (u, g) H locs ls _ ⟨(by unfold xf_H_place; exact (xif h1 rfl)), hg⟩ hP hD hS xd_H_place_16
  · refine lv_iload_n hx hb xd_H_place_6 rfl (lv_at hl 2 rfl) ?_
    refine lv_if_lt (tgt := 15) hx hb xd_H_place_7 rfl (fun h2 => ?_) (fun h2 => ?_)
    · refine lv_iconst (v := (-1)) hx hb xd_H_place_15 (by decide) ?_
      exact hret _ (u, g) H locs ls _ ⟨(by unfold xf_H_place; exact (xit h1 (xit h2 rfl))), hg⟩ hP hD hS xd_H_place_16
    · refine lv_iload_n hx hb xd_H_place_10 rfl (lv_at hl 2 rfl) ?_
      refine lv_iconst (v := 3) hx hb xd_H_place_11 (by decide) ?_
      refine lv_icmp_le (tgt := 17) hx hb xd_H_place_12 rfl (fun h3 => ?_) (fun h3 => ?_)
      · refine lv_aload_n hx hb xd_H_place_17 rfl (lv_at hl 0 rfl) ?_
        refine xget_H_core hx hb htg hown hK hP (htg _ xw_277) xd_H_place_18 ?_
        refine xget_C_mode (v := (xg_C_mode u)) hx hb htg hown hK hP (htg _ xw_214) rfl xd_H_place_21 ?_
        refine lv_istore_n (lv' := [(3, .int ((xg_C_mode u))), (0, .ref ((a 0))), (1, .int p0), (2, .int p1)]) hx hb xd_H_place_24 rfl hl (by decide) rfl (fun ls hl => ?_)
        refine lv_aload_n hx hb xd_H_place_25 rfl (lv_at hl 1 rfl) ?_
        refine xget_H_core hx hb htg hown hK hP (htg _ xw_277) xd_H_place_26 ?_
        refine lv_iload_n hx hb xd_H_place_29 rfl (lv_at hl 2 rfl) ?_
        refine xput_C_pc (v := p0) hx hb htg hown hK hP hD hS hg (htg _ xw_212) xd_H_place_30 (fun H locs hP hD hS hg => ?_)
        refine lv_aload_n hx hb xd_H_place_33 rfl (lv_at hl 1 rfl) ?_
        refine xget_H_core hx hb htg hown hK hP (htg _ xw_277) xd_H_place_34 ?_
        refine lv_iload_n hx hb xd_H_place_37 rfl (lv_at hl 3 rfl) ?_
        refine xput_C_mode (v := p1) hx hb htg hown hK hP hD hS hg (htg _ xw_214) xd_H_place_38 (fun H locs hP hD hS hg => ?_)
        refine lv_iload_n hx hb xd_H_place_41 rfl (lv_at hl 0 rfl) ?_
        exact hret _ ((xs_C_mode (xs_C_pc u p0) p1), g) H locs ls _ ⟨(by unfold xf_H_place; exact (xit h1 (xif h2 (xit h3 rfl)))), hg⟩ hP hD hS xd_H_place_42
      · refine lv_iconst (v := (-1)) hx hb xd_H_place_15 (by decide) ?_
        exact hret _ (u, g) H locs ls _ ⟨(by unfold xf_H_place; exact (xit h1 (xif h2 (xif h3 rfl)))), hg⟩ hP hD hS xd_H_place_16

noncomputable def xf_H_count (u : XH) (p0 : Int32) : Int32 :=
  if p0 = 0 then
    (xg_C_mode u)
  else
    if p0 = 1 then
      (xg_C_pc u)
    else
      if p0 = 2 then
        (Int64.toInt32 (xg_K_time u))
      else
        if p0 = 3 then
          (Int64.toInt32 (xul (xg_K_time u) (32 : Int32)))
        else
          if p0 = 4 then
            (xg_C_trapsToS u)
          else
            if p0 = 5 then
              (xg_C_trapsToVs u)
            else
              if p0 = 6 then
                (xg_C_interrupts u)
              else
                if p0 = 7 then
                  (xg_C_consoleSize u)
                else
                  if p0 = 8 then
                    xlt (if (xz (xg_C_off u)) = 0 then (0) else (1) : Int32) fun v10 =>
                    v10
                  else
                    if p0 = 9 then
                      (Int64.toInt32 (xg_K_alarm u))
                    else
                      if p0 = 10 then
                        (Int64.toInt32 (xul (xg_K_alarm u) (32 : Int32)))
                      else
                        (-1)
set_option maxHeartbeats 4000000 in
set_option maxRecDepth 100000 in
theorem c_H_count (l : Launch) (D : va_G) (z : (Nat → Nat) × (Nat → Nat)) (k : ClassId × ClassId) (a : Nat → Nat) (g : XG) (sz : Nat) (u : XH) (hg : xok k g u) (p0 : Int32) : Met l xy_H_count (xk_H_count :: lw_g) { frames := 0, cells := 0, slots := 0, locals := 0 } (va_Pc [.ref ((a 0)), .int p0] (xB D (xTy k) z sz (xWH k a g u))) (va_Qi (fun r (q : XH × XG) => r = xf_H_count u p0 ∧ q.1 = u ∧ xok k q.2 q.1) (fun q t => xQ D (xTy k) (xWH k a q.2 q.1) (va_A (xWH k a g u) sz) t) (va_A (xWH k a g u) sz)) 0 0 (va_A (xWH k a g u) sz) := by
  refine xopen_i (wf := fun q : XH × XG => xWH k a q.2 q.1) (lv := [(0, .ref ((a 0))), (1, .int p0)]) (by decide) rfl (Nat.le_of_ble_eq_true rfl) ?_
  intro p e s m args below meth c Q ls A H locs hx hb hml htg hown hin hK hP hD hE hS hA hl hret
  refine lv_iload_n hx hb xd_H_count_0 rfl (lv_at hl 1 rfl) ?_
  refine (Decidable.em (p0 = 0)).elim (fun h1 => ?_) (fun h1 => ?_)
  · refine lv_tableIn (tgt := 60) (off := 59) hx hb xd_H_count_1 (by rw [h1]; decide) (by rw [h1]; decide) (by rw [h1]; decide +kernel) rfl ?_
    refine lv_aload_n hx hb xd_H_count_60 rfl (lv_at hl 0 rfl) ?_
    refine xget_H_core hx hb htg hown hK hP (htg _ xw_277) xd_H_count_61 ?_
    refine xget_C_mode (v := (xg_C_mode u)) hx hb htg hown hK hP (htg _ xw_214) rfl xd_H_count_64 ?_
    exact hret _ (u, g) H locs ls _ ⟨(by unfold xf_H_count; exact (xit h1 rfl)), rfl, hg⟩ hP hD hS xd_H_count_67
  · refine (Decidable.em (p0 = 1)).elim (fun h2 => ?_) (fun h2 => ?_)
    · refine lv_tableIn (tgt := 68) (off := 67) hx hb xd_H_count_1 (by rw [h2]; decide) (by rw [h2]; decide) (by rw [h2]; decide +kernel) rfl ?_
      refine lv_aload_n hx hb xd_H_count_68 rfl (lv_at hl 0 rfl) ?_
      refine xget_H_core hx hb htg hown hK hP (htg _ xw_277) xd_H_count_69 ?_
      refine xget_C_pc (v := (xg_C_pc u)) hx hb htg hown hK hP (htg _ xw_212) rfl xd_H_count_72 ?_
      exact hret _ (u, g) H locs ls _ ⟨(by unfold xf_H_count; exact (xif h1 (xit h2 rfl))), rfl, hg⟩ hP hD hS xd_H_count_75
    · refine (Decidable.em (p0 = 2)).elim (fun h3 => ?_) (fun h3 => ?_)
      · refine lv_tableIn (tgt := 76) (off := 75) hx hb xd_H_count_1 (by rw [h3]; decide) (by rw [h3]; decide) (by rw [h3]; decide +kernel) rfl ?_
        refine lv_aload_n hx hb xd_H_count_76 rfl (lv_at hl 0 rfl) ?_
        refine xget_H_core hx hb htg hown hK hP (htg _ xw_277) xd_H_count_77 ?_
        refine xget_C_controls hx hb htg hown hK hP (htg _ xw_207) xd_H_count_80 ?_
        refine xget_K_time (v := (xg_K_time u)) hx hb htg hown hK hP (htg _ xw_119) rfl xd_H_count_83 ?_
        refine lv_l2i (v := (Int64.toInt32 (xg_K_time u))) hx hb xd_H_count_86 rfl ?_
        exact hret _ (u, g) H locs ls _ ⟨(by unfold xf_H_count; exact (xif h1 (xif h2 (xit h3 rfl)))), rfl, hg⟩ hP hD hS xd_H_count_87
      · refine (Decidable.em (p0 = 3)).elim (fun h4 => ?_) (fun h4 => ?_)
        · refine lv_tableIn (tgt := 88) (off := 87) hx hb xd_H_count_1 (by rw [h4]; decide) (by rw [h4]; decide) (by rw [h4]; decide +kernel) rfl ?_
          refine lv_aload_n hx hb xd_H_count_88 rfl (lv_at hl 0 rfl) ?_
          refine xget_H_core hx hb htg hown hK hP (htg _ xw_277) xd_H_count_89 ?_
          refine xget_C_controls hx hb htg hown hK hP (htg _ xw_207) xd_H_count_92 ?_
          refine xget_K_time (v := (xg_K_time u)) hx hb htg hown hK hP (htg _ xw_119) rfl xd_H_count_95 ?_
          refine lv_bipush (v := 32) hx hb xd_H_count_98 (by decide) ?_
          refine lv_lushr (v := (xul (xg_K_time u) (32 : Int32))) hx hb xd_H_count_100 rfl ?_
          refine lv_l2i (v := (Int64.toInt32 (xul (xg_K_time u) (32 : Int32)))) hx hb xd_H_count_101 rfl ?_
          exact hret _ (u, g) H locs ls _ ⟨(by unfold xf_H_count; exact (xif h1 (xif h2 (xif h3 (xit h4 rfl))))), rfl, hg⟩ hP hD hS xd_H_count_102
        · refine (Decidable.em (p0 = 4)).elim (fun h5 => ?_) (fun h5 => ?_)
          · refine lv_tableIn (tgt := 103) (off := 102) hx hb xd_H_count_1 (by rw [h5]; decide) (by rw [h5]; decide) (by rw [h5]; decide +kernel) rfl ?_
            refine lv_aload_n hx hb xd_H_count_103 rfl (lv_at hl 0 rfl) ?_
            refine xget_H_core hx hb htg hown hK hP (htg _ xw_277) xd_H_count_104 ?_
            refine xget_C_trapsToS (v := (xg_C_trapsToS u)) hx hb htg hown hK hP (htg _ xw_218) rfl xd_H_count_107 ?_
            exact hret _ (u, g) H locs ls _ ⟨(by unfold xf_H_count; exact (xif h1 (xif h2 (xif h3 (xif h4 (xit h5 rfl)))))), rfl, hg⟩ hP hD hS xd_H_count_110
          · refine (Decidable.em (p0 = 5)).elim (fun h6 => ?_) (fun h6 => ?_)
            · refine lv_tableIn (tgt := 111) (off := 110) hx hb xd_H_count_1 (by rw [h6]; decide) (by rw [h6]; decide) (by rw [h6]; decide +kernel) rfl ?_
              refine lv_aload_n hx hb xd_H_count_111 rfl (lv_at hl 0 rfl) ?_
              refine xget_H_core hx hb htg hown hK hP (htg _ xw_277) xd_H_count_112 ?_
              refine xget_C_trapsToVs (v := (xg_C_trapsToVs u)) hx hb htg hown hK hP (htg _ xw_220) rfl xd_H_count_115 ?_
              exact hret _ (u, g) H locs ls _ ⟨(by unfold xf_H_count; exact (xif h1 (xif h2 (xif h3 (xif h4 (xif h5 (xit h6 rfl))))))), rfl, hg⟩ hP hD hS xd_H_count_118
            · refine (Decidable.em (p0 = 6)).elim (fun h7 => ?_) (fun h7 => ?_)
              · refine lv_tableIn (tgt := 119) (off := 118) hx hb xd_H_count_1 (by rw [h7]; decide) (by rw [h7]; decide) (by rw [h7]; decide +kernel) rfl ?_
                refine lv_aload_n hx hb xd_H_count_119 rfl (lv_at hl 0 rfl) ?_
                refine xget_H_core hx hb htg hown hK hP (htg _ xw_277) xd_H_count_120 ?_
                refine xget_C_interrupts (v := (xg_C_interrupts u)) hx hb htg hown hK hP (htg _ xw_222) rfl xd_H_count_123 ?_
                exact hret _ (u, g) H locs ls _ ⟨(by unfold xf_H_count; exact (xif h1 (xif h2 (xif h3 (xif h4 (xif h5 (xif h6 (xit h7 rfl)))))))), rfl, hg⟩ hP hD hS xd_H_count_126
              · refine (Decidable.em (p0 = 7)).elim (fun h8 => ?_) (fun h8 => ?_)
                · refine lv_tableIn (tgt := 127) (off := 126) hx hb xd_H_count_1 (by rw [h8]; decide) (by rw [h8]; decide) (by rw [h8]; decide +kernel) rfl ?_
                  refine lv_aload_n hx hb xd_H_count_127 rfl (lv_at hl 0 rfl) ?_
                  refine xget_H_core hx hb htg hown hK hP (htg _ xw_277) xd_H_count_128 ?_
                  refine xget_C_consoleSize (v := (xg_C_consoleSize u)) hx hb htg hown hK hP (htg _ xw_210) rfl xd_H_count_131 ?_
                  exact hret _ (u, g) H locs ls _ ⟨(by unfold xf_H_count; exact (xif h1 (xif h2 (xif h3 (xif h4 (xif h5 (xif h6 (xif h7 (xit h8 rfl))))))))), rfl, hg⟩ hP hD hS xd_H_count_134
                · refine (Decidable.em (p0 = 8)).elim (fun h9 => ?_) (fun h9 => ?_)
                  · refine lv_tableIn (tgt := 135) (off := 134) hx hb xd_H_count_1 (by rw [h9]; decide) (by rw [h9]; decide) (by rw [h9]; decide +kernel) rfl ?_
                    refine lv_aload_n hx hb xd_H_count_135 rfl (lv_at hl 0 rfl) ?_
                    refine xget_H_core hx hb htg hown hK hP (htg _ xw_277) xd_H_count_136 ?_
                    refine xget_C_off (v := (xg_C_off u)) hx hb htg hown hK hP (htg _ xw_216) rfl xd_H_count_139 ?_
                    have hj11 : ∀ (H : Heap) (locs : List Loc) (ls : Array Slot) (g : XG) (v10 : Int32), v10 = (if (xz (xg_C_off u)) = 0 then (0) else (1)) → xok k g u → lv_has ls 2 [(0, .ref ((a 0))), (1, .int p0)] → va_P D xCl (xWH k a g u) H → va_D A (xWH k a g u) → va_S A s.heap H locs → W p l e { frames := 0, cells := 0, slots := 0, locals := 0 } s m args below meth c H locs (0) (0) Q (F0 m 150 ls [.int v10]) := by
                      intro H locs ls g v10 hv10 hg hl hP hD hS
                      exact hret _ (u, g) H locs ls _ ⟨(by unfold xf_H_count; exact (xif h1 (xif h2 (xif h3 (xif h4 (xif h5 (xif h6 (xif h7 (xif h8 (xit h9 (xlt_e hv10 rfl))))))))))), rfl, hg⟩ hP hD hS xd_H_count_150
                    refine lv_if_eq (tgt := 149) hx hb xd_H_count_142 rfl (fun h12 => ?_) (fun h12 => ?_)
                    · refine lv_iconst (v := 0) hx hb xd_H_count_149 (by decide) ?_
                      exact hj11 H locs ls g (0 : Int32) (xit h12 rfl) hg hl hP hD hS
                    · refine lv_iconst (v := 1) hx hb xd_H_count_145 (by decide) ?_
                      refine lv_goto (tgt := 150) hx hb xd_H_count_146 rfl ?_
                      exact hj11 H locs ls g (1 : Int32) (xif h12 rfl) hg hl hP hD hS
                  · refine (Decidable.em (p0 = 9)).elim (fun h13 => ?_) (fun h13 => ?_)
                    · refine lv_tableIn (tgt := 151) (off := 150) hx hb xd_H_count_1 (by rw [h13]; decide) (by rw [h13]; decide) (by rw [h13]; decide +kernel) rfl ?_
                      refine lv_aload_n hx hb xd_H_count_151 rfl (lv_at hl 0 rfl) ?_
                      refine xget_H_core hx hb htg hown hK hP (htg _ xw_277) xd_H_count_152 ?_
                      refine xget_C_controls hx hb htg hown hK hP (htg _ xw_207) xd_H_count_155 ?_
                      refine xget_K_alarm (v := (xg_K_alarm u)) hx hb htg hown hK hP (htg _ xw_121) rfl xd_H_count_158 ?_
                      refine lv_l2i (v := (Int64.toInt32 (xg_K_alarm u))) hx hb xd_H_count_161 rfl ?_
                      exact hret _ (u, g) H locs ls _ ⟨(by unfold xf_H_count; exact (xif h1 (xif h2 (xif h3 (xif h4 (xif h5 (xif h6 (xif h7 (xif h8 (xif h9 (xit h13 rfl))))))))))), rfl, hg⟩ hP hD hS xd_H_count_162
                    · refine (Decidable.em (p0 = 10)).elim (fun h14 => ?_) (fun h14 => ?_)
                      · refine lv_tableIn (tgt := 163) (off := 162) hx hb xd_H_count_1 (by rw [h14]; decide) (by rw [h14]; decide) (by rw [h14]; decide +kernel) rfl ?_
                        refine lv_aload_n hx hb xd_H_count_163 rfl (lv_at hl 0 rfl) ?_
                        refine xget_H_core hx hb htg hown hK hP (htg _ xw_277) xd_H_count_164 ?_
                        refine xget_C_controls hx hb htg hown hK hP (htg _ xw_207) xd_H_count_167 ?_
                        refine xget_K_alarm (v := (xg_K_alarm u)) hx hb htg hown hK hP (htg _ xw_121) rfl xd_H_count_170 ?_
                        refine lv_bipush (v := 32) hx hb xd_H_count_173 (by decide) ?_
                        refine lv_lushr (v := (xul (xg_K_alarm u) (32 : Int32))) hx hb xd_H_count_175 rfl ?_
                        refine lv_l2i (v := (Int64.toInt32 (xul (xg_K_alarm u) (32 : Int32)))) hx hb xd_H_count_176 rfl ?_
                        exact hret _ (u, g) H locs ls _ ⟨(by unfold xf_H_count; exact (xif h1 (xif h2 (xif h3 (xif h4 (xif h5 (xif h6 (xif h7 (xif h8 (xif h9 (xif h13 (xit h14 rfl)))))))))))), rfl, hg⟩ hP hD hS xd_H_count_177
                      · refine lv_tableOut (tgt := 178) hx hb xd_H_count_1 (xsw_out [0, 1, 2, 3, 4, 5, 6, 7, 8, 9, 10] (by decide) (by simp only [List.forall_mem_cons, List.not_mem_nil, false_imp_iff, implies_true, and_true]; exact ⟨h1, h2, h3, h4, h5, h6, h7, h8, h9, h13, h14⟩)) rfl ?_
                        refine lv_iconst (v := (-1)) hx hb xd_H_count_178 (by decide) ?_
                        exact hret _ (u, g) H locs ls _ ⟨(by unfold xf_H_count; exact (xif h1 (xif h2 (xif h3 (xif h4 (xif h5 (xif h6 (xif h7 (xif h8 (xif h9 (xif h13 (xif h14 rfl)))))))))))), rfl, hg⟩ hP hD hS xd_H_count_179

noncomputable def xf_K_tell (u : XH) (p0 : Int32) : Int32 :=
  xlt (xf_K_isOfS p0 : Int32) fun r1 =>
  if r1 = 0 then
    if p0 = 516 then
      (xus ((xg_K_hie u) &&& (xg_K_hideleg u)) (1 : Int32))
    else
      if p0 = 580 then
        (xus ((xg_K_hvip u) &&& (xg_K_hideleg u)) (1 : Int32))
      else
        if p0 = 1536 then
          (xg_K_hstatus u)
        else
          if p0 = 1538 then
            (xg_K_hedeleg u)
          else
            if p0 = 1539 then
              (xg_K_hideleg u)
            else
              if p0 = 1540 then
                (xg_K_hie u)
              else
                if p0 = 1603 then
                  (xg_K_htval u)
                else
                  if p0 = 1604 then
                    (xg_K_hvip u)
                  else
                    if p0 = 1605 then
                      (xg_K_hvip u)
                    else
                      if p0 = 1610 then
                        (xg_K_htinst u)
                      else
                        if p0 = 1664 then
                          (xg_K_hgatp u)
                        else
                          if p0 = 3073 then
                            (Int64.toInt32 (xg_K_time u))
                          else
                            if p0 = 3201 then
                              (Int64.toInt32 (xul (xg_K_time u) (32 : Int32)))
                            else
                              xlt (xf_B_tell (xg_V u) (p0 - (256 : Int32)) : Int32) fun q16 =>
                              q16
  else
    xlt (if p0 = 324 then (xlt (xf_K_pendingForS u : Int32) fun q19 => q19) else (xlt (xf_B_tell (xg_S u) p0 : Int32) fun q18 => q18) : Int32) fun v17 =>
    v17
set_option maxHeartbeats 4000000 in
set_option maxRecDepth 100000 in
theorem c_K_tell (l : Launch) (D : va_G) (z : (Nat → Nat) × (Nat → Nat)) (k : ClassId × ClassId) (a : Nat → Nat) (g : XG) (sz : Nat) (u : XH) (hg : xok k g u) (p0 : Int32) : Met l xy_K_tell (xk_K_tell :: lw_g) { frames := 1, cells := 0, slots := 0, locals := 21 } (va_Pc [.ref ((a 4)), .int p0] (xB D (xTy k) z sz (xWH k a g u))) (va_Qi (fun r (q : XH × XG) => r = xf_K_tell u p0 ∧ q.1 = u ∧ xok k q.2 q.1) (fun q t => xQ D (xTy k) (xWH k a q.2 q.1) (va_A (xWH k a g u) sz) t) (va_A (xWH k a g u) sz)) 0 0 (va_A (xWH k a g u) sz) := by
  refine xopen_i (wf := fun q : XH × XG => xWH k a q.2 q.1) (lv := [(0, .ref ((a 4))), (1, .int p0)]) (by decide) rfl (Nat.le_of_ble_eq_true rfl) ?_
  intro p e s m args below meth c Q ls A H locs hx hb hml htg hown hin hK hP hD hE hS hA hl hret
  refine lv_iload_n hx hb xd_K_tell_0 rfl (lv_at hl 1 rfl) ?_
  refine xc0_i (va_runS (As := [.int p0]) (rest := []) ⟨hx, hb, hml, hown, htg⟩ (c_K_isOfS l D (xTy k) z H.size p0) (va_cwS 1 htg (xg_S0 xkin_K_isOfS xw_337 xw_338 xw_5) rfl rfl rfl (by decide +kernel) ⟨Nat.le_of_ble_eq_true rfl, Nat.le_of_ble_eq_true rfl⟩) ⟨xB_blind, fun U hU hW => xB_mk va_P0 hK va_D0 hE hS (xsub0 hA hS) hU hW⟩ rfl rfl hl.1 rfl (lv_room (Nat.le_of_ble_eq_true rfl)) xd_K_tell_1 ⟨Nat.le_of_ble_eq_true rfl, Nat.le_of_ble_eq_true rfl⟩) hP hA hS (fun r1 H locs hr1 hP hS => ?_)
  refine lv_if_eq (tgt := 30) hx hb xd_K_tell_4 rfl (fun h2 => ?_) (fun h2 => ?_)
  · refine lv_iload_n hx hb xd_K_tell_30 rfl (lv_at hl 1 rfl) ?_
    refine (Decidable.em (p0 = 516)).elim (fun h3 => ?_) (fun h3 => ?_)
    · refine lv_lookup (tgt := 144) (off := 113) hx hb xd_K_tell_31 (by decide +kernel) (by rw [h3]; decide +kernel) rfl ?_
      refine lv_aload_n hx hb xd_K_tell_144 rfl (lv_at hl 0 rfl) ?_
      refine xget_K_hie (v := (xg_K_hie u)) hx hb htg hown hK hP (htg _ xw_111) rfl xd_K_tell_145 ?_
      refine lv_aload_n hx hb xd_K_tell_148 rfl (lv_at hl 0 rfl) ?_
      refine xget_K_hideleg (v := (xg_K_hideleg u)) hx hb htg hown hK hP (htg _ xw_110) rfl xd_K_tell_149 ?_
      refine lv_iand hx hb xd_K_tell_152 ?_
      refine lv_iconst (v := 1) hx hb xd_K_tell_153 (by decide) ?_
      refine lv_iushr (v := (xus ((xg_K_hie u) &&& (xg_K_hideleg u)) (1 : Int32))) hx hb xd_K_tell_154 rfl ?_
      exact hret _ (u, g) H locs ls _ ⟨(by unfold xf_K_tell; exact (xlt_e hr1 (xit h2 (xit h3 rfl)))), rfl, hg⟩ hP hD hS xd_K_tell_155
    · refine (Decidable.em (p0 = 580)).elim (fun h4 => ?_) (fun h4 => ?_)
      · refine lv_lookup (tgt := 156) (off := 125) hx hb xd_K_tell_31 (by decide +kernel) (by rw [h4]; decide +kernel) rfl ?_
        refine lv_aload_n hx hb xd_K_tell_156 rfl (lv_at hl 0 rfl) ?_
        refine xget_K_hvip (v := (xg_K_hvip u)) hx hb htg hown hK hP (htg _ xw_113) rfl xd_K_tell_157 ?_
        refine lv_aload_n hx hb xd_K_tell_160 rfl (lv_at hl 0 rfl) ?_
        refine xget_K_hideleg (v := (xg_K_hideleg u)) hx hb htg hown hK hP (htg _ xw_110) rfl xd_K_tell_161 ?_
        refine lv_iand hx hb xd_K_tell_164 ?_
        refine lv_iconst (v := 1) hx hb xd_K_tell_165 (by decide) ?_
        refine lv_iushr (v := (xus ((xg_K_hvip u) &&& (xg_K_hideleg u)) (1 : Int32))) hx hb xd_K_tell_166 rfl ?_
        exact hret _ (u, g) H locs ls _ ⟨(by unfold xf_K_tell; exact (xlt_e hr1 (xit h2 (xif h3 (xit h4 rfl))))), rfl, hg⟩ hP hD hS xd_K_tell_167
      · refine (Decidable.em (p0 = 1536)).elim (fun h5 => ?_) (fun h5 => ?_)
        · refine lv_lookup (tgt := 168) (off := 137) hx hb xd_K_tell_31 (by decide +kernel) (by rw [h5]; decide +kernel) rfl ?_
          refine lv_aload_n hx hb xd_K_tell_168 rfl (lv_at hl 0 rfl) ?_
          refine xget_K_hstatus (v := (xg_K_hstatus u)) hx hb htg hown hK hP (htg _ xw_106) rfl xd_K_tell_169 ?_
          exact hret _ (u, g) H locs ls _ ⟨(by unfold xf_K_tell; exact (xlt_e hr1 (xit h2 (xif h3 (xif h4 (xit h5 rfl)))))), rfl, hg⟩ hP hD hS xd_K_tell_172
        · refine (Decidable.em (p0 = 1538)).elim (fun h6 => ?_) (fun h6 => ?_)
          · refine lv_lookup (tgt := 173) (off := 142) hx hb xd_K_tell_31 (by decide +kernel) (by rw [h6]; decide +kernel) rfl ?_
            refine lv_aload_n hx hb xd_K_tell_173 rfl (lv_at hl 0 rfl) ?_
            refine xget_K_hedeleg (v := (xg_K_hedeleg u)) hx hb htg hown hK hP (htg _ xw_108) rfl xd_K_tell_174 ?_
            exact hret _ (u, g) H locs ls _ ⟨(by unfold xf_K_tell; exact (xlt_e hr1 (xit h2 (xif h3 (xif h4 (xif h5 (xit h6 rfl))))))), rfl, hg⟩ hP hD hS xd_K_tell_177
          · refine (Decidable.em (p0 = 1539)).elim (fun h7 => ?_) (fun h7 => ?_)
            · refine lv_lookup (tgt := 178) (off := 147) hx hb xd_K_tell_31 (by decide +kernel) (by rw [h7]; decide +kernel) rfl ?_
              refine lv_aload_n hx hb xd_K_tell_178 rfl (lv_at hl 0 rfl) ?_
              refine xget_K_hideleg (v := (xg_K_hideleg u)) hx hb htg hown hK hP (htg _ xw_110) rfl xd_K_tell_179 ?_
              exact hret _ (u, g) H locs ls _ ⟨(by unfold xf_K_tell; exact (xlt_e hr1 (xit h2 (xif h3 (xif h4 (xif h5 (xif h6 (xit h7 rfl)))))))), rfl, hg⟩ hP hD hS xd_K_tell_182
            · refine (Decidable.em (p0 = 1540)).elim (fun h8 => ?_) (fun h8 => ?_)
              · refine lv_lookup (tgt := 183) (off := 152) hx hb xd_K_tell_31 (by decide +kernel) (by rw [h8]; decide +kernel) rfl ?_
                refine lv_aload_n hx hb xd_K_tell_183 rfl (lv_at hl 0 rfl) ?_
                refine xget_K_hie (v := (xg_K_hie u)) hx hb htg hown hK hP (htg _ xw_111) rfl xd_K_tell_184 ?_
                exact hret _ (u, g) H locs ls _ ⟨(by unfold xf_K_tell; exact (xlt_e hr1 (xit h2 (xif h3 (xif h4 (xif h5 (xif h6 (xif h7 (xit h8 rfl))))))))), rfl, hg⟩ hP hD hS xd_K_tell_187
              · refine (Decidable.em (p0 = 1603)).elim (fun h9 => ?_) (fun h9 => ?_)
                · refine lv_lookup (tgt := 188) (off := 157) hx hb xd_K_tell_31 (by decide +kernel) (by rw [h9]; decide +kernel) rfl ?_
                  refine lv_aload_n hx hb xd_K_tell_188 rfl (lv_at hl 0 rfl) ?_
                  refine xget_K_htval (v := (xg_K_htval u)) hx hb htg hown hK hP (htg _ xw_112) rfl xd_K_tell_189 ?_
                  exact hret _ (u, g) H locs ls _ ⟨(by unfold xf_K_tell; exact (xlt_e hr1 (xit h2 (xif h3 (xif h4 (xif h5 (xif h6 (xif h7 (xif h8 (xit h9 rfl)))))))))), rfl, hg⟩ hP hD hS xd_K_tell_192
                · refine (Decidable.em (p0 = 1604)).elim (fun h10 => ?_) (fun h10 => ?_)
                  · refine lv_lookup (tgt := 193) (off := 162) hx hb xd_K_tell_31 (by decide +kernel) (by rw [h10]; decide +kernel) rfl ?_
                    refine lv_aload_n hx hb xd_K_tell_193 rfl (lv_at hl 0 rfl) ?_
                    refine xget_K_hvip (v := (xg_K_hvip u)) hx hb htg hown hK hP (htg _ xw_113) rfl xd_K_tell_194 ?_
                    exact hret _ (u, g) H locs ls _ ⟨(by unfold xf_K_tell; exact (xlt_e hr1 (xit h2 (xif h3 (xif h4 (xif h5 (xif h6 (xif h7 (xif h8 (xif h9 (xit h10 rfl))))))))))), rfl, hg⟩ hP hD hS xd_K_tell_197
                  · refine (Decidable.em (p0 = 1605)).elim (fun h11 => ?_) (fun h11 => ?_)
                    · refine lv_lookup (tgt := 198) (off := 167) hx hb xd_K_tell_31 (by decide +kernel) (by rw [h11]; decide +kernel) rfl ?_
                      refine lv_aload_n hx hb xd_K_tell_198 rfl (lv_at hl 0 rfl) ?_
                      refine xget_K_hvip (v := (xg_K_hvip u)) hx hb htg hown hK hP (htg _ xw_113) rfl xd_K_tell_199 ?_
                      exact hret _ (u, g) H locs ls _ ⟨(by unfold xf_K_tell; exact (xlt_e hr1 (xit h2 (xif h3 (xif h4 (xif h5 (xif h6 (xif h7 (xif h8 (xif h9 (xif h10 (xit h11 rfl)))))))))))), rfl, hg⟩ hP hD hS xd_K_tell_202
                    · refine (Decidable.em (p0 = 1610)).elim (fun h12 => ?_) (fun h12 => ?_)
                      · refine lv_lookup (tgt := 203) (off := 172) hx hb xd_K_tell_31 (by decide +kernel) (by rw [h12]; decide +kernel) rfl ?_
                        refine lv_aload_n hx hb xd_K_tell_203 rfl (lv_at hl 0 rfl) ?_
                        refine xget_K_htinst (v := (xg_K_htinst u)) hx hb htg hown hK hP (htg _ xw_114) rfl xd_K_tell_204 ?_
                        exact hret _ (u, g) H locs ls _ ⟨(by unfold xf_K_tell; exact (xlt_e hr1 (xit h2 (xif h3 (xif h4 (xif h5 (xif h6 (xif h7 (xif h8 (xif h9 (xif h10 (xif h11 (xit h12 rfl))))))))))))), rfl, hg⟩ hP hD hS xd_K_tell_207
                      · refine (Decidable.em (p0 = 1664)).elim (fun h13 => ?_) (fun h13 => ?_)
                        · refine lv_lookup (tgt := 208) (off := 177) hx hb xd_K_tell_31 (by decide +kernel) (by rw [h13]; decide +kernel) rfl ?_
                          refine lv_aload_n hx hb xd_K_tell_208 rfl (lv_at hl 0 rfl) ?_
                          refine xget_K_hgatp (v := (xg_K_hgatp u)) hx hb htg hown hK hP (htg _ xw_115) rfl xd_K_tell_209 ?_
                          exact hret _ (u, g) H locs ls _ ⟨(by unfold xf_K_tell; exact (xlt_e hr1 (xit h2 (xif h3 (xif h4 (xif h5 (xif h6 (xif h7 (xif h8 (xif h9 (xif h10 (xif h11 (xif h12 (xit h13 rfl)))))))))))))), rfl, hg⟩ hP hD hS xd_K_tell_212
                        · refine (Decidable.em (p0 = 3073)).elim (fun h14 => ?_) (fun h14 => ?_)
                          · refine lv_lookup (tgt := 213) (off := 182) hx hb xd_K_tell_31 (by decide +kernel) (by rw [h14]; decide +kernel) rfl ?_
                            refine lv_aload_n hx hb xd_K_tell_213 rfl (lv_at hl 0 rfl) ?_
                            refine xget_K_time (v := (xg_K_time u)) hx hb htg hown hK hP (htg _ xw_117) rfl xd_K_tell_214 ?_
                            refine lv_l2i (v := (Int64.toInt32 (xg_K_time u))) hx hb xd_K_tell_217 rfl ?_
                            exact hret _ (u, g) H locs ls _ ⟨(by unfold xf_K_tell; exact (xlt_e hr1 (xit h2 (xif h3 (xif h4 (xif h5 (xif h6 (xif h7 (xif h8 (xif h9 (xif h10 (xif h11 (xif h12 (xif h13 (xit h14 rfl))))))))))))))), rfl, hg⟩ hP hD hS xd_K_tell_218
                          · refine (Decidable.em (p0 = 3201)).elim (fun h15 => ?_) (fun h15 => ?_)
                            · refine lv_lookup (tgt := 219) (off := 188) hx hb xd_K_tell_31 (by decide +kernel) (by rw [h15]; decide +kernel) rfl ?_
                              refine lv_aload_n hx hb xd_K_tell_219 rfl (lv_at hl 0 rfl) ?_
                              refine xget_K_time (v := (xg_K_time u)) hx hb htg hown hK hP (htg _ xw_117) rfl xd_K_tell_220 ?_
                              refine lv_bipush (v := 32) hx hb xd_K_tell_223 (by decide) ?_
                              refine lv_lushr (v := (xul (xg_K_time u) (32 : Int32))) hx hb xd_K_tell_225 rfl ?_
                              refine lv_l2i (v := (Int64.toInt32 (xul (xg_K_time u) (32 : Int32)))) hx hb xd_K_tell_226 rfl ?_
                              exact hret _ (u, g) H locs ls _ ⟨(by unfold xf_K_tell; exact (xlt_e hr1 (xit h2 (xif h3 (xif h4 (xif h5 (xif h6 (xif h7 (xif h8 (xif h9 (xif h10 (xif h11 (xif h12 (xif h13 (xif h14 (xit h15 rfl)))))))))))))))), rfl, hg⟩ hP hD hS xd_K_tell_227
                            · refine lv_lookup (tgt := 228) (off := 197) hx hb xd_K_tell_31 (by decide +kernel) (by first | (rw [lv_osw h3 (by decide), lv_osw h4 (by decide), lv_osw h5 (by decide), lv_osw h6 (by decide), lv_osw h7 (by decide), lv_osw h8 (by decide), lv_osw h9 (by decide), lv_osw h10 (by decide), lv_osw h11 (by decide), lv_osw h12 (by decide), lv_osw h13 (by decide), lv_osw h14 (by decide), lv_osw h15 (by decide)]; rfl) | (simp only [lv_osw h3 (by decide), lv_osw h4 (by decide), lv_osw h5 (by decide), lv_osw h6 (by decide), lv_osw h7 (by decide), lv_osw h8 (by decide), lv_osw h9 (by decide), lv_osw h10 (by decide), lv_osw h11 (by decide), lv_osw h12 (by decide), lv_osw h13 (by decide), lv_osw h14 (by decide), lv_osw h15 (by decide)]; rfl)) rfl ?_
                              refine lv_aload_n hx hb xd_K_tell_228 rfl (lv_at hl 0 rfl) ?_
                              refine xget_K_vs hx hb htg hown hK hP (htg _ xw_103) xd_K_tell_229 ?_
                              refine lv_iload_n hx hb xd_K_tell_232 rfl (lv_at hl 1 rfl) ?_
                              refine lv_sipush (v := 256) hx hb xd_K_tell_233 (by decide) ?_
                              refine lv_isub hx hb xd_K_tell_236 ?_
                              refine xcr_V_i (b0 := (xg_V u)) rfl (fun _ _ h => h.2) (va_runV (As := [.int ((p0 - (256 : Int32)))]) (rest := []) ⟨hx, hb, hml, hown, htg⟩ (c_B_tell l D (xTy k) z H.size (a 6) (xg_V u) (p0 - (256 : Int32))) (cwV 1 htg (xg_V0 xkin_B_tell xw_373 xw_374 xsel_B_tell xw_6) rfl rfl rfl (by decide +kernel) ⟨Nat.le_of_ble_eq_true rfl, Nat.le_of_ble_eq_true rfl⟩) ⟨xB_blind, xrecv_V hK hP, fun U hU hW => xpre_V hP hK hD hE hS hA hU hW⟩ rfl rfl hl.1 rfl (lv_room (Nat.le_of_ble_eq_true rfl)) xd_K_tell_237 ⟨Nat.le_of_ble_eq_true rfl, Nat.le_of_ble_eq_true rfl⟩) hP hD hA hS (fun r u1 H locs hw hP hD hS => ?_)
                              obtain ⟨q16, hq16⟩ : ∃ q, q = xf_B_tell (xg_V u) (p0 - (256 : Int32)) := ⟨_, rfl⟩
                              obtain ⟨e1, -⟩ := hw; rw [← hq16] at e1
                              obtain rfl : q16 = r := e1.symm
                              exact hret _ (u, g) H locs ls _ ⟨(by unfold xf_K_tell; exact (xlt_e hr1 (xit h2 (xif h3 (xif h4 (xif h5 (xif h6 (xif h7 (xif h8 (xif h9 (xif h10 (xif h11 (xif h12 (xif h13 (xif h14 (xif h15 (xlt_e hq16 rfl))))))))))))))))), rfl, hg⟩ hP hD hS xd_K_tell_240
  · refine lv_iload_n hx hb xd_K_tell_7 rfl (lv_at hl 1 rfl) ?_
    refine lv_sipush (v := 324) hx hb xd_K_tell_8 (by decide) ?_
    have hj18 : ∀ (H : Heap) (locs : List Loc) (ls : Array Slot) (g : XG) (v17 : Int32), v17 = (if p0 = 324 then (xlt (xf_K_pendingForS u : Int32) fun q19 => q19) else (xlt (xf_B_tell (xg_S u) p0 : Int32) fun q18 => q18)) → xok k g u → lv_has ls 2 [(0, .ref ((a 4))), (1, .int p0)] → va_P D xCl (xWH k a g u) H → va_D A (xWH k a g u) → va_S A s.heap H locs → W p l e { frames := 1, cells := 0, slots := 0, locals := 21 } s m args below meth c H locs (0) (0) Q (F0 m 29 ls [.int v17]) := by
      intro H locs ls g v17 hv17 hg hl hP hD hS
      exact hret _ (u, g) H locs ls _ ⟨(by unfold xf_K_tell; exact (xlt_e hr1 (xif h2 (xlt_e hv17 rfl)))), rfl, hg⟩ hP hD hS xd_K_tell_29
    refine lv_icmp_ne (tgt := 21) hx hb xd_K_tell_11 rfl (fun h19 => ?_) (fun h19 => ?_)
    · refine lv_aload_n hx hb xd_K_tell_21 rfl (lv_at hl 0 rfl) ?_
      refine xget_K_s hx hb htg hown hK hP (htg _ xw_100) xd_K_tell_22 ?_
      refine lv_iload_n hx hb xd_K_tell_25 rfl (lv_at hl 1 rfl) ?_
      refine xcr_S_i (b0 := (xg_S u)) rfl (fun _ _ h => h.2) (va_runV (As := [.int p0]) (rest := []) ⟨hx, hb, hml, hown, htg⟩ (c_B_tell l D (xTy k) z H.size (a 5) (xg_S u) p0) (cwV 1 htg (xg_V0 xkin_B_tell xw_373 xw_374 xsel_B_tell xw_6) rfl rfl rfl (by decide +kernel) ⟨Nat.le_of_ble_eq_true rfl, Nat.le_of_ble_eq_true rfl⟩) ⟨xB_blind, xrecv_S hK hP, fun U hU hW => xpre_S hP hK hD hE hS hA hU hW⟩ rfl rfl hl.1 rfl (lv_room (Nat.le_of_ble_eq_true rfl)) xd_K_tell_26 ⟨Nat.le_of_ble_eq_true rfl, Nat.le_of_ble_eq_true rfl⟩) hP hD hA hS (fun r u1 H locs hw hP hD hS => ?_)
      obtain ⟨q20, hq20⟩ : ∃ q, q = xf_B_tell (xg_S u) p0 := ⟨_, rfl⟩
      obtain ⟨e1, -⟩ := hw; rw [← hq20] at e1
      obtain rfl : q20 = r := e1.symm
      exact hj18 H locs ls g q20 (xif h19 (xlt_e hq20 rfl)) hg hl hP hD hS
    · refine lv_aload_n hx hb xd_K_tell_14 rfl (lv_at hl 0 rfl) ?_
      refine xcW_i (va_runV (As := []) (rest := []) ⟨hx, hb, hml, hown, htg⟩ (c_K_pendingForS l D z k a g H.size u hg) (cwV 0 htg (xg_V0 xkin_K_pendingForS xw_369 xw_371 xsel_K_pendingForS xw_5) rfl rfl rfl (by decide +kernel) ⟨Nat.le_of_ble_eq_true rfl, Nat.le_of_ble_eq_true rfl⟩) ⟨xB_blind, xrecv_K hK hP, fun U hU hW => xB_mk hP hK hD hE hS (xsubW hD hA hS) hU hW⟩ rfl rfl hl.1 rfl (lv_room (Nat.le_of_ble_eq_true rfl)) xd_K_tell_15 ⟨Nat.le_of_ble_eq_true rfl, Nat.le_of_ble_eq_true rfl⟩) hD hA hS (fun r w1 H locs hw hP hD hS => ?_)
      obtain ⟨u1, g⟩ := w1
      obtain ⟨q21, hq21⟩ : ∃ q, q = xf_K_pendingForS u := ⟨_, rfl⟩
      obtain ⟨e1, e2, hg⟩ := hw
      rw [← hq21] at e1
      obtain rfl : q21 = r := e1.symm
      obtain rfl : u = u1 := e2.symm
      have hP : va_P D xCl (xWH k a g u) H := hP
      have hD : va_D A (xWH k a g u) := hD
      have hg : xok k g u := hg
      refine lv_goto (tgt := 29) hx hb xd_K_tell_18 rfl ?_
      exact hj18 H locs ls g q21 (xit h19 (xlt_e hq21 rfl)) hg hl hP hD hS

noncomputable def xf_K_write (u : XH) (p0 : Int32) (p1 : Int32) : XH :=
  xlt (xf_K_isOfS p0 : Int32) fun r1 =>
  if r1 = 0 then
    xlt (if p0 = 516 then ((xs_K_hie u (((xg_K_hie u) &&& ((xg_K_hideleg u) ^^^ (-1 : Int32))) ||| ((p1 <<< ((1 : Int32) &&& 31)) &&& (xg_K_hideleg u))))) else (if p0 = 580 then (xlt (xf_K_raiseSoft u (p1 <<< ((1 : Int32) &&& 31)) ((4 : Int32) &&& (xg_K_hideleg u)) : XH) fun q5 => q5) else (if p0 = 1536 then ((xs_K_hstatus u (p1 &&& (7340992 : Int32)))) else (if p0 = 1538 then ((xs_K_hedeleg u (p1 &&& (45567 : Int32)))) else (if p0 = 1539 then ((xs_K_hideleg u (p1 &&& (1092 : Int32)))) else (if p0 = 1540 then ((xs_K_hie u (p1 &&& (1092 : Int32)))) else (if p0 = 1603 then ((xs_K_htval u p1)) else (if p0 = 1604 then (xlt (xf_K_raiseSoft u p1 (4 : Int32) : XH) fun q12 => q12) else (if p0 = 1605 then ((xs_K_hvip u (p1 &&& (1092 : Int32)))) else (if p0 = 1610 then ((xs_K_htinst u p1)) else (if p0 = 1664 then ((xs_K_hgatp u (p1 &&& (-2143289348 : Int32)))) else (xlt (xf_B_write (xg_V u) (p0 - (256 : Int32)) p1 : XB) fun q16 => (xs_V u q16)))))))))))) : XH) fun v3 =>
    v3
  else
    xlt (xf_B_write (xg_S u) p0 p1 : XB) fun q19 =>
    (xs_S u q19)
set_option maxHeartbeats 4000000 in
set_option maxRecDepth 100000 in
theorem c_K_write (l : Launch) (D : va_G) (z : (Nat → Nat) × (Nat → Nat)) (k : ClassId × ClassId) (a : Nat → Nat) (g : XG) (sz : Nat) (u : XH) (hg : xok k g u) (p0 : Int32) (p1 : Int32) : Met l xy_K_write (xk_K_write :: lw_g) { frames := 1, cells := 0, slots := 0, locals := 22 } (va_Pc [.ref ((a 4)), .int p0, .int p1] (xB D (xTy k) z sz (xWH k a g u))) (va_Qv (fun q : XH × XG => q.1 = xf_K_write u p0 p1 ∧ xok k q.2 q.1) (fun q t => xQ D (xTy k) (xWH k a q.2 q.1) (va_A (xWH k a g u) sz) t) (va_A (xWH k a g u) sz)) 0 0 (va_A (xWH k a g u) sz) := by
  refine xopen_v (wf := fun q : XH × XG => xWH k a q.2 q.1) (lv := [(0, .ref ((a 4))), (1, .int p0), (2, .int p1)]) (by decide) rfl (Nat.le_of_ble_eq_true rfl) ?_
  intro p e s m args below meth c Q ls A H locs hx hb hml htg hown hin hK hP hD hE hS hA hl hret
  refine lv_iload_n hx hb xd_K_write_0 rfl (lv_at hl 1 rfl) ?_
  refine xc0_i (va_runS (As := [.int p0]) (rest := []) ⟨hx, hb, hml, hown, htg⟩ (c_K_isOfS l D (xTy k) z H.size p0) (va_cwS 1 htg (xg_S0 xkin_K_isOfS xw_337 xw_338 xw_5) rfl rfl rfl (by decide +kernel) ⟨Nat.le_of_ble_eq_true rfl, Nat.le_of_ble_eq_true rfl⟩) ⟨xB_blind, fun U hU hW => xB_mk va_P0 hK va_D0 hE hS (xsub0 hA hS) hU hW⟩ rfl rfl hl.1 rfl (lv_room (Nat.le_of_ble_eq_true rfl)) xd_K_write_1 ⟨Nat.le_of_ble_eq_true rfl, Nat.le_of_ble_eq_true rfl⟩) hP hA hS (fun r1 H locs hr1 hP hS => ?_)
  refine lv_if_eq (tgt := 17) hx hb xd_K_write_4 rfl (fun h2 => ?_) (fun h2 => ?_)
  · refine lv_iload_n hx hb xd_K_write_17 rfl (lv_at hl 1 rfl) ?_
    have hj4 : ∀ (H : Heap) (locs : List Loc) (ls : Array Slot) (g : XG) (v3 : XH), v3 = (if p0 = 516 then ((xs_K_hie u (((xg_K_hie u) &&& ((xg_K_hideleg u) ^^^ (-1 : Int32))) ||| ((p1 <<< ((1 : Int32) &&& 31)) &&& (xg_K_hideleg u))))) else (if p0 = 580 then (xlt (xf_K_raiseSoft u (p1 <<< ((1 : Int32) &&& 31)) ((4 : Int32) &&& (xg_K_hideleg u)) : XH) fun q5 => q5) else (if p0 = 1536 then ((xs_K_hstatus u (p1 &&& (7340992 : Int32)))) else (if p0 = 1538 then ((xs_K_hedeleg u (p1 &&& (45567 : Int32)))) else (if p0 = 1539 then ((xs_K_hideleg u (p1 &&& (1092 : Int32)))) else (if p0 = 1540 then ((xs_K_hie u (p1 &&& (1092 : Int32)))) else (if p0 = 1603 then ((xs_K_htval u p1)) else (if p0 = 1604 then (xlt (xf_K_raiseSoft u p1 (4 : Int32) : XH) fun q12 => q12) else (if p0 = 1605 then ((xs_K_hvip u (p1 &&& (1092 : Int32)))) else (if p0 = 1610 then ((xs_K_htinst u p1)) else (if p0 = 1664 then ((xs_K_hgatp u (p1 &&& (-2143289348 : Int32)))) else (xlt (xf_B_write (xg_V u) (p0 - (256 : Int32)) p1 : XB) fun q16 => (xs_V u q16))))))))))))) → xok k g v3 → lv_has ls 3 [(0, .ref ((a 4))), (1, .int p0), (2, .int p1)] → va_P D xCl (xWH k a g v3) H → va_D A (xWH k a g v3) → va_S A s.heap H locs → W p l e { frames := 1, cells := 0, slots := 0, locals := 22 } s m args below meth c H locs (0) (0) Q (F0 m 266 ls []) := by
      intro H locs ls g v3 hv3 hg hl hP hD hS
      exact hret (v3, g) H locs ls _ ⟨(by unfold xf_K_write; exact (xlt_e hr1 (xit h2 (xlt_e hv3 rfl)))), hg⟩ hP hD hS xd_K_write_266
    refine (Decidable.em (p0 = 516)).elim (fun h5 => ?_) (fun h5 => ?_)
    · refine lv_lookup (tgt := 116) (off := 98) hx hb xd_K_write_18 (by decide +kernel) (by rw [h5]; decide +kernel) rfl ?_
      refine lv_aload_n hx hb xd_K_write_116 rfl (lv_at hl 0 rfl) ?_
      refine lv_aload_n hx hb xd_K_write_117 rfl (lv_at hl 0 rfl) ?_
      refine xget_K_hie (v := (xg_K_hie u)) hx hb htg hown hK hP (htg _ xw_111) rfl xd_K_write_118 ?_
      refine lv_aload_n hx hb xd_K_write_121 rfl (lv_at hl 0 rfl) ?_
      refine xget_K_hideleg (v := (xg_K_hideleg u)) hx hb htg hown hK hP (htg _ xw_110) rfl xd_K_write_122 ?_
      refine lv_iconst (v := (-1)) hx hb xd_K_write_125 (by decide) ?_
      refine lv_ixor hx hb xd_K_write_126 ?_
      refine lv_iand hx hb xd_K_write_127 ?_
      refine lv_iload_n hx hb xd_K_write_128 rfl (lv_at hl 2 rfl) ?_
      refine lv_iconst (v := 1) hx hb xd_K_write_129 (by decide) ?_
      refine lv_ishl hx hb xd_K_write_130 ?_
      refine lv_aload_n hx hb xd_K_write_131 rfl (lv_at hl 0 rfl) ?_
      refine xget_K_hideleg (v := (xg_K_hideleg u)) hx hb htg hown hK hP (htg _ xw_110) rfl xd_K_write_132 ?_
      refine lv_iand hx hb xd_K_write_135 ?_
      refine lv_ior hx hb xd_K_write_136 ?_
      refine xput_K_hie (v := (((xg_K_hie u) &&& ((xg_K_hideleg u) ^^^ (-1 : Int32))) ||| ((p1 <<< ((1 : Int32) &&& 31)) &&& (xg_K_hideleg u)))) hx hb htg hown hK hP hD hS hg (htg _ xw_111) xd_K_write_137 (fun H locs hP hD hS hg => ?_)
      refine lv_goto (tgt := 266) hx hb xd_K_write_140 rfl ?_
      exact hj4 H locs ls g (xs_K_hie u (((xg_K_hie u) &&& ((xg_K_hideleg u) ^^^ (-1 : Int32))) ||| ((p1 <<< ((1 : Int32) &&& 31)) &&& (xg_K_hideleg u)))) (xit h5 rfl) hg hl hP hD hS
    · refine (Decidable.em (p0 = 580)).elim (fun h6 => ?_) (fun h6 => ?_)
      · refine lv_lookup (tgt := 143) (off := 125) hx hb xd_K_write_18 (by decide +kernel) (by rw [h6]; decide +kernel) rfl ?_
        refine lv_aload_n hx hb xd_K_write_143 rfl (lv_at hl 0 rfl) ?_
        refine lv_iload_n hx hb xd_K_write_144 rfl (lv_at hl 2 rfl) ?_
        refine lv_iconst (v := 1) hx hb xd_K_write_145 (by decide) ?_
        refine lv_ishl hx hb xd_K_write_146 ?_
        refine lv_iconst (v := 4) hx hb xd_K_write_147 (by decide) ?_
        refine lv_aload_n hx hb xd_K_write_148 rfl (lv_at hl 0 rfl) ?_
        refine xget_K_hideleg (v := (xg_K_hideleg u)) hx hb htg hown hK hP (htg _ xw_110) rfl xd_K_write_149 ?_
        refine lv_iand hx hb xd_K_write_152 ?_
        refine xcW_v (va_runV (As := [.int ((p1 <<< ((1 : Int32) &&& 31))), .int (((4 : Int32) &&& (xg_K_hideleg u)))]) (rest := []) ⟨hx, hb, hml, hown, htg⟩ (c_K_raiseSoft l D z k a g H.size u hg (p1 <<< ((1 : Int32) &&& 31)) ((4 : Int32) &&& (xg_K_hideleg u))) (cwV 2 htg (xg_V0 xkin_K_raiseSoft xw_354 xw_356 xsel_K_raiseSoft xw_5) rfl rfl rfl (by decide +kernel) ⟨Nat.le_of_ble_eq_true rfl, Nat.le_of_ble_eq_true rfl⟩) ⟨xB_blind, xrecv_K hK hP, fun U hU hW => xB_mk hP hK hD hE hS (xsubW hD hA hS) hU hW⟩ rfl rfl hl.1 rfl (lv_room (Nat.le_of_ble_eq_true rfl)) xd_K_write_153 ⟨Nat.le_of_ble_eq_true rfl, Nat.le_of_ble_eq_true rfl⟩) hD hA hS (fun w1 H locs hw hP hD hS => ?_)
        obtain ⟨u1, g⟩ := w1
        obtain ⟨q7, hq7⟩ : ∃ q, q = xf_K_raiseSoft u (p1 <<< ((1 : Int32) &&& 31)) ((4 : Int32) &&& (xg_K_hideleg u)) := ⟨_, rfl⟩
        obtain ⟨e2, hg⟩ := hw
        rw [← hq7] at e2
        obtain rfl : q7 = u1 := e2.symm
        have hP : va_P D xCl (xWH k a g q7) H := hP
        have hD : va_D A (xWH k a g q7) := hD
        have hg : xok k g q7 := hg
        refine lv_goto (tgt := 266) hx hb xd_K_write_156 rfl ?_
        exact hj4 H locs ls g q7 (xif h5 (xit h6 (xlt_e hq7 rfl))) hg hl hP hD hS
      · refine (Decidable.em (p0 = 1536)).elim (fun h8 => ?_) (fun h8 => ?_)
        · refine lv_lookup (tgt := 159) (off := 141) hx hb xd_K_write_18 (by decide +kernel) (by rw [h8]; decide +kernel) rfl ?_
          refine lv_aload_n hx hb xd_K_write_159 rfl (lv_at hl 0 rfl) ?_
          refine lv_iload_n hx hb xd_K_write_160 rfl (lv_at hl 2 rfl) ?_
          refine lv_ldc (v := 7340992) hx hb hown (htg _ xw_358) xd_K_write_161 ?_
          refine lv_iand hx hb xd_K_write_163 ?_
          refine xput_K_hstatus (v := (p1 &&& (7340992 : Int32))) hx hb htg hown hK hP hD hS hg (htg _ xw_106) xd_K_write_164 (fun H locs hP hD hS hg => ?_)
          refine lv_goto (tgt := 266) hx hb xd_K_write_167 rfl ?_
          exact hj4 H locs ls g (xs_K_hstatus u (p1 &&& (7340992 : Int32))) (xif h5 (xif h6 (xit h8 rfl))) hg hl hP hD hS
        · refine (Decidable.em (p0 = 1538)).elim (fun h9 => ?_) (fun h9 => ?_)
          · refine lv_lookup (tgt := 170) (off := 152) hx hb xd_K_write_18 (by decide +kernel) (by rw [h9]; decide +kernel) rfl ?_
            refine lv_aload_n hx hb xd_K_write_170 rfl (lv_at hl 0 rfl) ?_
            refine lv_iload_n hx hb xd_K_write_171 rfl (lv_at hl 2 rfl) ?_
            refine lv_ldc (v := 45567) hx hb hown (htg _ xw_359) xd_K_write_172 ?_
            refine lv_iand hx hb xd_K_write_174 ?_
            refine xput_K_hedeleg (v := (p1 &&& (45567 : Int32))) hx hb htg hown hK hP hD hS hg (htg _ xw_108) xd_K_write_175 (fun H locs hP hD hS hg => ?_)
            refine lv_goto (tgt := 266) hx hb xd_K_write_178 rfl ?_
            exact hj4 H locs ls g (xs_K_hedeleg u (p1 &&& (45567 : Int32))) (xif h5 (xif h6 (xif h8 (xit h9 rfl)))) hg hl hP hD hS
          · refine (Decidable.em (p0 = 1539)).elim (fun h10 => ?_) (fun h10 => ?_)
            · refine lv_lookup (tgt := 181) (off := 163) hx hb xd_K_write_18 (by decide +kernel) (by rw [h10]; decide +kernel) rfl ?_
              refine lv_aload_n hx hb xd_K_write_181 rfl (lv_at hl 0 rfl) ?_
              refine lv_iload_n hx hb xd_K_write_182 rfl (lv_at hl 2 rfl) ?_
              refine lv_sipush (v := 1092) hx hb xd_K_write_183 (by decide) ?_
              refine lv_iand hx hb xd_K_write_186 ?_
              refine xput_K_hideleg (v := (p1 &&& (1092 : Int32))) hx hb htg hown hK hP hD hS hg (htg _ xw_110) xd_K_write_187 (fun H locs hP hD hS hg => ?_)
              refine lv_goto (tgt := 266) hx hb xd_K_write_190 rfl ?_
              exact hj4 H locs ls g (xs_K_hideleg u (p1 &&& (1092 : Int32))) (xif h5 (xif h6 (xif h8 (xif h9 (xit h10 rfl))))) hg hl hP hD hS
            · refine (Decidable.em (p0 = 1540)).elim (fun h11 => ?_) (fun h11 => ?_)
              · refine lv_lookup (tgt := 193) (off := 175) hx hb xd_K_write_18 (by decide +kernel) (by rw [h11]; decide +kernel) rfl ?_
                refine lv_aload_n hx hb xd_K_write_193 rfl (lv_at hl 0 rfl) ?_
                refine lv_iload_n hx hb xd_K_write_194 rfl (lv_at hl 2 rfl) ?_
                refine lv_sipush (v := 1092) hx hb xd_K_write_195 (by decide) ?_
                refine lv_iand hx hb xd_K_write_198 ?_
                refine xput_K_hie (v := (p1 &&& (1092 : Int32))) hx hb htg hown hK hP hD hS hg (htg _ xw_111) xd_K_write_199 (fun H locs hP hD hS hg => ?_)
                refine lv_goto (tgt := 266) hx hb xd_K_write_202 rfl ?_
                exact hj4 H locs ls g (xs_K_hie u (p1 &&& (1092 : Int32))) (xif h5 (xif h6 (xif h8 (xif h9 (xif h10 (xit h11 rfl)))))) hg hl hP hD hS
              · refine (Decidable.em (p0 = 1603)).elim (fun h12 => ?_) (fun h12 => ?_)
                · refine lv_lookup (tgt := 205) (off := 187) hx hb xd_K_write_18 (by decide +kernel) (by rw [h12]; decide +kernel) rfl ?_
                  refine lv_aload_n hx hb xd_K_write_205 rfl (lv_at hl 0 rfl) ?_
                  refine lv_iload_n hx hb xd_K_write_206 rfl (lv_at hl 2 rfl) ?_
                  refine xput_K_htval (v := p1) hx hb htg hown hK hP hD hS hg (htg _ xw_112) xd_K_write_207 (fun H locs hP hD hS hg => ?_)
                  refine lv_goto (tgt := 266) hx hb xd_K_write_210 rfl ?_
                  exact hj4 H locs ls g (xs_K_htval u p1) (xif h5 (xif h6 (xif h8 (xif h9 (xif h10 (xif h11 (xit h12 rfl))))))) hg hl hP hD hS
                · refine (Decidable.em (p0 = 1604)).elim (fun h13 => ?_) (fun h13 => ?_)
                  · refine lv_lookup (tgt := 213) (off := 195) hx hb xd_K_write_18 (by decide +kernel) (by rw [h13]; decide +kernel) rfl ?_
                    refine lv_aload_n hx hb xd_K_write_213 rfl (lv_at hl 0 rfl) ?_
                    refine lv_iload_n hx hb xd_K_write_214 rfl (lv_at hl 2 rfl) ?_
                    refine lv_iconst (v := 4) hx hb xd_K_write_215 (by decide) ?_
                    refine xcW_v (va_runV (As := [.int p1, .int 4]) (rest := []) ⟨hx, hb, hml, hown, htg⟩ (c_K_raiseSoft l D z k a g H.size u hg p1 (4 : Int32)) (cwV 2 htg (xg_V0 xkin_K_raiseSoft xw_354 xw_356 xsel_K_raiseSoft xw_5) rfl rfl rfl (by decide +kernel) ⟨Nat.le_of_ble_eq_true rfl, Nat.le_of_ble_eq_true rfl⟩) ⟨xB_blind, xrecv_K hK hP, fun U hU hW => xB_mk hP hK hD hE hS (xsubW hD hA hS) hU hW⟩ rfl rfl hl.1 rfl (lv_room (Nat.le_of_ble_eq_true rfl)) xd_K_write_216 ⟨Nat.le_of_ble_eq_true rfl, Nat.le_of_ble_eq_true rfl⟩) hD hA hS (fun w1 H locs hw hP hD hS => ?_)
                    obtain ⟨u1, g⟩ := w1
                    obtain ⟨q14, hq14⟩ : ∃ q, q = xf_K_raiseSoft u p1 (4 : Int32) := ⟨_, rfl⟩
                    obtain ⟨e2, hg⟩ := hw
                    rw [← hq14] at e2
                    obtain rfl : q14 = u1 := e2.symm
                    have hP : va_P D xCl (xWH k a g q14) H := hP
                    have hD : va_D A (xWH k a g q14) := hD
                    have hg : xok k g q14 := hg
                    refine lv_goto (tgt := 266) hx hb xd_K_write_219 rfl ?_
                    exact hj4 H locs ls g q14 (xif h5 (xif h6 (xif h8 (xif h9 (xif h10 (xif h11 (xif h12 (xit h13 (xlt_e hq14 rfl))))))))) hg hl hP hD hS
                  · refine (Decidable.em (p0 = 1605)).elim (fun h15 => ?_) (fun h15 => ?_)
                    · refine lv_lookup (tgt := 222) (off := 204) hx hb xd_K_write_18 (by decide +kernel) (by rw [h15]; decide +kernel) rfl ?_
                      refine lv_aload_n hx hb xd_K_write_222 rfl (lv_at hl 0 rfl) ?_
                      refine lv_iload_n hx hb xd_K_write_223 rfl (lv_at hl 2 rfl) ?_
                      refine lv_sipush (v := 1092) hx hb xd_K_write_224 (by decide) ?_
                      refine lv_iand hx hb xd_K_write_227 ?_
                      refine xput_K_hvip (v := (p1 &&& (1092 : Int32))) hx hb htg hown hK hP hD hS hg (htg _ xw_113) xd_K_write_228 (fun H locs hP hD hS hg => ?_)
                      refine lv_goto (tgt := 266) hx hb xd_K_write_231 rfl ?_
                      exact hj4 H locs ls g (xs_K_hvip u (p1 &&& (1092 : Int32))) (xif h5 (xif h6 (xif h8 (xif h9 (xif h10 (xif h11 (xif h12 (xif h13 (xit h15 rfl))))))))) hg hl hP hD hS
                    · refine (Decidable.em (p0 = 1610)).elim (fun h16 => ?_) (fun h16 => ?_)
                      · refine lv_lookup (tgt := 234) (off := 216) hx hb xd_K_write_18 (by decide +kernel) (by rw [h16]; decide +kernel) rfl ?_
                        refine lv_aload_n hx hb xd_K_write_234 rfl (lv_at hl 0 rfl) ?_
                        refine lv_iload_n hx hb xd_K_write_235 rfl (lv_at hl 2 rfl) ?_
                        refine xput_K_htinst (v := p1) hx hb htg hown hK hP hD hS hg (htg _ xw_114) xd_K_write_236 (fun H locs hP hD hS hg => ?_)
                        refine lv_goto (tgt := 266) hx hb xd_K_write_239 rfl ?_
                        exact hj4 H locs ls g (xs_K_htinst u p1) (xif h5 (xif h6 (xif h8 (xif h9 (xif h10 (xif h11 (xif h12 (xif h13 (xif h15 (xit h16 rfl)))))))))) hg hl hP hD hS
                      · refine (Decidable.em (p0 = 1664)).elim (fun h17 => ?_) (fun h17 => ?_)
                        · refine lv_lookup (tgt := 242) (off := 224) hx hb xd_K_write_18 (by decide +kernel) (by rw [h17]; decide +kernel) rfl ?_
                          refine lv_aload_n hx hb xd_K_write_242 rfl (lv_at hl 0 rfl) ?_
                          refine lv_iload_n hx hb xd_K_write_243 rfl (lv_at hl 2 rfl) ?_
                          refine lv_ldc (v := (-2143289348)) hx hb hown (htg _ xw_360) xd_K_write_244 ?_
                          refine lv_iand hx hb xd_K_write_246 ?_
                          refine xput_K_hgatp (v := (p1 &&& (-2143289348 : Int32))) hx hb htg hown hK hP hD hS hg (htg _ xw_115) xd_K_write_247 (fun H locs hP hD hS hg => ?_)
                          refine lv_goto (tgt := 266) hx hb xd_K_write_250 rfl ?_
                          exact hj4 H locs ls g (xs_K_hgatp u (p1 &&& (-2143289348 : Int32))) (xif h5 (xif h6 (xif h8 (xif h9 (xif h10 (xif h11 (xif h12 (xif h13 (xif h15 (xif h16 (xit h17 rfl))))))))))) hg hl hP hD hS
                        · refine lv_lookup (tgt := 253) (off := 235) hx hb xd_K_write_18 (by decide +kernel) (by first | (rw [lv_osw h5 (by decide), lv_osw h6 (by decide), lv_osw h8 (by decide), lv_osw h9 (by decide), lv_osw h10 (by decide), lv_osw h11 (by decide), lv_osw h12 (by decide), lv_osw h13 (by decide), lv_osw h15 (by decide), lv_osw h16 (by decide), lv_osw h17 (by decide)]; rfl) | (simp only [lv_osw h5 (by decide), lv_osw h6 (by decide), lv_osw h8 (by decide), lv_osw h9 (by decide), lv_osw h10 (by decide), lv_osw h11 (by decide), lv_osw h12 (by decide), lv_osw h13 (by decide), lv_osw h15 (by decide), lv_osw h16 (by decide), lv_osw h17 (by decide)]; rfl)) rfl ?_
                          refine lv_aload_n hx hb xd_K_write_253 rfl (lv_at hl 0 rfl) ?_
                          refine xget_K_vs hx hb htg hown hK hP (htg _ xw_103) xd_K_write_254 ?_
                          refine lv_iload_n hx hb xd_K_write_257 rfl (lv_at hl 1 rfl) ?_
                          refine lv_sipush (v := 256) hx hb xd_K_write_258 (by decide) ?_
                          refine lv_isub hx hb xd_K_write_261 ?_
                          refine lv_iload_n hx hb xd_K_write_262 rfl (lv_at hl 2 rfl) ?_
                          refine xcb_V_v (b0 := (xg_V u)) rfl (va_runV (As := [.int ((p0 - (256 : Int32))), .int p1]) (rest := []) ⟨hx, hb, hml, hown, htg⟩ (c_B_write l D (xTy k) z H.size (a 6) (xg_V u) (p0 - (256 : Int32)) p1) (cwV 2 htg (xg_V0 xkin_B_write xw_348 xw_349 xsel_B_write xw_6) rfl rfl rfl (by decide +kernel) ⟨Nat.le_of_ble_eq_true rfl, Nat.le_of_ble_eq_true rfl⟩) ⟨xB_blind, xrecv_V hK hP, fun U hU hW => xpre_V hP hK hD hE hS hA hU hW⟩ rfl rfl hl.1 rfl (lv_room (Nat.le_of_ble_eq_true rfl)) xd_K_write_263 ⟨Nat.le_of_ble_eq_true rfl, Nat.le_of_ble_eq_true rfl⟩) hP hD hA hS (fun u1 H locs hw hP hD hS => ?_)
                          obtain ⟨q18, hq18⟩ : ∃ q, q = xf_B_write (xg_V u) (p0 - (256 : Int32)) p1 := ⟨_, rfl⟩
                          rw [← hq18] at hw
                          obtain rfl : q18 = u1 := hw.symm
                          have hg := xok_V (b := q18) hg
                          exact hj4 H locs ls g (xs_V u q18) (xif h5 (xif h6 (xif h8 (xif h9 (xif h10 (xif h11 (xif h12 (xif h13 (xif h15 (xif h16 (xif h17 (xlt_e hq18 rfl)))))))))))) hg hl hP hD hS
  · refine lv_aload_n hx hb xd_K_write_7 rfl (lv_at hl 0 rfl) ?_
    refine xget_K_s hx hb htg hown hK hP (htg _ xw_100) xd_K_write_8 ?_
    refine lv_iload_n hx hb xd_K_write_11 rfl (lv_at hl 1 rfl) ?_
    refine lv_iload_n hx hb xd_K_write_12 rfl (lv_at hl 2 rfl) ?_
    refine xcb_S_v (b0 := (xg_S u)) rfl (va_runV (As := [.int p0, .int p1]) (rest := []) ⟨hx, hb, hml, hown, htg⟩ (c_B_write l D (xTy k) z H.size (a 5) (xg_S u) p0 p1) (cwV 2 htg (xg_V0 xkin_B_write xw_348 xw_349 xsel_B_write xw_6) rfl rfl rfl (by decide +kernel) ⟨Nat.le_of_ble_eq_true rfl, Nat.le_of_ble_eq_true rfl⟩) ⟨xB_blind, xrecv_S hK hP, fun U hU hW => xpre_S hP hK hD hE hS hA hU hW⟩ rfl rfl hl.1 rfl (lv_room (Nat.le_of_ble_eq_true rfl)) xd_K_write_13 ⟨Nat.le_of_ble_eq_true rfl, Nat.le_of_ble_eq_true rfl⟩) hP hD hA hS (fun u1 H locs hw hP hD hS => ?_)
    obtain ⟨q19, hq19⟩ : ∃ q, q = xf_B_write (xg_S u) p0 p1 := ⟨_, rfl⟩
    rw [← hq19] at hw
    obtain rfl : q19 = u1 := hw.symm
    have hg := xok_S (b := q19) hg
    exact hret ((xs_S u q19), g) H locs ls _ ⟨(by unfold xf_K_write; exact (xlt_e hr1 (xif h2 (xlt_e hq19 rfl)))), hg⟩ hP hD hS xd_K_write_16

noncomputable def xf_C_endStep (u : XH) : XH :=
  xlt (if (xg_P_cause u) = (-1) then ((xs_C_pc u (xg_C_next u))) else (xlt (xf_C_takeTrap u : XH) fun q2 => q2) : XH) fun v1 =>
  (xs_K_time v1 ((xg_K_time v1) + (1 : Int64)))
set_option maxHeartbeats 4000000 in
set_option maxRecDepth 100000 in
theorem c_C_endStep (l : Launch) (D : va_G) (z : (Nat → Nat) × (Nat → Nat)) (k : ClassId × ClassId) (a : Nat → Nat) (g : XG) (sz : Nat) (u : XH) (hg : xok k g u) : Met l xy_C_endStep (xk_C_endStep :: lw_g) { frames := 3, cells := 0, slots := 0, locals := 63 } (va_Pc [.ref ((a 1))] (xB D (xTy k) z sz (xWH k a g u))) (va_Qv (fun q : XH × XG => q.1 = xf_C_endStep u ∧ xok k q.2 q.1) (fun q t => xQ D (xTy k) (xWH k a q.2 q.1) (va_A (xWH k a g u) sz) t) (va_A (xWH k a g u) sz)) 0 0 (va_A (xWH k a g u) sz) := by
  refine xopen_v (wf := fun q : XH × XG => xWH k a q.2 q.1) (lv := [(0, .ref ((a 1)))]) (by decide) rfl (Nat.le_of_ble_eq_true rfl) ?_
  intro p e s m args below meth c Q ls A H locs hx hb hml htg hown hin hK hP hD hE hS hA hl hret
  refine lv_aload_n hx hb xd_C_endStep_0 rfl (lv_at hl 0 rfl) ?_
  refine xget_C_trap hx hb htg hown hK hP (htg _ xw_208) xd_C_endStep_1 ?_
  refine xget_P_cause (v := (xg_P_cause u)) hx hb htg hown hK hP (htg _ xw_159) rfl xd_C_endStep_4 ?_
  refine lv_iconst (v := (-1)) hx hb xd_C_endStep_7 (by decide) ?_
  have hj2 : ∀ (H : Heap) (locs : List Loc) (ls : Array Slot) (g : XG) (v1 : XH), v1 = (if (xg_P_cause u) = (-1) then ((xs_C_pc u (xg_C_next u))) else (xlt (xf_C_takeTrap u : XH) fun q2 => q2)) → xok k g v1 → lv_has ls 1 [(0, .ref ((a 1)))] → va_P D xCl (xWH k a g v1) H → va_D A (xWH k a g v1) → va_S A s.heap H locs → W p l e { frames := 3, cells := 0, slots := 0, locals := 63 } s m args below meth c H locs (0) (0) Q (F0 m 26 ls []) := by
    intro H locs ls g v1 hv1 hg hl hP hD hS
    refine lv_aload_n hx hb xd_C_endStep_26 rfl (lv_at hl 0 rfl) ?_
    refine xget_C_controls hx hb htg hown hK hP (htg _ xw_206) xd_C_endStep_27 ?_
    refine lv_dup hx hb xd_C_endStep_30 rfl ?_
    refine xget_K_time (v := (xg_K_time v1)) hx hb htg hown hK hP (htg _ xw_118) rfl xd_C_endStep_31 ?_
    refine lv_lconst (v := 1) hx hb xd_C_endStep_34 (by decide) ?_
    refine lv_ladd hx hb xd_C_endStep_35 ?_
    refine xput_K_time (v := ((xg_K_time v1) + (1 : Int64))) hx hb htg hown hK hP hD hS hg (htg _ xw_118) xd_C_endStep_36 (fun H locs hP hD hS hg => ?_)
    exact hret ((xs_K_time v1 ((xg_K_time v1) + (1 : Int64))), g) H locs ls _ ⟨(by unfold xf_C_endStep; exact (xlt_e hv1 rfl)), hg⟩ hP hD hS xd_C_endStep_39
  refine lv_icmp_ne (tgt := 22) hx hb xd_C_endStep_8 rfl (fun h3 => ?_) (fun h3 => ?_)
  · refine lv_aload_n hx hb xd_C_endStep_22 rfl (lv_at hl 0 rfl) ?_
    refine xcW_v (va_runV (As := []) (rest := []) ⟨hx, hb, hml, hown, htg⟩ (c_C_takeTrap l D z k a g H.size u hg) (cwV 0 htg (xg_V0 xkin_C_takeTrap xw_677 xw_679 xsel_C_takeTrap xw_2) rfl rfl rfl (by decide +kernel) ⟨Nat.le_of_ble_eq_true rfl, Nat.le_of_ble_eq_true rfl⟩) ⟨xB_blind, xrecv_C hK hP, fun U hU hW => xB_mk hP hK hD hE hS (xsubW hD hA hS) hU hW⟩ rfl rfl hl.1 rfl (lv_room (Nat.le_of_ble_eq_true rfl)) xd_C_endStep_23 ⟨Nat.le_of_ble_eq_true rfl, Nat.le_of_ble_eq_true rfl⟩) hD hA hS (fun w1 H locs hw hP hD hS => ?_)
    obtain ⟨u1, g⟩ := w1
    obtain ⟨q4, hq4⟩ : ∃ q, q = xf_C_takeTrap u := ⟨_, rfl⟩
    obtain ⟨e2, hg⟩ := hw
    rw [← hq4] at e2
    obtain rfl : q4 = u1 := e2.symm
    have hP : va_P D xCl (xWH k a g q4) H := hP
    have hD : va_D A (xWH k a g q4) := hD
    have hg : xok k g q4 := hg
    exact hj2 H locs ls g q4 (xif h3 (xlt_e hq4 rfl)) hg hl hP hD hS
  · refine lv_aload_n hx hb xd_C_endStep_11 rfl (lv_at hl 0 rfl) ?_
    refine lv_aload_n hx hb xd_C_endStep_12 rfl (lv_at hl 0 rfl) ?_
    refine xget_C_next (v := (xg_C_next u)) hx hb htg hown hK hP (htg _ xw_223) rfl xd_C_endStep_13 ?_
    refine xput_C_pc (v := (xg_C_next u)) hx hb htg hown hK hP hD hS hg (htg _ xw_211) xd_C_endStep_16 (fun H locs hP hD hS hg => ?_)
    refine lv_goto (tgt := 26) hx hb xd_C_endStep_19 rfl ?_
    exact hj2 H locs ls g (xs_C_pc u (xg_C_next u)) (xit h3 rfl) hg hl hP hD hS

noncomputable def xf_C_controlOp (u : XH) (p0 : Int32) : XH :=
  xlt (xf_D_a (xg_C_word u) : Int32) fun r1 =>
  xlt (if (p0 &&& (3 : Int32)) = 1 then (1) else (if r1 = 0 then (0) else (1)) : Int32) fun v2 =>
  xlt (xf_K_refusal u (xus (xg_C_word u) (20 : Int32)) v2 (xg_C_mode u) : Int32) fun q4 =>
  if q4 = (-1) then
    xlt (xf_K_meant (xus (xg_C_word u) (20 : Int32)) (xg_C_mode u) : Int32) fun r6 =>
    xlt (xf_K_tell u r6 : Int32) fun q7 =>
    xlt (if p0 ≤ 4 then (((xg_x u) r1.toNatClampNeg)) else (r1) : Int32) fun v8 =>
    xlt (if v2 = 0 then (u) else (xlt (xf_C_changed (p0 &&& (3 : Int32)) q7 v8 : Int32) fun r11 => xlt (xf_K_write u r6 r11 : XH) fun q12 => q12) : XH) fun v10 =>
    xlt (xf_D_d (xg_C_word v10) : Int32) fun r12 =>
    xlt (xf_C_put v10 r12 q7 : XH) fun q13 =>
    q13
  else
    xlt (xf_C_refuse u q4 : XH) fun q18 =>
    q18
set_option maxHeartbeats 4000000 in
set_option maxRecDepth 100000 in
theorem c_C_controlOp (l : Launch) (D : va_G) (z : (Nat → Nat) × (Nat → Nat)) (k : ClassId × ClassId) (a : Nat → Nat) (g : XG) (sz : Nat) (u : XH) (hg : xok k g u) (p0 : Int32) : Met l xy_C_controlOp (xk_C_controlOp :: lw_g) { frames := 2, cells := 0, slots := 0, locals := 44 } (va_Pc [.ref ((a 1)), .int p0] (xB D (xTy k) z sz (xWH k a g u))) (va_Qv (fun q : XH × XG => q.1 = xf_C_controlOp u p0 ∧ xok k q.2 q.1) (fun q t => xQ D (xTy k) (xWH k a q.2 q.1) (va_A (xWH k a g u) sz) t) (va_A (xWH k a g u) sz)) 0 0 (va_A (xWH k a g u) sz) := by
  refine xopen_v (wf := fun q : XH × XG => xWH k a q.2 q.1) (lv := [(0, .ref ((a 1))), (1, .int p0)]) (by decide) rfl (Nat.le_of_ble_eq_true rfl) ?_
  intro p e s m args below meth c Q ls A H locs hx hb hml htg hown hin hK hP hD hE hS hA hl hret
  refine lv_aload_n hx hb xd_C_controlOp_0 rfl (lv_at hl 0 rfl) ?_
  refine xget_C_word (v := (xg_C_word u)) hx hb htg hown hK hP (htg _ xw_224) rfl xd_C_controlOp_1 ?_
  refine xc0_i (va_runS (As := [.int ((xg_C_word u))]) (rest := []) ⟨hx, hb, hml, hown, htg⟩ (c_D_a l D (xTy k) z H.size (xg_C_word u)) (va_cwS 1 htg (xg_S0 xkin_D_a xw_513 xw_514 xw_13) rfl rfl rfl (by decide +kernel) ⟨Nat.le_of_ble_eq_true rfl, Nat.le_of_ble_eq_true rfl⟩) ⟨xB_blind, fun U hU hW => xB_mk va_P0 hK va_D0 hE hS (xsub0 hA hS) hU hW⟩ rfl rfl hl.1 rfl (lv_room (Nat.le_of_ble_eq_true rfl)) xd_C_controlOp_4 ⟨Nat.le_of_ble_eq_true rfl, Nat.le_of_ble_eq_true rfl⟩) hP hA hS (fun r1 H locs hr1 hP hS => ?_)
  refine lv_istore_n (lv' := [(2, .int r1), (0, .ref ((a 1))), (1, .int p0)]) hx hb xd_C_controlOp_7 rfl hl (by decide) rfl (fun ls hl => ?_)
  refine lv_aload_n hx hb xd_C_controlOp_8 rfl (lv_at hl 1 rfl) ?_
  refine xget_C_word (v := (xg_C_word u)) hx hb htg hown hK hP (htg _ xw_224) rfl xd_C_controlOp_9 ?_
  refine lv_bipush (v := 20) hx hb xd_C_controlOp_12 (by decide) ?_
  refine lv_iushr (v := (xus (xg_C_word u) (20 : Int32))) hx hb xd_C_controlOp_14 rfl ?_
  refine lv_istore_n (lv' := [(3, .int ((xus (xg_C_word u) (20 : Int32)))), (2, .int r1), (0, .ref ((a 1))), (1, .int p0)]) hx hb xd_C_controlOp_15 rfl hl (by decide) rfl (fun ls hl => ?_)
  refine lv_iload_n hx hb xd_C_controlOp_16 rfl (lv_at hl 3 rfl) ?_
  refine lv_iconst (v := 3) hx hb xd_C_controlOp_17 (by decide) ?_
  refine lv_iand hx hb xd_C_controlOp_18 ?_
  refine lv_iconst (v := 1) hx hb xd_C_controlOp_19 (by decide) ?_
  have hj3 : ∀ (H : Heap) (locs : List Loc) (ls : Array Slot) (g : XG) (v2 : Int32), v2 = (if (p0 &&& (3 : Int32)) = 1 then (1) else (if r1 = 0 then (0) else (1))) → xok k g u → lv_has ls 9 [(3, .int ((xus (xg_C_word u) (20 : Int32)))), (2, .int r1), (0, .ref ((a 1))), (1, .int p0)] → va_P D xCl (xWH k a g u) H → va_D A (xWH k a g u) → va_S A s.heap H locs → W p l e { frames := 2, cells := 0, slots := 0, locals := 44 } s m args below meth c H locs (0) (0) Q (F0 m 32 ls [.int v2]) := by
    intro H locs ls g v2 hv2 hg hl hP hD hS
    refine lv_istore (lv' := [(4, .int v2), (3, .int ((xus (xg_C_word u) (20 : Int32)))), (2, .int r1), (0, .ref ((a 1))), (1, .int p0)]) hx hb xd_C_controlOp_32 hl (by decide) rfl (fun ls hl => ?_)
    refine lv_aload_n hx hb xd_C_controlOp_34 rfl (lv_at hl 3 rfl) ?_
    refine xget_C_controls hx hb htg hown hK hP (htg _ xw_206) xd_C_controlOp_35 ?_
    refine lv_iload_n hx hb xd_C_controlOp_38 rfl (lv_at hl 1 rfl) ?_
    refine lv_iload hx hb xd_C_controlOp_39 (lv_at hl 0 rfl) ?_
    refine lv_aload_n hx hb xd_C_controlOp_41 rfl (lv_at hl 3 rfl) ?_
    refine xget_C_mode (v := (xg_C_mode u)) hx hb htg hown hK hP (htg _ xw_213) rfl xd_C_controlOp_42 ?_
    refine xcW_i (va_runV (As := [.int ((xus (xg_C_word u) (20 : Int32))), .int v2, .int ((xg_C_mode u))]) (rest := []) ⟨hx, hb, hml, hown, htg⟩ (c_K_refusal l D z k a g H.size u hg (xus (xg_C_word u) (20 : Int32)) v2 (xg_C_mode u)) (cwV 3 htg (xg_V0 xkin_K_refusal xw_664 xw_334 xsel_K_refusal xw_5) rfl rfl rfl (by decide +kernel) ⟨Nat.le_of_ble_eq_true rfl, Nat.le_of_ble_eq_true rfl⟩) ⟨xB_blind, xrecv_K hK hP, fun U hU hW => xB_mk hP hK hD hE hS (xsubW hD hA hS) hU hW⟩ rfl rfl hl.1 rfl (lv_room (Nat.le_of_ble_eq_true rfl)) xd_C_controlOp_45 ⟨Nat.le_of_ble_eq_true rfl, Nat.le_of_ble_eq_true rfl⟩) hD hA hS (fun r w1 H locs hw hP hD hS => ?_)
    obtain ⟨u1, g⟩ := w1
    obtain ⟨q4, hq4⟩ : ∃ q, q = xf_K_refusal u (xus (xg_C_word u) (20 : Int32)) v2 (xg_C_mode u) := ⟨_, rfl⟩
    obtain ⟨e1, e2, hg⟩ := hw
    rw [← hq4] at e1
    obtain rfl : q4 = r := e1.symm
    obtain rfl : u = u1 := e2.symm
    have hP : va_P D xCl (xWH k a g u) H := hP
    have hD : va_D A (xWH k a g u) := hD
    have hg : xok k g u := hg
    refine lv_istore (lv' := [(5, .int q4), (4, .int v2), (3, .int ((xus (xg_C_word u) (20 : Int32)))), (2, .int r1), (0, .ref ((a 1))), (1, .int p0)]) hx hb xd_C_controlOp_48 hl (by decide) rfl (fun ls hl => ?_)
    refine lv_iload hx hb xd_C_controlOp_50 (lv_at hl 0 rfl) ?_
    refine lv_iconst (v := (-1)) hx hb xd_C_controlOp_52 (by decide) ?_
    refine lv_icmp_eq (tgt := 63) hx hb xd_C_controlOp_53 rfl (fun h5 => ?_) (fun h5 => ?_)
    · refine lv_iload_n hx hb xd_C_controlOp_63 rfl (lv_at hl 2 rfl) ?_
      refine lv_aload_n hx hb xd_C_controlOp_64 rfl (lv_at hl 4 rfl) ?_
      refine xget_C_mode (v := (xg_C_mode u)) hx hb htg hown hK hP (htg _ xw_213) rfl xd_C_controlOp_65 ?_
      refine xc0_i (va_runS (As := [.int ((xus (xg_C_word u) (20 : Int32))), .int ((xg_C_mode u))]) (rest := []) ⟨hx, hb, hml, hown, htg⟩ (c_K_meant l D (xTy k) z H.size (xus (xg_C_word u) (20 : Int32)) (xg_C_mode u)) (va_cwS 2 htg (xg_S0 xkin_K_meant xw_665 xw_666 xw_5) rfl rfl rfl (by decide +kernel) ⟨Nat.le_of_ble_eq_true rfl, Nat.le_of_ble_eq_true rfl⟩) ⟨xB_blind, fun U hU hW => xB_mk va_P0 hK va_D0 hE hS (xsub0 hA hS) hU hW⟩ rfl rfl hl.1 rfl (lv_room (Nat.le_of_ble_eq_true rfl)) xd_C_controlOp_68 ⟨Nat.le_of_ble_eq_true rfl, Nat.le_of_ble_eq_true rfl⟩) hP hA hS (fun r6 H locs hr6 hP hS => ?_)
      refine lv_istore (lv' := [(6, .int r6), (5, .int q4), (4, .int v2), (3, .int ((xus (xg_C_word u) (20 : Int32)))), (2, .int r1), (0, .ref ((a 1))), (1, .int p0)]) hx hb xd_C_controlOp_71 hl (by decide) rfl (fun ls hl => ?_)
      refine lv_aload_n hx hb xd_C_controlOp_73 rfl (lv_at hl 5 rfl) ?_
      refine xget_C_controls hx hb htg hown hK hP (htg _ xw_206) xd_C_controlOp_74 ?_
      refine lv_iload hx hb xd_C_controlOp_77 (lv_at hl 0 rfl) ?_
      refine xcW_i (va_runV (As := [.int r6]) (rest := []) ⟨hx, hb, hml, hown, htg⟩ (c_K_tell l D z k a g H.size u hg r6) (cwV 1 htg (xg_V0 xkin_K_tell xw_668 xw_366 xsel_K_tell xw_5) rfl rfl rfl (by decide +kernel) ⟨Nat.le_of_ble_eq_true rfl, Nat.le_of_ble_eq_true rfl⟩) ⟨xB_blind, xrecv_K hK hP, fun U hU hW => xB_mk hP hK hD hE hS (xsubW hD hA hS) hU hW⟩ rfl rfl hl.1 rfl (lv_room (Nat.le_of_ble_eq_true rfl)) xd_C_controlOp_79 ⟨Nat.le_of_ble_eq_true rfl, Nat.le_of_ble_eq_true rfl⟩) hD hA hS (fun r w1 H locs hw hP hD hS => ?_)
      obtain ⟨u1, g⟩ := w1
      obtain ⟨q7, hq7⟩ : ∃ q, q = xf_K_tell u r6 := ⟨_, rfl⟩
      obtain ⟨e1, e2, hg⟩ := hw
      rw [← hq7] at e1
      obtain rfl : q7 = r := e1.symm
      obtain rfl : u = u1 := e2.symm
      have hP : va_P D xCl (xWH k a g u) H := hP
      have hD : va_D A (xWH k a g u) := hD
      have hg : xok k g u := hg
      refine lv_istore (lv' := [(7, .int q7), (6, .int r6), (5, .int q4), (4, .int v2), (3, .int ((xus (xg_C_word u) (20 : Int32)))), (2, .int r1), (0, .ref ((a 1))), (1, .int p0)]) hx hb xd_C_controlOp_82 hl (by decide) rfl (fun ls hl => ?_)
      refine lv_iload_n hx hb xd_C_controlOp_84 rfl (lv_at hl 7 rfl) ?_
      refine lv_iconst (v := 4) hx hb xd_C_controlOp_85 (by decide) ?_
      have hj9 : ∀ (H : Heap) (locs : List Loc) (ls : Array Slot) (g : XG) (v8 : Int32), v8 = (if p0 ≤ 4 then (((xg_x u) r1.toNatClampNeg)) else (r1)) → xok k g u → lv_has ls 9 [(7, .int q7), (6, .int r6), (5, .int q4), (4, .int v2), (3, .int ((xus (xg_C_word u) (20 : Int32)))), (2, .int r1), (0, .ref ((a 1))), (1, .int p0)] → va_P D xCl (xWH k a g u) H → va_D A (xWH k a g u) → va_S A s.heap H locs → W p l e { frames := 2, cells := 0, slots := 0, locals := 44 } s m args below meth c H locs (0) (0) Q (F0 m 99 ls [.int v8]) := by
        intro H locs ls g v8 hv8 hg hl hP hD hS
        refine lv_istore (lv' := [(8, .int v8), (7, .int q7), (6, .int r6), (5, .int q4), (4, .int v2), (3, .int ((xus (xg_C_word u) (20 : Int32)))), (2, .int r1), (0, .ref ((a 1))), (1, .int p0)]) hx hb xd_C_controlOp_99 hl (by decide) rfl (fun ls hl => ?_)
        refine lv_iload hx hb xd_C_controlOp_101 (lv_at hl 4 rfl) ?_
        have hj11 : ∀ (H : Heap) (locs : List Loc) (ls : Array Slot) (g : XG) (v10 : XH), v10 = (if v2 = 0 then (u) else (xlt (xf_C_changed (p0 &&& (3 : Int32)) q7 v8 : Int32) fun r11 => xlt (xf_K_write u r6 r11 : XH) fun q12 => q12)) → xok k g v10 → lv_has ls 9 [(8, .int v8), (7, .int q7), (6, .int r6), (5, .int q4), (4, .int v2), (3, .int ((xus (xg_C_word u) (20 : Int32)))), (2, .int r1), (0, .ref ((a 1))), (1, .int p0)] → va_P D xCl (xWH k a g v10) H → va_D A (xWH k a g v10) → va_S A s.heap H locs → W p l e { frames := 2, cells := 0, slots := 0, locals := 44 } s m args below meth c H locs (0) (0) Q (F0 m 125 ls []) := by
          intro H locs ls g v10 hv10 hg hl hP hD hS
          refine lv_aload_n hx hb xd_C_controlOp_125 rfl (lv_at hl 7 rfl) ?_
          refine lv_aload_n hx hb xd_C_controlOp_126 rfl (lv_at hl 7 rfl) ?_
          refine xget_C_word (v := (xg_C_word v10)) hx hb htg hown hK hP (htg _ xw_224) rfl xd_C_controlOp_127 ?_
          refine xc0_i (va_runS (As := [.int ((xg_C_word v10))]) (rest := [.ref ((a 1))]) ⟨hx, hb, hml, hown, htg⟩ (c_D_d l D (xTy k) z H.size (xg_C_word v10)) (va_cwS 1 htg (xg_S0 xkin_D_d xw_529 xw_530 xw_13) rfl rfl rfl (by decide +kernel) ⟨Nat.le_of_ble_eq_true rfl, Nat.le_of_ble_eq_true rfl⟩) ⟨xB_blind, fun U hU hW => xB_mk va_P0 hK va_D0 hE hS (xsub0 hA hS) hU hW⟩ rfl rfl hl.1 rfl (lv_room (Nat.le_of_ble_eq_true rfl)) xd_C_controlOp_130 ⟨Nat.le_of_ble_eq_true rfl, Nat.le_of_ble_eq_true rfl⟩) hP hA hS (fun r12 H locs hr12 hP hS => ?_)
          refine lv_iload hx hb xd_C_controlOp_133 (lv_at hl 1 rfl) ?_
          refine xcW_v (va_runV (As := [.int r12, .int q7]) (rest := []) ⟨hx, hb, hml, hown, htg⟩ (c_C_put l D z k a g H.size v10 hg r12 q7 (xin_eq hr12 (xin_d _))) (cwV 2 htg (xg_V0 xkin_C_put xw_533 xw_322 xsel_C_put xw_2) rfl rfl rfl (by decide +kernel) ⟨Nat.le_of_ble_eq_true rfl, Nat.le_of_ble_eq_true rfl⟩) ⟨xB_blind, xrecv_C hK hP, fun U hU hW => xB_mk hP hK hD hE hS (xsubW hD hA hS) hU hW⟩ rfl rfl hl.1 rfl (lv_room (Nat.le_of_ble_eq_true rfl)) xd_C_controlOp_135 ⟨Nat.le_of_ble_eq_true rfl, Nat.le_of_ble_eq_true rfl⟩) hD hA hS (fun w1 H locs hw hP hD hS => ?_)
          obtain ⟨u1, g⟩ := w1
          obtain ⟨q13, hq13⟩ : ∃ q, q = xf_C_put v10 r12 q7 := ⟨_, rfl⟩
          obtain ⟨e2, hg⟩ := hw
          rw [← hq13] at e2
          obtain rfl : q13 = u1 := e2.symm
          have hP : va_P D xCl (xWH k a g q13) H := hP
          have hD : va_D A (xWH k a g q13) := hD
          have hg : xok k g q13 := hg
          exact hret (q13, g) H locs ls _ ⟨(by unfold xf_C_controlOp; exact (xlt_e hr1 (xlt_e hv2 (xlt_e hq4 (xit h5 (xlt_e hr6 (xlt_e hq7 (xlt_e hv8 (xlt_e hv10 (xlt_e hr12 (xlt_e hq13 rfl))))))))))), hg⟩ hP hD hS xd_C_controlOp_138
        refine lv_if_eq (tgt := 125) hx hb xd_C_controlOp_103 rfl (fun h14 => ?_) (fun h14 => ?_)
        · exact hj11 H locs ls g u (xit h14 rfl) hg hl hP hD hS
        · refine lv_aload_n hx hb xd_C_controlOp_106 rfl (lv_at hl 7 rfl) ?_
          refine xget_C_controls hx hb htg hown hK hP (htg _ xw_206) xd_C_controlOp_107 ?_
          refine lv_iload hx hb xd_C_controlOp_110 (lv_at hl 2 rfl) ?_
          refine lv_iload_n hx hb xd_C_controlOp_112 rfl (lv_at hl 8 rfl) ?_
          refine lv_iconst (v := 3) hx hb xd_C_controlOp_113 (by decide) ?_
          refine lv_iand hx hb xd_C_controlOp_114 ?_
          refine lv_iload hx hb xd_C_controlOp_115 (lv_at hl 1 rfl) ?_
          refine lv_iload hx hb xd_C_controlOp_117 (lv_at hl 0 rfl) ?_
          refine xc0_i (va_runS (As := [.int ((p0 &&& (3 : Int32))), .int q7, .int v8]) (rest := [.int r6, .ref ((a 4))]) ⟨hx, hb, hml, hown, htg⟩ (c_C_changed l D (xTy k) z H.size (p0 &&& (3 : Int32)) q7 v8) (va_cwS 3 htg (xg_S0 xkin_C_changed xw_669 xw_670 xw_2) rfl rfl rfl (by decide +kernel) ⟨Nat.le_of_ble_eq_true rfl, Nat.le_of_ble_eq_true rfl⟩) ⟨xB_blind, fun U hU hW => xB_mk va_P0 hK va_D0 hE hS (xsub0 hA hS) hU hW⟩ rfl rfl hl.1 rfl (lv_room (Nat.le_of_ble_eq_true rfl)) xd_C_controlOp_119 ⟨Nat.le_of_ble_eq_true rfl, Nat.le_of_ble_eq_true rfl⟩) hP hA hS (fun r15 H locs hr15 hP hS => ?_)
          refine xcW_v (va_runV (As := [.int r6, .int r15]) (rest := []) ⟨hx, hb, hml, hown, htg⟩ (c_K_write l D z k a g H.size u hg r6 r15) (cwV 2 htg (xg_V0 xkin_K_write xw_672 xw_345 xsel_K_write xw_5) rfl rfl rfl (by decide +kernel) ⟨Nat.le_of_ble_eq_true rfl, Nat.le_of_ble_eq_true rfl⟩) ⟨xB_blind, xrecv_K hK hP, fun U hU hW => xB_mk hP hK hD hE hS (xsubW hD hA hS) hU hW⟩ rfl rfl hl.1 rfl (lv_room (Nat.le_of_ble_eq_true rfl)) xd_C_controlOp_122 ⟨Nat.le_of_ble_eq_true rfl, Nat.le_of_ble_eq_true rfl⟩) hD hA hS (fun w1 H locs hw hP hD hS => ?_)
          obtain ⟨u1, g⟩ := w1
          obtain ⟨q16, hq16⟩ : ∃ q, q = xf_K_write u r6 r15 := ⟨_, rfl⟩
          obtain ⟨e2, hg⟩ := hw
          rw [← hq16] at e2
          obtain rfl : q16 = u1 := e2.symm
          have hP : va_P D xCl (xWH k a g q16) H := hP
          have hD : va_D A (xWH k a g q16) := hD
          have hg : xok k g q16 := hg
          exact hj11 H locs ls g q16 (xif h14 (xlt_e hr15 (xlt_e hq16 rfl))) hg hl hP hD hS
      refine lv_icmp_le (tgt := 93) hx hb xd_C_controlOp_86 rfl (fun h17 => ?_) (fun h17 => ?_)
      · refine lv_aload_n hx hb xd_C_controlOp_93 rfl (lv_at hl 6 rfl) ?_
        refine xget_C_x hx hb htg hown hK hP (htg _ xw_199) xd_C_controlOp_94 ?_
        refine lv_iload_n hx hb xd_C_controlOp_97 rfl (lv_at hl 5 rfl) ?_
        refine xald_x (f := (xg_x u)) hx hb hK hP (xin_eq hr1 (xin_a _)) rfl xd_C_controlOp_98 ?_
        exact hj9 H locs ls g ((xg_x u) r1.toNatClampNeg) (xit h17 rfl) hg hl hP hD hS
      · refine lv_iload_n hx hb xd_C_controlOp_89 rfl (lv_at hl 5 rfl) ?_
        refine lv_goto (tgt := 99) hx hb xd_C_controlOp_90 rfl ?_
        exact hj9 H locs ls g r1 (xif h17 rfl) hg hl hP hD hS
    · refine lv_aload_n hx hb xd_C_controlOp_56 rfl (lv_at hl 4 rfl) ?_
      refine lv_iload hx hb xd_C_controlOp_57 (lv_at hl 0 rfl) ?_
      refine xcW_v (va_runV (As := [.int q4]) (rest := []) ⟨hx, hb, hml, hown, htg⟩ (c_C_refuse l D z k a g H.size u hg q4) (cwV 1 htg (xg_V0 xkin_C_refuse xw_509 xw_511 xsel_C_refuse xw_2) rfl rfl rfl (by decide +kernel) ⟨Nat.le_of_ble_eq_true rfl, Nat.le_of_ble_eq_true rfl⟩) ⟨xB_blind, xrecv_C hK hP, fun U hU hW => xB_mk hP hK hD hE hS (xsubW hD hA hS) hU hW⟩ rfl rfl hl.1 rfl (lv_room (Nat.le_of_ble_eq_true rfl)) xd_C_controlOp_59 ⟨Nat.le_of_ble_eq_true rfl, Nat.le_of_ble_eq_true rfl⟩) hD hA hS (fun w1 H locs hw hP hD hS => ?_)
      obtain ⟨u1, g⟩ := w1
      obtain ⟨q18, hq18⟩ : ∃ q, q = xf_C_refuse u q4 := ⟨_, rfl⟩
      obtain ⟨e2, hg⟩ := hw
      rw [← hq18] at e2
      obtain rfl : q18 = u1 := e2.symm
      have hP : va_P D xCl (xWH k a g q18) H := hP
      have hD : va_D A (xWH k a g q18) := hD
      have hg : xok k g q18 := hg
      exact hret (q18, g) H locs ls _ ⟨(by unfold xf_C_controlOp; exact (xlt_e hr1 (xlt_e hv2 (xlt_e hq4 (xif h5 (xlt_e hq18 rfl)))))), hg⟩ hP hD hS xd_C_controlOp_62
  refine lv_icmp_eq (tgt := 27) hx hb xd_C_controlOp_20 rfl (fun h19 => ?_) (fun h19 => ?_)
  · refine lv_iconst (v := 1) hx hb xd_C_controlOp_27 (by decide) ?_
    refine lv_goto (tgt := 32) hx hb xd_C_controlOp_28 rfl ?_
    exact hj3 H locs ls g (1 : Int32) (xit h19 rfl) hg hl hP hD hS
  · refine lv_iload_n hx hb xd_C_controlOp_23 rfl (lv_at hl 1 rfl) ?_
    refine lv_if_eq (tgt := 31) hx hb xd_C_controlOp_24 rfl (fun h20 => ?_) (fun h20 => ?_)
    · refine lv_iconst (v := 0) hx hb xd_C_controlOp_31 (by decide) ?_
      exact hj3 H locs ls g (0 : Int32) (xif h19 (xit h20 rfl)) hg hl hP hD hS
    · refine lv_iconst (v := 1) hx hb xd_C_controlOp_27 (by decide) ?_
      refine lv_goto (tgt := 32) hx hb xd_C_controlOp_28 rfl ?_
      exact hj3 H locs ls g (1 : Int32) (xif h19 (xif h20 rfl)) hg hl hP hD hS

noncomputable def xf_H_setControl (u : XH) (p0 : Int32) (p1 : Int32) : Int32 × XH :=
  xlt (xf_K_refusal u p0 (1 : Int32) (1 : Int32) : Int32) fun q1 =>
  if q1 = (-1) then
    xlt (xf_K_write u p0 p1 : XH) fun q3 =>
    (0, q3)
  else
    ((-1), u)
set_option maxHeartbeats 4000000 in
set_option maxRecDepth 100000 in
theorem c_H_setControl (l : Launch) (D : va_G) (z : (Nat → Nat) × (Nat → Nat)) (k : ClassId × ClassId) (a : Nat → Nat) (g : XG) (sz : Nat) (u : XH) (hg : xok k g u) (p0 : Int32) (p1 : Int32) : Met l xy_H_setControl (xk_H_setControl :: lw_g) { frames := 2, cells := 0, slots := 0, locals := 44 } (va_Pc [.ref ((a 0)), .int p0, .int p1] (xB D (xTy k) z sz (xWH k a g u))) (va_Qi (fun r (q : XH × XG) => (r, q.1) = xf_H_setControl u p0 p1 ∧ xok k q.2 q.1) (fun q t => xQ D (xTy k) (xWH k a q.2 q.1) (va_A (xWH k a g u) sz) t) (va_A (xWH k a g u) sz)) 0 0 (va_A (xWH k a g u) sz) := by
  refine xopen_i (wf := fun q : XH × XG => xWH k a q.2 q.1) (lv := [(0, .ref ((a 0))), (1, .int p0), (2, .int p1)]) (by decide) rfl (Nat.le_of_ble_eq_true rfl) ?_
  intro p e s m args below meth c Q ls A H locs hx hb hml htg hown hin hK hP hD hE hS hA hl hret
  refine lv_aload_n hx hb xd_H_setControl_0 rfl (lv_at hl 0 rfl) ?_
  refine xget_H_core hx hb htg hown hK hP (htg _ xw_277) xd_H_setControl_1 ?_
  refine xget_C_controls hx hb htg hown hK hP (htg _ xw_207) xd_H_setControl_4 ?_
  refine lv_iload_n hx hb xd_H_setControl_7 rfl (lv_at hl 1 rfl) ?_
  refine lv_iconst (v := 1) hx hb xd_H_setControl_8 (by decide) ?_
  refine lv_iconst (v := 1) hx hb xd_H_setControl_9 (by decide) ?_
  refine xcW_i (va_runV (As := [.int p0, .int 1, .int 1]) (rest := []) ⟨hx, hb, hml, hown, htg⟩ (c_K_refusal l D z k a g H.size u hg p0 (1 : Int32) (1 : Int32)) (cwV 3 htg (xg_V0 xkin_K_refusal xw_333 xw_334 xsel_K_refusal xw_5) rfl rfl rfl (by decide +kernel) ⟨Nat.le_of_ble_eq_true rfl, Nat.le_of_ble_eq_true rfl⟩) ⟨xB_blind, xrecv_K hK hP, fun U hU hW => xB_mk hP hK hD hE hS (xsubW hD hA hS) hU hW⟩ rfl rfl hl.1 rfl (lv_room (Nat.le_of_ble_eq_true rfl)) xd_H_setControl_10 ⟨Nat.le_of_ble_eq_true rfl, Nat.le_of_ble_eq_true rfl⟩) hD hA hS (fun r w1 H locs hw hP hD hS => ?_)
  obtain ⟨u1, g⟩ := w1
  obtain ⟨q1, hq1⟩ : ∃ q, q = xf_K_refusal u p0 (1 : Int32) (1 : Int32) := ⟨_, rfl⟩
  obtain ⟨e1, e2, hg⟩ := hw
  rw [← hq1] at e1
  obtain rfl : q1 = r := e1.symm
  obtain rfl : u = u1 := e2.symm
  have hP : va_P D xCl (xWH k a g u) H := hP
  have hD : va_D A (xWH k a g u) := hD
  have hg : xok k g u := hg
  refine lv_iconst (v := (-1)) hx hb xd_H_setControl_13 (by decide) ?_
  refine lv_icmp_eq (tgt := 19) hx hb xd_H_setControl_14 rfl (fun h2 => ?_) (fun h2 => ?_)
  · refine lv_aload_n hx hb xd_H_setControl_19 rfl (lv_at hl 0 rfl) ?_
    refine xget_H_core hx hb htg hown hK hP (htg _ xw_277) xd_H_setControl_20 ?_
    refine xget_C_controls hx hb htg hown hK hP (htg _ xw_207) xd_H_setControl_23 ?_
    refine lv_iload_n hx hb xd_H_setControl_26 rfl (lv_at hl 1 rfl) ?_
    refine lv_iload_n hx hb xd_H_setControl_27 rfl (lv_at hl 2 rfl) ?_
    refine xcW_v (va_runV (As := [.int p0, .int p1]) (rest := []) ⟨hx, hb, hml, hown, htg⟩ (c_K_write l D z k a g H.size u hg p0 p1) (cwV 2 htg (xg_V0 xkin_K_write xw_344 xw_345 xsel_K_write xw_5) rfl rfl rfl (by decide +kernel) ⟨Nat.le_of_ble_eq_true rfl, Nat.le_of_ble_eq_true rfl⟩) ⟨xB_blind, xrecv_K hK hP, fun U hU hW => xB_mk hP hK hD hE hS (xsubW hD hA hS) hU hW⟩ rfl rfl hl.1 rfl (lv_room (Nat.le_of_ble_eq_true rfl)) xd_H_setControl_28 ⟨Nat.le_of_ble_eq_true rfl, Nat.le_of_ble_eq_true rfl⟩) hD hA hS (fun w1 H locs hw hP hD hS => ?_)
    obtain ⟨u1, g⟩ := w1
    obtain ⟨q3, hq3⟩ : ∃ q, q = xf_K_write u p0 p1 := ⟨_, rfl⟩
    obtain ⟨e2, hg⟩ := hw
    rw [← hq3] at e2
    obtain rfl : q3 = u1 := e2.symm
    have hP : va_P D xCl (xWH k a g q3) H := hP
    have hD : va_D A (xWH k a g q3) := hD
    have hg : xok k g q3 := hg
    refine lv_iconst (v := 0) hx hb xd_H_setControl_31 (by decide) ?_
    exact hret _ (q3, g) H locs ls _ ⟨(by unfold xf_H_setControl; exact (xlt_e hq1 (xit h2 (xlt_e hq3 rfl)))), hg⟩ hP hD hS xd_H_setControl_32
  · refine lv_iconst (v := (-1)) hx hb xd_H_setControl_17 (by decide) ?_
    exact hret _ (u, g) H locs ls _ ⟨(by unfold xf_H_setControl; exact (xlt_e hq1 (xif h2 rfl))), hg⟩ hP hD hS xd_H_setControl_18

noncomputable def xf_H_control (u : XH) (p0 : Int32) : Int32 :=
  xlt (xf_K_tell u p0 : Int32) fun q1 =>
  q1
set_option maxHeartbeats 4000000 in
set_option maxRecDepth 100000 in
theorem c_H_control (l : Launch) (D : va_G) (z : (Nat → Nat) × (Nat → Nat)) (k : ClassId × ClassId) (a : Nat → Nat) (g : XG) (sz : Nat) (u : XH) (hg : xok k g u) (p0 : Int32) : Met l xy_H_control (xk_H_control :: lw_g) { frames := 2, cells := 0, slots := 0, locals := 42 } (va_Pc [.ref ((a 0)), .int p0] (xB D (xTy k) z sz (xWH k a g u))) (va_Qi (fun r (q : XH × XG) => r = xf_H_control u p0 ∧ q.1 = u ∧ xok k q.2 q.1) (fun q t => xQ D (xTy k) (xWH k a q.2 q.1) (va_A (xWH k a g u) sz) t) (va_A (xWH k a g u) sz)) 0 0 (va_A (xWH k a g u) sz) := by
  refine xopen_i (wf := fun q : XH × XG => xWH k a q.2 q.1) (lv := [(0, .ref ((a 0))), (1, .int p0)]) (by decide) rfl (Nat.le_of_ble_eq_true rfl) ?_
  intro p e s m args below meth c Q ls A H locs hx hb hml htg hown hin hK hP hD hE hS hA hl hret
  refine lv_aload_n hx hb xd_H_control_0 rfl (lv_at hl 0 rfl) ?_
  refine xget_H_core hx hb htg hown hK hP (htg _ xw_277) xd_H_control_1 ?_
  refine xget_C_controls hx hb htg hown hK hP (htg _ xw_207) xd_H_control_4 ?_
  refine lv_iload_n hx hb xd_H_control_7 rfl (lv_at hl 1 rfl) ?_
  refine xcW_i (va_runV (As := [.int p0]) (rest := []) ⟨hx, hb, hml, hown, htg⟩ (c_K_tell l D z k a g H.size u hg p0) (cwV 1 htg (xg_V0 xkin_K_tell xw_365 xw_366 xsel_K_tell xw_5) rfl rfl rfl (by decide +kernel) ⟨Nat.le_of_ble_eq_true rfl, Nat.le_of_ble_eq_true rfl⟩) ⟨xB_blind, xrecv_K hK hP, fun U hU hW => xB_mk hP hK hD hE hS (xsubW hD hA hS) hU hW⟩ rfl rfl hl.1 rfl (lv_room (Nat.le_of_ble_eq_true rfl)) xd_H_control_8 ⟨Nat.le_of_ble_eq_true rfl, Nat.le_of_ble_eq_true rfl⟩) hD hA hS (fun r w1 H locs hw hP hD hS => ?_)
  obtain ⟨u1, g⟩ := w1
  obtain ⟨q1, hq1⟩ : ∃ q, q = xf_K_tell u p0 := ⟨_, rfl⟩
  obtain ⟨e1, e2, hg⟩ := hw
  rw [← hq1] at e1
  obtain rfl : q1 = r := e1.symm
  obtain rfl : u = u1 := e2.symm
  have hP : va_P D xCl (xWH k a g u) H := hP
  have hD : va_D A (xWH k a g u) := hD
  have hg : xok k g u := hg
  exact hret _ (u, g) H locs ls _ ⟨(by unfold xf_H_control; exact (xlt_e hq1 rfl)), rfl, hg⟩ hP hD hS xd_H_control_11
