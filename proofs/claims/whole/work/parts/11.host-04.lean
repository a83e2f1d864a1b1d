noncomputable def xf_H_console (u : XH) (p0 : Int32) : Int32 × XH :=
  xlt (if p0 < 0 then ((-1)) else (if p0 < (xg_C_consoleSize u) then (xlt (xf_M_read 1 (xg_M u).2 p0 (0 : Int32) : Int32 × XM1) fun q4 => (q4.1 &&& (255 : Int32))) else ((-1))) : Int32) fun v5 =>
  xlt (if p0 < 0 then (u) else (if p0 < (xg_C_consoleSize u) then (xlt (xf_M_read 1 (xg_M u).2 p0 (0 : Int32) : Int32 × XM1) fun q4 => (xs_M2 u q4.2)) else (u)) : XH) fun v6 =>
  (v5, v6)
set_option maxHeartbeats 4000000 in
set_option maxRecDepth 100000 in
theorem c_H_console (l : Launch) (D : va_G) (z : (Nat → Nat) × (Nat → Nat)) (k : ClassId × ClassId) (a : Nat → Nat) (g : XG) (sz : Nat) (u : XH) (hg : xok k g u) (p0 : Int32) : Met l xy_H_console (xk_H_console :: lw_g) { frames := 2, cells := 0, slots := 0, locals := 46 } (va_Pc [.ref ((a 0)), .int p0] (xB D (xTy k) z sz (xWH k a g u))) (va_Qi (fun r (q : XH × XG) => (r, q.1) = xf_H_console u p0 ∧ xok k q.2 q.1) (fun q t => xQ D (xTy k) (xWH k a q.2 q.1) (va_A (xWH k a g u) sz) t) (va_A (xWH k a g u) sz)) 0 0 (va_A (xWH k a g u) sz) := by
  refine xopen_i (wf := fun q : XH × XG => xWH k a q.2 q.1) (lv := [(0, .ref ((a 0))), (1, .int p0)]) (by decide) rfl (Nat.le_of_ble_eq_true rfl) ?_
  intro p e s m args below meth c Q ls A H locs hx hb hml htg hown hin hK hP hD hE hS hA hl hret
  refine lv_iload_n hx hb xd_H_console_0 rfl (lv_at hl 1 rfl) ?_
  have hj7 : ∀ (H : Heap) (locs : List Loc) (ls : Array Slot) (g : XG) (v5 : Int32) (v6 : XH), v5 = (if p0 < 0 then ((-1)) else (if p0 < (xg_C_consoleSize u) then (xlt (xf_M_read 1 (xg_M u).2 p0 (0 : Int32) : Int32 × XM1) fun q4 => (q4.1 &&& (255 : Int32))) else ((-1)))) → v6 = (if p0 < 0 then (u) else (if p0 < (xg_C_consoleSize u) then (xlt (xf_M_read 1 (xg_M u).2 p0 (0 : Int32) : Int32 × XM1) fun q4 => (xs_M2 u q4.2)) else (u))) → xok k g v6 → lv_has ls 2 [(0, .ref ((a 0))), (1, .int p0)] → va_P D xCl (xWH k a g v6) H → va_D A (xWH k a g v6) → va_S A s.heap H locs → W p l e { frames := 2, cells := 0, slots := 0, locals := 46 } s m args below meth c H locs (0) (0) Q (F0 m 35 ls [.int v5]) := by
    intro H locs ls g v5 v6 hv5 hv6 hg hl hP hD hS
    exact hret _ (v6, g) H locs ls _ ⟨(by unfold xf_H_console; exact (xlt_e hv5 (xlt_e hv6 rfl))), hg⟩ hP hD hS xd_H_console_35
  refine lv_if_lt (tgt := 15) hx hb xd_H_console_1 rfl (fun h8 => ?_) (fun h8 => ?_)
  · refine lv_iconst (v := (-1)) hx hb xd_H_console_15 (by decide) ?_
    refine lv_goto (tgt := 35) hx hb xd_H_console_16 rfl ?_
    exact hj7 H locs ls g (-1 : Int32) u (xit h8 rfl) (xit h8 rfl) hg hl hP hD hS
  · refine lv_iload_n hx hb xd_H_console_4 rfl (lv_at hl 1 rfl) ?_
    refine lv_aload_n hx hb xd_H_console_5 rfl (lv_at hl 0 rfl) ?_
    refine xget_H_core hx hb htg hown hK hP (htg _ xw_277) xd_H_console_6 ?_
    refine xget_C_consoleSize (v := (xg_C_consoleSize u)) hx hb htg hown hK hP (htg _ xw_210) rfl xd_H_console_9 ?_
    refine lv_icmp_lt (tgt := 19) hx hb xd_H_console_12 rfl (fun h9 => ?_) (fun h9 => ?_)
    · refine lv_aload_n hx hb xd_H_console_19 rfl (lv_at hl 0 rfl) ?_
      refine xget_H_core hx hb htg hown hK hP (htg _ xw_277) xd_H_console_20 ?_
      refine xget_C_console hx hb htg hown hK hP (htg _ xw_202) xd_H_console_23 ?_
      refine lv_iload_n hx hb xd_H_console_26 rfl (lv_at hl 1 rfl) ?_
      refine lv_iconst (v := 0) hx hb xd_H_console_27 (by decide) ?_
      obtain ⟨q11, hq11⟩ : ∃ q, q = xf_M_read 1 (xg_M u).2 p0 (0 : Int32) := ⟨_, rfl⟩
      refine xcN_i hq11 (va_runV (As := [.int p0, .int 0]) (rest := []) ⟨hx, hb, hml, hown, htg⟩ (c_M_read l D z k H.size (a 9) (a 11) 1 (by decide) g.2 (xg_M u).2 hg.2 p0 (0 : Int32)) (cwV 2 htg (xg_V0 xkin_M_read xw_711 xw_525 xsel_M_read xw_3) rfl rfl rfl (by decide +kernel) ⟨Nat.le_of_ble_eq_true rfl, Nat.le_of_ble_eq_true rfl⟩) ⟨xB_blind, xrecv_N hK hP, fun U hU hW => xpre_N hP hK hD hE hS hA hU hW⟩ rfl rfl hl.1 rfl (lv_room (Nat.le_of_ble_eq_true rfl)) xd_H_console_28 ⟨Nat.le_of_ble_eq_true rfl, Nat.le_of_ble_eq_true rfl⟩) hP hD hA hS hg (fun g H locs hP hD hS hg => ?_)
      refine lv_sipush (v := 255) hx hb xd_H_console_31 (by decide) ?_
      refine lv_iand hx hb xd_H_console_34 ?_
      exact hj7 H locs ls g (q11.1 &&& (255 : Int32)) (xs_M2 u q11.2) (xif h8 (xit h9 (xlt_e hq11 rfl))) (xif h8 (xit h9 (xlt_e hq11 rfl))) hg hl hP hD hS
    · refine lv_iconst (v := (-1)) hx hb xd_H_console_15 (by decide) ?_
      refine lv_goto (tgt := 35) hx hb xd_H_console_16 rfl ?_
      exact hj7 H locs ls g (-1 : Int32) u (xif h8 (xif h9 rfl)) (xif h8 (xif h9 rfl)) hg hl hP hD hS

noncomputable def xf_H_breaches (u : XH) : Int32 :=
  ((xg_M u).1.2.2)
set_option maxHeartbeats 4000000 in
set_option maxRecDepth 100000 in
theorem c_H_breaches (l : Launch) (D : va_G) (z : (Nat → Nat) × (Nat → Nat)) (k : ClassId × ClassId) (a : Nat → Nat) (g : XG) (sz : Nat) (u : XH) (hg : xok k g u) : Met l xy_H_breaches (xk_H_breaches :: lw_g) { frames := 0, cells := 0, slots := 0, locals := 0 } (va_Pc [.ref ((a 0))] (xB D (xTy k) z sz (xWH k a g u))) (va_Qi (fun r (q : XH × XG) => r = xf_H_breaches u ∧ q.1 = u ∧ xok k q.2 q.1) (fun q t => xQ D (xTy k) (xWH k a q.2 q.1) (va_A (xWH k a g u) sz) t) (va_A (xWH k a g u) sz)) 0 0 (va_A (xWH k a g u) sz) := by
  refine xopen_i (wf := fun q : XH × XG => xWH k a q.2 q.1) (lv := [(0, .ref ((a 0)))]) (by decide) rfl (Nat.le_of_ble_eq_true rfl) ?_
  intro p e s m args below meth c Q ls A H locs hx hb hml htg hown hin hK hP hD hE hS hA hl hret
  refine lv_aload_n hx hb xd_H_breaches_0 rfl (lv_at hl 0 rfl) ?_
  refine xget_H_core hx hb htg hown hK hP (htg _ xw_277) xd_H_breaches_1 ?_
  refine xget_C_memory hx hb htg hown hK hP (htg _ xw_205) xd_H_breaches_4 ?_
  refine xget_M_breachCount (v := ((xg_M u).1.2.2)) hx hb htg hown hK hP (htg _ xw_39) rfl xd_H_breaches_7 ?_
  exact hret _ (u, g) H locs ls _ ⟨(by unfold xf_H_breaches; exact rfl), rfl, hg⟩ hP hD hS xd_H_breaches_10

noncomputable def xf_K_tell (u : XH) (p0 : Int32) : Int32 :=
  xlt (xf_K_isOfS p0 : Int32) fun r1 =>
  if r1 = 0 then
    if p0 = 516 then
      (xus ((xg_K_hie u) &&& (xg_K_hideleg u)) (1 : Int32))
    else
      if p0 = 580 then
        (xus ((xg_K_hvip u) &&& (xg_K_hideleg u)) (1 : Int32))
      else
        if p0 = 1536 then
          (xg_K_hstatus u)
        else
          if p0 = 1538 then
            (xg_K_hedeleg u)
          else
            if p0 = 1539 then
              (xg_K_hideleg u)
            else
              if p0 = 1540 then
                (xg_K_hie u)
              else
                if p0 = 1603 then
                  (xg_K_htval u)
                else
                  if p0 = 1604 then
                    (xg_K_hvip u)
                  else
                    if p0 = 1605 then
                      (xg_K_hvip u)
                    else
                      if p0 = 1610 then
                        (xg_K_htinst u)
                      else
                        if p0 = 1664 then
                          (xg_K_hgatp u)
                        else
                          if p0 = 3073 then
                            (Int64.toInt32 (xg_K_time u))
                          else
                            if p0 = 3201 then
                              (Int64.toInt32 (xul (xg_K_time u) (32 : Int32)))
                            else
                              xlt (xf_B_tell (xg_V u) (p0 - (256 : Int32)) : Int32) fun q16 =>
                              q16
  else
    xlt (if p0 = 324 then (xlt (xf_K_pendingForS u : Int32) fun q19 => q19) else (xlt (xf_B_tell (xg_S u) p0 : Int32) fun q18 => q18) : Int32) fun v20 =>
    v20
set_option maxHeartbeats 4000000 in
set_option maxRecDepth 100000 in
theorem c_K_tell (l : Launch) (D : va_G) (z : (Nat → Nat) × (Nat → Nat)) (k : ClassId × ClassId) (a : Nat → Nat) (g : XG) (sz : Nat) (u : XH) (hg : xok k g u) (p0 : Int32) : Met l xy_K_tell (xk_K_tell :: lw_g) { frames := 1, cells := 0, slots := 0, locals := 21 } (va_Pc [.ref ((a 4)), .int p0] (xB D (xTy k) z sz (xWH k a g u))) (va_Qi (fun r (q : XH × XG) => r = xf_K_tell u p0 ∧ q.1 = u ∧ xok k q.2 q.1) (fun q t => xQ D (xTy k) (xWH k a q.2 q.1) (va_A (xWH k a g u) sz) t) (va_A (xWH k a g u) sz)) 0 0 (va_A (xWH k a g u) sz) := by
  refine xopen_i (wf := fun q : XH × XG => xWH k a q.2 q.1) (lv := [(0, .ref ((a 4))), (1, .int p0)]) (by decide) rfl (Nat.le_of_ble_eq_true rfl) ?_
  intro p e s m args below meth c Q ls A H locs hx hb hml htg hown hin hK hP hD hE hS hA hl hret
  refine lv_iload_n hx hb xd_K_tell_0 rfl (lv_at hl 1 rfl) ?_
  refine xc0_i (va_runS (As := [.int p0]) (rest := []) ⟨hx, hb, hml, hown, htg⟩ (c_K_isOfS l D (xTy k) z H.size p0) (va_cwS 1 htg (xg_S0 xkin_K_isOfS xw_337 xw_338 xw_5) rfl rfl rfl (by decide +kernel) ⟨Nat.le_of_ble_eq_true rfl, Nat.le_of_ble_eq_true rfl⟩) ⟨xB_blind, fun U hU hW => xB_mk va_P0 hK va_D0 hE hS (xsub0 hA hS) hU hW⟩ rfl rfl hl.1 rfl (lv_room (Nat.le_of_ble_eq_true rfl)) xd_K_tell_1 ⟨Nat.le_of_ble_eq_true rfl, Nat.le_of_ble_eq_true rfl⟩) hP hA hS (fun r1 H locs hr1 hP hS => ?_)
  refine lv_if_eq (tgt := 30) hx hb xd_K_tell_4 rfl (fun h2 => ?_) (fun h2 => ?_)
  · refine lv_iload_n hx hb xd_K_tell_30 rfl (lv_at hl 1 rfl) ?_
    refine (Decidable.em (p0 = 516)).elim (fun h3 => ?_) (fun h3 => ?_)
    · refine lv_lookup (tgt := 144) (off := 113) hx hb xd_K_tell_31 (by decide +kernel) (by rw [h3]; decide +kernel) rfl ?_
      refine lv_aload_n hx hb xd_K_tell_144 rfl (lv_at hl 0 rfl) ?_
      refine xget_K_hie (v := (xg_K_hie u)) hx hb htg hown hK hP (htg _ xw_111) rfl xd_K_tell_145 ?_
      refine lv_aload_n hx hb xd_K_tell_148 rfl (lv_at hl 0 rfl) ?_
      refine xget_K_hideleg (v := (xg_K_hideleg u)) hx hb htg hown hK hP (htg _ xw_110) rfl xd_K_tell_149 ?_
      refine lv_iand hx hb xd_K_tell_152 ?_
      refine lv_iconst (v := 1) hx hb xd_K_tell_153 (by decide) ?_
      refine lv_iushr (v := (xus ((xg_K_hie u) &&& (xg_K_hideleg u)) (1 : Int32))) hx hb xd_K_tell_154 rfl ?_
      exact hret _ (u, g) H locs ls _ ⟨(by unfold xf_K_tell; exact (xlt_e hr1 (xit h2 (xit h3 rfl)))), rfl, hg⟩ hP hD hS xd_K_tell_155
    · refine (Decidable.em (p0 = 580)).elim (fun h4 => ?_) (fun h4 => ?_)
      · refine lv_lookup (tgt := 156) (off := 125) hx hb xd_K_tell_31 (by decide +kernel) (by rw [h4]; decide +kernel) rfl ?_
        refine lv_aload_n hx hb xd_K_tell_156 rfl (lv_at hl 0 rfl) ?_
        refine xget_K_hvip (v := (xg_K_hvip u)) hx hb htg hown hK hP (htg _ xw_113) rfl xd_K_tell_157 ?_
        refine lv_aload_n hx hb xd_K_tell_160 rfl (lv_at hl 0 rfl) ?_
        refine xget_K_hideleg (v := (xg_K_hideleg u)) hx hb htg hown hK hP (htg _ xw_110) rfl xd_K_tell_161 ?_
        refine lv_iand hx hb xd_K_tell_164 ?_
        refine lv_iconst (v := 1) hx hb xd_K_tell_165 (by decide) ?_
        refine lv_iushr (v := (xus ((xg_K_hvip u) &&& (xg_K_hideleg u)) (1 : Int32))) hx hb xd_K_tell_166 rfl ?_
        exact hret _ (u, g) H locs ls _ ⟨(by unfold xf_K_tell; exact (xlt_e hr1 (xit h2 (xif h3 (xit h4 rfl))))), rfl, hg⟩ hP hD hS xd_K_tell_167
      · refine (Decidable.em (p0 = 1536)).elim (fun h5 => ?_) (fun h5 => ?_)
        · refine lv_lookup (tgt := 168) (off := 137) hx hb xd_K_tell_31 (by decide +kernel) (by rw [h5]; decide +kernel) rfl ?_
          refine lv_aload_n hx hb xd_K_tell_168 rfl (lv_at hl 0 rfl) ?_
          refine xget_K_hstatus (v := (xg_K_hstatus u)) hx hb htg hown hK hP (htg _ xw_106) rfl xd_K_tell_169 ?_
          exact hret _ (u, g) H locs ls _ ⟨(by unfold xf_K_tell; exact (xlt_e hr1 (xit h2 (xif h3 (xif h4 (xit h5 rfl)))))), rfl, hg⟩ hP hD hS xd_K_tell_172
        · refine (Decidable.em (p0 = 1538)).elim (fun h6 => ?_) (fun h6 => ?_)
          · refine lv_lookup (tgt := 173) (off := 142) hx hb xd_K_tell_31 (by decide +kernel) (by rw [h6]; decide +kernel) rfl ?_
            refine lv_aload_n hx hb xd_K_tell_173 rfl (lv_at hl 0 rfl) ?_
            refine xget_K_hedeleg (v := (xg_K_hedeleg u)) hx hb htg hown hK hP (htg _ xw_108) rfl xd_K_tell_174 ?_
            exact hret _ (u, g) H locs ls _ ⟨(by unfold xf_K_tell; exact (xlt_e hr1 (xit h2 (xif h3 (xif h4 (xif h5 (xit h6 rfl))))))), rfl, hg⟩ hP hD hS xd_K_tell_177
          · refine (Decidable.em (p0 = 1539)).elim (fun h7 => ?_) (fun h7 => ?_)
            · refine lv_lookup (tgt := 178) (off := 147) hx hb xd_K_tell_31 (by decide +kernel) (by rw [h7]; decide +kernel) rfl ?_
              refine lv_aload_n hx hb xd_K_tell_178 rfl (lv_at hl 0 rfl) ?_
              refine xget_K_hideleg (v := (xg_K_hideleg u)) hx hb htg hown hK hP (htg _ xw_110) rfl xd_K_tell_179 ?_
              exact hret _ (u, g) H locs ls _ ⟨(by unfold xf_K_tell; exact (xlt_e hr1 (xit h2 (xif h3 (xif h4 (xif h5 (xif h6 (xit h7 rfl)))))))), rfl, hg⟩ hP hD hS xd_K_tell_182
            · refine (Decidable.em (p0 = 1540)).elim (fun h8 => ?_) (fun h8 => ?_)
              · refine lv_lookup (tgt := 183) (off := 152) hx hb xd_K_tell_31 (by decide +kernel) (by rw [h8]; decide +kernel) rfl ?_
                refine lv_aload_n hx hb xd_K_tell_183 rfl (lv_at hl 0 rfl) ?_
                refine xget_K_hie (v := (xg_K_hie u)) hx hb htg hown hK hP (htg _ xw_111) rfl xd_K_tell_184 ?_
                exact hret _ (u, g) H locs ls _ ⟨(by unfold xf_K_tell; exact (xlt_e hr1 (xit h2 (xif h3 (xif h4 (xif h5 (xif h6 (xif h7 (xit h8 rfl))))))))), rfl, hg⟩ hP hD hS xd_K_tell_187
              · refine (Decidable.em (p0 = 1603)).elim (fun h9 => ?_) (fun h9 => ?_)
                · refine lv_lookup (tgt := 188) (off := 157) hx hb xd_K_tell_31 (by decide +kernel) (by rw [h9]; decide +kernel) rfl ?_
                  refine lv_aload_n hx hb xd_K_tell_188 rfl (lv_at hl 0 rfl) ?_
                  refine xget_K_htval (v := (xg_K_htval u)) hx hb htg hown hK hP (htg _ xw_112) rfl xd_K_tell_189 ?_
                  exact hret _ (u, g) H locs ls _ ⟨(by unfold xf_K_tell; exact (xlt_e hr1 (xit h2 (xif h3 (xif h4 (xif h5 (xif h6 (xif h7 (xif h8 (xit h9 rfl)))))))))), rfl, hg⟩ hP hD hS xd_K_tell_192
                · refine (Decidable.em (p0 = 1604)).elim (fun h10 => ?_) (fun h10 => ?_)
                  · refine lv_lookup (tgt := 193) (off := 162) hx hb xd_K_tell_31 (by decide +kernel) (by rw [h10]; decide +kernel) rfl ?_
                    refine lv_aload_n hx hb xd_K_tell_193 rfl (lv_at hl 0 rfl) ?_
                    refine xget_K_hvip (v := (xg_K_hvip u)) hx hb htg hown hK hP (htg _ xw_113) rfl xd_K_tell_194 ?_
                    exact hret _ (u, g) H locs ls _ ⟨(by unfold xf_K_tell; exact (xlt_e hr1 (xit h2 (xif h3 (xif h4 (xif h5 (xif h6 (xif h7 (xif h8 (xif h9 (xit h10 rfl))))))))))), rfl, hg⟩ hP hD hS xd_K_tell_197
                  · refine (Decidable.em (p0 = 1605)).elim (fun h11 => ?_) (fun h11 => ?_)
                    · refine lv_lookup (tgt := 198) (off := 167) hx hb xd_K_tell_31 (by decide +kernel) (by rw [h11]; decide +kernel) rfl ?_
                      refine lv_aload_n hx hb xd_K_tell_198 rfl (lv_at hl 0 rfl) ?_
                      refine xget_K_hvip (v := (xg_K_hvip u)) hx hb htg hown hK hP (htg _ xw_113) rfl xd_K_tell_199 ?_
                      exact hret _ (u, g) H locs ls _ ⟨(by unfold xf_K_tell; exact (xlt_e hr1 (xit h2 (xif h3 (xif h4 (xif h5 (xif h6 (xif h7 (xif h8 (xif h9 (xif h10 (xit h11 rfl)))))))))))), rfl, hg⟩ hP hD hS xd_K_tell_202
                    · refine (Decidable.em (p0 = 1610)).elim (fun h12 => ?_) (fun h12 => ?_)
                      · refine lv_lookup (tgt := 203) (off := 172) hx hb xd_K_tell_31 (by decide +kernel) (by rw [h12]; decide +kernel) rfl ?_
                        refine lv_aload_n hx hb xd_K_tell_203 rfl (lv_at hl 0 rfl) ?_
                        refine xget_K_htinst (v := (xg_K_htinst u)) hx hb htg hown hK hP (htg _ xw_114) rfl xd_K_tell_204 ?_
                        exact hret _ (u, g) H locs ls _ ⟨(by unfold xf_K_tell; exact (xlt_e hr1 (xit h2 (xif h3 (xif h4 (xif h5 (xif h6 (xif h7 (xif h8 (xif h9 (xif h10 (xif h11 (xit h12 rfl))))))))))))), rfl, hg⟩ hP hD hS xd_K_tell_207
                      · refine (Decidable.em (p0 = 1664)).elim (fun h13 => ?_) (fun h13 => ?_)
                        · refine lv_lookup (tgt := 208) (off := 177) hx hb xd_K_tell_31 (by decide +kernel) (by rw [h13]; decide +kernel) rfl ?_
                          refine lv_aload_n hx hb xd_K_tell_208 rfl (lv_at hl 0 rfl) ?_
                          refine xget_K_hgatp (v := (xg_K_hgatp u)) hx hb htg hown hK hP (htg _ xw_115) rfl xd_K_tell_209 ?_
                          exact hret _ (u, g) H locs ls _ ⟨(by unfold xf_K_tell; exact (xlt_e hr1 (xit h2 (xif h3 (xif h4 (xif h5 (xif h6 (xif h7 (xif h8 (xif h9 (xif h10 (xif h11 (xif h12 (xit h13 rfl)))))))))))))), rfl, hg⟩ hP hD hS xd_K_tell_212
                        · refine (Decidable.em (p0 = 3073)).elim (fun h14 => ?_) (fun h14 => ?_)
                          · refine lv_lookup (tgt := 213) (off := 182) hx hb xd_K_tell_31 (by decide +kernel) (by rw [h14]; decide +kernel) rfl ?_
                            refine lv_aload_n hx hb xd_K_tell_213 rfl (lv_at hl 0 rfl) ?_
                            refine xget_K_time (v := (xg_K_time u)) hx hb htg hown hK hP (htg _ xw_117) rfl xd_K_tell_214 ?_
                            refine lv_l2i (v := (Int64.toInt32 (xg_K_time u))) hx hb xd_K_tell_217 rfl ?_
                            exact hret _ (u, g) H locs ls _ ⟨(by unfold xf_K_tell; exact (xlt_e hr1 (xit h2 (xif h3 (xif h4 (xif h5 (xif h6 (xif h7 (xif h8 (xif h9 (xif h10 (xif h11 (xif h12 (xif h13 (xit h14 rfl))))))))))))))), rfl, hg⟩ hP hD hS xd_K_tell_218
                          · refine (Decidable.em (p0 = 3201)).elim (fun h15 => ?_) (fun h15 => ?_)
                            · refine lv_lookup (tgt := 219) (off := 188) hx hb xd_K_tell_31 (by decide +kernel) (by rw [h15]; decide +kernel) rfl ?_
                              refine lv_aload_n hx hb xd_K_tell_219 rfl (lv_at hl 0 rfl) ?_
                              refine xget_K_time (v := (xg_K_time u)) hx hb htg hown hK hP (htg _ xw_117) rfl xd_K_tell_220 ?_
                              refine lv_bipush (v := 32) hx hb xd_K_tell_223 (by decide) ?_
                              refine lv_lushr (v := (xul (xg_K_time u) (32 : Int32))) hx hb xd_K_tell_225 rfl ?_
                              refine lv_l2i (v := (Int64.toInt32 (xul (xg_K_time u) (32 : Int32)))) hx hb xd_K_tell_226 rfl ?_
                              exact hret _ (u, g) H locs ls _ ⟨(by unfold xf_K_tell; exact (xlt_e hr1 (xit h2 (xif h3 (xif h4 (xif h5 (xif h6 (xif h7 (xif h8 (xif h9 (xif h10 (xif h11 (xif h12 (xif h13 (xif h14 (xit h15 rfl)))))))))))))))), rfl, hg⟩ hP hD hS xd_K_tell_227
                            · refine lv_lookup (tgt := 228) (off := 197) hx hb xd_K_tell_31 (by decide +kernel) (by first | (rw [lv_osw h3 (by decide), lv_osw h4 (by decide), lv_osw h5 (by decide), lv_osw h6 (by decide), lv_osw h7 (by decide), lv_osw h8 (by decide), lv_osw h9 (by decide), lv_osw h10 (by decide), lv_osw h11 (by decide), lv_osw h12 (by decide), lv_osw h13 (by decide), lv_osw h14 (by decide), lv_osw h15 (by decide)]; rfl) | (simp only [lv_osw h3 (by decide), lv_osw h4 (by decide), lv_osw h5 (by decide), lv_osw h6 (by decide), lv_osw h7 (by decide), lv_osw h8 (by decide), lv_osw h9 (by decide), lv_osw h10 (by decide), lv_osw h11 (by decide), lv_osw h12 (by decide), lv_osw h13 (by decide), lv_osw h14 (by decide), lv_osw h15 (by decide)]; rfl)) rfl ?_
                              refine lv_aload_n hx hb xd_K_tell_228 rfl (lv_at hl 0 rfl) ?_
                              refine xget_K_vs hx hb htg hown hK hP (htg _ xw_103) xd_K_tell_229 ?_
                              refine lv_iload_n hx hb xd_K_tell_232 rfl (lv_at hl 1 rfl) ?_
                              refine lv_sipush (v := 256) hx hb xd_K_tell_233 (by decide) ?_
                              refine lv_isub hx hb xd_K_tell_236 ?_
                              refine xcr_V_i (b0 := (xg_V u)) rfl (fun _ _ h => h.2) (va_runV (As := [.int ((p0 - (256 : Int32)))]) (rest := []) ⟨hx, hb, hml, hown, htg⟩ (c_B_tell l D (xTy k) z H.size (a 6) (xg_V u) (p0 - (256 : Int32))) (cwV 1 htg (xg_V0 xkin_B_tell xw_373 xw_374 xsel_B_tell xw_6) rfl rfl rfl (by decide +kernel) ⟨Nat.le_of_ble_eq_true rfl, Nat.le_of_ble_eq_true rfl⟩) ⟨xB_blind, xrecv_V hK hP, fun U hU hW => xpre_V hP hK hD hE hS hA hU hW⟩ rfl rfl hl.1 rfl (lv_room (Nat.le_of_ble_eq_true rfl)) xd_K_tell_237 ⟨Nat.le_of_ble_eq_true rfl, Nat.le_of_ble_eq_true rfl⟩) hP hD hA hS (fun r u1 H locs hw hP hD hS => ?_)
                              obtain ⟨q16, hq16⟩ : ∃ q, q = xf_B_tell (xg_V u) (p0 - (256 : Int32)) := ⟨_, rfl⟩
                              obtain ⟨e1, -⟩ := hw; rw [← hq16] at e1
                              obtain rfl : q16 = r := e1.symm
                              exact hret _ (u, g) H locs ls _ ⟨(by unfold xf_K_tell; exact (xlt_e hr1 (xit h2 (xif h3 (xif h4 (xif h5 (xif h6 (xif h7 (xif h8 (xif h9 (xif h10 (xif h11 (xif h12 (xif h13 (xif h14 (xif h15 (xlt_e hq16 rfl))))))))))))))))), rfl, hg⟩ hP hD hS xd_K_tell_240
  · refine lv_iload_n hx hb xd_K_tell_7 rfl (lv_at hl 1 rfl) ?_
    refine lv_sipush (v := 324) hx hb xd_K_tell_8 (by decide) ?_
    have hj21 : ∀ (H : Heap) (locs : List Loc) (ls : Array Slot) (g : XG) (v20 : Int32), v20 = (if p0 = 324 then (xlt (xf_K_pendingForS u : Int32) fun q19 => q19) else (xlt (xf_B_tell (xg_S u) p0 : Int32) fun q18 => q18)) → xok k g u → lv_has ls 2 [(0, .ref ((a 4))), (1, .int p0)] → va_P D xCl (xWH k a g u) H → va_D A (xWH k a g u) → va_S A s.heap H locs → W p l e { frames := 1, cells := 0, slots := 0, locals := 21 } s m args below meth c H locs (0) (0) Q (F0 m 29 ls [.int v20]) := by
      intro H locs ls g v20 hv20 hg hl hP hD hS
      exact hret _ (u, g) H locs ls _ ⟨(by unfold xf_K_tell; exact (xlt_e hr1 (xif h2 (xlt_e hv20 rfl)))), rfl, hg⟩ hP hD hS xd_K_tell_29
    refine lv_icmp_ne (tgt := 21) hx hb xd_K_tell_11 rfl (fun h22 => ?_) (fun h22 => ?_)
    · refine lv_aload_n hx hb xd_K_tell_21 rfl (lv_at hl 0 rfl) ?_
      refine xget_K_s hx hb htg hown hK hP (htg _ xw_100) xd_K_tell_22 ?_
      refine lv_iload_n hx hb xd_K_tell_25 rfl (lv_at hl 1 rfl) ?_
      refine xcr_S_i (b0 := (xg_S u)) rfl (fun _ _ h => h.2) (va_runV (As := [.int p0]) (rest := []) ⟨hx, hb, hml, hown, htg⟩ (c_B_tell l D (xTy k) z H.size (a 5) (xg_S u) p0) (cwV 1 htg (xg_V0 xkin_B_tell xw_373 xw_374 xsel_B_tell xw_6) rfl rfl rfl (by decide +kernel) ⟨Nat.le_of_ble_eq_true rfl, Nat.le_of_ble_eq_true rfl⟩) ⟨xB_blind, xrecv_S hK hP, fun U hU hW => xpre_S hP hK hD hE hS hA hU hW⟩ rfl rfl hl.1 rfl (lv_room (Nat.le_of_ble_eq_true rfl)) xd_K_tell_26 ⟨Nat.le_of_ble_eq_true rfl, Nat.le_of_ble_eq_true rfl⟩) hP hD hA hS (fun r u1 H locs hw hP hD hS => ?_)
      obtain ⟨q23, hq23⟩ : ∃ q, q = xf_B_tell (xg_S u) p0 := ⟨_, rfl⟩
      obtain ⟨e1, -⟩ := hw; rw [← hq23] at e1
      obtain rfl : q23 = r := e1.symm
      exact hj21 H locs ls g q23 (xif h22 (xlt_e hq23 rfl)) hg hl hP hD hS
    · refine lv_aload_n hx hb xd_K_tell_14 rfl (lv_at hl 0 rfl) ?_
      refine xcW_i (va_runV (As := []) (rest := []) ⟨hx, hb, hml, hown, htg⟩ (c_K_pendingForS l D z k a g H.size u hg) (cwV 0 htg (xg_V0 xkin_K_pendingForS xw_369 xw_371 xsel_K_pendingForS xw_5) rfl rfl rfl (by decide +kernel) ⟨Nat.le_of_ble_eq_true rfl, Nat.le_of_ble_eq_true rfl⟩) ⟨xB_blind, xrecv_K hK hP, fun U hU hW => xB_mk hP hK hD hE hS (xsubW hD hA hS) hU hW⟩ rfl rfl hl.1 rfl (lv_room (Nat.le_of_ble_eq_true rfl)) xd_K_tell_15 ⟨Nat.le_of_ble_eq_true rfl, Nat.le_of_ble_eq_true rfl⟩) hD hA hS (fun r w1 H locs hw hP hD hS => ?_)
      obtain ⟨u1, g⟩ := w1
      obtain ⟨q24, hq24⟩ : ∃ q, q = xf_K_pendingForS u := ⟨_, rfl⟩
      obtain ⟨e1, e2, hg⟩ := hw
      rw [← hq24] at e1
      obtain rfl : q24 = r := e1.symm
      obtain rfl : u = u1 := e2.symm
      have hP : va_P D xCl (xWH k a g u) H := hP
      have hD : va_D A (xWH k a g u) := hD
      have hg : xok k g u := hg
      refine lv_goto (tgt := 29) hx hb xd_K_tell_18 rfl ?_
      exact hj21 H locs ls g q24 (xit h22 (xlt_e hq24 rfl)) hg hl hP hD hS

noncomputable def xf_K_write (u : XH) (p0 : Int32) (p1 : Int32) : XH :=
  xlt (xf_K_isOfS p0 : Int32) fun r1 =>
  if r1 = 0 then
    xlt (if p0 = 516 then ((xs_K_hie u (((xg_K_hie u) &&& ((xg_K_hideleg u) ^^^ (-1 : Int32))) ||| ((p1 <<< ((1 : Int32) &&& 31)) &&& (xg_K_hideleg u))))) else (if p0 = 580 then (xlt (xf_K_raiseSoft u (p1 <<< ((1 : Int32) &&& 31)) ((4 : Int32) &&& (xg_K_hideleg u)) : XH) fun q5 => q5) else (if p0 = 1536 then ((xs_K_hstatus u (p1 &&& (7340992 : Int32)))) else (if p0 = 1538 then ((xs_K_hedeleg u (p1 &&& (45567 : Int32)))) else (if p0 = 1539 then ((xs_K_hideleg u (p1 &&& (1092 : Int32)))) else (if p0 = 1540 then ((xs_K_hie u (p1 &&& (1092 : Int32)))) else (if p0 = 1603 then ((xs_K_htval u p1)) else (if p0 = 1604 then (xlt (xf_K_raiseSoft u p1 (4 : Int32) : XH) fun q12 => q12) else (if p0 = 1605 then ((xs_K_hvip u (p1 &&& (1092 : Int32)))) else (if p0 = 1610 then ((xs_K_htinst u p1)) else (if p0 = 1664 then ((xs_K_hgatp u (p1 &&& (-2143289348 : Int32)))) else (xlt (xf_B_write (xg_V u) (p0 - (256 : Int32)) p1 : XB) fun q16 => (xs_V u q16)))))))))))) : XH) fun v17 =>
    v17
  else
    xlt (xf_B_write (xg_S u) p0 p1 : XB) fun q33 =>
    (xs_S u q33)
set_option maxHeartbeats 4000000 in
set_option maxRecDepth 100000 in
theorem c_K_write (l : Launch) (D : va_G) (z : (Nat → Nat) × (Nat → Nat)) (k : ClassId × ClassId) (a : Nat → Nat) (g : XG) (sz : Nat) (u : XH) (hg : xok k g u) (p0 : Int32) (p1 : Int32) : Met l xy_K_write (xk_K_write :: lw_g) { frames := 1, cells := 0, slots := 0, locals := 22 } (va_Pc [.ref ((a 4)), .int p0, .int p1] (xB D (xTy k) z sz (xWH k a g u))) (va_Qv (fun q : XH × XG => q.1 = xf_K_write u p0 p1 ∧ xok k q.2 q.1) (fun q t => xQ D (xTy k) (xWH k a q.2 q.1) (va_A (xWH k a g u) sz) t) (va_A (xWH k a g u) sz)) 0 0 (va_A (xWH k a g u) sz) := by
  refine xopen_v (wf := fun q : XH × XG => xWH k a q.2 q.1) (lv := [(0, .ref ((a 4))), (1, .int p0), (2, .int p1)]) (by decide) rfl (Nat.le_of_ble_eq_true rfl) ?_
  intro p e s m args below meth c Q ls A H locs hx hb hml htg hown hin hK hP hD hE hS hA hl hret
  refine lv_iload_n hx hb xd_K_write_0 rfl (lv_at hl 1 rfl) ?_
  refine xc0_i (va_runS (As := [.int p0]) (rest := []) ⟨hx, hb, hml, hown, htg⟩ (c_K_isOfS l D (xTy k) z H.size p0) (va_cwS 1 htg (xg_S0 xkin_K_isOfS xw_337 xw_338 xw_5) rfl rfl rfl (by decide +kernel) ⟨Nat.le_of_ble_eq_true rfl, Nat.le_of_ble_eq_true rfl⟩) ⟨xB_blind, fun U hU hW => xB_mk va_P0 hK va_D0 hE hS (xsub0 hA hS) hU hW⟩ rfl rfl hl.1 rfl (lv_room (Nat.le_of_ble_eq_true rfl)) xd_K_write_1 ⟨Nat.le_of_ble_eq_true rfl, Nat.le_of_ble_eq_true rfl⟩) hP hA hS (fun r1 H locs hr1 hP hS => ?_)
  refine lv_if_eq (tgt := 17) hx hb xd_K_write_4 rfl (fun h2 => ?_) (fun h2 => ?_)
  · refine lv_iload_n hx hb xd_K_write_17 rfl (lv_at hl 1 rfl) ?_
    have hj18 : ∀ (H : Heap) (locs : List Loc) (ls : Array Slot) (g : XG) (v17 : XH), v17 = (if p0 = 516 then ((xs_K_hie u (((xg_K_hie u) &&& ((xg_K_hideleg u) ^^^ (-1 : Int32))) ||| ((p1 <<< ((1 : Int32) &&& 31)) &&& (xg_K_hideleg u))))) else (if p0 = 580 then (xlt (xf_K_raiseSoft u (p1 <<< ((1 : Int32) &&& 31)) ((4 : Int32) &&& (xg_K_hideleg u)) : XH) fun q5 => q5) else (if p0 = 1536 then ((xs_K_hstatus u (p1 &&& (7340992 : Int32)))) else (if p0 = 1538 then ((xs_K_hedeleg u (p1 &&& (45567 : Int32)))) else (if p0 = 1539 then ((xs_K_hideleg u (p1 &&& (1092 : Int32)))) else (if p0 = 1540 then ((xs_K_hie u (p1 &&& (1092 : Int32)))) else (if p0 = 1603 then ((xs_K_htval u p1)) else (if p0 = 1604 then (xlt (xf_K_raiseSoft u p1 (4 : Int32) : XH) fun q12 => q12) else (if p0 = 1605 then ((xs_K_hvip u (p1 &&& (1092 : Int32)))) else (if p0 = 1610 then ((xs_K_htinst u p1)) else (if p0 = 1664 then ((xs_K_hgatp u (p1 &&& (-2143289348 : Int32)))) else (xlt (xf_B_write (xg_V u) (p0 - (256 : Int32)) p1 : XB) fun q16 => (xs_V u q16))))))))))))) → xok k g v17 → lv_has ls 3 [(0, .ref ((a 4))), (1, .int p0), (2, .int p1)] → va_P D xCl (xWH k a g v17) H → va_D A (xWH k a g v17) → va_S A s.heap H locs → W p l e { frames := 1, cells := 0, slots := 0, locals := 22 } s m args below meth c H locs (0) (0) Q (F0 m 266 ls []) := by
      intro H locs ls g v17 hv17 hg hl hP hD hS
      exact hret (v17, g) H locs ls _ ⟨(by unfold xf_K_write; exact (xlt_e hr1 (xit h2 (xlt_e hv17 rfl)))), hg⟩ hP hD hS xd_K_write_266
    refine (Decidable.em (p0 = 516)).elim (fun h19 => ?_) (fun h19 => ?_)
    · refine lv_lookup (tgt := 116) (off := 98) hx hb xd_K_write_18 (by decide +kernel) (by rw [h19]; decide +kernel) rfl ?_
      refine lv_aload_n hx hb xd_K_write_116 rfl (lv_at hl 0 rfl) ?_
      refine lv_aload_n hx hb xd_K_write_117 rfl (lv_at hl 0 rfl) ?_
      refine xget_K_hie (v := (xg_K_hie u)) hx hb htg hown hK hP (htg _ xw_111) rfl xd_K_write_118 ?_
      refine lv_aload_n hx hb xd_K_write_121 rfl (lv_at hl 0 rfl) ?_
      refine xget_K_hideleg (v := (xg_K_hideleg u)) hx hb htg hown hK hP (htg _ xw_110) rfl xd_K_write_122 ?_
      refine lv_iconst (v := (-1)) hx hb xd_K_write_125 (by decide) ?_
      refine lv_ixor hx hb xd_K_write_126 ?_
      refine lv_iand hx hb xd_K_write_127 ?_
      refine lv_iload_n hx hb xd_K_write_128 rfl (lv_at hl 2 rfl) ?_
      refine lv_iconst (v := 1) hx hb xd_K_write_129 (by decide) ?_
      refine lv_ishl hx hb xd_K_write_130 ?_
      refine lv_aload_n hx hb xd_K_write_131 rfl (lv_at hl 0 rfl) ?_
      refine xget_K_hideleg (v := (xg_K_hideleg u)) hx hb htg hown hK hP (htg _ xw_110) rfl xd_K_write_132 ?_
      refine lv_iand hx hb xd_K_write_135 ?_
      refine lv_ior hx hb xd_K_write_136 ?_
      refine xput_K_hie (v := (((xg_K_hie u) &&& ((xg_K_hideleg u) ^^^ (-1 : Int32))) ||| ((p1 <<< ((1 : Int32) &&& 31)) &&& (xg_K_hideleg u)))) hx hb htg hown hK hP hD hS hg (htg _ xw_111) xd_K_write_137 (fun H locs hP hD hS hg => ?_)
      refine lv_goto (tgt := 266) hx hb xd_K_write_140 rfl ?_
      exact hj18 H locs ls g (xs_K_hie u (((xg_K_hie u) &&& ((xg_K_hideleg u) ^^^ (-1 : Int32))) ||| ((p1 <<< ((1 : Int32) &&& 31)) &&& (xg_K_hideleg u)))) (xit h19 rfl) hg hl hP hD hS
    · refine (Decidable.em (p0 = 580)).elim (fun h20 => ?_) (fun h20 => ?_)
      · refine lv_lookup (tgt := 143) (off := 125) hx hb xd_K_write_18 (by decide +kernel) (by rw [h20]; decide +kernel) rfl ?_
        refine lv_aload_n hx hb xd_K_write_143 rfl (lv_at hl 0 rfl) ?_
        refine lv_iload_n hx hb xd_K_write_144 rfl (lv_at hl 2 rfl) ?_
        refine lv_iconst (v := 1) hx hb xd_K_write_145 (by decide) ?_
        refine lv_ishl hx hb xd_K_write_146 ?_
        refine lv_iconst (v := 4) hx hb xd_K_write_147 (by decide) ?_
        refine lv_aload_n hx hb xd_K_write_148 rfl (lv_at hl 0 rfl) ?_
        refine xget_K_hideleg (v := (xg_K_hideleg u)) hx hb htg hown hK hP (htg _ xw_110) rfl xd_K_write_149 ?_
        refine lv_iand hx hb xd_K_write_152 ?_
        refine xcW_v (va_runV (As := [.int ((p1 <<< ((1 : Int32) &&& 31))), .int (((4 : Int32) &&& (xg_K_hideleg u)))]) (rest := []) ⟨hx, hb, hml, hown, htg⟩ (c_K_raiseSoft l D z k a g H.size u hg (p1 <<< ((1 : Int32) &&& 31)) ((4 : Int32) &&& (xg_K_hideleg u))) (cwV 2 htg (xg_V0 xkin_K_raiseSoft xw_354 xw_356 xsel_K_raiseSoft xw_5) rfl rfl rfl (by decide +kernel) ⟨Nat.le_of_ble_eq_true rfl, Nat.le_of_ble_eq_true rfl⟩) ⟨xB_blind, xrecv_K hK hP, fun U hU hW => xB_mk hP hK hD hE hS (xsubW hD hA hS) hU hW⟩ rfl rfl hl.1 rfl (lv_room (Nat.le_of_ble_eq_true rfl)) xd_K_write_153 ⟨Nat.le_of_ble_eq_true rfl, Nat.le_of_ble_eq_true rfl⟩) hD hA hS (fun w1 H locs hw hP hD hS => ?_)
        obtain ⟨u1, g⟩ := w1
        obtain ⟨q21, hq21⟩ : ∃ q, q = xf_K_raiseSoft u (p1 <<< ((1 : Int32) &&& 31)) ((4 : Int32) &&& (xg_K_hideleg u)) := ⟨_, rfl⟩
        obtain ⟨e2, hg⟩ := hw
        rw [← hq21] at e2
        obtain rfl : q21 = u1 := e2.symm
        have hP : va_P D xCl (xWH k a g q21) H := hP
        have hD : va_D A (xWH k a g q21) := hD
        have hg : xok k g q21 := hg
        refine lv_goto (tgt := 266) hx hb xd_K_write_156 rfl ?_
        exact hj18 H locs ls g q21 (xif h19 (xit h20 (xlt_e hq21 rfl))) hg hl hP hD hS
      · refine (Decidable.em (p0 = 1536)).elim (fun h22 => ?_) (fun h22 => ?_)
        · refine lv_lookup (tgt := 159) (off := 141) hx hb xd_K_write_18 (by decide +kernel) (by rw [h22]; decide +kernel) rfl ?_
          refine lv_aload_n hx hb xd_K_write_159 rfl (lv_at hl 0 rfl) ?_
          refine lv_iload_n hx hb xd_K_write_160 rfl (lv_at hl 2 rfl) ?_
          refine lv_ldc (v := 7340992) hx hb hown (htg _ xw_358) xd_K_write_161 ?_
          refine lv_iand hx hb xd_K_write_163 ?_
          refine xput_K_hstatus (v := (p1 &&& (7340992 : Int32))) hx hb htg hown hK hP hD hS hg (htg _ xw_106) xd_K_write_164 (fun H locs hP hD hS hg => ?_)
          refine lv_goto (tgt := 266) hx hb xd_K_write_167 rfl ?_
          exact hj18 H locs ls g (xs_K_hstatus u (p1 &&& (7340992 : Int32))) (xif h19 (xif h20 (xit h22 rfl))) hg hl hP hD hS
        · refine (Decidable.em (p0 = 1538)).elim (fun h23 => ?_) (fun h23 => ?_)
          · refine lv_lookup (tgt := 170) (off := 152) hx hb xd_K_write_18 (by decide +kernel) (by rw [h23]; decide +kernel) rfl ?_
            refine lv_aload_n hx hb xd_K_write_170 rfl (lv_at hl 0 rfl) ?_
            refine lv_iload_n hx hb xd_K_write_171 rfl (lv_at hl 2 rfl) ?_
            refine lv_ldc (v := 45567) hx hb hown (htg _ xw_359) xd_K_write_172 ?_
            refine lv_iand hx hb xd_K_write_174 ?_
            refine xput_K_hedeleg (v := (p1 &&& (45567 : Int32))) hx hb htg hown hK hP hD hS hg (htg _ xw_108) xd_K_write_175 (fun H locs hP hD hS hg => ?_)
            refine lv_goto (tgt := 266) hx hb xd_K_write_178 rfl ?_
            exact hj18 H locs ls g (xs_K_hedeleg u (p1 &&& (45567 : Int32))) (xif h19 (xif h20 (xif h22 (xit h23 rfl)))) hg hl hP hD hS
          · refine (Decidable.em (p0 = 1539)).elim (fun h24 => ?_) (fun h24 => ?_)
            · refine lv_lookup (tgt := 181) (off := 163) hx hb xd_K_write_18 (by decide +kernel) (by rw [h24]; decide +kernel) rfl ?_
              refine lv_aload_n hx hb xd_K_write_181 rfl (lv_at hl 0 rfl) ?_
              refine lv_iload_n hx hb xd_K_write_182 rfl (lv_at hl 2 rfl) ?_
              refine lv_sipush (v := 1092) hx hb xd_K_write_183 (by decide) ?_
              refine lv_iand hx hb xd_K_write_186 ?_
              refine xput_K_hideleg (v := (p1 &&& (1092 : Int32))) hx hb htg hown hK hP hD hS hg (htg _ xw_110) xd_K_write_187 (fun H locs hP hD hS hg => ?_)
              refine lv_goto (tgt := 266) hx hb xd_K_write_190 rfl ?_
              exact hj18 H locs ls g (xs_K_hideleg u (p1 &&& (1092 : Int32))) (xif h19 (xif h20 (xif h22 (xif h23 (xit h24 rfl))))) hg hl hP hD hS
            · refine (Decidable.em (p0 = 1540)).elim (fun h25 => ?_) (fun h25 => ?_)
              · refine lv_lookup (tgt := 193) (off := 175) hx hb xd_K_write_18 (by decide +kernel) (by rw [h25]; decide +kernel) rfl ?_
                refine lv_aload_n hx hb xd_K_write_193 rfl (lv_at hl 0 rfl) ?_
                refine lv_iload_n hx hb xd_K_write_194 rfl (lv_at hl 2 rfl) ?_
                refine lv_sipush (v := 1092) hx hb xd_K_write_195 (by decide) ?_
                refine lv_iand hx hb xd_K_write_198 ?_
                refine xput_K_hie (v := (p1 &&& (1092 : Int32))) hx hb htg hown hK hP hD hS hg (htg _ xw_111) xd_K_write_199 (fun H locs hP hD hS hg => ?_)
                refine lv_goto (tgt := 266) hx hb xd_K_write_202 rfl ?_
                exact hj18 H locs ls g (xs_K_hie u (p1 &&& (1092 : Int32))) (xif h19 (xif h20 (xif h22 (xif h23 (xif h24 (xit h25 rfl)))))) hg hl hP hD hS
              · refine (Decidable.em (p0 = 1603)).elim (fun h26 => ?_) (fun h26 => ?_)
                · refine lv_lookup (tgt := 205) (off := 187) hx hb xd_K_write_18 (by decide +kernel) (by rw [h26]; decide +kernel) rfl ?_
                  refine lv_aload_n hx hb xd_K_write_205 rfl (lv_at hl 0 rfl) ?_
                  refine lv_iload_n hx hb xd_K_write_206 rfl (lv_at hl 2 rfl) ?_
                  refine xput_K_htval (v := p1) hx hb htg hown hK hP hD hS hg (htg _ xw_112) xd_K_write_207 (fun H locs hP hD hS hg => ?_)
                  refine lv_goto (tgt := 266) hx hb xd_K_write_210 rfl ?_
                  exact hj18 H locs ls g (xs_K_htval u p1) (xif h19 (xif h20 (xif h22 (xif h23 (xif h24 (xif h25 (xit h26 rfl))))))) hg hl hP hD hS
                · refine (Decidable.em (p0 = 1604)).elim (fun h27 => ?_) (fun h27 => ?_)
                  · refine lv_lookup (tgt := 213) (off := 195) hx hb xd_K_write_18 (by decide +kernel) (by rw [h27]; decide +kernel) rfl ?_
                    refine lv_aload_n hx hb xd_K_write_213 rfl (lv_at hl 0 rfl) ?_
                    refine lv_iload_n hx hb xd_K_write_214 rfl (lv_at hl 2 rfl) ?_
                    refine lv_iconst (v := 4) hx hb xd_K_write_215 (by decide) ?_
                    refine xcW_v (va_runV (As := [.int p1, .int 4]) (rest := []) ⟨hx, hb, hml, hown, htg⟩ (c_K_raiseSoft l D z k a g H.size u hg p1 (4 : Int32)) (cwV 2 htg (xg_V0 xkin_K_raiseSoft xw_354 xw_356 xsel_K_raiseSoft xw_5) rfl rfl rfl (by decide +kernel) ⟨Nat.le_of_ble_eq_true rfl, Nat.le_of_ble_eq_true rfl⟩) ⟨xB_blind, xrecv_K hK hP, fun U hU hW => xB_mk hP hK hD hE hS (xsubW hD hA hS) hU hW⟩ rfl rfl hl.1 rfl (lv_room (Nat.le_of_ble_eq_true rfl)) xd_K_write_216 ⟨Nat.le_of_ble_eq_true rfl, Nat.le_of_ble_eq_true rfl⟩) hD hA hS (fun w1 H locs hw hP hD hS => ?_)
                    obtain ⟨u1, g⟩ := w1
                    obtain ⟨q28, hq28⟩ : ∃ q, q = xf_K_raiseSoft u p1 (4 : Int32) := ⟨_, rfl⟩
                    obtain ⟨e2, hg⟩ := hw
                    rw [← hq28] at e2
                    obtain rfl : q28 = u1 := e2.symm
                    have hP : va_P D xCl (xWH k a g q28) H := hP
                    have hD : va_D A (xWH k a g q28) := hD
                    have hg : xok k g q28 := hg
                    refine lv_goto (tgt := 266) hx hb xd_K_write_219 rfl ?_
                    exact hj18 H locs ls g q28 (xif h19 (xif h20 (xif h22 (xif h23 (xif h24 (xif h25 (xif h26 (xit h27 (xlt_e hq28 rfl))))))))) hg hl hP hD hS
                  · refine (Decidable.em (p0 = 1605)).elim (fun h29 => ?_) (fun h29 => ?_)
                    · refine lv_lookup (tgt := 222) (off := 204) hx hb xd_K_write_18 (by decide +kernel) (by rw [h29]; decide +kernel) rfl ?_
                      refine lv_aload_n hx hb xd_K_write_222 rfl (lv_at hl 0 rfl) ?_
                      refine lv_iload_n hx hb xd_K_write_223 rfl (lv_at hl 2 rfl) ?_
                      refine lv_sipush (v := 1092) hx hb xd_K_write_224 (by decide) ?_
                      refine lv_iand hx hb xd_K_write_227 ?_
                      refine xput_K_hvip (v := (p1 &&& (1092 : Int32))) hx hb htg hown hK hP hD hS hg (htg _ xw_113) xd_K_write_228 (fun H locs hP hD hS hg => ?_)
                      refine lv_goto (tgt := 266) hx hb xd_K_write_231 rfl ?_
                      exact hj18 H locs ls g (xs_K_hvip u (p1 &&& (1092 : Int32))) (xif h19 (xif h20 (xif h22 (xif h23 (xif h24 (xif h25 (xif h26 (xif h27 (xit h29 rfl))))))))) hg hl hP hD hS
                    · refine (Decidable.em (p0 = 1610)).elim (fun h30 => ?_) (fun h30 => ?_)
                      · refine lv_lookup (tgt := 234) (off := 216) hx hb xd_K_write_18 (by decide +kernel) (by rw [h30]; decide +kernel) rfl ?_
                        refine lv_aload_n hx hb xd_K_write_234 rfl (lv_at hl 0 rfl) ?_
                        refine lv_iload_n hx hb xd_K_write_235 rfl (lv_at hl 2 rfl) ?_
                        refine xput_K_htinst (v := p1) hx hb htg hown hK hP hD hS hg (htg _ xw_114) xd_K_write_236 (fun H locs hP hD hS hg => ?_)
                        refine lv_goto (tgt := 266) hx hb xd_K_write_239 rfl ?_
                        exact hj18 H locs ls g (xs_K_htinst u p1) (xif h19 (xif h20 (xif h22 (xif h23 (xif h24 (xif h25 (xif h26 (xif h27 (xif h29 (xit h30 rfl)))))))))) hg hl hP hD hS
                      · refine (Decidable.em (p0 = 1664)).elim (fun h31 => ?_) (fun h31 => ?_)
                        · refine lv_lookup (tgt := 242) (off := 224) hx hb xd_K_write_18 (by decide +kernel) (by rw [h31]; decide +kernel) rfl ?_
                          refine lv_aload_n hx hb xd_K_write_242 rfl (lv_at hl 0 rfl) ?_
                          refine lv_iload_n hx hb xd_K_write_243 rfl (lv_at hl 2 rfl) ?_
                          refine lv_ldc (v := (-2143289348)) hx hb hown (htg _ xw_360) xd_K_write_244 ?_
                          refine lv_iand hx hb xd_K_write_246 ?_
                          refine xput_K_hgatp (v := (p1 &&& (-2143289348 : Int32))) hx hb htg hown hK hP hD hS hg (htg _ xw_115) xd_K_write_247 (fun H locs hP hD hS hg => ?_)
                          refine lv_goto (tgt := 266) hx hb xd_K_write_250 rfl ?_
                          exact hj18 H locs ls g (xs_K_hgatp u (p1 &&& (-2143289348 : Int32))) (xif h19 (xif h20 (xif h22 (xif h23 (xif h24 (xif h25 (xif h26 (xif h27 (xif h29 (xif h30 (xit h31 rfl))))))))))) hg hl hP hD hS
                        · refine lv_lookup (tgt := 253) (off := 235) hx hb xd_K_write_18 (by decide +kernel) (by first | (rw [lv_osw h19 (by decide), lv_osw h20 (by decide), lv_osw h22 (by decide), lv_osw h23 (by decide), lv_osw h24 (by decide), lv_osw h25 (by decide), lv_osw h26 (by decide), lv_osw h27 (by decide), lv_osw h29 (by decide), lv_osw h30 (by decide), lv_osw h31 (by decide)]; rfl) | (simp only [lv_osw h19 (by decide), lv_osw h20 (by decide), lv_osw h22 (by decide), lv_osw h23 (by decide), lv_osw h24 (by decide), lv_osw h25 (by decide), lv_osw h26 (by decide), lv_osw h27 (by decide), lv_osw h29 (by decide), lv_osw h30 (by decide), lv_osw h31 (by decide)]; rfl)) rfl ?_
                          refine lv_aload_n hx hb xd_K_write_253 rfl (lv_at hl 0 rfl) ?_
                          refine xget_K_vs hx hb htg hown hK hP (htg _ xw_103) xd_K_write_254 ?_
                          refine lv_iload_n hx hb xd_K_write_257 rfl (lv_at hl 1 rfl) ?_
                          refine lv_sipush (v := 256) hx hb xd_K_write_258 (by decide) ?_
                          refine lv_isub hx hb xd_K_write_261 ?_
                          refine lv_iload_n hx hb xd_K_write_262 rfl (lv_at hl 2 rfl) ?_
                          refine xcb_V_v (b0 := (xg_V u)) rfl (va_runV (As := [.int ((p0 - (256 : Int32))), .int p1]) (rest := []) ⟨hx, hb, hml, hown, htg⟩ (c_B_write l D (xTy k) z H.size (a 6) (xg_V u) (p0 - (256 : Int32)) p1) (cwV 2 htg (xg_V0 xkin_B_write xw_348 xw_349 xsel_B_write xw_6) rfl rfl rfl (by decide +kernel) ⟨Nat.le_of_ble_eq_true rfl, Nat.le_of_ble_eq_true rfl⟩) ⟨xB_blind, xrecv_V hK hP, fun U hU hW => xpre_V hP hK hD hE hS hA hU hW⟩ rfl rfl hl.1 rfl (lv_room (Nat.le_of_ble_eq_true rfl)) xd_K_write_263 ⟨Nat.le_of_ble_eq_true rfl, Nat.le_of_ble_eq_true rfl⟩) hP hD hA hS (fun u1 H locs hw hP hD hS => ?_)
                          obtain ⟨q32, hq32⟩ : ∃ q, q = xf_B_write (xg_V u) (p0 - (256 : Int32)) p1 := ⟨_, rfl⟩
                          rw [← hq32] at hw
                          obtain rfl : q32 = u1 := hw.symm
                          have hg := xok_V (b := q32) hg
                          exact hj18 H locs ls g (xs_V u q32) (xif h19 (xif h20 (xif h22 (xif h23 (xif h24 (xif h25 (xif h26 (xif h27 (xif h29 (xif h30 (xif h31 (xlt_e hq32 rfl)))))))))))) hg hl hP hD hS
  · refine lv_aload_n hx hb xd_K_write_7 rfl (lv_at hl 0 rfl) ?_
    refine xget_K_s hx hb htg hown hK hP (htg _ xw_100) xd_K_write_8 ?_
    refine lv_iload_n hx hb xd_K_write_11 rfl (lv_at hl 1 rfl) ?_
    refine lv_iload_n hx hb xd_K_write_12 rfl (lv_at hl 2 rfl) ?_
    refine xcb_S_v (b0 := (xg_S u)) rfl (va_runV (As := [.int p0, .int p1]) (rest := []) ⟨hx, hb, hml, hown, htg⟩ (c_B_write l D (xTy k) z H.size (a 5) (xg_S u) p0 p1) (cwV 2 htg (xg_V0 xkin_B_write xw_348 xw_349 xsel_B_write xw_6) rfl rfl rfl (by decide +kernel) ⟨Nat.le_of_ble_eq_true rfl, Nat.le_of_ble_eq_true rfl⟩) ⟨xB_blind, xrecv_S hK hP, fun U hU hW => xpre_S hP hK hD hE hS hA hU hW⟩ rfl rfl hl.1 rfl (lv_room (Nat.le_of_ble_eq_true rfl)) xd_K_write_13 ⟨Nat.le_of_ble_eq_true rfl, Nat.le_of_ble_eq_true rfl⟩) hP hD hA hS (fun u1 H locs hw hP hD hS => ?_)
    obtain ⟨q33, hq33⟩ : ∃ q, q = xf_B_write (xg_S u) p0 p1 := ⟨_, rfl⟩
    rw [← hq33] at hw
    obtain rfl : q33 = u1 := hw.symm
    have hg := xok_S (b := q33) hg
    exact hret ((xs_S u q33), g) H locs ls _ ⟨(by unfold xf_K_write; exact (xlt_e hr1 (xif h2 (xlt_e hq33 rfl)))), hg⟩ hP hD hS xd_K_write_16
theorem xm_K_write (u : XH) (p0 : Int32) (p1 : Int32) : XEs (xcH u) (xf_K_write u p0 p1) := by unfold xf_K_write; exact (xlt_Es (fun r1 hr1 => (xit_Es (xlt_Es (fun v17 hv17 => (XEs_of hv17 (xit_Es (xcH_K_hie.trans rfl) (xit_Es (xlt_Es (fun q5 hq5 => ((XEs_of hq5 (xm_K_raiseSoft u (p1 <<< ((1 : Int32) &&& 31)) ((4 : Int32) &&& (xg_K_hideleg u)))).trans rfl))) (xit_Es (xcH_K_hstatus.trans rfl) (xit_Es (xcH_K_hedeleg.trans rfl) (xit_Es (xcH_K_hideleg.trans rfl) (xit_Es (xcH_K_hie.trans rfl) (xit_Es (xcH_K_htval.trans rfl) (xit_Es (xlt_Es (fun q12 hq12 => ((XEs_of hq12 (xm_K_raiseSoft u p1 (4 : Int32))).trans rfl))) (xit_Es (xcH_K_hvip.trans rfl) (xit_Es (xcH_K_htinst.trans rfl) (xit_Es (xcH_K_hgatp.trans rfl) (xlt_Es (fun q16 hq16 => (xcH_V.trans rfl))))))))))))))))) (xlt_Es (fun q33 hq33 => (xcH_S.trans rfl))))))

noncomputable def xf_T_firstStage (u : XH) (p0 : Int64) (p1 : Int32) (p2 : Int32) (p3 : Int32) : Int64 × XH :=
  if (xg_V_atp u) < 0 then
    xlt (xf_T_firstPlace (xg_V_atp u) p0 : Int64) fun r2 =>
    xlt (xf_T_walk u (xg_K_hgatp u) r2 (2 : Int32) (81 : Int32) (0 : Int32) : Int64 × XH) fun q3 =>
    if 0 ≤ (lg_cmp q3.1 (0 : Int64)) then
      xlt (xf_M_readWord 64 (xg_M q3.2).1 (Int64.toInt32 q3.1) : Int32 × XM1) fun q6 =>
      xlt (xf_T_isLeaf q6.1 : Int32) fun r7 =>
      if r7 = 0 then
        xlt (xf_T_isPointer q6.1 : Int32) fun r9 =>
        if r9 = 0 then
          ((-1), (xs_M1 q3.2 q6.2))
        else
          xlt (xf_T_nextPlace q6.1 p0 : Int64) fun r11 =>
          xlt (xf_T_walk (xs_M1 q3.2 q6.2) (xg_K_hgatp (xs_M1 q3.2 q6.2)) r11 (2 : Int32) (81 : Int32) (0 : Int32) : Int64 × XH) fun q12 =>
          if 0 ≤ (lg_cmp q12.1 (0 : Int64)) then
            xlt (xf_M_readWord 64 (xg_M q12.2).1 (Int64.toInt32 q12.1) : Int32 × XM1) fun q15 =>
            xlt (xf_T_isLeaf q15.1 : Int32) fun r16 =>
            if r16 = 0 then
              xlt (xf_T_isPointer q15.1 : Int32) fun r18 =>
              if r18 = 0 then
                ((-1), (xs_M1 q12.2 q15.2))
              else
                xlt (xf_T_nextPlace q15.1 p0 : Int64) fun r20 =>
                ((-1), (xs_M1 q12.2 q15.2))
            else
              xlt (xf_T_allows q15.1 (1 : Int32) p1 p2 p3 : Int32) fun r21 =>
              xlt (if r21 = 0 then ((-1)) else (xlt (xf_T_result q15.1 (1 : Int32) p0 : Int64) fun r23 => r23) : Int64) fun v24 =>
              (v24, (xs_M1 q12.2 q15.2))
          else
            xlt (xf_T_guestVerdict q12.2 q12.1 r11 (8192 : Int32) : Int64 × XH) fun q28 =>
            (q28.1, q28.2)
      else
        xlt (xf_T_allows q6.1 (0 : Int32) p1 p2 p3 : Int32) fun r29 =>
        xlt (if r29 = 0 then ((-1)) else (xlt (xf_T_result q6.1 (0 : Int32) p0 : Int64) fun r31 => r31) : Int64) fun v32 =>
        (v32, (xs_M1 q3.2 q6.2))
    else
      xlt (xf_T_guestVerdict q3.2 q3.1 r2 (8192 : Int32) : Int64 × XH) fun q36 =>
      (q36.1, q36.2)
  else
    (p0, u)
set_option maxHeartbeats 4000000 in
set_option maxRecDepth 100000 in
theorem c_T_firstStage (l : Launch) (D : va_G) (z : (Nat → Nat) × (Nat → Nat)) (k : ClassId × ClassId) (a : Nat → Nat) (g : XG) (sz : Nat) (u : XH) (hg : xok k g u) (p0 : Int64) (p1 : Int32) (p2 : Int32) (p3 : Int32) : Met l xy_T_firstStage (xk_T_firstStage :: lw_g) { frames := 2, cells := 0, slots := 0, locals := 55 } (va_Pc [.ref ((a 3)), .long p0, .int p1, .int p2, .int p3] (xB D (xTy k) z sz (xWH k a g u))) (va_Ql (fun r (q : XH × XG) => (r, q.1) = xf_T_firstStage u p0 p1 p2 p3 ∧ xok k q.2 q.1) (fun q t => xQ D (xTy k) (xWH k a q.2 q.1) (va_A (xWH k a g u) sz) t) (va_A (xWH k a g u) sz)) 0 0 (va_A (xWH k a g u) sz) := by
  refine xopen_l (wf := fun q : XH × XG => xWH k a q.2 q.1) (lv := [(0, .ref ((a 3))), (1, .long p0), (3, .int p1), (4, .int p2), (5, .int p3)]) (by decide) rfl (Nat.le_of_ble_eq_true rfl) ?_
  intro p e s m args below meth c Q ls A H locs hx hb hml htg hown hin hK hP hD hE hS hA hl hret
  refine lv_aload_n hx hb xd_T_firstStage_0 rfl (lv_at hl 0 rfl) ?_
  refine xget_T_controls hx hb htg hown hK hP (htg _ xw_188) xd_T_firstStage_1 ?_
  refine xget_K_vs hx hb htg hown hK hP (htg _ xw_104) xd_T_firstStage_4 ?_
  refine xget_V_atp (v := (xg_V_atp u)) hx hb htg hown hK hP (htg _ xw_80) rfl xd_T_firstStage_7 ?_
  refine lv_istore (lv' := [(6, .int ((xg_V_atp u))), (0, .ref ((a 3))), (1, .long p0), (3, .int p1), (4, .int p2), (5, .int p3)]) hx hb xd_T_firstStage_10 hl (by decide) rfl (fun ls hl => ?_)
  refine lv_iload hx hb xd_T_firstStage_12 (lv_at hl 0 rfl) ?_
  refine lv_if_lt (tgt := 19) hx hb xd_T_firstStage_14 rfl (fun h1 => ?_) (fun h1 => ?_)
  · refine lv_iload hx hb xd_T_firstStage_19 (lv_at hl 0 rfl) ?_
    refine lv_lload_n hx hb xd_T_firstStage_21 rfl (lv_at hl 2 rfl) ?_
    refine xc0_l (va_runS (As := [.int ((xg_V_atp u)), .long p0]) (rest := []) ⟨hx, hb, hml, hown, htg⟩ (c_T_firstPlace l D (xTy k) z H.size (xg_V_atp u) p0) (va_cwS 2 htg (xg_S0 xkin_T_firstPlace xw_446 xw_447 xw_4) rfl rfl rfl (by decide +kernel) ⟨Nat.le_of_ble_eq_true rfl, Nat.le_of_ble_eq_true rfl⟩) ⟨xB_blind, fun U hU hW => xB_mk va_P0 hK va_D0 hE hS (xsub0 hA hS) hU hW⟩ rfl rfl hl.1 rfl (lv_room (Nat.le_of_ble_eq_true rfl)) xd_T_firstStage_22 ⟨Nat.le_of_ble_eq_true rfl, Nat.le_of_ble_eq_true rfl⟩) hP hA hS (fun r2 H locs hr2 hP hS => ?_)
    refine lv_lstore (lv' := [(7, .long r2), (6, .int ((xg_V_atp u))), (0, .ref ((a 3))), (1, .long p0), (3, .int p1), (4, .int p2), (5, .int p3)]) hx hb xd_T_firstStage_25 hl (by decide) rfl (fun ls hl => ?_)
    refine lv_iconst (v := 0) hx hb xd_T_firstStage_27 (by decide) ?_
    refine lv_istore (lv' := [(9, .int 0), (7, .long r2), (6, .int ((xg_V_atp u))), (0, .ref ((a 3))), (1, .long p0), (3, .int p1), (4, .int p2), (5, .int p3)]) hx hb xd_T_firstStage_28 hl (by decide) rfl (fun ls hl => ?_)
    refine lv_iload hx hb xd_T_firstStage_30 (lv_at hl 0 rfl) ?_
    refine lv_iconst (v := 2) hx hb xd_T_firstStage_32 (by decide) ?_
    refine lv_icmp_ge (tgt := 150) hx hb xd_T_firstStage_33 rfl (fun h => absurd h (by decide)) (fun _ => ?_)
    refine lv_aload_n hx hb xd_T_firstStage_36 rfl (lv_at hl 3 rfl) ?_
    refine lv_aload_n hx hb xd_T_firstStage_37 rfl (lv_at hl 3 rfl) ?_
    refine xget_T_controls hx hb htg hown hK hP (htg _ xw_188) xd_T_firstStage_38 ?_
    refine xget_K_hgatp (v := (xg_K_hgatp u)) hx hb htg hown hK hP (htg _ xw_116) rfl xd_T_firstStage_41 ?_
    refine lv_lload hx hb xd_T_firstStage_44 (lv_at hl 1 rfl) ?_
    refine lv_iconst (v := 2) hx hb xd_T_firstStage_46 (by decide) ?_
    refine lv_bipush (v := 81) hx hb xd_T_firstStage_47 (by decide) ?_
    refine lv_iconst (v := 0) hx hb xd_T_firstStage_49 (by decide) ?_
    refine xcW_l (va_runV (As := [.int ((xg_K_hgatp u)), .long r2, .int 2, .int 81, .int 0]) (rest := []) ⟨hx, hb, hml, hown, htg⟩ (c_T_walk l D z k a g H.size u hg (xg_K_hgatp u) r2 (2 : Int32) (81 : Int32) (0 : Int32)) (cwV 5 htg (xg_V0 xkin_T_walk xw_451 xw_453 xsel_T_walk xw_4) rfl rfl rfl (by decide +kernel) ⟨Nat.le_of_ble_eq_true rfl, Nat.le_of_ble_eq_true rfl⟩) ⟨xB_blind, xrecv_T hK hP, fun U hU hW => xB_mk hP hK hD hE hS (xsubW hD hA hS) hU hW⟩ rfl rfl hl.1 rfl (lv_room (Nat.le_of_ble_eq_true rfl)) xd_T_firstStage_50 ⟨Nat.le_of_ble_eq_true rfl, Nat.le_of_ble_eq_true rfl⟩) hD hA hS (fun r w1 H locs hw hP hD hS => ?_)
    obtain ⟨u1, g⟩ := w1
    obtain ⟨q3, hq3⟩ : ∃ q, q = xf_T_walk u (xg_K_hgatp u) r2 (2 : Int32) (81 : Int32) (0 : Int32) := ⟨_, rfl⟩
    obtain ⟨e1, hg⟩ := hw
    rw [← hq3] at e1
    obtain rfl : r = q3.1 := congrArg Prod.fst e1
    obtain rfl : u1 = q3.2 := congrArg Prod.snd e1
    have hP : va_P D xCl (xWH k a g q3.2) H := hP
    have hD : va_D A (xWH k a g q3.2) := hD
    have hg : xok k g q3.2 := hg
    refine lv_lstore (lv' := [(10, .long (q3.1)), (9, .int 0), (7, .long r2), (6, .int ((xg_V_atp u))), (0, .ref ((a 3))), (1, .long p0), (3, .int p1), (4, .int p2), (5, .int p3)]) hx hb xd_T_firstStage_53 hl (by decide) rfl (fun ls hl => ?_)
    refine lv_lload hx hb xd_T_firstStage_55 (lv_at hl 0 rfl) ?_
    refine lv_lconst (v := 0) hx hb xd_T_firstStage_57 (by decide) ?_
    refine W.lcmp hx hb xd_T_firstStage_58 ?_
    refine lv_if_ge (tgt := 74) hx hb xd_T_firstStage_59 rfl (fun h4 => ?_) (fun h4 => ?_)
    · refine lv_aload_n hx hb xd_T_firstStage_74 rfl (lv_at hl 4 rfl) ?_
      refine xget_T_memory hx hb htg hown hK hP (htg _ xw_186) xd_T_firstStage_75 ?_
      refine lv_lload hx hb xd_T_firstStage_78 (lv_at hl 0 rfl) ?_
      refine lv_l2i (v := (Int64.toInt32 q3.1)) hx hb xd_T_firstStage_80 rfl ?_
      obtain ⟨q6, hq6⟩ : ∃ q, q = xf_M_readWord 64 (xg_M q3.2).1 (Int64.toInt32 q3.1) := ⟨_, rfl⟩
      refine xcM_i hq6 (va_runV (As := [.int ((Int64.toInt32 q3.1))]) (rest := []) ⟨hx, hb, hml, hown, htg⟩ (c_M_readWord l D z k H.size (a 8) (a 10) 64 (by decide) g.1 (xg_M q3.2).1 hg.1 (Int64.toInt32 q3.1)) (cwV 1 htg (xg_V0 xkin_M_readWord xw_460 xw_310 xsel_M_readWord xw_3) rfl rfl rfl (by decide +kernel) ⟨Nat.le_of_ble_eq_true rfl, Nat.le_of_ble_eq_true rfl⟩) ⟨xB_blind, xrecv_M hK hP, fun U hU hW => xpre_M hP hK hD hE hS hA hU hW⟩ rfl rfl hl.1 rfl (lv_room (Nat.le_of_ble_eq_true rfl)) xd_T_firstStage_81 ⟨Nat.le_of_ble_eq_true rfl, Nat.le_of_ble_eq_true rfl⟩) hP hD hA hS hg (fun g H locs hP hD hS hg => ?_)
      refine lv_istore (lv' := [(12, .int (q6.1)), (10, .long (q3.1)), (9, .int 0), (7, .long r2), (6, .int ((xg_V_atp u))), (0, .ref ((a 3))), (1, .long p0), (3, .int p1), (4, .int p2), (5, .int p3)]) hx hb xd_T_firstStage_84 hl (by decide) rfl (fun ls hl => ?_)
      refine lv_iload hx hb xd_T_firstStage_86 (lv_at hl 0 rfl) ?_
      refine xc0_i (va_runS (As := [.int (q6.1)]) (rest := []) ⟨hx, hb, hml, hown, htg⟩ (c_T_isLeaf l D (xTy k) z H.size q6.1) (va_cwS 1 htg (xg_S0 xkin_T_isLeaf xw_461 xw_462 xw_4) rfl rfl rfl (by decide +kernel) ⟨Nat.le_of_ble_eq_true rfl, Nat.le_of_ble_eq_true rfl⟩) ⟨xB_blind, fun U hU hW => xB_mk va_P0 hK va_D0 hE hS (xsub0 hA hS) hU hW⟩ rfl rfl hl.1 rfl (lv_room (Nat.le_of_ble_eq_true rfl)) xd_T_firstStage_88 ⟨Nat.le_of_ble_eq_true rfl, Nat.le_of_ble_eq_true rfl⟩) hP hA hS (fun r7 H locs hr7 hP hS => ?_)
      refine lv_if_eq (tgt := 124) hx hb xd_T_firstStage_91 rfl (fun h8 => ?_) (fun h8 => ?_)
      · refine lv_iload hx hb xd_T_firstStage_124 (lv_at hl 0 rfl) ?_
        refine xc0_i (va_runS (As := [.int (q6.1)]) (rest := []) ⟨hx, hb, hml, hown, htg⟩ (c_T_isPointer l D (xTy k) z H.size q6.1) (va_cwS 1 htg (xg_S0 xkin_T_isPointer xw_472 xw_473 xw_4) rfl rfl rfl (by decide +kernel) ⟨Nat.le_of_ble_eq_true rfl, Nat.le_of_ble_eq_true rfl⟩) ⟨xB_blind, fun U hU hW => xB_mk va_P0 hK va_D0 hE hS (xsub0 hA hS) hU hW⟩ rfl rfl hl.1 rfl (lv_room (Nat.le_of_ble_eq_true rfl)) xd_T_firstStage_126 ⟨Nat.le_of_ble_eq_true rfl, Nat.le_of_ble_eq_true rfl⟩) hP hA hS (fun r9 H locs hr9 hP hS => ?_)
        refine lv_if_ne (tgt := 136) hx hb xd_T_firstStage_129 rfl (fun h10 => ?_) (fun h10 => ?_)
        · refine lv_iload hx hb xd_T_firstStage_136 (lv_at hl 0 rfl) ?_
          refine lv_lload_n hx hb xd_T_firstStage_138 rfl (lv_at hl 6 rfl) ?_
          refine xc0_l (va_runS (As := [.int (q6.1), .long p0]) (rest := []) ⟨hx, hb, hml, hown, htg⟩ (c_T_nextPlace l D (xTy k) z H.size q6.1 p0) (va_cwS 2 htg (xg_S0 xkin_T_nextPlace xw_475 xw_476 xw_4) rfl rfl rfl (by decide +kernel) ⟨Nat.le_of_ble_eq_true rfl, Nat.le_of_ble_eq_true rfl⟩) ⟨xB_blind, fun U hU hW => xB_mk va_P0 hK va_D0 hE hS (xsub0 hA hS) hU hW⟩ rfl rfl hl.1 rfl (lv_room (Nat.le_of_ble_eq_true rfl)) xd_T_firstStage_139 ⟨Nat.le_of_ble_eq_true rfl, Nat.le_of_ble_eq_true rfl⟩) hP hA hS (fun r11 H locs hr11 hP hS => ?_)
          refine lv_lstore (lv' := [(7, .long r11), (12, .int (q6.1)), (10, .long (q3.1)), (9, .int 0), (6, .int ((xg_V_atp u))), (0, .ref ((a 3))), (1, .long p0), (3, .int p1), (4, .int p2), (5, .int p3)]) hx hb xd_T_firstStage_142 hl (by decide) rfl (fun ls hl => ?_)
          refine lv_iinc (k := 3) (v := 1) (lv' := [(9, .int 1), (7, .long r11), (12, .int (q6.1)), (10, .long (q3.1)), (6, .int ((xg_V_atp u))), (0, .ref ((a 3))), (1, .long p0), (3, .int p1), (4, .int p2), (5, .int p3)]) hx hb xd_T_firstStage_144 hl rfl (by first | rfl | decide) (by decide) rfl (fun ls hl => ?_)
          refine lv_goto (tgt := 30) hx hb xd_T_firstStage_147 rfl ?_
          refine lv_iload hx hb xd_T_firstStage_30 (lv_at hl 0 rfl) ?_
          refine lv_iconst (v := 2) hx hb xd_T_firstStage_32 (by decide) ?_
          refine lv_icmp_ge (tgt := 150) hx hb xd_T_firstStage_33 rfl (fun h => absurd h (by decide)) (fun _ => ?_)
          refine lv_aload_n hx hb xd_T_firstStage_36 rfl (lv_at hl 5 rfl) ?_
          refine lv_aload_n hx hb xd_T_firstStage_37 rfl (lv_at hl 5 rfl) ?_
          refine xget_T_controls hx hb htg hown hK hP (htg _ xw_188) xd_T_firstStage_38 ?_
          refine xget_K_hgatp (v := (xg_K_hgatp (xs_M1 q3.2 q6.2))) hx hb htg hown hK hP (htg _ xw_116) rfl xd_T_firstStage_41 ?_
          refine lv_lload hx hb xd_T_firstStage_44 (lv_at hl 1 rfl) ?_
          refine lv_iconst (v := 2) hx hb xd_T_firstStage_46 (by decide) ?_
          refine lv_bipush (v := 81) hx hb xd_T_firstStage_47 (by decide) ?_
          refine lv_iconst (v := 0) hx hb xd_T_firstStage_49 (by decide) ?_
          refine xcW_l (va_runV (As := [.int ((xg_K_hgatp (xs_M1 q3.2 q6.2))), .long r11, .int 2, .int 81, .int 0]) (rest := []) ⟨hx, hb, hml, hown, htg⟩ (c_T_walk l D z k a g H.size (xs_M1 q3.2 q6.2) hg (xg_K_hgatp (xs_M1 q3.2 q6.2)) r11 (2 : Int32) (81 : Int32) (0 : Int32)) (cwV 5 htg (xg_V0 xkin_T_walk xw_451 xw_453 xsel_T_walk xw_4) rfl rfl rfl (by decide +kernel) ⟨Nat.le_of_ble_eq_true rfl, Nat.le_of_ble_eq_true rfl⟩) ⟨xB_blind, xrecv_T hK hP, fun U hU hW => xB_mk hP hK hD hE hS (xsubW hD hA hS) hU hW⟩ rfl rfl hl.1 rfl (lv_room (Nat.le_of_ble_eq_true rfl)) xd_T_firstStage_50 ⟨Nat.le_of_ble_eq_true rfl, Nat.le_of_ble_eq_true rfl⟩) hD hA hS (fun r w1 H locs hw hP hD hS => ?_)
          obtain ⟨u1, g⟩ := w1
          obtain ⟨q12, hq12⟩ : ∃ q, q = xf_T_walk (xs_M1 q3.2 q6.2) (xg_K_hgatp (xs_M1 q3.2 q6.2)) r11 (2 : Int32) (81 : Int32) (0 : Int32) := ⟨_, rfl⟩
          obtain ⟨e1, hg⟩ := hw
          rw [← hq12] at e1
          obtain rfl : r = q12.1 := congrArg Prod.fst e1
          obtain rfl : u1 = q12.2 := congrArg Prod.snd e1
          have hP : va_P D xCl (xWH k a g q12.2) H := hP
          have hD : va_D A (xWH k a g q12.2) := hD
          have hg : xok k g q12.2 := hg
          refine lv_lstore (lv' := [(10, .long (q12.1)), (9, .int 1), (7, .long r11), (12, .int (q6.1)), (6, .int ((xg_V_atp u))), (0, .ref ((a 3))), (1, .long p0), (3, .int p1), (4, .int p2), (5, .int p3)]) hx hb xd_T_firstStage_53 hl (by decide) rfl (fun ls hl => ?_)
          refine lv_lload hx hb xd_T_firstStage_55 (lv_at hl 0 rfl) ?_
          refine lv_lconst (v := 0) hx hb xd_T_firstStage_57 (by decide) ?_
          refine W.lcmp hx hb xd_T_firstStage_58 ?_
          refine lv_if_ge (tgt := 74) hx hb xd_T_firstStage_59 rfl (fun h13 => ?_) (fun h13 => ?_)
          · refine lv_aload_n hx hb xd_T_firstStage_74 rfl (lv_at hl 5 rfl) ?_
            refine xget_T_memory hx hb htg hown hK hP (htg _ xw_186) xd_T_firstStage_75 ?_
            refine lv_lload hx hb xd_T_firstStage_78 (lv_at hl 0 rfl) ?_
            refine lv_l2i (v := (Int64.toInt32 q12.1)) hx hb xd_T_firstStage_80 rfl ?_
            obtain ⟨q15, hq15⟩ : ∃ q, q = xf_M_readWord 64 (xg_M q12.2).1 (Int64.toInt32 q12.1) := ⟨_, rfl⟩
            refine xcM_i hq15 (va_runV (As := [.int ((Int64.toInt32 q12.1))]) (rest := []) ⟨hx, hb, hml, hown, htg⟩ (c_M_readWord l D z k H.size (a 8) (a 10) 64 (by decide) g.1 (xg_M q12.2).1 hg.1 (Int64.toInt32 q12.1)) (cwV 1 htg (xg_V0 xkin_M_readWord xw_460 xw_310 xsel_M_readWord xw_3) rfl rfl rfl (by decide +kernel) ⟨Nat.le_of_ble_eq_true rfl, Nat.le_of_ble_eq_true rfl⟩) ⟨xB_blind, xrecv_M hK hP, fun U hU hW => xpre_M hP hK hD hE hS hA hU hW⟩ rfl rfl hl.1 rfl (lv_room (Nat.le_of_ble_eq_true rfl)) xd_T_firstStage_81 ⟨Nat.le_of_ble_eq_true rfl, Nat.le_of_ble_eq_true rfl⟩) hP hD hA hS hg (fun g H locs hP hD hS hg => ?_)
            refine lv_istore (lv' := [(12, .int (q15.1)), (10, .long (q12.1)), (9, .int 1), (7, .long r11), (6, .int ((xg_V_atp u))), (0, .ref ((a 3))), (1, .long p0), (3, .int p1), (4, .int p2), (5, .int p3)]) hx hb xd_T_firstStage_84 hl (by decide) rfl (fun ls hl => ?_)
            refine lv_iload hx hb xd_T_firstStage_86 (lv_at hl 0 rfl) ?_
            refine xc0_i (va_runS (As := [.int (q15.1)]) (rest := []) ⟨hx, hb, hml, hown, htg⟩ (c_T_isLeaf l D (xTy k) z H.size q15.1) (va_cwS 1 htg (xg_S0 xkin_T_isLeaf xw_461 xw_462 xw_4) rfl rfl rfl (by decide +kernel) ⟨Nat.le_of_ble_eq_true rfl, Nat.le_of_ble_eq_true rfl⟩) ⟨xB_blind, fun U hU hW => xB_mk va_P0 hK va_D0 hE hS (xsub0 hA hS) hU hW⟩ rfl rfl hl.1 rfl (lv_room (Nat.le_of_ble_eq_true rfl)) xd_T_firstStage_88 ⟨Nat.le_of_ble_eq_true rfl, Nat.le_of_ble_eq_true rfl⟩) hP hA hS (fun r16 H locs hr16 hP hS => ?_)
            refine lv_if_eq (tgt := 124) hx hb xd_T_firstStage_91 rfl (fun h17 => ?_) (fun h17 => ?_)
            · refine lv_iload hx hb xd_T_firstStage_124 (lv_at hl 0 rfl) ?_
              refine xc0_i (va_runS (As := [.int (q15.1)]) (rest := []) ⟨hx, hb, hml, hown, htg⟩ (c_T_isPointer l D (xTy k) z H.size q15.1) (va_cwS 1 htg (xg_S0 xkin_T_isPointer xw_472 xw_473 xw_4) rfl rfl rfl (by decide +kernel) ⟨Nat.le_of_ble_eq_true rfl, Nat.le_of_ble_eq_true rfl⟩) ⟨xB_blind, fun U hU hW => xB_mk va_P0 hK va_D0 hE hS (xsub0 hA hS) hU hW⟩ rfl rfl hl.1 rfl (lv_room (Nat.le_of_ble_eq_true rfl)) xd_T_firstStage_126 ⟨Nat.le_of_ble_eq_true rfl, Nat.le_of_ble_eq_true rfl⟩) hP hA hS (fun r18 H locs hr18 hP hS => ?_)
              refine lv_if_ne (tgt := 136) hx hb xd_T_firstStage_129 rfl (fun h19 => ?_) (fun h19 => ?_)
              · refine lv_iload hx hb xd_T_firstStage_136 (lv_at hl 0 rfl) ?_
                refine lv_lload_n hx hb xd_T_firstStage_138 rfl (lv_at hl 6 rfl) ?_
                refine xc0_l (va_runS (As := [.int (q15.1), .long p0]) (rest := []) ⟨hx, hb, hml, hown, htg⟩ (c_T_nextPlace l D (xTy k) z H.size q15.1 p0) (va_cwS 2 htg (xg_S0 xkin_T_nextPlace xw_475 xw_476 xw_4) rfl rfl rfl (by decide +kernel) ⟨Nat.le_of_ble_eq_true rfl, Nat.le_of_ble_eq_true rfl⟩) ⟨xB_blind, fun U hU hW => xB_mk va_P0 hK va_D0 hE hS (xsub0 hA hS) hU hW⟩ rfl rfl hl.1 rfl (lv_room (Nat.le_of_ble_eq_true rfl)) xd_T_firstStage_139 ⟨Nat.le_of_ble_eq_true rfl, Nat.le_of_ble_eq_true rfl⟩) hP hA hS (fun r20 H locs hr20 hP hS => ?_)
                refine lv_lstore (lv' := [(7, .long r20), (12, .int (q15.1)), (10, .long (q12.1)), (9, .int 1), (6, .int ((xg_V_atp u))), (0, .ref ((a 3))), (1, .long p0), (3, .int p1), (4, .int p2), (5, .int p3)]) hx hb xd_T_firstStage_142 hl (by decide) rfl (fun ls hl => ?_)
                refine lv_iinc (k := 3) (v := 2) (lv' := [(9, .int 2), (7, .long r20), (12, .int (q15.1)), (10, .long (q12.1)), (6, .int ((xg_V_atp u))), (0, .ref ((a 3))), (1, .long p0), (3, .int p1), (4, .int p2), (5, .int p3)]) hx hb xd_T_firstStage_144 hl rfl (by first | rfl | decide) (by decide) rfl (fun ls hl => ?_)
                refine lv_goto (tgt := 30) hx hb xd_T_firstStage_147 rfl ?_
                refine lv_iload hx hb xd_T_firstStage_30 (lv_at hl 0 rfl) ?_
                refine lv_iconst (v := 2) hx hb xd_T_firstStage_32 (by decide) ?_
                refine lv_icmp_ge (tgt := 150) hx hb xd_T_firstStage_33 rfl (fun _ => ?_) (fun h => absurd h (by decide))
                refine lv_ldc2 (v := (-1)) hx hb hown (htg _ xw_471) xd_T_firstStage_150 ?_
                exact hret _ ((xs_M1 q12.2 q15.2), g) H locs ls _ ⟨(by unfold xf_T_firstStage; exact (xit h1 (xlt_e hr2 (xlt_e hq3 (xit h4 (xlt_e hq6 (xlt_e hr7 (xit h8 (xlt_e hr9 (xif h10 (xlt_e hr11 (xlt_e hq12 (xit h13 (xlt_e hq15 (xlt_e hr16 (xit h17 (xlt_e hr18 (xif h19 (xlt_e hr20 rfl))))))))))))))))))), hg⟩ hP hD hS xd_T_firstStage_153
              · refine lv_ldc2 (v := (-1)) hx hb hown (htg _ xw_471) xd_T_firstStage_132 ?_
                exact hret _ ((xs_M1 q12.2 q15.2), g) H locs ls _ ⟨(by unfold xf_T_firstStage; exact (xit h1 (xlt_e hr2 (xlt_e hq3 (xit h4 (xlt_e hq6 (xlt_e hr7 (xit h8 (xlt_e hr9 (xif h10 (xlt_e hr11 (xlt_e hq12 (xit h13 (xlt_e hq15 (xlt_e hr16 (xit h17 (xlt_e hr18 (xit h19 rfl)))))))))))))))))), hg⟩ hP hD hS xd_T_firstStage_135
            · refine lv_iload hx hb xd_T_firstStage_94 (lv_at hl 0 rfl) ?_
              refine lv_iload hx hb xd_T_firstStage_96 (lv_at hl 2 rfl) ?_
              refine lv_iload_n hx hb xd_T_firstStage_98 rfl (lv_at hl 7 rfl) ?_
              refine lv_iload hx hb xd_T_firstStage_99 (lv_at hl 8 rfl) ?_
              refine lv_iload hx hb xd_T_firstStage_101 (lv_at hl 9 rfl) ?_
              refine xc0_i (va_runS (As := [.int (q15.1), .int 1, .int p1, .int p2, .int p3]) (rest := []) ⟨hx, hb, hml, hown, htg⟩ (c_T_allows l D (xTy k) z H.size q15.1 (1 : Int32) p1 p2 p3) (va_cwS 5 htg (xg_S0 xkin_T_allows xw_464 xw_465 xw_4) rfl rfl rfl (by decide +kernel) ⟨Nat.le_of_ble_eq_true rfl, Nat.le_of_ble_eq_true rfl⟩) ⟨xB_blind, fun U hU hW => xB_mk va_P0 hK va_D0 hE hS (xsub0 hA hS) hU hW⟩ rfl rfl hl.1 rfl (lv_room (Nat.le_of_ble_eq_true rfl)) xd_T_firstStage_103 ⟨Nat.le_of_ble_eq_true rfl, Nat.le_of_ble_eq_true rfl⟩) hP hA hS (fun r21 H locs hr21 hP hS => ?_)
              have hj25 : ∀ (H : Heap) (locs : List Loc) (ls : Array Slot) (g : XG) (v24 : Int64), v24 = (if r21 = 0 then ((-1)) else (xlt (xf_T_result q15.1 (1 : Int32) p0 : Int64) fun r23 => r23)) → xok k g (xs_M1 q12.2 q15.2) → lv_has ls 13 [(12, .int (q15.1)), (10, .long (q12.1)), (9, .int 1), (7, .long r11), (6, .int ((xg_V_atp u))), (0, .ref ((a 3))), (1, .long p0), (3, .int p1), (4, .int p2), (5, .int p3)] → va_P D xCl (xWH k a g (xs_M1 q12.2 q15.2)) H → va_D A (xWH k a g (xs_M1 q12.2 q15.2)) → va_S A s.heap H locs → W p l e { frames := 2, cells := 0, slots := 0, locals := 55 } s m args below meth c H locs (0) (0) Q (F0 m 123 ls [.long v24]) := by
                intro H locs ls g v24 hv24 hg hl hP hD hS
                exact hret _ ((xs_M1 q12.2 q15.2), g) H locs ls _ ⟨(by unfold xf_T_firstStage; exact (xit h1 (xlt_e hr2 (xlt_e hq3 (xit h4 (xlt_e hq6 (xlt_e hr7 (xit h8 (xlt_e hr9 (xif h10 (xlt_e hr11 (xlt_e hq12 (xit h13 (xlt_e hq15 (xlt_e hr16 (xif h17 (xlt_e hr21 (xlt_e hv24 rfl)))))))))))))))))), hg⟩ hP hD hS xd_T_firstStage_123
              refine lv_if_eq (tgt := 120) hx hb xd_T_firstStage_106 rfl (fun h26 => ?_) (fun h26 => ?_)
              · refine lv_ldc2 (v := (-1)) hx hb hown (htg _ xw_471) xd_T_firstStage_120 ?_
                exact hj25 H locs ls g (-1 : Int64) (xit h26 rfl) hg hl hP hD hS
              · refine lv_iload hx hb xd_T_firstStage_109 (lv_at hl 0 rfl) ?_
                refine lv_iload hx hb xd_T_firstStage_111 (lv_at hl 2 rfl) ?_
                refine lv_lload_n hx hb xd_T_firstStage_113 rfl (lv_at hl 6 rfl) ?_
                refine xc0_l (va_runS (As := [.int (q15.1), .int 1, .long p0]) (rest := []) ⟨hx, hb, hml, hown, htg⟩ (c_T_result l D (xTy k) z H.size q15.1 (1 : Int32) p0) (va_cwS 3 htg (xg_S0 xkin_T_result xw_468 xw_469 xw_4) rfl rfl rfl (by decide +kernel) ⟨Nat.le_of_ble_eq_true rfl, Nat.le_of_ble_eq_true rfl⟩) ⟨xB_blind, fun U hU hW => xB_mk va_P0 hK va_D0 hE hS (xsub0 hA hS) hU hW⟩ rfl rfl hl.1 rfl (lv_room (Nat.le_of_ble_eq_true rfl)) xd_T_firstStage_114 ⟨Nat.le_of_ble_eq_true rfl, Nat.le_of_ble_eq_true rfl⟩) hP hA hS (fun r27 H locs hr27 hP hS => ?_)
                refine lv_goto (tgt := 123) hx hb xd_T_firstStage_117 rfl ?_
                exact hj25 H locs ls g r27 (xif h26 (xlt_e hr27 rfl)) hg hl hP hD hS
          · refine lv_aload_n hx hb xd_T_firstStage_62 rfl (lv_at hl 5 rfl) ?_
            refine lv_lload hx hb xd_T_firstStage_63 (lv_at hl 0 rfl) ?_
            refine lv_lload hx hb xd_T_firstStage_65 (lv_at hl 2 rfl) ?_
            refine lv_sipush (v := 8192) hx hb xd_T_firstStage_67 (by decide) ?_
            refine xcW_l (va_runV (As := [.long (q12.1), .long r11, .int 8192]) (rest := []) ⟨hx, hb, hml, hown, htg⟩ (c_T_guestVerdict l D z k a g H.size q12.2 hg q12.1 r11 (8192 : Int32)) (cwV 3 htg (xg_V0 xkin_T_guestVerdict xw_479 xw_481 xsel_T_guestVerdict xw_4) rfl rfl rfl (by decide +kernel) ⟨Nat.le_of_ble_eq_true rfl, Nat.le_of_ble_eq_true rfl⟩) ⟨xB_blind, xrecv_T hK hP, fun U hU hW => xB_mk hP hK hD hE hS (xsubW hD hA hS) hU hW⟩ rfl rfl hl.1 rfl (lv_room (Nat.le_of_ble_eq_true rfl)) xd_T_firstStage_70 ⟨Nat.le_of_ble_eq_true rfl, Nat.le_of_ble_eq_true rfl⟩) hD hA hS (fun r w1 H locs hw hP hD hS => ?_)
            obtain ⟨u1, g⟩ := w1
            obtain ⟨q28, hq28⟩ : ∃ q, q = xf_T_guestVerdict q12.2 q12.1 r11 (8192 : Int32) := ⟨_, rfl⟩
            obtain ⟨e1, hg⟩ := hw
            rw [← hq28] at e1
            obtain rfl : r = q28.1 := congrArg Prod.fst e1
            obtain rfl : u1 = q28.2 := congrArg Prod.snd e1
            have hP : va_P D xCl (xWH k a g q28.2) H := hP
            have hD : va_D A (xWH k a g q28.2) := hD
            have hg : xok k g q28.2 := hg
            exact hret _ (q28.2, g) H locs ls _ ⟨(by unfold xf_T_firstStage; exact (xit h1 (xlt_e hr2 (xlt_e hq3 (xit h4 (xlt_e hq6 (xlt_e hr7 (xit h8 (xlt_e hr9 (xif h10 (xlt_e hr11 (xlt_e hq12 (xif h13 (xlt_e hq28 rfl)))))))))))))), hg⟩ hP hD hS xd_T_firstStage_73
        · refine lv_ldc2 (v := (-1)) hx hb hown (htg _ xw_471) xd_T_firstStage_132 ?_
          exact hret _ ((xs_M1 q3.2 q6.2), g) H locs ls _ ⟨(by unfold xf_T_firstStage; exact (xit h1 (xlt_e hr2 (xlt_e hq3 (xit h4 (xlt_e hq6 (xlt_e hr7 (xit h8 (xlt_e hr9 (xit h10 rfl)))))))))), hg⟩ hP hD hS xd_T_firstStage_135
      · refine lv_iload hx hb xd_T_firstStage_94 (lv_at hl 0 rfl) ?_
        refine lv_iload hx hb xd_T_firstStage_96 (lv_at hl 2 rfl) ?_
        refine lv_iload_n hx hb xd_T_firstStage_98 rfl (lv_at hl 7 rfl) ?_
        refine lv_iload hx hb xd_T_firstStage_99 (lv_at hl 8 rfl) ?_
        refine lv_iload hx hb xd_T_firstStage_101 (lv_at hl 9 rfl) ?_
        refine xc0_i (va_runS (As := [.int (q6.1), .int 0, .int p1, .int p2, .int p3]) (rest := []) ⟨hx, hb, hml, hown, htg⟩ (c_T_allows l D (xTy k) z H.size q6.1 (0 : Int32) p1 p2 p3) (va_cwS 5 htg (xg_S0 xkin_T_allows xw_464 xw_465 xw_4) rfl rfl rfl (by decide +kernel) ⟨Nat.le_of_ble_eq_true rfl, Nat.le_of_ble_eq_true rfl⟩) ⟨xB_blind, fun U hU hW => xB_mk va_P0 hK va_D0 hE hS (xsub0 hA hS) hU hW⟩ rfl rfl hl.1 rfl (lv_room (Nat.le_of_ble_eq_true rfl)) xd_T_firstStage_103 ⟨Nat.le_of_ble_eq_true rfl, Nat.le_of_ble_eq_true rfl⟩) hP hA hS (fun r29 H locs hr29 hP hS => ?_)
        have hj33 : ∀ (H : Heap) (locs : List Loc) (ls : Array Slot) (g : XG) (v32 : Int64), v32 = (if r29 = 0 then ((-1)) else (xlt (xf_T_result q6.1 (0 : Int32) p0 : Int64) fun r31 => r31)) → xok k g (xs_M1 q3.2 q6.2) → lv_has ls 13 [(12, .int (q6.1)), (10, .long (q3.1)), (9, .int 0), (7, .long r2), (6, .int ((xg_V_atp u))), (0, .ref ((a 3))), (1, .long p0), (3, .int p1), (4, .int p2), (5, .int p3)] → va_P D xCl (xWH k a g (xs_M1 q3.2 q6.2)) H → va_D A (xWH k a g (xs_M1 q3.2 q6.2)) → va_S A s.heap H locs → W p l e { frames := 2, cells := 0, slots := 0, locals := 55 } s m args below meth c H locs (0) (0) Q (F0 m 123 ls [.long v32]) := by
          intro H locs ls g v32 hv32 hg hl hP hD hS
          exact hret _ ((xs_M1 q3.2 q6.2), g) H locs ls _ ⟨(by unfold xf_T_firstStage; exact (xit h1 (xlt_e hr2 (xlt_e hq3 (xit h4 (xlt_e hq6 (xlt_e hr7 (xif h8 (xlt_e hr29 (xlt_e hv32 rfl)))))))))), hg⟩ hP hD hS xd_T_firstStage_123
        refine lv_if_eq (tgt := 120) hx hb xd_T_firstStage_106 rfl (fun h34 => ?_) (fun h34 => ?_)
        · refine lv_ldc2 (v := (-1)) hx hb hown (htg _ xw_471) xd_T_firstStage_120 ?_
          exact hj33 H locs ls g (-1 : Int64) (xit h34 rfl) hg hl hP hD hS
        · refine lv_iload hx hb xd_T_firstStage_109 (lv_at hl 0 rfl) ?_
          refine lv_iload hx hb xd_T_firstStage_111 (lv_at hl 2 rfl) ?_
          refine lv_lload_n hx hb xd_T_firstStage_113 rfl (lv_at hl 6 rfl) ?_
          refine xc0_l (va_runS (As := [.int (q6.1), .int 0, .long p0]) (rest := []) ⟨hx, hb, hml, hown, htg⟩ (c_T_result l D (xTy k) z H.size q6.1 (0 : Int32) p0) (va_cwS 3 htg (xg_S0 xkin_T_result xw_468 xw_469 xw_4) rfl rfl rfl (by decide +kernel) ⟨Nat.le_of_ble_eq_true rfl, Nat.le_of_ble_eq_true rfl⟩) ⟨xB_blind, fun U hU hW => xB_mk va_P0 hK va_D0 hE hS (xsub0 hA hS) hU hW⟩ rfl rfl hl.1 rfl (lv_room (Nat.le_of_ble_eq_true rfl)) xd_T_firstStage_114 ⟨Nat.le_of_ble_eq_true rfl, Nat.le_of_ble_eq_true rfl⟩) hP hA hS (fun r35 H locs hr35 hP hS => ?_)
          refine lv_goto (tgt := 123) hx hb xd_T_firstStage_117 rfl ?_
          exact hj33 H locs ls g r35 (xif h34 (xlt_e hr35 rfl)) hg hl hP hD hS
    · refine lv_aload_n hx hb xd_T_firstStage_62 rfl (lv_at hl 4 rfl) ?_
      refine lv_lload hx hb xd_T_firstStage_63 (lv_at hl 0 rfl) ?_
      refine lv_lload hx hb xd_T_firstStage_65 (lv_at hl 2 rfl) ?_
      refine lv_sipush (v := 8192) hx hb xd_T_firstStage_67 (by decide) ?_
      refine xcW_l (va_runV (As := [.long (q3.1), .long r2, .int 8192]) (rest := []) ⟨hx, hb, hml, hown, htg⟩ (c_T_guestVerdict l D z k a g H.size q3.2 hg q3.1 r2 (8192 : Int32)) (cwV 3 htg (xg_V0 xkin_T_guestVerdict xw_479 xw_481 xsel_T_guestVerdict xw_4) rfl rfl rfl (by decide +kernel) ⟨Nat.le_of_ble_eq_true rfl, Nat.le_of_ble_eq_true rfl⟩) ⟨xB_blind, xrecv_T hK hP, fun U hU hW => xB_mk hP hK hD hE hS (xsubW hD hA hS) hU hW⟩ rfl rfl hl.1 rfl (lv_room (Nat.le_of_ble_eq_true rfl)) xd_T_firstStage_70 ⟨Nat.le_of_ble_eq_true rfl, Nat.le_of_ble_eq_true rfl⟩) hD hA hS (fun r w1 H locs hw hP hD hS => ?_)
      obtain ⟨u1, g⟩ := w1
      obtain ⟨q36, hq36⟩ : ∃ q, q = xf_T_guestVerdict q3.2 q3.1 r2 (8192 : Int32) := ⟨_, rfl⟩
      obtain ⟨e1, hg⟩ := hw
      rw [← hq36] at e1
      obtain rfl : r = q36.1 := congrArg Prod.fst e1
      obtain rfl : u1 = q36.2 := congrArg Prod.snd e1
      have hP : va_P D xCl (xWH k a g q36.2) H := hP
      have hD : va_D A (xWH k a g q36.2) := hD
      have hg : xok k g q36.2 := hg
      exact hret _ (q36.2, g) H locs ls _ ⟨(by unfold xf_T_firstStage; exact (xit h1 (xlt_e hr2 (xlt_e hq3 (xif h4 (xlt_e hq36 rfl)))))), hg⟩ hP hD hS xd_T_firstStage_73
  · refine lv_lload_n hx hb xd_T_firstStage_17 rfl (lv_at hl 2 rfl) ?_
    exact hret _ (u, g) H locs ls _ ⟨(by unfold xf_T_firstStage; exact (xif h1 rfl)), hg⟩ hP hD hS xd_T_firstStage_18
theorem xm_T_firstStage (u : XH) (p0 : Int64) (p1 : Int32) (p2 : Int32) (p3 : Int32) : XE (xcH u) (xf_T_firstStage u p0 p1 p2 p3) := by unfold xf_T_firstStage; exact (xit_E (xlt_E (fun r2 hr2 => (xlt_E (fun q3 hq3 => (xit_E (xlt_E (fun q6 hq6 => (xlt_E (fun r7 hr7 => (xit_E (xlt_E (fun r9 hr9 => (xit_E ((xcH_rd hq6).trans ((XE_of hq3 (xm_T_walk u (xg_K_hgatp u) r2 (2 : Int32) (81 : Int32) (0 : Int32))).trans rfl)) (xlt_E (fun r11 hr11 => (xlt_E (fun q12 hq12 => (xit_E (xlt_E (fun q15 hq15 => (xlt_E (fun r16 hr16 => (xit_E (xlt_E (fun r18 hr18 => (xit_E ((xcH_rd hq15).trans ((XE_of hq12 (xm_T_walk (xs_M1 q3.2 q6.2) (xg_K_hgatp (xs_M1 q3.2 q6.2)) r11 (2 : Int32) (81 : Int32) (0 : Int32))).trans ((xcH_rd hq6).trans ((XE_of hq3 (xm_T_walk u (xg_K_hgatp u) r2 (2 : Int32) (81 : Int32) (0 : Int32))).trans rfl)))) (xlt_E (fun r20 hr20 => ((xcH_rd hq15).trans ((XE_of hq12 (xm_T_walk (xs_M1 q3.2 q6.2) (xg_K_hgatp (xs_M1 q3.2 q6.2)) r11 (2 : Int32) (81 : Int32) (0 : Int32))).trans ((xcH_rd hq6).trans ((XE_of hq3 (xm_T_walk u (xg_K_hgatp u) r2 (2 : Int32) (81 : Int32) (0 : Int32))).trans rfl))))))))) (xlt_E (fun r21 hr21 => (xlt_E (fun v24 hv24 => ((xcH_rd hq15).trans ((XE_of hq12 (xm_T_walk (xs_M1 q3.2 q6.2) (xg_K_hgatp (xs_M1 q3.2 q6.2)) r11 (2 : Int32) (81 : Int32) (0 : Int32))).trans ((xcH_rd hq6).trans ((XE_of hq3 (xm_T_walk u (xg_K_hgatp u) r2 (2 : Int32) (81 : Int32) (0 : Int32))).trans rfl))))))))))))) (xlt_E (fun q28 hq28 => ((XE_of hq28 (xm_T_guestVerdict q12.2 q12.1 r11 (8192 : Int32))).trans ((XE_of hq12 (xm_T_walk (xs_M1 q3.2 q6.2) (xg_K_hgatp (xs_M1 q3.2 q6.2)) r11 (2 : Int32) (81 : Int32) (0 : Int32))).trans ((xcH_rd hq6).trans ((XE_of hq3 (xm_T_walk u (xg_K_hgatp u) r2 (2 : Int32) (81 : Int32) (0 : Int32))).trans rfl)))))))))))))) (xlt_E (fun r29 hr29 => (xlt_E (fun v32 hv32 => ((xcH_rd hq6).trans ((XE_of hq3 (xm_T_walk u (xg_K_hgatp u) r2 (2 : Int32) (81 : Int32) (0 : Int32))).trans rfl))))))))))) (xlt_E (fun q36 hq36 => ((XE_of hq36 (xm_T_guestVerdict q3.2 q3.1 r2 (8192 : Int32))).trans ((XE_of hq3 (xm_T_walk u (xg_K_hgatp u) r2 (2 : Int32) (81 : Int32) (0 : Int32))).trans rfl))))))))) rfl)

noncomputable def xf_T_secondStage (u : XH) (p0 : Int64) (p1 : Nat) : Int64 × XH :=
  xlt (if ((xg_S_status u) &&& (524288 : Int32)) = 0 then (0) else (1) : Int32) fun v2 =>
  xlt (xf_A_anyWith p1 v2 : Int32) fun q4 =>
  xlt (xf_T_walk u (xg_K_hgatp u) p0 q4 ((List.getD [65, 65, 65, 193] p1 0) ||| (16 : Int32)) (0 : Int32) : Int64 × XH) fun q5 =>
  xlt (if 0 ≤ (lg_cmp q5.1 (0 : Int64)) then (q5.1) else (xlt (xf_T_guestVerdict q5.2 q5.1 p0 (0 : Int32) : Int64 × XH) fun q7 => q7.1) : Int64) fun v8 =>
  xlt (if 0 ≤ (lg_cmp q5.1 (0 : Int64)) then (q5.2) else (xlt (xf_T_guestVerdict q5.2 q5.1 p0 (0 : Int32) : Int64 × XH) fun q7 => q7.2) : XH) fun v9 =>
  (v8, v9)
set_option maxHeartbeats 4000000 in
set_option maxRecDepth 100000 in
theorem c_T_secondStage (l : Launch) (D : va_G) (z : (Nat → Nat) × (Nat → Nat)) (k : ClassId × ClassId) (a : Nat → Nat) (g : XG) (sz : Nat) (u : XH) (hg : xok k g u) (p0 : Int64) (p1 : Nat) (hac : p1 < 4) : Met l xy_T_secondStage (xk_T_secondStage :: lw_g) { frames := 2, cells := 0, slots := 0, locals := 55 } (va_Pc [.ref ((a 3)), .long p0, .ref ((z.1 p1))] (xB D (xTy k) z sz (xWH k a g u))) (va_Ql (fun r (q : XH × XG) => (r, q.1) = xf_T_secondStage u p0 p1 ∧ xok k q.2 q.1) (fun q t => xQ D (xTy k) (xWH k a q.2 q.1) (va_A (xWH k a g u) sz) t) (va_A (xWH k a g u) sz)) 0 0 (va_A (xWH k a g u) sz) := by
  refine xopen_l (wf := fun q : XH × XG => xWH k a q.2 q.1) (lv := [(0, .ref ((a 3))), (1, .long p0), (3, .ref ((z.1 p1)))]) (by decide) rfl (Nat.le_of_ble_eq_true rfl) ?_
  intro p e s m args below meth c Q ls A H locs hx hb hml htg hown hin hK hP hD hE hS hA hl hret
  refine lv_aload_n hx hb xd_T_secondStage_0 rfl (lv_at hl 2 rfl) ?_
  refine lv_aload_n hx hb xd_T_secondStage_1 rfl (lv_at hl 0 rfl) ?_
  refine xget_T_controls hx hb htg hown hK hP (htg _ xw_188) xd_T_secondStage_2 ?_
  refine xget_K_s hx hb htg hown hK hP (htg _ xw_101) xd_T_secondStage_5 ?_
  refine xget_S_status (v := (xg_S_status u)) hx hb htg hown hK hP (htg _ xw_67) rfl xd_T_secondStage_8 ?_
  refine lv_ldc (v := 524288) hx hb hown (htg _ xw_429) xd_T_secondStage_11 ?_
  refine lv_iand hx hb xd_T_secondStage_13 ?_
  have hj3 : ∀ (H : Heap) (locs : List Loc) (ls : Array Slot) (g : XG) (v2 : Int32), v2 = (if ((xg_S_status u) &&& (524288 : Int32)) = 0 then (0) else (1)) → xok k g u → lv_has ls 7 [(0, .ref ((a 3))), (1, .long p0), (3, .ref ((z.1 p1)))] → va_P D xCl (xWH k a g u) H → va_D A (xWH k a g u) → va_S A s.heap H locs → W p l e { frames := 2, cells := 0, slots := 0, locals := 55 } s m args below meth c H locs (0) (0) Q (F0 m 22 ls [.int v2, .ref ((z.1 p1))]) := by
    intro H locs ls g v2 hv2 hg hl hP hD hS
    refine xc0_i (va_runV (As := [.int v2]) (rest := []) ⟨hx, hb, hml, hown, htg⟩ (c_A_anyWith l D (xTy k) z H.size p1 hac v2) (cwV 1 htg (xg_V0 xkin_A_anyWith xw_430 xw_431 xsel_A_anyWith xw_12) rfl rfl rfl (by decide +kernel) ⟨Nat.le_of_ble_eq_true rfl, Nat.le_of_ble_eq_true rfl⟩) ⟨xB_blind, va_recvE hE.1 hac hS, fun U hU hW => xB_mk va_P0 hK va_D0 hE hS (xsub0 hA hS) hU hW⟩ rfl rfl hl.1 rfl (lv_room (Nat.le_of_ble_eq_true rfl)) xd_T_secondStage_22 ⟨Nat.le_of_ble_eq_true rfl, Nat.le_of_ble_eq_true rfl⟩) hP hA hS (fun q4 H locs hq4 hP hS => ?_)
    refine lv_istore (lv' := [(4, .int q4), (0, .ref ((a 3))), (1, .long p0), (3, .ref ((z.1 p1)))]) hx hb xd_T_secondStage_25 hl (by decide) rfl (fun ls hl => ?_)
    refine lv_aload_n hx hb xd_T_secondStage_27 rfl (lv_at hl 1 rfl) ?_
    refine lv_aload_n hx hb xd_T_secondStage_28 rfl (lv_at hl 1 rfl) ?_
    refine xget_T_controls hx hb htg hown hK hP (htg _ xw_188) xd_T_secondStage_29 ?_
    refine xget_K_hgatp (v := (xg_K_hgatp u)) hx hb htg hown hK hP (htg _ xw_116) rfl xd_T_secondStage_32 ?_
    refine lv_lload_n hx hb xd_T_secondStage_35 rfl (lv_at hl 2 rfl) ?_
    refine lv_iload hx hb xd_T_secondStage_36 (lv_at hl 0 rfl) ?_
    refine lv_aload_n hx hb xd_T_secondStage_38 rfl (lv_at hl 3 rfl) ?_
    refine va_getE (q := ("HyperHost$Access", "all", "I", [65, 65, 65, 193])) hx hb hE.1 hac hS hown (by decide +kernel) (htg _ xw_1083) (fun _ h9 => h9) xd_T_secondStage_39 ?_
    refine lv_bipush (v := 16) hx hb xd_T_secondStage_42 (by decide) ?_
    refine lv_ior hx hb xd_T_secondStage_44 ?_
    refine lv_iconst (v := 0) hx hb xd_T_secondStage_45 (by decide) ?_
    refine xcW_l (va_runV (As := [.int ((xg_K_hgatp u)), .long p0, .int q4, .int (((List.getD [65, 65, 65, 193] p1 0) ||| (16 : Int32))), .int 0]) (rest := []) ⟨hx, hb, hml, hown, htg⟩ (c_T_walk l D z k a g H.size u hg (xg_K_hgatp u) p0 q4 ((List.getD [65, 65, 65, 193] p1 0) ||| (16 : Int32)) (0 : Int32)) (cwV 5 htg (xg_V0 xkin_T_walk xw_451 xw_453 xsel_T_walk xw_4) rfl rfl rfl (by decide +kernel) ⟨Nat.le_of_ble_eq_true rfl, Nat.le_of_ble_eq_true rfl⟩) ⟨xB_blind, xrecv_T hK hP, fun U hU hW => xB_mk hP hK hD hE hS (xsubW hD hA hS) hU hW⟩ rfl rfl hl.1 rfl (lv_room (Nat.le_of_ble_eq_true rfl)) xd_T_secondStage_46 ⟨Nat.le_of_ble_eq_true rfl, Nat.le_of_ble_eq_true rfl⟩) hD hA hS (fun r w1 H locs hw hP hD hS => ?_)
    obtain ⟨u1, g⟩ := w1
    obtain ⟨q5, hq5⟩ : ∃ q, q = xf_T_walk u (xg_K_hgatp u) p0 q4 ((List.getD [65, 65, 65, 193] p1 0) ||| (16 : Int32)) (0 : Int32) := ⟨_, rfl⟩
    obtain ⟨e1, hg⟩ := hw
    rw [← hq5] at e1
    obtain rfl : r = q5.1 := congrArg Prod.fst e1
    obtain rfl : u1 = q5.2 := congrArg Prod.snd e1
    have hP : va_P D xCl (xWH k a g q5.2) H := hP
    have hD : va_D A (xWH k a g q5.2) := hD
    have hg : xok k g q5.2 := hg
    refine lv_lstore (lv' := [(5, .long (q5.1)), (4, .int q4), (0, .ref ((a 3))), (1, .long p0), (3, .ref ((z.1 p1)))]) hx hb xd_T_secondStage_49 hl (by decide) rfl (fun ls hl => ?_)
    refine lv_lload hx hb xd_T_secondStage_51 (lv_at hl 0 rfl) ?_
    refine lv_lconst (v := 0) hx hb xd_T_secondStage_53 (by decide) ?_
    refine W.lcmp hx hb xd_T_secondStage_54 ?_
    have hj10 : ∀ (H : Heap) (locs : List Loc) (ls : Array Slot) (g : XG) (v8 : Int64) (v9 : XH), v8 = (if 0 ≤ (lg_cmp q5.1 (0 : Int64)) then (q5.1) else (xlt (xf_T_guestVerdict q5.2 q5.1 p0 (0 : Int32) : Int64 × XH) fun q7 => q7.1)) → v9 = (if 0 ≤ (lg_cmp q5.1 (0 : Int64)) then (q5.2) else (xlt (xf_T_guestVerdict q5.2 q5.1 p0 (0 : Int32) : Int64 × XH) fun q7 => q7.2)) → xok k g v9 → lv_has ls 7 [(5, .long (q5.1)), (4, .int q4), (0, .ref ((a 3))), (1, .long p0), (3, .ref ((z.1 p1)))] → va_P D xCl (xWH k a g v9) H → va_D A (xWH k a g v9) → va_S A s.heap H locs → W p l e { frames := 2, cells := 0, slots := 0, locals := 55 } s m args below meth c H locs (0) (0) Q (F0 m 71 ls [.long v8]) := by
      intro H locs ls g v8 v9 hv8 hv9 hg hl hP hD hS
      exact hret _ (v9, g) H locs ls _ ⟨(by unfold xf_T_secondStage; exact (xlt_e hv2 (xlt_e hq4 (xlt_e hq5 (xlt_e hv8 (xlt_e hv9 rfl)))))), hg⟩ hP hD hS xd_T_secondStage_71
    refine lv_if_ge (tgt := 69) hx hb xd_T_secondStage_55 rfl (fun h11 => ?_) (fun h11 => ?_)
    · refine lv_lload hx hb xd_T_secondStage_69 (lv_at hl 0 rfl) ?_
      exact hj10 H locs ls g q5.1 q5.2 (xit h11 rfl) (xit h11 rfl) hg hl hP hD hS
    · refine lv_aload_n hx hb xd_T_secondStage_58 rfl (lv_at hl 2 rfl) ?_
      refine lv_lload hx hb xd_T_secondStage_59 (lv_at hl 0 rfl) ?_
      refine lv_lload_n hx hb xd_T_secondStage_61 rfl (lv_at hl 3 rfl) ?_
      refine lv_iconst (v := 0) hx hb xd_T_secondStage_62 (by decide) ?_
      refine xcW_l (va_runV (As := [.long (q5.1), .long p0, .int 0]) (rest := []) ⟨hx, hb, hml, hown, htg⟩ (c_T_guestVerdict l D z k a g H.size q5.2 hg q5.1 p0 (0 : Int32)) (cwV 3 htg (xg_V0 xkin_T_guestVerdict xw_479 xw_481 xsel_T_guestVerdict xw_4) rfl rfl rfl (by decide +kernel) ⟨Nat.le_of_ble_eq_true rfl, Nat.le_of_ble_eq_true rfl⟩) ⟨xB_blind, xrecv_T hK hP, fun U hU hW => xB_mk hP hK hD hE hS (xsubW hD hA hS) hU hW⟩ rfl rfl hl.1 rfl (lv_room (Nat.le_of_ble_eq_true rfl)) xd_T_secondStage_63 ⟨Nat.le_of_ble_eq_true rfl, Nat.le_of_ble_eq_true rfl⟩) hD hA hS (fun r w1 H locs hw hP hD hS => ?_)
      obtain ⟨u1, g⟩ := w1
      obtain ⟨q12, hq12⟩ : ∃ q, q = xf_T_guestVerdict q5.2 q5.1 p0 (0 : Int32) := ⟨_, rfl⟩
      obtain ⟨e1, hg⟩ := hw
      rw [← hq12] at e1
      obtain rfl : r = q12.1 := congrArg Prod.fst e1
      obtain rfl : u1 = q12.2 := congrArg Prod.snd e1
      have hP : va_P D xCl (xWH k a g q12.2) H := hP
      have hD : va_D A (xWH k a g q12.2) := hD
      have hg : xok k g q12.2 := hg
      refine lv_goto (tgt := 71) hx hb xd_T_secondStage_66 rfl ?_
      exact hj10 H locs ls g q12.1 q12.2 (xif h11 (xlt_e hq12 rfl)) (xif h11 (xlt_e hq12 rfl)) hg hl hP hD hS
  refine lv_if_eq (tgt := 21) hx hb xd_T_secondStage_14 rfl (fun h13 => ?_) (fun h13 => ?_)
  · refine lv_iconst (v := 0) hx hb xd_T_secondStage_21 (by decide) ?_
    exact hj3 H locs ls g (0 : Int32) (xit h13 rfl) hg hl hP hD hS
  · refine lv_iconst (v := 1) hx hb xd_T_secondStage_17 (by decide) ?_
    refine lv_goto (tgt := 22) hx hb xd_T_secondStage_18 rfl ?_
    exact hj3 H locs ls g (1 : Int32) (xif h13 rfl) hg hl hP hD hS
theorem xm_T_secondStage (u : XH) (p0 : Int64) (p1 : Nat) : XE (xcH u) (xf_T_secondStage u p0 p1) := by unfold xf_T_secondStage; exact (xlt_E (fun v2 hv2 => (xlt_E (fun q4 hq4 => (xlt_E (fun q5 hq5 => (xlt_E (fun v8 hv8 => (xlt_E (fun v9 hv9 => (XEs_of hv9 (xit_Es ((XE_of hq5 (xm_T_walk u (xg_K_hgatp u) p0 q4 ((List.getD [65, 65, 65, 193] p1 0) ||| (16 : Int32)) (0 : Int32))).trans rfl) (xlt_Es (fun q7 hq7 => ((XE_of hq7 (xm_T_guestVerdict q5.2 q5.1 p0 (0 : Int32))).trans ((XE_of hq5 (xm_T_walk u (xg_K_hgatp u) p0 q4 ((List.getD [65, 65, 65, 193] p1 0) ||| (16 : Int32)) (0 : Int32))).trans rfl))))))))))))))))

noncomputable def xf_C_endStep (u : XH) : XH :=
  xlt (if (xg_P_cause u) = (-1) then ((xs_C_pc u (xg_C_next u))) else (xlt (xf_C_takeTrap u : XH) fun q2 => q2) : XH) fun v3 =>
  (xs_K_time v3 ((xg_K_time v3) + (1 : Int64)))
set_option maxHeartbeats 4000000 in
set_option maxRecDepth 100000 in
theorem c_C_endStep (l : Launch) (D : va_G) (z : (Nat → Nat) × (Nat → Nat)) (k : ClassId × ClassId) (a : Nat → Nat) (g : XG) (sz : Nat) (u : XH) (hg : xok k g u) : Met l xy_C_endStep (xk_C_endStep :: lw_g) { frames := 3, cells := 0, slots := 0, locals := 63 } (va_Pc [.ref ((a 1))] (xB D (xTy k) z sz (xWH k a g u))) (va_Qv (fun q : XH × XG => q.1 = xf_C_endStep u ∧ xok k q.2 q.1) (fun q t => xQ D (xTy k) (xWH k a q.2 q.1) (va_A (xWH k a g u) sz) t) (va_A (xWH k a g u) sz)) 0 0 (va_A (xWH k a g u) sz) := by
  refine xopen_v (wf := fun q : XH × XG => xWH k a q.2 q.1) (lv := [(0, .ref ((a 1)))]) (by decide) rfl (Nat.le_of_ble_eq_true rfl) ?_
  intro p e s m args below meth c Q ls A H locs hx hb hml htg hown hin hK hP hD hE hS hA hl hret
  refine lv_aload_n hx hb xd_C_endStep_0 rfl (lv_at hl 0 rfl) ?_
  refine xget_C_trap hx hb htg hown hK hP (htg _ xw_208) xd_C_endStep_1 ?_
  refine xget_P_cause (v := (xg_P_cause u)) hx hb htg hown hK hP (htg _ xw_159) rfl xd_C_endStep_4 ?_
  refine lv_iconst (v := (-1)) hx hb xd_C_endStep_7 (by decide) ?_
  have hj4 : ∀ (H : Heap) (locs : List Loc) (ls : Array Slot) (g : XG) (v3 : XH), v3 = (if (xg_P_cause u) = (-1) then ((xs_C_pc u (xg_C_next u))) else (xlt (xf_C_takeTrap u : XH) fun q2 => q2)) → xok k g v3 → lv_has ls 1 [(0, .ref ((a 1)))] → va_P D xCl (xWH k a g v3) H → va_D A (xWH k a g v3) → va_S A s.heap H locs → W p l e { frames := 3, cells := 0, slots := 0, locals := 63 } s m args below meth c H locs (0) (0) Q (F0 m 26 ls []) := by
    intro H locs ls g v3 hv3 hg hl hP hD hS
    refine lv_aload_n hx hb xd_C_endStep_26 rfl (lv_at hl 0 rfl) ?_
    refine xget_C_controls hx hb htg hown hK hP (htg _ xw_206) xd_C_endStep_27 ?_
    refine lv_dup hx hb xd_C_endStep_30 rfl ?_
    refine xget_K_time (v := (xg_K_time v3)) hx hb htg hown hK hP (htg _ xw_118) rfl xd_C_endStep_31 ?_
    refine lv_lconst (v := 1) hx hb xd_C_endStep_34 (by decide) ?_
    refine lv_ladd hx hb xd_C_endStep_35 ?_
    refine xput_K_time (v := ((xg_K_time v3) + (1 : Int64))) hx hb htg hown hK hP hD hS hg (htg _ xw_118) xd_C_endStep_36 (fun H locs hP hD hS hg => ?_)
    exact hret ((xs_K_time v3 ((xg_K_time v3) + (1 : Int64))), g) H locs ls _ ⟨(by unfold xf_C_endStep; exact (xlt_e hv3 rfl)), hg⟩ hP hD hS xd_C_endStep_39
  refine lv_icmp_ne (tgt := 22) hx hb xd_C_endStep_8 rfl (fun h5 => ?_) (fun h5 => ?_)
  · refine lv_aload_n hx hb xd_C_endStep_22 rfl (lv_at hl 0 rfl) ?_
    refine xcW_v (va_runV (As := []) (rest := []) ⟨hx, hb, hml, hown, htg⟩ (c_C_takeTrap l D z k a g H.size u hg) (cwV 0 htg (xg_V0 xkin_C_takeTrap xw_677 xw_679 xsel_C_takeTrap xw_2) rfl rfl rfl (by decide +kernel) ⟨Nat.le_of_ble_eq_true rfl, Nat.le_of_ble_eq_true rfl⟩) ⟨xB_blind, xrecv_C hK hP, fun U hU hW => xB_mk hP hK hD hE hS (xsubW hD hA hS) hU hW⟩ rfl rfl hl.1 rfl (lv_room (Nat.le_of_ble_eq_true rfl)) xd_C_endStep_23 ⟨Nat.le_of_ble_eq_true rfl, Nat.le_of_ble_eq_true rfl⟩) hD hA hS (fun w1 H locs hw hP hD hS => ?_)
    obtain ⟨u1, g⟩ := w1
    obtain ⟨q6, hq6⟩ : ∃ q, q = xf_C_takeTrap u := ⟨_, rfl⟩
    obtain ⟨e2, hg⟩ := hw
    rw [← hq6] at e2
    obtain rfl : q6 = u1 := e2.symm
    have hP : va_P D xCl (xWH k a g q6) H := hP
    have hD : va_D A (xWH k a g q6) := hD
    have hg : xok k g q6 := hg
    exact hj4 H locs ls g q6 (xif h5 (xlt_e hq6 rfl)) hg hl hP hD hS
  · refine lv_aload_n hx hb xd_C_endStep_11 rfl (lv_at hl 0 rfl) ?_
    refine lv_aload_n hx hb xd_C_endStep_12 rfl (lv_at hl 0 rfl) ?_
    refine xget_C_next (v := (xg_C_next u)) hx hb htg hown hK hP (htg _ xw_223) rfl xd_C_endStep_13 ?_
    refine xput_C_pc (v := (xg_C_next u)) hx hb htg hown hK hP hD hS hg (htg _ xw_211) xd_C_endStep_16 (fun H locs hP hD hS hg => ?_)
    refine lv_goto (tgt := 26) hx hb xd_C_endStep_19 rfl ?_
    exact hj4 H locs ls g (xs_C_pc u (xg_C_next u)) (xit h5 rfl) hg hl hP hD hS
theorem xm_C_endStep (u : XH) : XEs (xcH u) (xf_C_endStep u) := by unfold xf_C_endStep; exact (xlt_Es (fun v3 hv3 => (xcH_K_time.trans (XEs_of hv3 (xit_Es (xcH_C_pc.trans rfl) (xlt_Es (fun q2 hq2 => ((XEs_of hq2 (xm_C_takeTrap u)).trans rfl))))))))

noncomputable def xf_C_controlOp (u : XH) (p0 : Int32) : XH :=
  xlt (xf_D_a (xg_C_word u) : Int32) fun r1 =>
  xlt (if (p0 &&& (3 : Int32)) = 1 then (1) else (if r1 = 0 then (0) else (1)) : Int32) fun v4 =>
  xlt (xf_K_refusal u (xus (xg_C_word u) (20 : Int32)) v4 (xg_C_mode u) : Int32) fun q6 =>
  if q6 = (-1) then
    xlt (xf_K_meant (xus (xg_C_word u) (20 : Int32)) (xg_C_mode u) : Int32) fun r8 =>
    xlt (xf_K_tell u r8 : Int32) fun q9 =>
    xlt (if p0 ≤ 4 then (((xg_x u) r1.toNatClampNeg)) else (r1) : Int32) fun v11 =>
    xlt (if v4 = 0 then (u) else (xlt (xf_C_changed (p0 &&& (3 : Int32)) q9 v11 : Int32) fun r14 => xlt (xf_K_write u r8 r14 : XH) fun q15 => q15) : XH) fun v16 =>
    xlt (xf_D_d (xg_C_word v16) : Int32) fun r18 =>
    xlt (xf_C_put v16 r18 q9 : XH) fun q19 =>
    q19
  else
    xlt (xf_C_refuse u q6 : XH) fun q24 =>
    q24
set_option maxHeartbeats 4000000 in
set_option maxRecDepth 100000 in
theorem c_C_controlOp (l : Launch) (D : va_G) (z : (Nat → Nat) × (Nat → Nat)) (k : ClassId × ClassId) (a : Nat → Nat) (g : XG) (sz : Nat) (u : XH) (hg : xok k g u) (p0 : Int32) : Met l xy_C_controlOp (xk_C_controlOp :: lw_g) { frames := 2, cells := 0, slots := 0, locals := 44 } (va_Pc [.ref ((a 1)), .int p0] (xB D (xTy k) z sz (xWH k a g u))) (va_Qv (fun q : XH × XG => q.1 = xf_C_controlOp u p0 ∧ xok k q.2 q.1) (fun q t => xQ D (xTy k) (xWH k a q.2 q.1) (va_A (xWH k a g u) sz) t) (va_A (xWH k a g u) sz)) 0 0 (va_A (xWH k a g u) sz) := by
  refine xopen_v (wf := fun q : XH × XG => xWH k a q.2 q.1) (lv := [(0, .ref ((a 1))), (1, .int p0)]) (by decide) rfl (Nat.le_of_ble_eq_true rfl) ?_
  intro p e s m args below meth c Q ls A H locs hx hb hml htg hown hin hK hP hD hE hS hA hl hret
  refine lv_aload_n hx hb xd_C_controlOp_0 rfl (lv_at hl 0 rfl) ?_
  refine xget_C_word (v := (xg_C_word u)) hx hb htg hown hK hP (htg _ xw_224) rfl xd_C_controlOp_1 ?_
  refine xc0_i (va_runS (As := [.int ((xg_C_word u))]) (rest := []) ⟨hx, hb, hml, hown, htg⟩ (c_D_a l D (xTy k) z H.size (xg_C_word u)) (va_cwS 1 htg (xg_S0 xkin_D_a xw_513 xw_514 xw_13) rfl rfl rfl (by decide +kernel) ⟨Nat.le_of_ble_eq_true rfl, Nat.le_of_ble_eq_true rfl⟩) ⟨xB_blind, fun U hU hW => xB_mk va_P0 hK va_D0 hE hS (xsub0 hA hS) hU hW⟩ rfl rfl hl.1 rfl (lv_room (Nat.le_of_ble_eq_true rfl)) xd_C_controlOp_4 ⟨Nat.le_of_ble_eq_true rfl, Nat.le_of_ble_eq_true rfl⟩) hP hA hS (fun r1 H locs hr1 hP hS => ?_)
  refine lv_istore_n (lv' := [(2, .int r1), (0, .ref ((a 1))), (1, .int p0)]) hx hb xd_C_controlOp_7 rfl hl (by decide) rfl (fun ls hl => ?_)
  refine lv_aload_n hx hb xd_C_controlOp_8 rfl (lv_at hl 1 rfl) ?_
  refine xget_C_word (v := (xg_C_word u)) hx hb htg hown hK hP (htg _ xw_224) rfl xd_C_controlOp_9 ?_
  refine lv_bipush (v := 20) hx hb xd_C_controlOp_12 (by decide) ?_
  refine lv_iushr (v := (xus (xg_C_word u) (20 : Int32))) hx hb xd_C_controlOp_14 rfl ?_
  refine lv_istore_n (lv' := [(3, .int ((xus (xg_C_word u) (20 : Int32)))), (2, .int r1), (0, .ref ((a 1))), (1, .int p0)]) hx hb xd_C_controlOp_15 rfl hl (by decide) rfl (fun ls hl => ?_)
  refine lv_iload_n hx hb xd_C_controlOp_16 rfl (lv_at hl 3 rfl) ?_
  refine lv_iconst (v := 3) hx hb xd_C_controlOp_17 (by decide) ?_
  refine lv_iand hx hb xd_C_controlOp_18 ?_
  refine lv_iconst (v := 1) hx hb xd_C_controlOp_19 (by decide) ?_
  have hj5 : ∀ (H : Heap) (locs : List Loc) (ls : Array Slot) (g : XG) (v4 : Int32), v4 = (if (p0 &&& (3 : Int32)) = 1 then (1) else (if r1 = 0 then (0) else (1))) → xok k g u → lv_has ls 9 [(3, .int ((xus (xg_C_word u) (20 : Int32)))), (2, .int r1), (0, .ref ((a 1))), (1, .int p0)] → va_P D xCl (xWH k a g u) H → va_D A (xWH k a g u) → va_S A s.heap H locs → W p l e { frames := 2, cells := 0, slots := 0, locals := 44 } s m args below meth c H locs (0) (0) Q (F0 m 32 ls [.int v4]) := by
    intro H locs ls g v4 hv4 hg hl hP hD hS
    refine lv_istore (lv' := [(4, .int v4), (3, .int ((xus (xg_C_word u) (20 : Int32)))), (2, .int r1), (0, .ref ((a 1))), (1, .int p0)]) hx hb xd_C_controlOp_32 hl (by decide) rfl (fun ls hl => ?_)
    refine lv_aload_n hx hb xd_C_controlOp_34 rfl (lv_at hl 3 rfl) ?_
    refine xget_C_controls hx hb htg hown hK hP (htg _ xw_206) xd_C_controlOp_35 ?_
    refine lv_iload_n hx hb xd_C_controlOp_38 rfl (lv_at hl 1 rfl) ?_
    refine lv_iload hx hb xd_C_controlOp_39 (lv_at hl 0 rfl) ?_
    refine lv_aload_n hx hb xd_C_controlOp_41 rfl (lv_at hl 3 rfl) ?_
    refine xget_C_mode (v := (xg_C_mode u)) hx hb htg hown hK hP (htg _ xw_213) rfl xd_C_controlOp_42 ?_
    refine xcW_i (va_runV (As := [.int ((xus (xg_C_word u) (20 : Int32))), .int v4, .int ((xg_C_mode u))]) (rest := []) ⟨hx, hb, hml, hown, htg⟩ (c_K_refusal l D z k a g H.size u hg (xus (xg_C_word u) (20 : Int32)) v4 (xg_C_mode u)) (cwV 3 htg (xg_V0 xkin_K_refusal xw_664 xw_334 xsel_K_refusal xw_5) rfl rfl rfl (by decide +kernel) ⟨Nat.le_of_ble_eq_true rfl, Nat.le_of_ble_eq_true rfl⟩) ⟨xB_blind, xrecv_K hK hP, fun U hU hW => xB_mk hP hK hD hE hS (xsubW hD hA hS) hU hW⟩ rfl rfl hl.1 rfl (lv_room (Nat.le_of_ble_eq_true rfl)) xd_C_controlOp_45 ⟨Nat.le_of_ble_eq_true rfl, Nat.le_of_ble_eq_true rfl⟩) hD hA hS (fun r w1 H locs hw hP hD hS => ?_)
    obtain ⟨u1, g⟩ := w1
    obtain ⟨q6, hq6⟩ : ∃ q, q = xf_K_refusal u (xus (xg_C_word u) (20 : Int32)) v4 (xg_C_mode u) := ⟨_, rfl⟩
    obtain ⟨e1, e2, hg⟩ := hw
    rw [← hq6] at e1
    obtain rfl : q6 = r := e1.symm
    obtain rfl : u = u1 := e2.symm
    have hP : va_P D xCl (xWH k a g u) H := hP
    have hD : va_D A (xWH k a g u) := hD
    have hg : xok k g u := hg
    refine lv_istore (lv' := [(5, .int q6), (4, .int v4), (3, .int ((xus (xg_C_word u) (20 : Int32)))), (2, .int r1), (0, .ref ((a 1))), (1, .int p0)]) hx hb xd_C_controlOp_48 hl (by decide) rfl (fun ls hl => ?_)
    refine lv_iload hx hb xd_C_controlOp_50 (lv_at hl 0 rfl) ?_
    refine lv_iconst (v := (-1)) hx hb xd_C_controlOp_52 (by decide) ?_
    refine lv_icmp_eq (tgt := 63) hx hb xd_C_controlOp_53 rfl (fun h7 => ?_) (fun h7 => ?_)
    · refine lv_iload_n hx hb xd_C_controlOp_63 rfl (lv_at hl 2 rfl) ?_
      refine lv_aload_n hx hb xd_C_controlOp_64 rfl (lv_at hl 4 rfl) ?_
      refine xget_C_mode (v := (xg_C_mode u)) hx hb htg hown hK hP (htg _ xw_213) rfl xd_C_controlOp_65 ?_
      refine xc0_i (va_runS (As := [.int ((xus (xg_C_word u) (20 : Int32))), .int ((xg_C_mode u))]) (rest := []) ⟨hx, hb, hml, hown, htg⟩ (c_K_meant l D (xTy k) z H.size (xus (xg_C_word u) (20 : Int32)) (xg_C_mode u)) (va_cwS 2 htg (xg_S0 xkin_K_meant xw_665 xw_666 xw_5) rfl rfl rfl (by decide +kernel) ⟨Nat.le_of_ble_eq_true rfl, Nat.le_of_ble_eq_true rfl⟩) ⟨xB_blind, fun U hU hW => xB_mk va_P0 hK va_D0 hE hS (xsub0 hA hS) hU hW⟩ rfl rfl hl.1 rfl (lv_room (Nat.le_of_ble_eq_true rfl)) xd_C_controlOp_68 ⟨Nat.le_of_ble_eq_true rfl, Nat.le_of_ble_eq_true rfl⟩) hP hA hS (fun r8 H locs hr8 hP hS => ?_)
      refine lv_istore (lv' := [(6, .int r8), (5, .int q6), (4, .int v4), (3, .int ((xus (xg_C_word u) (20 : Int32)))), (2, .int r1), (0, .ref ((a 1))), (1, .int p0)]) hx hb xd_C_controlOp_71 hl (by decide) rfl (fun ls hl => ?_)
      refine lv_aload_n hx hb xd_C_controlOp_73 rfl (lv_at hl 5 rfl) ?_
      refine xget_C_controls hx hb htg hown hK hP (htg _ xw_206) xd_C_controlOp_74 ?_
      refine lv_iload hx hb xd_C_controlOp_77 (lv_at hl 0 rfl) ?_
      refine xcW_i (va_runV (As := [.int r8]) (rest := []) ⟨hx, hb, hml, hown, htg⟩ (c_K_tell l D z k a g H.size u hg r8) (cwV 1 htg (xg_V0 xkin_K_tell xw_668 xw_366 xsel_K_tell xw_5) rfl rfl rfl (by decide +kernel) ⟨Nat.le_of_ble_eq_true rfl, Nat.le_of_ble_eq_true rfl⟩) ⟨xB_blind, xrecv_K hK hP, fun U hU hW => xB_mk hP hK hD hE hS (xsubW hD hA hS) hU hW⟩ rfl rfl hl.1 rfl (lv_room (Nat.le_of_ble_eq_true rfl)) xd_C_controlOp_79 ⟨Nat.le_of_ble_eq_true rfl, Nat.le_of_ble_eq_true rfl⟩) hD hA hS (fun r w1 H locs hw hP hD hS => ?_)
      obtain ⟨u1, g⟩ := w1
      obtain ⟨q9, hq9⟩ : ∃ q, q = xf_K_tell u r8 := ⟨_, rfl⟩
      obtain ⟨e1, e2, hg⟩ := hw
      rw [← hq9] at e1
      obtain rfl : q9 = r := e1.symm
      obtain rfl : u = u1 := e2.symm
      have hP : va_P D xCl (xWH k a g u) H := hP
      have hD : va_D A (xWH k a g u) := hD
      have hg : xok k g u := hg
      refine lv_istore (lv' := [(7, .int q9), (6, .int r8), (5, .int q6), (4, .int v4), (3, .int ((xus (xg_C_word u) (20 : Int32)))), (2, .int r1), (0, .ref ((a 1))), (1, .int p0)]) hx hb xd_C_controlOp_82 hl (by decide) rfl (fun ls hl => ?_)
      refine lv_iload_n hx hb xd_C_controlOp_84 rfl (lv_at hl 7 rfl) ?_
      refine lv_iconst (v := 4) hx hb xd_C_controlOp_85 (by decide) ?_
      have hj12 : ∀ (H : Heap) (locs : List Loc) (ls : Array Slot) (g : XG) (v11 : Int32), v11 = (if p0 ≤ 4 then (((xg_x u) r1.toNatClampNeg)) else (r1)) → xok k g u → lv_has ls 9 [(7, .int q9), (6, .int r8), (5, .int q6), (4, .int v4), (3, .int ((xus (xg_C_word u) (20 : Int32)))), (2, .int r1), (0, .ref ((a 1))), (1, .int p0)] → va_P D xCl (xWH k a g u) H → va_D A (xWH k a g u) → va_S A s.heap H locs → W p l e { frames := 2, cells := 0, slots := 0, locals := 44 } s m args below meth c H locs (0) (0) Q (F0 m 99 ls [.int v11]) := by
        intro H locs ls g v11 hv11 hg hl hP hD hS
        refine lv_istore (lv' := [(8, .int v11), (7, .int q9), (6, .int r8), (5, .int q6), (4, .int v4), (3, .int ((xus (xg_C_word u) (20 : Int32)))), (2, .int r1), (0, .ref ((a 1))), (1, .int p0)]) hx hb xd_C_controlOp_99 hl (by decide) rfl (fun ls hl => ?_)
        refine lv_iload hx hb xd_C_controlOp_101 (lv_at hl 4 rfl) ?_
        have hj17 : ∀ (H : Heap) (locs : List Loc) (ls : Array Slot) (g : XG) (v16 : XH), v16 = (if v4 = 0 then (u) else (xlt (xf_C_changed (p0 &&& (3 : Int32)) q9 v11 : Int32) fun r14 => xlt (xf_K_write u r8 r14 : XH) fun q15 => q15)) → xok k g v16 → lv_has ls 9 [(8, .int v11), (7, .int q9), (6, .int r8), (5, .int q6), (4, .int v4), (3, .int ((xus (xg_C_word u) (20 : Int32)))), (2, .int r1), (0, .ref ((a 1))), (1, .int p0)] → va_P D xCl (xWH k a g v16) H → va_D A (xWH k a g v16) → va_S A s.heap H locs → W p l e { frames := 2, cells := 0, slots := 0, locals := 44 } s m args below meth c H locs (0) (0) Q (F0 m 125 ls []) := by
          intro H locs ls g v16 hv16 hg hl hP hD hS
          refine lv_aload_n hx hb xd_C_controlOp_125 rfl (lv_at hl 7 rfl) ?_
          refine lv_aload_n hx hb xd_C_controlOp_126 rfl (lv_at hl 7 rfl) ?_
          refine xget_C_word (v := (xg_C_word v16)) hx hb htg hown hK hP (htg _ xw_224) rfl xd_C_controlOp_127 ?_
          refine xc0_i (va_runS (As := [.int ((xg_C_word v16))]) (rest := [.ref ((a 1))]) ⟨hx, hb, hml, hown, htg⟩ (c_D_d l D (xTy k) z H.size (xg_C_word v16)) (va_cwS 1 htg (xg_S0 xkin_D_d xw_529 xw_530 xw_13) rfl rfl rfl (by decide +kernel) ⟨Nat.le_of_ble_eq_true rfl, Nat.le_of_ble_eq_true rfl⟩) ⟨xB_blind, fun U hU hW => xB_mk va_P0 hK va_D0 hE hS (xsub0 hA hS) hU hW⟩ rfl rfl hl.1 rfl (lv_room (Nat.le_of_ble_eq_true rfl)) xd_C_controlOp_130 ⟨Nat.le_of_ble_eq_true rfl, Nat.le_of_ble_eq_true rfl⟩) hP hA hS (fun r18 H locs hr18 hP hS => ?_)
          refine lv_iload hx hb xd_C_controlOp_133 (lv_at hl 1 rfl) ?_
          refine xcW_v (va_runV (As := [.int r18, .int q9]) (rest := []) ⟨hx, hb, hml, hown, htg⟩ (c_C_put l D z k a g H.size v16 hg r18 q9 (xin_eq hr18 (xin_d _))) (cwV 2 htg (xg_V0 xkin_C_put xw_533 xw_322 xsel_C_put xw_2) rfl rfl rfl (by decide +kernel) ⟨Nat.le_of_ble_eq_true rfl, Nat.le_of_ble_eq_true rfl⟩) ⟨xB_blind, xrecv_C hK hP, fun U hU hW => xB_mk hP hK hD hE hS (xsubW hD hA hS) hU hW⟩ rfl rfl hl.1 rfl (lv_room (Nat.le_of_ble_eq_true rfl)) xd_C_controlOp_135 ⟨Nat.le_of_ble_eq_true rfl, Nat.le_of_ble_eq_true rfl⟩) hD hA hS (fun w1 H locs hw hP hD hS => ?_)
          obtain ⟨u1, g⟩ := w1
          obtain ⟨q19, hq19⟩ : ∃ q, q = xf_C_put v16 r18 q9 := ⟨_, rfl⟩
          obtain ⟨e2, hg⟩ := hw
          rw [← hq19] at e2
          obtain rfl : q19 = u1 := e2.symm
          have hP : va_P D xCl (xWH k a g q19) H := hP
          have hD : va_D A (xWH k a g q19) := hD
          have hg : xok k g q19 := hg
          exact hret (q19, g) H locs ls _ ⟨(by unfold xf_C_controlOp; exact (xlt_e hr1 (xlt_e hv4 (xlt_e hq6 (xit h7 (xlt_e hr8 (xlt_e hq9 (xlt_e hv11 (xlt_e hv16 (xlt_e hr18 (xlt_e hq19 rfl))))))))))), hg⟩ hP hD hS xd_C_controlOp_138
        refine lv_if_eq (tgt := 125) hx hb xd_C_controlOp_103 rfl (fun h20 => ?_) (fun h20 => ?_)
        · exact hj17 H locs ls g u (xit h20 rfl) hg hl hP hD hS
        · refine lv_aload_n hx hb xd_C_controlOp_106 rfl (lv_at hl 7 rfl) ?_
          refine xget_C_controls hx hb htg hown hK hP (htg _ xw_206) xd_C_controlOp_107 ?_
          refine lv_iload hx hb xd_C_controlOp_110 (lv_at hl 2 rfl) ?_
          refine lv_iload_n hx hb xd_C_controlOp_112 rfl (lv_at hl 8 rfl) ?_
          refine lv_iconst (v := 3) hx hb xd_C_controlOp_113 (by decide) ?_
          refine lv_iand hx hb xd_C_controlOp_114 ?_
          refine lv_iload hx hb xd_C_controlOp_115 (lv_at hl 1 rfl) ?_
          refine lv_iload hx hb xd_C_controlOp_117 (lv_at hl 0 rfl) ?_
          refine xc0_i (va_runS (As := [.int ((p0 &&& (3 : Int32))), .int q9, .int v11]) (rest := [.int r8, .ref ((a 4))]) ⟨hx, hb, hml, hown, htg⟩ (c_C_changed l D (xTy k) z H.size (p0 &&& (3 : Int32)) q9 v11) (va_cwS 3 htg (xg_S0 xkin_C_changed xw_669 xw_670 xw_2) rfl rfl rfl (by decide +kernel) ⟨Nat.le_of_ble_eq_true rfl, Nat.le_of_ble_eq_true rfl⟩) ⟨xB_blind, fun U hU hW => xB_mk va_P0 hK va_D0 hE hS (xsub0 hA hS) hU hW⟩ rfl rfl hl.1 rfl (lv_room (Nat.le_of_ble_eq_true rfl)) xd_C_controlOp_119 ⟨Nat.le_of_ble_eq_true rfl, Nat.le_of_ble_eq_true rfl⟩) hP hA hS (fun r21 H locs hr21 hP hS => ?_)
          refine xcW_v (va_runV (As := [.int r8, .int r21]) (rest := []) ⟨hx, hb, hml, hown, htg⟩ (c_K_write l D z k a g H.size u hg r8 r21) (cwV 2 htg (xg_V0 xkin_K_write xw_672 xw_345 xsel_K_write xw_5) rfl rfl rfl (by decide +kernel) ⟨Nat.le_of_ble_eq_true rfl, Nat.le_of_ble_eq_true rfl⟩) ⟨xB_blind, xrecv_K hK hP, fun U hU hW => xB_mk hP hK hD hE hS (xsubW hD hA hS) hU hW⟩ rfl rfl hl.1 rfl (lv_room (Nat.le_of_ble_eq_true rfl)) xd_C_controlOp_122 ⟨Nat.le_of_ble_eq_true rfl, Nat.le_of_ble_eq_true rfl⟩) hD hA hS (fun w1 H locs hw hP hD hS => ?_)
          obtain ⟨u1, g⟩ := w1
          obtain ⟨q22, hq22⟩ : ∃ q, q = xf_K_write u r8 r21 := ⟨_, rfl⟩
          obtain ⟨e2, hg⟩ := hw
          rw [← hq22] at e2
          obtain rfl : q22 = u1 := e2.symm
          have hP : va_P D xCl (xWH k a g q22) H := hP
          have hD : va_D A (xWH k a g q22) := hD
          have hg : xok k g q22 := hg
          exact hj17 H locs ls g q22 (xif h20 (xlt_e hr21 (xlt_e hq22 rfl))) hg hl hP hD hS
      refine lv_icmp_le (tgt := 93) hx hb xd_C_controlOp_86 rfl (fun h23 => ?_) (fun h23 => ?_)
      · refine lv_aload_n hx hb xd_C_controlOp_93 rfl (lv_at hl 6 rfl) ?_
        refine xget_C_x hx hb htg hown hK hP (htg _ xw_199) xd_C_controlOp_94 ?_
        refine lv_iload_n hx hb xd_C_controlOp_97 rfl (lv_at hl 5 rfl) ?_
        refine xald_x (f := (xg_x u)) hx hb hK hP (xin_eq hr1 (xin_a _)) rfl xd_C_controlOp_98 ?_
        exact hj12 H locs ls g ((xg_x u) r1.toNatClampNeg) (xit h23 rfl) hg hl hP hD hS
      · refine lv_iload_n hx hb xd_C_controlOp_89 rfl (lv_at hl 5 rfl) ?_
        refine lv_goto (tgt := 99) hx hb xd_C_controlOp_90 rfl ?_
        exact hj12 H locs ls g r1 (xif h23 rfl) hg hl hP hD hS
    · refine lv_aload_n hx hb xd_C_controlOp_56 rfl (lv_at hl 4 rfl) ?_
      refine lv_iload hx hb xd_C_controlOp_57 (lv_at hl 0 rfl) ?_
      refine xcW_v (va_runV (As := [.int q6]) (rest := []) ⟨hx, hb, hml, hown, htg⟩ (c_C_refuse l D z k a g H.size u hg q6) (cwV 1 htg (xg_V0 xkin_C_refuse xw_509 xw_511 xsel_C_refuse xw_2) rfl rfl rfl (by decide +kernel) ⟨Nat.le_of_ble_eq_true rfl, Nat.le_of_ble_eq_true rfl⟩) ⟨xB_blind, xrecv_C hK hP, fun U hU hW => xB_mk hP hK hD hE hS (xsubW hD hA hS) hU hW⟩ rfl rfl hl.1 rfl (lv_room (Nat.le_of_ble_eq_true rfl)) xd_C_controlOp_59 ⟨Nat.le_of_ble_eq_true rfl, Nat.le_of_ble_eq_true rfl⟩) hD hA hS (fun w1 H locs hw hP hD hS => ?_)
      obtain ⟨u1, g⟩ := w1
      obtain ⟨q24, hq24⟩ : ∃ q, q = xf_C_refuse u q6 := ⟨_, rfl⟩
      obtain ⟨e2, hg⟩ := hw
      rw [← hq24] at e2
      obtain rfl : q24 = u1 := e2.symm
      have hP : va_P D xCl (xWH k a g q24) H := hP
      have hD : va_D A (xWH k a g q24) := hD
      have hg : xok k g q24 := hg
      exact hret (q24, g) H locs ls _ ⟨(by unfold xf_C_controlOp; exact (xlt_e hr1 (xlt_e hv4 (xlt_e hq6 (xif h7 (xlt_e hq24 rfl)))))), hg⟩ hP hD hS xd_C_controlOp_62
  refine lv_icmp_eq (tgt := 27) hx hb xd_C_controlOp_20 rfl (fun h25 => ?_) (fun h25 => ?_)
  · refine lv_iconst (v := 1) hx hb xd_C_controlOp_27 (by decide) ?_
    refine lv_goto (tgt := 32) hx hb xd_C_controlOp_28 rfl ?_
    exact hj5 H locs ls g (1 : Int32) (xit h25 rfl) hg hl hP hD hS
  · refine lv_iload_n hx hb xd_C_controlOp_23 rfl (lv_at hl 1 rfl) ?_
    refine lv_if_eq (tgt := 31) hx hb xd_C_controlOp_24 rfl (fun h26 => ?_) (fun h26 => ?_)
    · refine lv_iconst (v := 0) hx hb xd_C_controlOp_31 (by decide) ?_
      exact hj5 H locs ls g (0 : Int32) (xif h25 (xit h26 rfl)) hg hl hP hD hS
    · refine lv_iconst (v := 1) hx hb xd_C_controlOp_27 (by decide) ?_
      refine lv_goto (tgt := 32) hx hb xd_C_controlOp_28 rfl ?_
      exact hj5 H locs ls g (1 : Int32) (xif h25 (xif h26 rfl)) hg hl hP hD hS
theorem xm_C_controlOp (u : XH) (p0 : Int32) : XEs (xcH u) (xf_C_controlOp u p0) := by unfold xf_C_controlOp; exact (xlt_Es (fun r1 hr1 => (xlt_Es (fun v4 hv4 => (xlt_Es (fun q6 hq6 => (xit_Es (xlt_Es (fun r8 hr8 => (xlt_Es (fun q9 hq9 => (xlt_Es (fun v11 hv11 => (xlt_Es (fun v16 hv16 => (xlt_Es (fun r18 hr18 => (xlt_Es (fun q19 hq19 => ((XEs_of hq19 (xm_C_put v16 r18 q9)).trans (XEs_of hv16 (xit_Es rfl (xlt_Es (fun r14 hr14 => (xlt_Es (fun q15 hq15 => ((XEs_of hq15 (xm_K_write u r8 r14)).trans rfl)))))))))))))))))))) (xlt_Es (fun q24 hq24 => ((XEs_of hq24 (xm_C_refuse u q6)).trans rfl))))))))))

noncomputable def xf_C_environmentCall (u : XH) : XH :=
  if (xg_C_mode u) = 1 then
    if ((xg_x u) (17 : Int32).toNatClampNeg) = 0 then
      xlt (xf_C_setAlarm u ((xg_x u) (11 : Int32).toNatClampNeg) ((xg_x u) (10 : Int32).toNatClampNeg) : XH) fun q3 =>
      (xs_x q3 (upd (xg_x q3) (10 : Int32).toNatClampNeg (0 : Int32)))
    else
      if ((xg_x u) (17 : Int32).toNatClampNeg) = 1 then
        xlt (xf_C_print u ((xg_x u) (10 : Int32).toNatClampNeg) : XH) fun q5 =>
        (xs_x q5 (upd (xg_x q5) (10 : Int32).toNatClampNeg (0 : Int32)))
      else
        if ((xg_x u) (17 : Int32).toNatClampNeg) = 8 then
          (xs_x (xs_C_off u true) (upd (xg_x (xs_C_off u true)) (10 : Int32).toNatClampNeg (0 : Int32)))
        else
          (xs_x u (upd (xg_x u) (10 : Int32).toNatClampNeg (-2 : Int32)))
  else
    if (xg_C_mode u) = 3 then
      xlt (xf_P_raise u (10 : Int32) (0 : Int32) : XH) fun q9 =>
      q9
    else
      xlt (xf_P_raise u (8 : Int32) (0 : Int32) : XH) fun q8 =>
      q8
set_option maxHeartbeats 4000000 in
set_option maxRecDepth 100000 in
theorem c_C_environmentCall (l : Launch) (D : va_G) (z : (Nat → Nat) × (Nat → Nat)) (k : ClassId × ClassId) (a : Nat → Nat) (g : XG) (sz : Nat) (u : XH) (hg : xok k g u) (kk : Nat) (hk : XN (xcH u + kk) (xf_C_environmentCall u)) : Met l xy_C_environmentCall (xk_C_environmentCall :: lw_g) { frames := 5, cells := 2 * kk, slots := 1025 * kk, locals := 110 } (va_Pc [.ref ((a 1))] (xB D (xTy k) z sz (xWH k a g u))) (va_Qv (fun q : XH × XG => q.1 = xf_C_environmentCall u ∧ xok k q.2 q.1) (fun q t => xQ D (xTy k) (xWH k a q.2 q.1) (va_A (xWH k a g u) sz) t) (va_A (xWH k a g u) sz)) (2 * kk) (1025 * kk) (va_A (xWH k a g u) sz) := by
  refine xopen_v (wf := fun q : XH × XG => xWH k a q.2 q.1) (lv := [(0, .ref ((a 1)))]) (by decide) rfl (Nat.le_of_ble_eq_true rfl) ?_
  intro p e s m args below meth c Q ls A H locs hx hb hml htg hown hin hK hP hD hE hS hA hl hret
  refine lv_aload_n hx hb xd_C_environmentCall_0 rfl (lv_at hl 0 rfl) ?_
  refine xget_C_mode (v := (xg_C_mode u)) hx hb htg hown hK hP (htg _ xw_213) rfl xd_C_environmentCall_1 ?_
  refine lv_iconst (v := 1) hx hb xd_C_environmentCall_4 (by decide) ?_
  refine lv_icmp_eq (tgt := 32) hx hb xd_C_environmentCall_5 rfl (fun h1 => ?_) (fun h1 => ?_)
  · refine lv_iconst (v := 0) hx hb xd_C_environmentCall_32 (by decide) ?_
    refine lv_istore_n (lv' := [(1, .int 0), (0, .ref ((a 1)))]) hx hb xd_C_environmentCall_33 rfl hl (by decide) rfl (fun ls hl => ?_)
    refine lv_aload_n hx hb xd_C_environmentCall_34 rfl (lv_at hl 1 rfl) ?_
    refine xget_C_x hx hb htg hown hK hP (htg _ xw_199) xd_C_environmentCall_35 ?_
    refine lv_bipush (v := 17) hx hb xd_C_environmentCall_38 (by decide) ?_
    refine xald_x (f := (xg_x u)) hx hb hK hP (vp_in_iff.mpr (by decide)) rfl xd_C_environmentCall_40 ?_
    refine (Decidable.em (((xg_x u) (17 : Int32).toNatClampNeg) = 0)).elim (fun h2 => ?_) (fun h2 => ?_)
    · refine lv_lookup (tgt := 76) (off := 35) hx hb xd_C_environmentCall_41 (by decide +kernel) (by rw [h2]; decide +kernel) rfl ?_
      refine lv_aload_n hx hb xd_C_environmentCall_76 rfl (lv_at hl 1 rfl) ?_
      refine lv_aload_n hx hb xd_C_environmentCall_77 rfl (lv_at hl 1 rfl) ?_
      refine xget_C_x hx hb htg hown hK hP (htg _ xw_199) xd_C_environmentCall_78 ?_
      refine lv_bipush (v := 11) hx hb xd_C_environmentCall_81 (by decide) ?_
      refine xald_x (f := (xg_x u)) hx hb hK hP (vp_in_iff.mpr (by decide)) rfl xd_C_environmentCall_83 ?_
      refine lv_aload_n hx hb xd_C_environmentCall_84 rfl (lv_at hl 1 rfl) ?_
      refine xget_C_x hx hb htg hown hK hP (htg _ xw_199) xd_C_environmentCall_85 ?_
      refine lv_bipush (v := 10) hx hb xd_C_environmentCall_88 (by decide) ?_
      refine xald_x (f := (xg_x u)) hx hb hK hP (vp_in_iff.mpr (by decide)) rfl xd_C_environmentCall_90 ?_
      refine xcW_v (va_runV (As := [.int (((xg_x u) (11 : Int32).toNatClampNeg)), .int (((xg_x u) (10 : Int32).toNatClampNeg))]) (rest := []) ⟨hx, hb, hml, hown, htg⟩ (c_C_setAlarm l D z k a g H.size u hg ((xg_x u) (11 : Int32).toNatClampNeg) ((xg_x u) (10 : Int32).toNatClampNeg)) (cwV 2 htg (xg_V0 xkin_C_setAlarm xw_630 xw_632 xsel_C_setAlarm xw_2) rfl rfl rfl (by decide +kernel) ⟨Nat.le_of_ble_eq_true rfl, Nat.le_of_ble_eq_true rfl⟩) ⟨xB_blind, xrecv_C hK hP, fun U hU hW => xB_mk hP hK hD hE hS (xsubW hD hA hS) hU hW⟩ rfl rfl hl.1 rfl (lv_room (Nat.le_of_ble_eq_true rfl)) xd_C_environmentCall_91 ⟨Nat.le_of_ble_eq_true rfl, Nat.le_of_ble_eq_true rfl⟩) hD hA hS (fun w1 H locs hw hP hD hS => ?_)
      obtain ⟨u1, g⟩ := w1
      obtain ⟨q3, hq3⟩ : ∃ q, q = xf_C_setAlarm u ((xg_x u) (11 : Int32).toNatClampNeg) ((xg_x u) (10 : Int32).toNatClampNeg) := ⟨_, rfl⟩
      obtain ⟨e2, hg⟩ := hw
      rw [← hq3] at e2
      obtain rfl : q3 = u1 := e2.symm
      have hP : va_P D xCl (xWH k a g q3) H := hP
      have hD : va_D A (xWH k a g q3) := hD
      have hg : xok k g q3 := hg
      refine lv_goto (tgt := 122) hx hb xd_C_environmentCall_94 rfl ?_
      refine lv_aload_n hx hb xd_C_environmentCall_122 rfl (lv_at hl 1 rfl) ?_
      refine xget_C_x hx hb htg hown hK hP (htg _ xw_199) xd_C_environmentCall_123 ?_
      refine lv_bipush (v := 10) hx hb xd_C_environmentCall_126 (by decide) ?_
      refine lv_iload_n hx hb xd_C_environmentCall_128 rfl (lv_at hl 0 rfl) ?_
      refine xast_x (f := (xg_x q3)) hx hb hK hP hD hS hg (vp_in_iff.mpr (by decide)) rfl xd_C_environmentCall_129 (fun H locs hP hD hS hg => ?_)
      exact W.widen (by omega) (by omega) (hret ((xs_x q3 (upd (xg_x q3) (10 : Int32).toNatClampNeg (0 : Int32))), g) H locs ls _ ⟨(by unfold xf_C_environmentCall; exact (xit h1 (xit h2 (xlt_e hq3 rfl)))), hg⟩ hP hD hS xd_C_environmentCall_130)
    · refine (Decidable.em (((xg_x u) (17 : Int32).toNatClampNeg) = 1)).elim (fun h4 => ?_) (fun h4 => ?_)
      · refine lv_lookup (tgt := 97) (off := 56) hx hb xd_C_environmentCall_41 (by decide +kernel) (by rw [h4]; decide +kernel) rfl ?_
        refine lv_aload_n hx hb xd_C_environmentCall_97 rfl (lv_at hl 1 rfl) ?_
        refine lv_aload_n hx hb xd_C_environmentCall_98 rfl (lv_at hl 1 rfl) ?_
        refine xget_C_x hx hb htg hown hK hP (htg _ xw_199) xd_C_environmentCall_99 ?_
        refine lv_bipush (v := 10) hx hb xd_C_environmentCall_102 (by decide) ?_
        refine xald_x (f := (xg_x u)) hx hb hK hP (vp_in_iff.mpr (by decide)) rfl xd_C_environmentCall_104 ?_
        refine xcW_v (va_runV (As := [.int (((xg_x u) (10 : Int32).toNatClampNeg))]) (rest := []) ⟨hx, hb, hml, hown, htg⟩ (c_C_print l D z k a g H.size u hg ((xg_x u) (10 : Int32).toNatClampNeg) kk (by unfold xf_C_environmentCall at hk; have hk0 := xit_k h1 hk; have hk1 := xif_k h2 hk0; have hk2 := xit_k h4 hk1; exact xkT (u := u) rfl (fun _ => xcH_x) hk2)) (cwV 1 htg (xg_V0 xkin_C_print xw_636 xw_638 xsel_C_print xw_2) rfl rfl rfl (by decide +kernel) ⟨Nat.le_of_ble_eq_true rfl, Nat.le_of_ble_eq_true rfl⟩) ⟨xB_blind, xrecv_C hK hP, fun U hU hW => xB_mk hP hK hD hE hS (xsubW hD hA hS) hU hW⟩ rfl rfl hl.1 rfl (lv_room (Nat.le_of_ble_eq_true rfl)) xd_C_environmentCall_105 ⟨by show 0 + 2 * kk ≤ 2 * kk; omega, by show 0 + 1025 * kk ≤ 1025 * kk; omega⟩) hD hA hS (fun w1 H locs hw hP hD hS => ?_)
        obtain ⟨u1, g⟩ := w1
        obtain ⟨q5, hq5⟩ : ∃ q, q = xf_C_print u ((xg_x u) (10 : Int32).toNatClampNeg) := ⟨_, rfl⟩
        obtain ⟨e2, hg⟩ := hw
        rw [← hq5] at e2
        obtain rfl : q5 = u1 := e2.symm
        have hP : va_P D xCl (xWH k a g q5) H := hP
        have hD : va_D A (xWH k a g q5) := hD
        have hg : xok k g q5 := hg
        refine lv_goto (tgt := 122) hx hb xd_C_environmentCall_108 rfl ?_
        refine lv_aload_n hx hb xd_C_environmentCall_122 rfl (lv_at hl 1 rfl) ?_
        refine xget_C_x hx hb htg hown hK hP (htg _ xw_199) xd_C_environmentCall_123 ?_
        refine lv_bipush (v := 10) hx hb xd_C_environmentCall_126 (by decide) ?_
        refine lv_iload_n hx hb xd_C_environmentCall_128 rfl (lv_at hl 0 rfl) ?_
        refine xast_x (f := (xg_x q5)) hx hb hK hP hD hS hg (vp_in_iff.mpr (by decide)) rfl xd_C_environmentCall_129 (fun H locs hP hD hS hg => ?_)
        exact W.widen (by omega) (by omega) (hret ((xs_x q5 (upd (xg_x q5) (10 : Int32).toNatClampNeg (0 : Int32))), g) H locs ls _ ⟨(by unfold xf_C_environmentCall; exact (xit h1 (xif h2 (xit h4 (xlt_e hq5 rfl))))), hg⟩ hP hD hS xd_C_environmentCall_130)
      · refine (Decidable.em (((xg_x u) (17 : Int32).toNatClampNeg) = 8)).elim (fun h6 => ?_) (fun h6 => ?_)
        · refine lv_lookup (tgt := 111) (off := 70) hx hb xd_C_environmentCall_41 (by decide +kernel) (by rw [h6]; decide +kernel) rfl ?_
          refine lv_aload_n hx hb xd_C_environmentCall_111 rfl (lv_at hl 1 rfl) ?_
          refine lv_iconst (v := 1) hx hb xd_C_environmentCall_112 (by decide) ?_
          refine xput_C_off (v := true) hx hb htg hown hK hP hD hS hg (htg _ xw_215) xd_C_environmentCall_113 (fun H locs hP hD hS hg => ?_)
          refine lv_goto (tgt := 122) hx hb xd_C_environmentCall_116 rfl ?_
          refine lv_aload_n hx hb xd_C_environmentCall_122 rfl (lv_at hl 1 rfl) ?_
          refine xget_C_x hx hb htg hown hK hP (htg _ xw_199) xd_C_environmentCall_123 ?_
          refine lv_bipush (v := 10) hx hb xd_C_environmentCall_126 (by decide) ?_
          refine lv_iload_n hx hb xd_C_environmentCall_128 rfl (lv_at hl 0 rfl) ?_
          refine xast_x (f := (xg_x (xs_C_off u true))) hx hb hK hP hD hS hg (vp_in_iff.mpr (by decide)) rfl xd_C_environmentCall_129 (fun H locs hP hD hS hg => ?_)
          exact W.widen (by omega) (by omega) (hret ((xs_x (xs_C_off u true) (upd (xg_x (xs_C_off u true)) (10 : Int32).toNatClampNeg (0 : Int32))), g) H locs ls _ ⟨(by unfold xf_C_environmentCall; exact (xit h1 (xif h2 (xif h4 (xit h6 rfl))))), hg⟩ hP hD hS xd_C_environmentCall_130)
        · refine lv_lookup (tgt := 119) (off := 78) hx hb xd_C_environmentCall_41 (by decide +kernel) (by first | (rw [lv_osw h2 (by decide), lv_osw h4 (by decide), lv_osw h6 (by decide)]; rfl) | (simp only [lv_osw h2 (by decide), lv_osw h4 (by decide), lv_osw h6 (by decide)]; rfl)) rfl ?_
          refine lv_bipush (v := (-2)) hx hb xd_C_environmentCall_119 (by decide) ?_
          refine lv_istore_n (lv' := [(1, .int (-2)), (0, .ref ((a 1)))]) hx hb xd_C_environmentCall_121 rfl hl (by decide) rfl (fun ls hl => ?_)
          refine lv_aload_n hx hb xd_C_environmentCall_122 rfl (lv_at hl 1 rfl) ?_
          refine xget_C_x hx hb htg hown hK hP (htg _ xw_199) xd_C_environmentCall_123 ?_
          refine lv_bipush (v := 10) hx hb xd_C_environmentCall_126 (by decide) ?_
          refine lv_iload_n hx hb xd_C_environmentCall_128 rfl (lv_at hl 0 rfl) ?_
          refine xast_x (f := (xg_x u)) hx hb hK hP hD hS hg (vp_in_iff.mpr (by decide)) rfl xd_C_environmentCall_129 (fun H locs hP hD hS hg => ?_)
          exact W.widen (by omega) (by omega) (hret ((xs_x u (upd (xg_x u) (10 : Int32).toNatClampNeg (-2 : Int32))), g) H locs ls _ ⟨(by unfold xf_C_environmentCall; exact (xit h1 (xif h2 (xif h4 (xif h6 rfl))))), hg⟩ hP hD hS xd_C_environmentCall_130)
  · refine lv_aload_n hx hb xd_C_environmentCall_8 rfl (lv_at hl 0 rfl) ?_
    refine xget_C_trap hx hb htg hown hK hP (htg _ xw_208) xd_C_environmentCall_9 ?_
    refine lv_aload_n hx hb xd_C_environmentCall_12 rfl (lv_at hl 0 rfl) ?_
    refine xget_C_mode (v := (xg_C_mode u)) hx hb htg hown hK hP (htg _ xw_213) rfl xd_C_environmentCall_13 ?_
    refine lv_iconst (v := 3) hx hb xd_C_environmentCall_16 (by decide) ?_
    refine lv_icmp_ne (tgt := 25) hx hb xd_C_environmentCall_17 rfl (fun h7 => ?_) (fun h7 => ?_)
    · refine lv_bipush (v := 8) hx hb xd_C_environmentCall_25 (by decide) ?_
      refine lv_iconst (v := 0) hx hb xd_C_environmentCall_27 (by decide) ?_
      refine xcW_v (va_runV (As := [.int 8, .int 0]) (rest := []) ⟨hx, hb, hml, hown, htg⟩ (c_P_raise l D z k a g H.size u hg (8 : Int32) (0 : Int32)) (cwV 2 htg (xg_V0 xkin_P_raise xw_411 xw_412 xsel_P_raise xw_7) rfl rfl rfl (by decide +kernel) ⟨Nat.le_of_ble_eq_true rfl, Nat.le_of_ble_eq_true rfl⟩) ⟨xB_blind, xrecv_P hK hP, fun U hU hW => xB_mk hP hK hD hE hS (xsubW hD hA hS) hU hW⟩ rfl rfl hl.1 rfl (lv_room (Nat.le_of_ble_eq_true rfl)) xd_C_environmentCall_28 ⟨Nat.le_of_ble_eq_true rfl, Nat.le_of_ble_eq_true rfl⟩) hD hA hS (fun w1 H locs hw hP hD hS => ?_)
      obtain ⟨u1, g⟩ := w1
      obtain ⟨q8, hq8⟩ : ∃ q, q = xf_P_raise u (8 : Int32) (0 : Int32) := ⟨_, rfl⟩
      obtain ⟨e2, hg⟩ := hw
      rw [← hq8] at e2
      obtain rfl : q8 = u1 := e2.symm
      have hP : va_P D xCl (xWH k a g q8) H := hP
      have hD : va_D A (xWH k a g q8) := hD
      have hg : xok k g q8 := hg
      exact W.widen (by omega) (by omega) (hret (q8, g) H locs ls _ ⟨(by unfold xf_C_environmentCall; exact (xif h1 (xif h7 (xlt_e hq8 rfl)))), hg⟩ hP hD hS xd_C_environmentCall_31)
    · refine lv_bipush (v := 10) hx hb xd_C_environmentCall_20 (by decide) ?_
      refine lv_goto (tgt := 27) hx hb xd_C_environmentCall_22 rfl ?_
      refine lv_iconst (v := 0) hx hb xd_C_environmentCall_27 (by decide) ?_
      refine xcW_v (va_runV (As := [.int 10, .int 0]) (rest := []) ⟨hx, hb, hml, hown, htg⟩ (c_P_raise l D z k a g H.size u hg (10 : Int32) (0 : Int32)) (cwV 2 htg (xg_V0 xkin_P_raise xw_411 xw_412 xsel_P_raise xw_7) rfl rfl rfl (by decide +kernel) ⟨Nat.le_of_ble_eq_true rfl, Nat.le_of_ble_eq_true rfl⟩) ⟨xB_blind, xrecv_P hK hP, fun U hU hW => xB_mk hP hK hD hE hS (xsubW hD hA hS) hU hW⟩ rfl rfl hl.1 rfl (lv_room (Nat.le_of_ble_eq_true rfl)) xd_C_environmentCall_28 ⟨Nat.le_of_ble_eq_true rfl, Nat.le_of_ble_eq_true rfl⟩) hD hA hS (fun w1 H locs hw hP hD hS => ?_)
      obtain ⟨u1, g⟩ := w1
      obtain ⟨q9, hq9⟩ : ∃ q, q = xf_P_raise u (10 : Int32) (0 : Int32) := ⟨_, rfl⟩
      obtain ⟨e2, hg⟩ := hw
      rw [← hq9] at e2
      obtain rfl : q9 = u1 := e2.symm
      have hP : va_P D xCl (xWH k a g q9) H := hP
      have hD : va_D A (xWH k a g q9) := hD
      have hg : xok k g q9 := hg
      exact W.widen (by omega) (by omega) (hret (q9, g) H locs ls _ ⟨(by unfold xf_C_environmentCall; exact (xif h1 (xit h7 (xlt_e hq9 rfl)))), hg⟩ hP hD hS xd_C_environmentCall_31)

noncomputable def xf_H_setControl (u : XH) (p0 : Int32) (p1 : Int32) : Int32 × XH :=
  xlt (xf_K_refusal u p0 (1 : Int32) (1 : Int32) : Int32) fun q1 =>
  if q1 = (-1) then
    xlt (xf_K_write u p0 p1 : XH) fun q3 =>
    (0, q3)
  else
    ((-1), u)
set_option maxHeartbeats 4000000 in
set_option maxRecDepth 100000 in
theorem c_H_setControl (l : Launch) (D : va_G) (z : (Nat → Nat) × (Nat → Nat)) (k : ClassId × ClassId) (a : Nat → Nat) (g : XG) (sz : Nat) (u : XH) (hg : xok k g u) (p0 : Int32) (p1 : Int32) : Met l xy_H_setControl (xk_H_setControl :: lw_g) { frames := 2, cells := 0, slots := 0, locals := 44 } (va_Pc [.ref ((a 0)), .int p0, .int p1] (xB D (xTy k) z sz (xWH k a g u))) (va_Qi (fun r (q : XH × XG) => (r, q.1) = xf_H_setControl u p0 p1 ∧ xok k q.2 q.1) (fun q t => xQ D (xTy k) (xWH k a q.2 q.1) (va_A (xWH k a g u) sz) t) (va_A (xWH k a g u) sz)) 0 0 (va_A (xWH k a g u) sz) := by
  refine xopen_i (wf := fun q : XH × XG => xWH k a q.2 q.1) (lv := [(0, .ref ((a 0))), (1, .int p0), (2, .int p1)]) (by decide) rfl (Nat.le_of_ble_eq_true rfl) ?_
  intro p e s m args below meth c Q ls A H locs hx hb hml htg hown hin hK hP hD hE hS hA hl hret
  refine lv_aload_n hx hb xd_H_setControl_0 rfl (lv_at hl 0 rfl) ?_
  refine xget_H_core hx hb htg hown hK hP (htg _ xw_277) xd_H_setControl_1 ?_
  refine xget_C_controls hx hb htg hown hK hP (htg _ xw_207) xd_H_setControl_4 ?_
  refine lv_iload_n hx hb xd_H_setControl_7 rfl (lv_at hl 1 rfl) ?_
  refine lv_iconst (v := 1) hx hb xd_H_setControl_8 (by decide) ?_
  refine lv_iconst (v := 1) hx hb xd_H_setControl_9 (by decide) ?_
  refine xcW_i (va_runV (As := [.int p0, .int 1, .int 1]) (rest := []) ⟨hx, hb, hml, hown, htg⟩ (c_K_refusal l D z k a g H.size u hg p0 (1 : Int32) (1 : Int32)) (cwV 3 htg (xg_V0 xkin_K_refusal xw_333 xw_334 xsel_K_refusal xw_5) rfl rfl rfl (by decide +kernel) ⟨Nat.le_of_ble_eq_true rfl, Nat.le_of_ble_eq_true rfl⟩) ⟨xB_blind, xrecv_K hK hP, fun U hU hW => xB_mk hP hK hD hE hS (xsubW hD hA hS) hU hW⟩ rfl rfl hl.1 rfl (lv_room (Nat.le_of_ble_eq_true rfl)) xd_H_setControl_10 ⟨Nat.le_of_ble_eq_true rfl, Nat.le_of_ble_eq_true rfl⟩) hD hA hS (fun r w1 H locs hw hP hD hS => ?_)
  obtain ⟨u1, g⟩ := w1
  obtain ⟨q1, hq1⟩ : ∃ q, q = xf_K_refusal u p0 (1 : Int32) (1 : Int32) := ⟨_, rfl⟩
  obtain ⟨e1, e2, hg⟩ := hw
  rw [← hq1] at e1
  obtain rfl : q1 = r := e1.symm
  obtain rfl : u = u1 := e2.symm
  have hP : va_P D xCl (xWH k a g u) H := hP
  have hD : va_D A (xWH k a g u) := hD
  have hg : xok k g u := hg
  refine lv_iconst (v := (-1)) hx hb xd_H_setControl_13 (by decide) ?_
  refine lv_icmp_eq (tgt := 19) hx hb xd_H_setControl_14 rfl (fun h2 => ?_) (fun h2 => ?_)
  · refine lv_aload_n hx hb xd_H_setControl_19 rfl (lv_at hl 0 rfl) ?_
    refine xget_H_core hx hb htg hown hK hP (htg _ xw_277) xd_H_setControl_20 ?_
    refine xget_C_controls hx hb htg hown hK hP (htg _ xw_207) xd_H_setControl_23 ?_
    refine lv_iload_n hx hb xd_H_setControl_26 rfl (lv_at hl 1 rfl) ?_
    refine lv_iload_n hx hb xd_H_setControl_27 rfl (lv_at hl 2 rfl) ?_
    refine xcW_v (va_runV (As := [.int p0, .int p1]) (rest := []) ⟨hx, hb, hml, hown, htg⟩ (c_K_write l D z k a g H.size u hg p0 p1) (cwV 2 htg (xg_V0 xkin_K_write xw_344 xw_345 xsel_K_write xw_5) rfl rfl rfl (by decide +kernel) ⟨Nat.le_of_ble_eq_true rfl, Nat.le_of_ble_eq_true rfl⟩) ⟨xB_blind, xrecv_K hK hP, fun U hU hW => xB_mk hP hK hD hE hS (xsubW hD hA hS) hU hW⟩ rfl rfl hl.1 rfl (lv_room (Nat.le_of_ble_eq_true rfl)) xd_H_setControl_28 ⟨Nat.le_of_ble_eq_true rfl, Nat.le_of_ble_eq_true rfl⟩) hD hA hS (fun w1 H locs hw hP hD hS => ?_)
    obtain ⟨u1, g⟩ := w1
    obtain ⟨q3, hq3⟩ : ∃ q, q = xf_K_write u p0 p1 := ⟨_, rfl⟩
    obtain ⟨e2, hg⟩ := hw
    rw [← hq3] at e2
    obtain rfl : q3 = u1 := e2.symm
    have hP : va_P D xCl (xWH k a g q3) H := hP
    have hD : va_D A (xWH k a g q3) := hD
    have hg : xok k g q3 := hg
    refine lv_iconst (v := 0) hx hb xd_H_setControl_31 (by decide) ?_
    exact hret _ (q3, g) H locs ls _ ⟨(by unfold xf_H_setControl; exact (xlt_e hq1 (xit h2 (xlt_e hq3 rfl)))), hg⟩ hP hD hS xd_H_setControl_32
  · refine lv_iconst (v := (-1)) hx hb xd_H_setControl_17 (by decide) ?_
    exact hret _ (u, g) H locs ls _ ⟨(by unfold xf_H_setControl; exact (xlt_e hq1 (xif h2 rfl))), hg⟩ hP hD hS xd_H_setControl_18
theorem xm_H_setControl (u : XH) (p0 : Int32) (p1 : Int32) : XE (xcH u) (xf_H_setControl u p0 p1) := by unfold xf_H_setControl; exact (xlt_E (fun q1 hq1 => (xit_E (xlt_E (fun q3 hq3 => ((XEs_of hq3 (xm_K_write u p0 p1)).trans rfl))) rfl)))

noncomputable def xf_H_control (u : XH) (p0 : Int32) : Int32 :=
  xlt (xf_K_tell u p0 : Int32) fun q1 =>
  q1
set_option maxHeartbeats 4000000 in
set_option maxRecDepth 100000 in
theorem c_H_control (l : Launch) (D : va_G) (z : (Nat → Nat) × (Nat → Nat)) (k : ClassId × ClassId) (a : Nat → Nat) (g : XG) (sz : Nat) (u : XH) (hg : xok k g u) (p0 : Int32) : Met l xy_H_control (xk_H_control :: lw_g) { frames := 2, cells := 0, slots := 0, locals := 42 } (va_Pc [.ref ((a 0)), .int p0] (xB D (xTy k) z sz (xWH k a g u))) (va_Qi (fun r (q : XH × XG) => r = xf_H_control u p0 ∧ q.1 = u ∧ xok k q.2 q.1) (fun q t => xQ D (xTy k) (xWH k a q.2 q.1) (va_A (xWH k a g u) sz) t) (va_A (xWH k a g u) sz)) 0 0 (va_A (xWH k a g u) sz) := by
  refine xopen_i (wf := fun q : XH × XG => xWH k a q.2 q.1) (lv := [(0, .ref ((a 0))), (1, .int p0)]) (by decide) rfl (Nat.le_of_ble_eq_true rfl) ?_
  intro p e s m args below meth c Q ls A H locs hx hb hml htg hown hin hK hP hD hE hS hA hl hret
  refine lv_aload_n hx hb xd_H_control_0 rfl (lv_at hl 0 rfl) ?_
  refine xget_H_core hx hb htg hown hK hP (htg _ xw_277) xd_H_control_1 ?_
  refine xget_C_controls hx hb htg hown hK hP (htg _ xw_207) xd_H_control_4 ?_
  refine lv_iload_n hx hb xd_H_control_7 rfl (lv_at hl 1 rfl) ?_
  refine xcW_i (va_runV (As := [.int p0]) (rest := []) ⟨hx, hb, hml, hown, htg⟩ (c_K_tell l D z k a g H.size u hg p0) (cwV 1 htg (xg_V0 xkin_K_tell xw_365 xw_366 xsel_K_tell xw_5) rfl rfl rfl (by decide +kernel) ⟨Nat.le_of_ble_eq_true rfl, Nat.le_of_ble_eq_true rfl⟩) ⟨xB_blind, xrecv_K hK hP, fun U hU hW => xB_mk hP hK hD hE hS (xsubW hD hA hS) hU hW⟩ rfl rfl hl.1 rfl (lv_room (Nat.le_of_ble_eq_true rfl)) xd_H_control_8 ⟨Nat.le_of_ble_eq_true rfl, Nat.le_of_ble_eq_true rfl⟩) hD hA hS (fun r w1 H locs hw hP hD hS => ?_)
  obtain ⟨u1, g⟩ := w1
  obtain ⟨q1, hq1⟩ : ∃ q, q = xf_K_tell u p0 := ⟨_, rfl⟩
  obtain ⟨e1, e2, hg⟩ := hw
  rw [← hq1] at e1
  obtain rfl : q1 = r := e1.symm
  obtain rfl : u = u1 := e2.symm
  have hP : va_P D xCl (xWH k a g u) H := hP
  have hD : va_D A (xWH k a g u) := hD
  have hg : xok k g u := hg
  exact hret _ (u, g) H locs ls _ ⟨(by unfold xf_H_control; exact (xlt_e hq1 rfl)), rfl, hg⟩ hP hD hS xd_H_control_11

noncomputable def xf_T_translate (u : XH) (p0 : Int32) (p1 : Int32) (p2 : Nat) (p3 : Int32) : Int32 × XH :=
  if (p0 &&& (((1 : Int32) <<< (p1 &&& 31)) - (1 : Int32))) = 0 then
    xlt (xf_H_isVirtual p3 : Int32) fun r2 =>
    if r2 = 0 then
      xlt (if (((xg_S_status u) ||| (xg_S_status u)) &&& (524288 : Int32)) = 0 then (0) else (1) : Int32) fun v6 =>
      xlt (xf_A_anyWith p2 v6 : Int32) fun q8 =>
      xlt (xf_H_isSupervisor p3 : Int32) fun r9 =>
      xlt (if r9 = 0 then (((List.getD [65, 65, 65, 193] p2 0) ||| (16 : Int32))) else ((List.getD [65, 65, 65, 193] p2 0)) : Int32) fun v11 =>
      xlt (if p2 = 0 then (0) else (if ((xg_S_status u) &&& (262144 : Int32)) = 0 then (0) else (1)) : Int32) fun v15 =>
      xlt (xf_H_isSupervisor p3 : Int32) fun r17 =>
      xlt (if r17 = 0 then (0) else (if v15 = 0 then (16) else (0)) : Int32) fun v20 =>
      xlt (if r2 = 0 then (xlt (xf_T_walk u (xg_S_atp u) ((Int32.toInt64 p0) &&& (4294967295 : Int64)) q8 v11 v20 : Int64 × XH) fun q23 => q23.1) else (xlt (xf_T_firstStage u ((Int32.toInt64 p0) &&& (4294967295 : Int64)) q8 v11 v20 : Int64 × XH) fun q24 => q24.1) : Int64) fun v25 =>
      xlt (if r2 = 0 then (xlt (xf_T_walk u (xg_S_atp u) ((Int32.toInt64 p0) &&& (4294967295 : Int64)) q8 v11 v20 : Int64 × XH) fun q23 => q23.2) else (xlt (xf_T_firstStage u ((Int32.toInt64 p0) &&& (4294967295 : Int64)) q8 v11 v20 : Int64 × XH) fun q24 => q24.2) : XH) fun v26 =>
      xlt (if r2 = 0 then (v25) else (if (lg_cmp v25 (0 : Int64)) < 0 then (v25) else (xlt (xf_T_secondStage v26 v25 p2 : Int64 × XH) fun q30 => q30.1)) : Int64) fun v31 =>
      xlt (if r2 = 0 then (v26) else (if (lg_cmp v25 (0 : Int64)) < 0 then (v26) else (xlt (xf_T_secondStage v26 v25 p2 : Int64 × XH) fun q30 => q30.2)) : XH) fun v32 =>
      xlt (if 0 ≤ (lg_cmp v31 (0 : Int64)) then (v32) else (xlt (xf_A_causeOf p2 v31 : Int32) fun q35 => xlt (xf_P_raise v32 q35 p0 : XH) fun q36 => q36) : XH) fun v37 =>
      ((Int64.toInt32 v31), v37)
    else
      xlt (if (((xg_V_status u) ||| (xg_S_status u)) &&& (524288 : Int32)) = 0 then (0) else (1) : Int32) fun v55 =>
      xlt (xf_A_anyWith p2 v55 : Int32) fun q57 =>
      xlt (xf_H_isSupervisor p3 : Int32) fun r58 =>
      xlt (if r58 = 0 then (((List.getD [65, 65, 65, 193] p2 0) ||| (16 : Int32))) else ((List.getD [65, 65, 65, 193] p2 0)) : Int32) fun v60 =>
      xlt (if p2 = 0 then (0) else (if ((xg_V_status u) &&& (262144 : Int32)) = 0 then (0) else (1)) : Int32) fun v64 =>
      xlt (xf_H_isSupervisor p3 : Int32) fun r66 =>
      xlt (if r66 = 0 then (0) else (if v64 = 0 then (16) else (0)) : Int32) fun v69 =>
      xlt (if r2 = 0 then (xlt (xf_T_walk u (xg_V_atp u) ((Int32.toInt64 p0) &&& (4294967295 : Int64)) q57 v60 v69 : Int64 × XH) fun q72 => q72.1) else (xlt (xf_T_firstStage u ((Int32.toInt64 p0) &&& (4294967295 : Int64)) q57 v60 v69 : Int64 × XH) fun q73 => q73.1) : Int64) fun v74 =>
      xlt (if r2 = 0 then (xlt (xf_T_walk u (xg_V_atp u) ((Int32.toInt64 p0) &&& (4294967295 : Int64)) q57 v60 v69 : Int64 × XH) fun q72 => q72.2) else (xlt (xf_T_firstStage u ((Int32.toInt64 p0) &&& (4294967295 : Int64)) q57 v60 v69 : Int64 × XH) fun q73 => q73.2) : XH) fun v75 =>
      xlt (if r2 = 0 then (v74) else (if (lg_cmp v74 (0 : Int64)) < 0 then (v74) else (xlt (xf_T_secondStage v75 v74 p2 : Int64 × XH) fun q79 => q79.1)) : Int64) fun v80 =>
      xlt (if r2 = 0 then (v75) else (if (lg_cmp v74 (0 : Int64)) < 0 then (v75) else (xlt (xf_T_secondStage v75 v74 p2 : Int64 × XH) fun q79 => q79.2)) : XH) fun v81 =>
      xlt (if 0 ≤ (lg_cmp v80 (0 : Int64)) then (v81) else (xlt (xf_A_causeOf p2 v80 : Int32) fun q84 => xlt (xf_P_raise v81 q84 p0 : XH) fun q85 => q85) : XH) fun v86 =>
      ((Int64.toInt32 v80), v86)
  else
    xlt (xf_P_raise u (List.getD [0, 4, 4, 6] p2 0) p0 : XH) fun q103 =>
    ((-1), q103)
set_option maxHeartbeats 4000000 in
set_option maxRecDepth 100000 in
theorem c_T_translate (l : Launch) (D : va_G) (z : (Nat → Nat) × (Nat → Nat)) (k : ClassId × ClassId) (a : Nat → Nat) (g : XG) (sz : Nat) (u : XH) (hg : xok k g u) (p0 : Int32) (p1 : Int32) (p2 : Nat) (p3 : Int32) (hac : p2 < 4) : Met l xy_T_translate (xk_T_translate :: lw_g) { frames := 3, cells := 0, slots := 0, locals := 87 } (va_Pc [.ref ((a 3)), .int p0, .int p1, .ref ((z.1 p2)), .int p3] (xB D (xTy k) z sz (xWH k a g u))) (va_Qi (fun r (q : XH × XG) => (r, q.1) = xf_T_translate u p0 p1 p2 p3 ∧ xok k q.2 q.1) (fun q t => xQ D (xTy k) (xWH k a q.2 q.1) (va_A (xWH k a g u) sz) t) (va_A (xWH k a g u) sz)) 0 0 (va_A (xWH k a g u) sz) := by
  refine xopen_i (wf := fun q : XH × XG => xWH k a q.2 q.1) (lv := [(0, .ref ((a 3))), (1, .int p0), (2, .int p1), (3, .ref ((z.1 p2))), (4, .int p3)]) (by decide) rfl (Nat.le_of_ble_eq_true rfl) ?_
  intro p e s m args below meth c Q ls A H locs hx hb hml htg hown hin hK hP hD hE hS hA hl hret
  refine lv_iload_n hx hb xd_T_translate_0 rfl (lv_at hl 1 rfl) ?_
  refine lv_iconst (v := 1) hx hb xd_T_translate_1 (by decide) ?_
  refine lv_iload_n hx hb xd_T_translate_2 rfl (lv_at hl 2 rfl) ?_
  refine lv_ishl hx hb xd_T_translate_3 ?_
  refine lv_iconst (v := 1) hx hb xd_T_translate_4 (by decide) ?_
  refine lv_isub hx hb xd_T_translate_5 ?_
  refine lv_iand hx hb xd_T_translate_6 ?_
  refine lv_if_eq (tgt := 24) hx hb xd_T_translate_7 rfl (fun h1 => ?_) (fun h1 => ?_)
  · refine lv_iload hx hb xd_T_translate_24 (lv_at hl 4 rfl) ?_
    refine xc0_i (va_runSN (As := [.int p3]) (rest := []) ⟨hx, hb, hml, hown, htg⟩ (c_H_isVirtual l D (xTy k) z H.size p3) ⟨va_cnB (host := "HyperHost") 1 htg (xg_C0 xkin_H_isVirtual) rfl rfl rfl (xnest hE (by decide +kernel)) (htg _ xw_1) (by decide +kernel) ⟨Nat.le_of_ble_eq_true rfl, Nat.le_of_ble_eq_true rfl⟩, htg _ xw_427, trivial⟩ ⟨xB_blind, fun U hU hW => xB_mk va_P0 hK va_D0 hE hS (xsub0 hA hS) hU hW⟩ rfl rfl hl.1 rfl (lv_room (Nat.le_of_ble_eq_true rfl)) xd_T_translate_26 ⟨Nat.le_of_ble_eq_true rfl, Nat.le_of_ble_eq_true rfl⟩) hP hA hS (fun r2 H locs hr2 hP hS => ?_)
    refine lv_istore (lv' := [(5, .int r2), (0, .ref ((a 3))), (1, .int p0), (2, .int p1), (3, .ref ((z.1 p2))), (4, .int p3)]) hx hb xd_T_translate_29 hl (by decide) rfl (fun ls hl => ?_)
    refine lv_iload hx hb xd_T_translate_31 (lv_at hl 0 rfl) ?_
    refine lv_if_eq (tgt := 46) hx hb xd_T_translate_33 rfl (fun h4 => ?_) (fun h4 => ?_)
    · refine lv_aload_n hx hb xd_T_translate_46 rfl (lv_at hl 1 rfl) ?_
      refine xget_T_controls hx hb htg hown hK hP (htg _ xw_188) xd_T_translate_47 ?_
      refine xget_K_s hx hb htg hown hK hP (htg _ xw_101) xd_T_translate_50 ?_
      refine lv_astore (lv' := [(6, .ref ((a 5))), (5, .int r2), (0, .ref ((a 3))), (1, .int p0), (2, .int p1), (3, .ref ((z.1 p2))), (4, .int p3)]) hx hb xd_T_translate_53 hl (by decide) rfl (fun ls hl => ?_)
      refine lv_aload_n hx hb xd_T_translate_55 rfl (lv_at hl 5 rfl) ?_
      refine lv_aload hx hb xd_T_translate_56 (lv_at hl 0 rfl) ?_
      refine xget_S_status (v := (xg_S_status u)) hx hb htg hown hK hP (htg _ xw_67) rfl xd_T_translate_58 ?_
      refine lv_aload_n hx hb xd_T_translate_61 rfl (lv_at hl 2 rfl) ?_
      refine xget_T_controls hx hb htg hown hK hP (htg _ xw_188) xd_T_translate_62 ?_
      refine xget_K_s hx hb htg hown hK hP (htg _ xw_101) xd_T_translate_65 ?_
      refine xget_S_status (v := (xg_S_status u)) hx hb htg hown hK hP (htg _ xw_67) rfl xd_T_translate_68 ?_
      refine lv_ior hx hb xd_T_translate_71 ?_
      refine lv_ldc (v := 524288) hx hb hown (htg _ xw_429) xd_T_translate_72 ?_
      refine lv_iand hx hb xd_T_translate_74 ?_
      have hj7 : ∀ (H : Heap) (locs : List Loc) (ls : Array Slot) (g : XG) (v6 : Int32), v6 = (if (((xg_S_status u) ||| (xg_S_status u)) &&& (524288 : Int32)) = 0 then (0) else (1)) → xok k g u → lv_has ls 15 [(6, .ref ((a 5))), (5, .int r2), (0, .ref ((a 3))), (1, .int p0), (2, .int p1), (3, .ref ((z.1 p2))), (4, .int p3)] → va_P D xCl (xWH k a g u) H → va_D A (xWH k a g u) → va_S A s.heap H locs → W p l e { frames := 3, cells := 0, slots := 0, locals := 87 } s m args below meth c H locs (0) (0) Q (F0 m 83 ls [.int v6, .ref ((z.1 p2))]) := by
        intro H locs ls g v6 hv6 hg hl hP hD hS
        refine xc0_i (va_runV (As := [.int v6]) (rest := []) ⟨hx, hb, hml, hown, htg⟩ (c_A_anyWith l D (xTy k) z H.size p2 hac v6) (cwV 1 htg (xg_V0 xkin_A_anyWith xw_430 xw_431 xsel_A_anyWith xw_12) rfl rfl rfl (by decide +kernel) ⟨Nat.le_of_ble_eq_true rfl, Nat.le_of_ble_eq_true rfl⟩) ⟨xB_blind, va_recvE hE.1 hac hS, fun U hU hW => xB_mk va_P0 hK va_D0 hE hS (xsub0 hA hS) hU hW⟩ rfl rfl hl.1 rfl (lv_room (Nat.le_of_ble_eq_true rfl)) xd_T_translate_83 ⟨Nat.le_of_ble_eq_true rfl, Nat.le_of_ble_eq_true rfl⟩) hP hA hS (fun q8 H locs hq8 hP hS => ?_)
        refine lv_istore (lv' := [(7, .int q8), (6, .ref ((a 5))), (5, .int r2), (0, .ref ((a 3))), (1, .int p0), (2, .int p1), (3, .ref ((z.1 p2))), (4, .int p3)]) hx hb xd_T_translate_86 hl (by decide) rfl (fun ls hl => ?_)
        refine lv_iload hx hb xd_T_translate_88 (lv_at hl 7 rfl) ?_
        refine xc0_i (va_runSN (As := [.int p3]) (rest := []) ⟨hx, hb, hml, hown, htg⟩ (c_H_isSupervisor l D (xTy k) z H.size p3) ⟨va_cnB (host := "HyperHost") 1 htg (xg_C0 xkin_H_isSupervisor) rfl rfl rfl (xnest hE (by decide +kernel)) (htg _ xw_1) (by decide +kernel) ⟨Nat.le_of_ble_eq_true rfl, Nat.le_of_ble_eq_true rfl⟩, htg _ xw_437, trivial⟩ ⟨xB_blind, fun U hU hW => xB_mk va_P0 hK va_D0 hE hS (xsub0 hA hS) hU hW⟩ rfl rfl hl.1 rfl (lv_room (Nat.le_of_ble_eq_true rfl)) xd_T_translate_90 ⟨Nat.le_of_ble_eq_true rfl, Nat.le_of_ble_eq_true rfl⟩) hP hA hS (fun r9 H locs hr9 hP hS => ?_)
        have hj12 : ∀ (H : Heap) (locs : List Loc) (ls : Array Slot) (g : XG) (v11 : Int32), v11 = (if r9 = 0 then (((List.getD [65, 65, 65, 193] p2 0) ||| (16 : Int32))) else ((List.getD [65, 65, 65, 193] p2 0))) → xok k g u → lv_has ls 15 [(7, .int q8), (6, .ref ((a 5))), (5, .int r2), (0, .ref ((a 3))), (1, .int p0), (2, .int p1), (3, .ref ((z.1 p2))), (4, .int p3)] → va_P D xCl (xWH k a g u) H → va_D A (xWH k a g u) → va_S A s.heap H locs → W p l e { frames := 3, cells := 0, slots := 0, locals := 87 } s m args below meth c H locs (0) (0) Q (F0 m 110 ls [.int v11]) := by
          intro H locs ls g v11 hv11 hg hl hP hD hS
          refine lv_istore (lv' := [(8, .int v11), (7, .int q8), (6, .ref ((a 5))), (5, .int r2), (0, .ref ((a 3))), (1, .int p0), (2, .int p1), (3, .ref ((z.1 p2))), (4, .int p3)]) hx hb xd_T_translate_110 hl (by decide) rfl (fun ls hl => ?_)
          refine lv_aload_n hx hb xd_T_translate_112 rfl (lv_at hl 7 rfl) ?_
          refine va_gets hx hb (hE.1.1 0 (by decide)).1 hS hown (htg _ xw_439) (fun _ h9 => h9) xd_T_translate_113 ?_
          have hj16 : ∀ (H : Heap) (locs : List Loc) (ls : Array Slot) (g : XG) (v15 : Int32), v15 = (if p2 = 0 then (0) else (if ((xg_S_status u) &&& (262144 : Int32)) = 0 then (0) else (1))) → xok k g u → lv_has ls 15 [(8, .int v11), (7, .int q8), (6, .ref ((a 5))), (5, .int r2), (0, .ref ((a 3))), (1, .int p0), (2, .int p1), (3, .ref ((z.1 p2))), (4, .int p3)] → va_P D xCl (xWH k a g u) H → va_D A (xWH k a g u) → va_S A s.heap H locs → W p l e { frames := 3, cells := 0, slots := 0, locals := 87 } s m args below meth c H locs (0) (0) Q (F0 m 135 ls [.int v15]) := by
            intro H locs ls g v15 hv15 hg hl hP hD hS
            refine lv_istore (lv' := [(9, .int v15), (8, .int v11), (7, .int q8), (6, .ref ((a 5))), (5, .int r2), (0, .ref ((a 3))), (1, .int p0), (2, .int p1), (3, .ref ((z.1 p2))), (4, .int p3)]) hx hb xd_T_translate_135 hl (by decide) rfl (fun ls hl => ?_)
            refine lv_iload hx hb xd_T_translate_137 (lv_at hl 9 rfl) ?_
            refine xc0_i (va_runSN (As := [.int p3]) (rest := []) ⟨hx, hb, hml, hown, htg⟩ (c_H_isSupervisor l D (xTy k) z H.size p3) ⟨va_cnB (host := "HyperHost") 1 htg (xg_C0 xkin_H_isSupervisor) rfl rfl rfl (xnest hE (by decide +kernel)) (htg _ xw_1) (by decide +kernel) ⟨Nat.le_of_ble_eq_true rfl, Nat.le_of_ble_eq_true rfl⟩, htg _ xw_437, trivial⟩ ⟨xB_blind, fun U hU hW => xB_mk va_P0 hK va_D0 hE hS (xsub0 hA hS) hU hW⟩ rfl rfl hl.1 rfl (lv_room (Nat.le_of_ble_eq_true rfl)) xd_T_translate_139 ⟨Nat.le_of_ble_eq_true rfl, Nat.le_of_ble_eq_true rfl⟩) hP hA hS (fun r17 H locs hr17 hP hS => ?_)
            have hj21 : ∀ (H : Heap) (locs : List Loc) (ls : Array Slot) (g : XG) (v20 : Int32), v20 = (if r17 = 0 then (0) else (if v15 = 0 then (16) else (0))) → xok k g u → lv_has ls 15 [(9, .int v15), (8, .int v11), (7, .int q8), (6, .ref ((a 5))), (5, .int r2), (0, .ref ((a 3))), (1, .int p0), (2, .int p1), (3, .ref ((z.1 p2))), (4, .int p3)] → va_P D xCl (xWH k a g u) H → va_D A (xWH k a g u) → va_S A s.heap H locs → W p l e { frames := 3, cells := 0, slots := 0, locals := 87 } s m args below meth c H locs (0) (0) Q (F0 m 156 ls [.int v20]) := by
              intro H locs ls g v20 hv20 hg hl hP hD hS
              refine lv_istore (lv' := [(10, .int v20), (9, .int v15), (8, .int v11), (7, .int q8), (6, .ref ((a 5))), (5, .int r2), (0, .ref ((a 3))), (1, .int p0), (2, .int p1), (3, .ref ((z.1 p2))), (4, .int p3)]) hx hb xd_T_translate_156 hl (by decide) rfl (fun ls hl => ?_)
              refine lv_iload_n hx hb xd_T_translate_158 rfl (lv_at hl 7 rfl) ?_
              refine lv_i2l (v := (Int32.toInt64 p0)) hx hb xd_T_translate_159 rfl ?_
              refine lv_ldc2 (v := 4294967295) hx hb hown (htg _ xw_441) xd_T_translate_160 ?_
              refine lv_land hx hb xd_T_translate_163 ?_
              refine lv_lstore (lv' := [(11, .long (((Int32.toInt64 p0) &&& (4294967295 : Int64)))), (10, .int v20), (9, .int v15), (8, .int v11), (7, .int q8), (6, .ref ((a 5))), (5, .int r2), (0, .ref ((a 3))), (1, .int p0), (2, .int p1), (3, .ref ((z.1 p2))), (4, .int p3)]) hx hb xd_T_translate_164 hl (by decide) rfl (fun ls hl => ?_)
              refine lv_iload hx hb xd_T_translate_166 (lv_at hl 6 rfl) ?_
              have hj27 : ∀ (H : Heap) (locs : List Loc) (ls : Array Slot) (g : XG) (v25 : Int64) (v26 : XH), v25 = (if r2 = 0 then (xlt (xf_T_walk u (xg_S_atp u) ((Int32.toInt64 p0) &&& (4294967295 : Int64)) q8 v11 v20 : Int64 × XH) fun q23 => q23.1) else (xlt (xf_T_firstStage u ((Int32.toInt64 p0) &&& (4294967295 : Int64)) q8 v11 v20 : Int64 × XH) fun q24 => q24.1)) → v26 = (if r2 = 0 then (xlt (xf_T_walk u (xg_S_atp u) ((Int32.toInt64 p0) &&& (4294967295 : Int64)) q8 v11 v20 : Int64 × XH) fun q23 => q23.2) else (xlt (xf_T_firstStage u ((Int32.toInt64 p0) &&& (4294967295 : Int64)) q8 v11 v20 : Int64 × XH) fun q24 => q24.2)) → xok k g v26 → lv_has ls 15 [(11, .long (((Int32.toInt64 p0) &&& (4294967295 : Int64)))), (10, .int v20), (9, .int v15), (8, .int v11), (7, .int q8), (6, .ref ((a 5))), (5, .int r2), (0, .ref ((a 3))), (1, .int p0), (2, .int p1), (3, .ref ((z.1 p2))), (4, .int p3)] → va_P D xCl (xWH k a g v26) H → va_D A (xWH k a g v26) → va_S A s.heap H locs → W p l e { frames := 3, cells := 0, slots := 0, locals := 87 } s m args below meth c H locs (0) (0) Q (F0 m 203 ls [.long v25]) := by
                intro H locs ls g v25 v26 hv25 hv26 hg hl hP hD hS
                refine lv_lstore (lv' := [(13, .long v25), (11, .long (((Int32.toInt64 p0) &&& (4294967295 : Int64)))), (10, .int v20), (9, .int v15), (8, .int v11), (7, .int q8), (6, .ref ((a 5))), (5, .int r2), (0, .ref ((a 3))), (1, .int p0), (2, .int p1), (3, .ref ((z.1 p2))), (4, .int p3)]) hx hb xd_T_translate_203 hl (by decide) rfl (fun ls hl => ?_)
                refine lv_iload hx hb xd_T_translate_205 (lv_at hl 7 rfl) ?_
                have hj33 : ∀ (H : Heap) (locs : List Loc) (ls : Array Slot) (g : XG) (v31 : Int64) (v32 : XH), v31 = (if r2 = 0 then (v25) else (if (lg_cmp v25 (0 : Int64)) < 0 then (v25) else (xlt (xf_T_secondStage v26 v25 p2 : Int64 × XH) fun q30 => q30.1))) → v32 = (if r2 = 0 then (v26) else (if (lg_cmp v25 (0 : Int64)) < 0 then (v26) else (xlt (xf_T_secondStage v26 v25 p2 : Int64 × XH) fun q30 => q30.2))) → xok k g v32 → lv_has ls 15 [(13, .long v31), (11, .long (((Int32.toInt64 p0) &&& (4294967295 : Int64)))), (10, .int v20), (9, .int v15), (8, .int v11), (7, .int q8), (6, .ref ((a 5))), (5, .int r2), (0, .ref ((a 3))), (1, .int p0), (2, .int p1), (3, .ref ((z.1 p2))), (4, .int p3)] → va_P D xCl (xWH k a g v32) H → va_D A (xWH k a g v32) → va_S A s.heap H locs → W p l e { frames := 3, cells := 0, slots := 0, locals := 87 } s m args below meth c H locs (0) (0) Q (F0 m 226 ls []) := by
                  intro H locs ls g v31 v32 hv31 hv32 hg hl hP hD hS
                  refine lv_lload hx hb xd_T_translate_226 (lv_at hl 0 rfl) ?_
                  refine lv_lconst (v := 0) hx hb xd_T_translate_228 (by decide) ?_
                  refine W.lcmp hx hb xd_T_translate_229 ?_
                  have hj38 : ∀ (H : Heap) (locs : List Loc) (ls : Array Slot) (g : XG) (v37 : XH), v37 = (if 0 ≤ (lg_cmp v31 (0 : Int64)) then (v32) else (xlt (xf_A_causeOf p2 v31 : Int32) fun q35 => xlt (xf_P_raise v32 q35 p0 : XH) fun q36 => q36)) → xok k g v37 → lv_has ls 15 [(13, .long v31), (11, .long (((Int32.toInt64 p0) &&& (4294967295 : Int64)))), (10, .int v20), (9, .int v15), (8, .int v11), (7, .int q8), (6, .ref ((a 5))), (5, .int r2), (0, .ref ((a 3))), (1, .int p0), (2, .int p1), (3, .ref ((z.1 p2))), (4, .int p3)] → va_P D xCl (xWH k a g v37) H → va_D A (xWH k a g v37) → va_S A s.heap H locs → W p l e { frames := 3, cells := 0, slots := 0, locals := 87 } s m args below meth c H locs (0) (0) Q (F0 m 247 ls []) := by
                    intro H locs ls g v37 hv37 hg hl hP hD hS
                    refine lv_lload hx hb xd_T_translate_247 (lv_at hl 0 rfl) ?_
                    refine lv_l2i (v := (Int64.toInt32 v31)) hx hb xd_T_translate_249 rfl ?_
                    exact hret _ (v37, g) H locs ls _ ⟨(by unfold xf_T_translate; exact (xit h1 (xlt_e hr2 (xit h4 (xlt_e hv6 (xlt_e hq8 (xlt_e hr9 (xlt_e hv11 (xlt_e hv15 (xlt_e hr17 (xlt_e hv20 (xlt_e hv25 (xlt_e hv26 (xlt_e hv31 (xlt_e hv32 (xlt_e hv37 rfl)))))))))))))))), hg⟩ hP hD hS xd_T_translate_250
                  refine lv_if_ge (tgt := 247) hx hb xd_T_translate_230 rfl (fun h39 => ?_) (fun h39 => ?_)
                  · exact hj38 H locs ls g v32 (xit h39 rfl) hg hl hP hD hS
                  · refine lv_aload_n hx hb xd_T_translate_233 rfl (lv_at hl 8 rfl) ?_
                    refine xget_T_trap hx hb htg hown hK hP (htg _ xw_190) xd_T_translate_234 ?_
                    refine lv_aload_n hx hb xd_T_translate_237 rfl (lv_at hl 11 rfl) ?_
                    refine lv_lload hx hb xd_T_translate_238 (lv_at hl 0 rfl) ?_
                    refine xc0_i (va_runV (As := [.long v31]) (rest := [.ref ((a 7))]) ⟨hx, hb, hml, hown, htg⟩ (c_A_causeOf l D (xTy k) z H.size p2 hac v31) (cwV 1 htg (xg_V0 xkin_A_causeOf xw_488 xw_489 xsel_A_causeOf xw_12) rfl rfl rfl (by decide +kernel) ⟨Nat.le_of_ble_eq_true rfl, Nat.le_of_ble_eq_true rfl⟩) ⟨xB_blind, va_recvE hE.1 hac hS, fun U hU hW => xB_mk va_P0 hK va_D0 hE hS (xsub0 hA hS) hU hW⟩ rfl rfl hl.1 rfl (lv_room (Nat.le_of_ble_eq_true rfl)) xd_T_translate_240 ⟨Nat.le_of_ble_eq_true rfl, Nat.le_of_ble_eq_true rfl⟩) hP hA hS (fun q40 H locs hq40 hP hS => ?_)
                    refine lv_iload_n hx hb xd_T_translate_243 rfl (lv_at hl 9 rfl) ?_
                    refine xcW_v (va_runV (As := [.int q40, .int p0]) (rest := []) ⟨hx, hb, hml, hown, htg⟩ (c_P_raise l D z k a g H.size v32 hg q40 p0) (cwV 2 htg (xg_V0 xkin_P_raise xw_425 xw_412 xsel_P_raise xw_7) rfl rfl rfl (by decide +kernel) ⟨Nat.le_of_ble_eq_true rfl, Nat.le_of_ble_eq_true rfl⟩) ⟨xB_blind, xrecv_P hK hP, fun U hU hW => xB_mk hP hK hD hE hS (xsubW hD hA hS) hU hW⟩ rfl rfl hl.1 rfl (lv_room (Nat.le_of_ble_eq_true rfl)) xd_T_translate_244 ⟨Nat.le_of_ble_eq_true rfl, Nat.le_of_ble_eq_true rfl⟩) hD hA hS (fun w1 H locs hw hP hD hS => ?_)
                    obtain ⟨u1, g⟩ := w1
                    obtain ⟨q41, hq41⟩ : ∃ q, q = xf_P_raise v32 q40 p0 := ⟨_, rfl⟩
                    obtain ⟨e2, hg⟩ := hw
                    rw [← hq41] at e2
                    obtain rfl : q41 = u1 := e2.symm
                    have hP : va_P D xCl (xWH k a g q41) H := hP
                    have hD : va_D A (xWH k a g q41) := hD
                    have hg : xok k g q41 := hg
                    exact hj38 H locs ls g q41 (xif h39 (xlt_e hq40 (xlt_e hq41 rfl))) hg hl hP hD hS
                refine lv_if_eq (tgt := 226) hx hb xd_T_translate_207 rfl (fun h42 => ?_) (fun h42 => ?_)
                · exact hj33 H locs ls g v25 v26 (xit h42 rfl) (xit h42 rfl) hg hl hP hD hS
                · refine lv_lload hx hb xd_T_translate_210 (lv_at hl 0 rfl) ?_
                  refine lv_lconst (v := 0) hx hb xd_T_translate_212 (by decide) ?_
                  refine W.lcmp hx hb xd_T_translate_213 ?_
                  refine lv_if_lt (tgt := 226) hx hb xd_T_translate_214 rfl (fun h43 => ?_) (fun h43 => ?_)
                  · exact hj33 H locs ls g v25 v26 (xif h42 (xit h43 rfl)) (xif h42 (xit h43 rfl)) hg hl hP hD hS
                  · refine lv_aload_n hx hb xd_T_translate_217 rfl (lv_at hl 8 rfl) ?_
                    refine lv_lload hx hb xd_T_translate_218 (lv_at hl 0 rfl) ?_
                    refine lv_aload_n hx hb xd_T_translate_220 rfl (lv_at hl 11 rfl) ?_
                    refine xcW_l (va_runV (As := [.long v25, .ref ((z.1 p2))]) (rest := []) ⟨hx, hb, hml, hown, htg⟩ (c_T_secondStage l D z k a g H.size v26 hg v25 p2 hac) (cwV 2 htg (xg_V0 xkin_T_secondStage xw_484 xw_486 xsel_T_secondStage xw_4) rfl rfl rfl (by decide +kernel) ⟨Nat.le_of_ble_eq_true rfl, Nat.le_of_ble_eq_true rfl⟩) ⟨xB_blind, xrecv_T hK hP, fun U hU hW => xB_mk hP hK hD hE hS (xsubW hD hA hS) hU hW⟩ rfl rfl hl.1 rfl (lv_room (Nat.le_of_ble_eq_true rfl)) xd_T_translate_221 ⟨Nat.le_of_ble_eq_true rfl, Nat.le_of_ble_eq_true rfl⟩) hD hA hS (fun r w1 H locs hw hP hD hS => ?_)
                    obtain ⟨u1, g⟩ := w1
                    obtain ⟨q44, hq44⟩ : ∃ q, q = xf_T_secondStage v26 v25 p2 := ⟨_, rfl⟩
                    obtain ⟨e1, hg⟩ := hw
                    rw [← hq44] at e1
                    obtain rfl : r = q44.1 := congrArg Prod.fst e1
                    obtain rfl : u1 = q44.2 := congrArg Prod.snd e1
                    have hP : va_P D xCl (xWH k a g q44.2) H := hP
                    have hD : va_D A (xWH k a g q44.2) := hD
                    have hg : xok k g q44.2 := hg
                    refine lv_lstore (lv' := [(13, .long (q44.1)), (11, .long (((Int32.toInt64 p0) &&& (4294967295 : Int64)))), (10, .int v20), (9, .int v15), (8, .int v11), (7, .int q8), (6, .ref ((a 5))), (5, .int r2), (0, .ref ((a 3))), (1, .int p0), (2, .int p1), (3, .ref ((z.1 p2))), (4, .int p3)]) hx hb xd_T_translate_224 hl (by decide) rfl (fun ls hl => ?_)
                    exact hj33 H locs ls g q44.1 q44.2 (xif h42 (xif h43 (xlt_e hq44 rfl))) (xif h42 (xif h43 (xlt_e hq44 rfl))) hg hl hP hD hS
              refine lv_if_eq (tgt := 186) hx hb xd_T_translate_168 rfl (fun h45 => ?_) (fun h45 => ?_)
              · refine lv_aload_n hx hb xd_T_translate_186 rfl (lv_at hl 7 rfl) ?_
                refine lv_aload hx hb xd_T_translate_187 (lv_at hl 5 rfl) ?_
                refine xget_S_atp (v := (xg_S_atp u)) hx hb htg hown hK hP (htg _ xw_80) rfl xd_T_translate_189 ?_
                refine lv_lload hx hb xd_T_translate_192 (lv_at hl 0 rfl) ?_
                refine lv_iload hx hb xd_T_translate_194 (lv_at hl 4 rfl) ?_
                refine lv_iload hx hb xd_T_translate_196 (lv_at hl 3 rfl) ?_
                refine lv_iload hx hb xd_T_translate_198 (lv_at hl 1 rfl) ?_
                refine xcW_l (va_runV (As := [.int ((xg_S_atp u)), .long (((Int32.toInt64 p0) &&& (4294967295 : Int64))), .int q8, .int v11, .int v20]) (rest := []) ⟨hx, hb, hml, hown, htg⟩ (c_T_walk l D z k a g H.size u hg (xg_S_atp u) ((Int32.toInt64 p0) &&& (4294967295 : Int64)) q8 v11 v20) (cwV 5 htg (xg_V0 xkin_T_walk xw_451 xw_453 xsel_T_walk xw_4) rfl rfl rfl (by decide +kernel) ⟨Nat.le_of_ble_eq_true rfl, Nat.le_of_ble_eq_true rfl⟩) ⟨xB_blind, xrecv_T hK hP, fun U hU hW => xB_mk hP hK hD hE hS (xsubW hD hA hS) hU hW⟩ rfl rfl hl.1 rfl (lv_room (Nat.le_of_ble_eq_true rfl)) xd_T_translate_200 ⟨Nat.le_of_ble_eq_true rfl, Nat.le_of_ble_eq_true rfl⟩) hD hA hS (fun r w1 H locs hw hP hD hS => ?_)
                obtain ⟨u1, g⟩ := w1
                obtain ⟨q46, hq46⟩ : ∃ q, q = xf_T_walk u (xg_S_atp u) ((Int32.toInt64 p0) &&& (4294967295 : Int64)) q8 v11 v20 := ⟨_, rfl⟩
                obtain ⟨e1, hg⟩ := hw
                rw [← hq46] at e1
                obtain rfl : r = q46.1 := congrArg Prod.fst e1
                obtain rfl : u1 = q46.2 := congrArg Prod.snd e1
                have hP : va_P D xCl (xWH k a g q46.2) H := hP
                have hD : va_D A (xWH k a g q46.2) := hD
                have hg : xok k g q46.2 := hg
                exact hj27 H locs ls g q46.1 q46.2 (xit h45 (xlt_e hq46 rfl)) (xit h45 (xlt_e hq46 rfl)) hg hl hP hD hS
              · refine lv_aload_n hx hb xd_T_translate_171 rfl (lv_at hl 7 rfl) ?_
                refine lv_lload hx hb xd_T_translate_172 (lv_at hl 0 rfl) ?_
                refine lv_iload hx hb xd_T_translate_174 (lv_at hl 4 rfl) ?_
                refine lv_iload hx hb xd_T_translate_176 (lv_at hl 3 rfl) ?_
                refine lv_iload hx hb xd_T_translate_178 (lv_at hl 1 rfl) ?_
                refine xcW_l (va_runV (As := [.long (((Int32.toInt64 p0) &&& (4294967295 : Int64))), .int q8, .int v11, .int v20]) (rest := []) ⟨hx, hb, hml, hown, htg⟩ (c_T_firstStage l D z k a g H.size u hg ((Int32.toInt64 p0) &&& (4294967295 : Int64)) q8 v11 v20) (cwV 4 htg (xg_V0 xkin_T_firstStage xw_442 xw_444 xsel_T_firstStage xw_4) rfl rfl rfl (by decide +kernel) ⟨Nat.le_of_ble_eq_true rfl, Nat.le_of_ble_eq_true rfl⟩) ⟨xB_blind, xrecv_T hK hP, fun U hU hW => xB_mk hP hK hD hE hS (xsubW hD hA hS) hU hW⟩ rfl rfl hl.1 rfl (lv_room (Nat.le_of_ble_eq_true rfl)) xd_T_translate_180 ⟨Nat.le_of_ble_eq_true rfl, Nat.le_of_ble_eq_true rfl⟩) hD hA hS (fun r w1 H locs hw hP hD hS => ?_)
                obtain ⟨u1, g⟩ := w1
                obtain ⟨q47, hq47⟩ : ∃ q, q = xf_T_firstStage u ((Int32.toInt64 p0) &&& (4294967295 : Int64)) q8 v11 v20 := ⟨_, rfl⟩
                obtain ⟨e1, hg⟩ := hw
                rw [← hq47] at e1
                obtain rfl : r = q47.1 := congrArg Prod.fst e1
                obtain rfl : u1 = q47.2 := congrArg Prod.snd e1
                have hP : va_P D xCl (xWH k a g q47.2) H := hP
                have hD : va_D A (xWH k a g q47.2) := hD
                have hg : xok k g q47.2 := hg
                refine lv_goto (tgt := 203) hx hb xd_T_translate_183 rfl ?_
                exact hj27 H locs ls g q47.1 q47.2 (xif h45 (xlt_e hq47 rfl)) (xif h45 (xlt_e hq47 rfl)) hg hl hP hD hS
            refine lv_if_eq (tgt := 155) hx hb xd_T_translate_142 rfl (fun h48 => ?_) (fun h48 => ?_)
            · refine lv_iconst (v := 0) hx hb xd_T_translate_155 (by decide) ?_
              exact hj21 H locs ls g (0 : Int32) (xit h48 rfl) hg hl hP hD hS
            · refine lv_iload hx hb xd_T_translate_145 (lv_at hl 0 rfl) ?_
              refine lv_if_ne (tgt := 155) hx hb xd_T_translate_147 rfl (fun h49 => ?_) (fun h49 => ?_)
              · refine lv_iconst (v := 0) hx hb xd_T_translate_155 (by decide) ?_
                exact hj21 H locs ls g (0 : Int32) (xif h48 (xif h49 rfl)) hg hl hP hD hS
              · refine lv_bipush (v := 16) hx hb xd_T_translate_150 (by decide) ?_
                refine lv_goto (tgt := 156) hx hb xd_T_translate_152 rfl ?_
                exact hj21 H locs ls g (16 : Int32) (xif h48 (xit h49 rfl)) hg hl hP hD hS
          refine lv_acmp_eq (rx := some (z.1 p2)) (ry := some (z.1 0)) (tgt := 134) hx hb xd_T_translate_116 rfl (fun h500 => ?_) (fun h500 => ?_)
          · have h50 : p2 = 0 := hE.1.2 p2 0 hac (by decide) (Option.some.inj h500)
            refine lv_iconst (v := 0) hx hb xd_T_translate_134 (by decide) ?_
            exact hj16 H locs ls g (0 : Int32) (xit h50 rfl) hg hl hP hD hS
          · have h50 : ¬ p2 = 0 := fun e9 => h500 (by rw [e9])
            refine lv_aload hx hb xd_T_translate_119 (lv_at hl 2 rfl) ?_
            refine xget_S_status (v := (xg_S_status u)) hx hb htg hown hK hP (htg _ xw_67) rfl xd_T_translate_121 ?_
            refine lv_ldc (v := 262144) hx hb hown (htg _ xw_440) xd_T_translate_124 ?_
            refine lv_iand hx hb xd_T_translate_126 ?_
            refine lv_if_eq (tgt := 134) hx hb xd_T_translate_127 rfl (fun h51 => ?_) (fun h51 => ?_)
            · refine lv_iconst (v := 0) hx hb xd_T_translate_134 (by decide) ?_
              exact hj16 H locs ls g (0 : Int32) (xif h50 (xit h51 rfl)) hg hl hP hD hS
            · refine lv_iconst (v := 1) hx hb xd_T_translate_130 (by decide) ?_
              refine lv_goto (tgt := 135) hx hb xd_T_translate_131 rfl ?_
              exact hj16 H locs ls g (1 : Int32) (xif h50 (xif h51 rfl)) hg hl hP hD hS
        refine lv_if_eq (tgt := 103) hx hb xd_T_translate_93 rfl (fun h52 => ?_) (fun h52 => ?_)
        · refine lv_aload_n hx hb xd_T_translate_103 rfl (lv_at hl 6 rfl) ?_
          refine va_getE (q := ("HyperHost$Access", "all", "I", [65, 65, 65, 193])) hx hb hE.1 hac hS hown (by decide +kernel) (htg _ xw_1083) (fun _ h9 => h9) xd_T_translate_104 ?_
          refine lv_bipush (v := 16) hx hb xd_T_translate_107 (by decide) ?_
          refine lv_ior hx hb xd_T_translate_109 ?_
          exact hj12 H locs ls g ((List.getD [65, 65, 65, 193] p2 0) ||| (16 : Int32)) (xit h52 rfl) hg hl hP hD hS
        · refine lv_aload_n hx hb xd_T_translate_96 rfl (lv_at hl 6 rfl) ?_
          refine va_getE (q := ("HyperHost$Access", "all", "I", [65, 65, 65, 193])) hx hb hE.1 hac hS hown (by decide +kernel) (htg _ xw_1083) (fun _ h9 => h9) xd_T_translate_97 ?_
          refine lv_goto (tgt := 110) hx hb xd_T_translate_100 rfl ?_
          exact hj12 H locs ls g (List.getD [65, 65, 65, 193] p2 0) (xif h52 rfl) hg hl hP hD hS
      refine lv_if_eq (tgt := 82) hx hb xd_T_translate_75 rfl (fun h53 => ?_) (fun h53 => ?_)
      · refine lv_iconst (v := 0) hx hb xd_T_translate_82 (by decide) ?_
        exact hj7 H locs ls g (0 : Int32) (xit h53 rfl) hg hl hP hD hS
      · refine lv_iconst (v := 1) hx hb xd_T_translate_78 (by decide) ?_
        refine lv_goto (tgt := 83) hx hb xd_T_translate_79 rfl ?_
        exact hj7 H locs ls g (1 : Int32) (xif h53 rfl) hg hl hP hD hS
    · refine lv_aload_n hx hb xd_T_translate_36 rfl (lv_at hl 1 rfl) ?_
      refine xget_T_controls hx hb htg hown hK hP (htg _ xw_188) xd_T_translate_37 ?_
      refine xget_K_vs hx hb htg hown hK hP (htg _ xw_104) xd_T_translate_40 ?_
      refine lv_goto (tgt := 53) hx hb xd_T_translate_43 rfl ?_
      refine lv_astore (lv' := [(6, .ref ((a 6))), (5, .int r2), (0, .ref ((a 3))), (1, .int p0), (2, .int p1), (3, .ref ((z.1 p2))), (4, .int p3)]) hx hb xd_T_translate_53 hl (by decide) rfl (fun ls hl => ?_)
      refine lv_aload_n hx hb xd_T_translate_55 rfl (lv_at hl 5 rfl) ?_
      refine lv_aload hx hb xd_T_translate_56 (lv_at hl 0 rfl) ?_
      refine xget_V_status (v := (xg_V_status u)) hx hb htg hown hK hP (htg _ xw_67) rfl xd_T_translate_58 ?_
      refine lv_aload_n hx hb xd_T_translate_61 rfl (lv_at hl 2 rfl) ?_
      refine xget_T_controls hx hb htg hown hK hP (htg _ xw_188) xd_T_translate_62 ?_
      refine xget_K_s hx hb htg hown hK hP (htg _ xw_101) xd_T_translate_65 ?_
      refine xget_S_status (v := (xg_S_status u)) hx hb htg hown hK hP (htg _ xw_67) rfl xd_T_translate_68 ?_
      refine lv_ior hx hb xd_T_translate_71 ?_
      refine lv_ldc (v := 524288) hx hb hown (htg _ xw_429) xd_T_translate_72 ?_
      refine lv_iand hx hb xd_T_translate_74 ?_
      have hj56 : ∀ (H : Heap) (locs : List Loc) (ls : Array Slot) (g : XG) (v55 : Int32), v55 = (if (((xg_V_status u) ||| (xg_S_status u)) &&& (524288 : Int32)) = 0 then (0) else (1)) → xok k g u → lv_has ls 15 [(6, .ref ((a 6))), (5, .int r2), (0, .ref ((a 3))), (1, .int p0), (2, .int p1), (3, .ref ((z.1 p2))), (4, .int p3)] → va_P D xCl (xWH k a g u) H → va_D A (xWH k a g u) → va_S A s.heap H locs → W p l e { frames := 3, cells := 0, slots := 0, locals := 87 } s m args below meth c H locs (0) (0) Q (F0 m 83 ls [.int v55, .ref ((z.1 p2))]) := by
        intro H locs ls g v55 hv55 hg hl hP hD hS
        refine xc0_i (va_runV (As := [.int v55]) (rest := []) ⟨hx, hb, hml, hown, htg⟩ (c_A_anyWith l D (xTy k) z H.size p2 hac v55) (cwV 1 htg (xg_V0 xkin_A_anyWith xw_430 xw_431 xsel_A_anyWith xw_12) rfl rfl rfl (by decide +kernel) ⟨Nat.le_of_ble_eq_true rfl, Nat.le_of_ble_eq_true rfl⟩) ⟨xB_blind, va_recvE hE.1 hac hS, fun U hU hW => xB_mk va_P0 hK va_D0 hE hS (xsub0 hA hS) hU hW⟩ rfl rfl hl.1 rfl (lv_room (Nat.le_of_ble_eq_true rfl)) xd_T_translate_83 ⟨Nat.le_of_ble_eq_true rfl, Nat.le_of_ble_eq_true rfl⟩) hP hA hS (fun q57 H locs hq57 hP hS => ?_)
        refine lv_istore (lv' := [(7, .int q57), (6, .ref ((a 6))), (5, .int r2), (0, .ref ((a 3))), (1, .int p0), (2, .int p1), (3, .ref ((z.1 p2))), (4, .int p3)]) hx hb xd_T_translate_86 hl (by decide) rfl (fun ls hl => ?_)
        refine lv_iload hx hb xd_T_translate_88 (lv_at hl 7 rfl) ?_
        refine xc0_i (va_runSN (As := [.int p3]) (rest := []) ⟨hx, hb, hml, hown, htg⟩ (c_H_isSupervisor l D (xTy k) z H.size p3) ⟨va_cnB (host := "HyperHost") 1 htg (xg_C0 xkin_H_isSupervisor) rfl rfl rfl (xnest hE (by decide +kernel)) (htg _ xw_1) (by decide +kernel) ⟨Nat.le_of_ble_eq_true rfl, Nat.le_of_ble_eq_true rfl⟩, htg _ xw_437, trivial⟩ ⟨xB_blind, fun U hU hW => xB_mk va_P0 hK va_D0 hE hS (xsub0 hA hS) hU hW⟩ rfl rfl hl.1 rfl (lv_room (Nat.le_of_ble_eq_true rfl)) xd_T_translate_90 ⟨Nat.le_of_ble_eq_true rfl, Nat.le_of_ble_eq_true rfl⟩) hP hA hS (fun r58 H locs hr58 hP hS => ?_)
        have hj61 : ∀ (H : Heap) (locs : List Loc) (ls : Array Slot) (g : XG) (v60 : Int32), v60 = (if r58 = 0 then (((List.getD [65, 65, 65, 193] p2 0) ||| (16 : Int32))) else ((List.getD [65, 65, 65, 193] p2 0))) → xok k g u → lv_has ls 15 [(7, .int q57), (6, .ref ((a 6))), (5, .int r2), (0, .ref ((a 3))), (1, .int p0), (2, .int p1), (3, .ref ((z.1 p2))), (4, .int p3)] → va_P D xCl (xWH k a g u) H → va_D A (xWH k a g u) → va_S A s.heap H locs → W p l e { frames := 3, cells := 0, slots := 0, locals := 87 } s m args below meth c H locs (0) (0) Q (F0 m 110 ls [.int v60]) := by
          intro H locs ls g v60 hv60 hg hl hP hD hS
          refine lv_istore (lv' := [(8, .int v60), (7, .int q57), (6, .ref ((a 6))), (5, .int r2), (0, .ref ((a 3))), (1, .int p0), (2, .int p1), (3, .ref ((z.1 p2))), (4, .int p3)]) hx hb xd_T_translate_110 hl (by decide) rfl (fun ls hl => ?_)
          refine lv_aload_n hx hb xd_T_translate_112 rfl (lv_at hl 7 rfl) ?_
          refine va_gets hx hb (hE.1.1 0 (by decide)).1 hS hown (htg _ xw_439) (fun _ h9 => h9) xd_T_translate_113 ?_
          have hj65 : ∀ (H : Heap) (locs : List Loc) (ls : Array Slot) (g : XG) (v64 : Int32), v64 = (if p2 = 0 then (0) else (if ((xg_V_status u) &&& (262144 : Int32)) = 0 then (0) else (1))) → xok k g u → lv_has ls 15 [(8, .int v60), (7, .int q57), (6, .ref ((a 6))), (5, .int r2), (0, .ref ((a 3))), (1, .int p0), (2, .int p1), (3, .ref ((z.1 p2))), (4, .int p3)] → va_P D xCl (xWH k a g u) H → va_D A (xWH k a g u) → va_S A s.heap H locs → W p l e { frames := 3, cells := 0, slots := 0, locals := 87 } s m args below meth c H locs (0) (0) Q (F0 m 135 ls [.int v64]) := by
            intro H locs ls g v64 hv64 hg hl hP hD hS
            refine lv_istore (lv' := [(9, .int v64), (8, .int v60), (7, .int q57), (6, .ref ((a 6))), (5, .int r2), (0, .ref ((a 3))), (1, .int p0), (2, .int p1), (3, .ref ((z.1 p2))), (4, .int p3)]) hx hb xd_T_translate_135 hl (by decide) rfl (fun ls hl => ?_)
            refine lv_iload hx hb xd_T_translate_137 (lv_at hl 9 rfl) ?_
            refine xc0_i (va_runSN (As := [.int p3]) (rest := []) ⟨hx, hb, hml, hown, htg⟩ (c_H_isSupervisor l D (xTy k) z H.size p3) ⟨va_cnB (host := "HyperHost") 1 htg (xg_C0 xkin_H_isSupervisor) rfl rfl rfl (xnest hE (by decide +kernel)) (htg _ xw_1) (by decide +kernel) ⟨Nat.le_of_ble_eq_true rfl, Nat.le_of_ble_eq_true rfl⟩, htg _ xw_437, trivial⟩ ⟨xB_blind, fun U hU hW => xB_mk va_P0 hK va_D0 hE hS (xsub0 hA hS) hU hW⟩ rfl rfl hl.1 rfl (lv_room (Nat.le_of_ble_eq_true rfl)) xd_T_translate_139 ⟨Nat.le_of_ble_eq_true rfl, Nat.le_of_ble_eq_true rfl⟩) hP hA hS (fun r66 H locs hr66 hP hS => ?_)
            have hj70 : ∀ (H : Heap) (locs : List Loc) (ls : Array Slot) (g : XG) (v69 : Int32), v69 = (if r66 = 0 then (0) else (if v64 = 0 then (16) else (0))) → xok k g u → lv_has ls 15 [(9, .int v64), (8, .int v60), (7, .int q57), (6, .ref ((a 6))), (5, .int r2), (0, .ref ((a 3))), (1, .int p0), (2, .int p1), (3, .ref ((z.1 p2))), (4, .int p3)] → va_P D xCl (xWH k a g u) H → va_D A (xWH k a g u) → va_S A s.heap H locs → W p l e { frames := 3, cells := 0, slots := 0, locals := 87 } s m args below meth c H locs (0) (0) Q (F0 m 156 ls [.int v69]) := by
              intro H locs ls g v69 hv69 hg hl hP hD hS
              refine lv_istore (lv' := [(10, .int v69), (9, .int v64), (8, .int v60), (7, .int q57), (6, .ref ((a 6))), (5, .int r2), (0, .ref ((a 3))), (1, .int p0), (2, .int p1), (3, .ref ((z.1 p2))), (4, .int p3)]) hx hb xd_T_translate_156 hl (by decide) rfl (fun ls hl => ?_)
              refine lv_iload_n hx hb xd_T_translate_158 rfl (lv_at hl 7 rfl) ?_
              refine lv_i2l (v := (Int32.toInt64 p0)) hx hb xd_T_translate_159 rfl ?_
              refine lv_ldc2 (v := 4294967295) hx hb hown (htg _ xw_441) xd_T_translate_160 ?_
              refine lv_land hx hb xd_T_translate_163 ?_
              refine lv_lstore (lv' := [(11, .long (((Int32.toInt64 p0) &&& (4294967295 : Int64)))), (10, .int v69), (9, .int v64), (8, .int v60), (7, .int q57), (6, .ref ((a 6))), (5, .int r2), (0, .ref ((a 3))), (1, .int p0), (2, .int p1), (3, .ref ((z.1 p2))), (4, .int p3)]) hx hb xd_T_translate_164 hl (by decide) rfl (fun ls hl => ?_)
              refine lv_iload hx hb xd_T_translate_166 (lv_at hl 6 rfl) ?_
              have hj76 : ∀ (H : Heap) (locs : List Loc) (ls : Array Slot) (g : XG) (v74 : Int64) (v75 : XH), v74 = (if r2 = 0 then (xlt (xf_T_walk u (xg_V_atp u) ((Int32.toInt64 p0) &&& (4294967295 : Int64)) q57 v60 v69 : Int64 × XH) fun q72 => q72.1) else (xlt (xf_T_firstStage u ((Int32.toInt64 p0) &&& (4294967295 : Int64)) q57 v60 v69 : Int64 × XH) fun q73 => q73.1)) → v75 = (if r2 = 0 then (xlt (xf_T_walk u (xg_V_atp u) ((Int32.toInt64 p0) &&& (4294967295 : Int64)) q57 v60 v69 : Int64 × XH) fun q72 => q72.2) else (xlt (xf_T_firstStage u ((Int32.toInt64 p0) &&& (4294967295 : Int64)) q57 v60 v69 : Int64 × XH) fun q73 => q73.2)) → xok k g v75 → lv_has ls 15 [(11, .long (((Int32.toInt64 p0) &&& (4294967295 : Int64)))), (10, .int v69), (9, .int v64), (8, .int v60), (7, .int q57), (6, .ref ((a 6))), (5, .int r2), (0, .ref ((a 3))), (1, .int p0), (2, .int p1), (3, .ref ((z.1 p2))), (4, .int p3)] → va_P D xCl (xWH k a g v75) H → va_D A (xWH k a g v75) → va_S A s.heap H locs → W p l e { frames := 3, cells := 0, slots := 0, locals := 87 } s m args below meth c H locs (0) (0) Q (F0 m 203 ls [.long v74]) := by
                intro H locs ls g v74 v75 hv74 hv75 hg hl hP hD hS
                refine lv_lstore (lv' := [(13, .long v74), (11, .long (((Int32.toInt64 p0) &&& (4294967295 : Int64)))), (10, .int v69), (9, .int v64), (8, .int v60), (7, .int q57), (6, .ref ((a 6))), (5, .int r2), (0, .ref ((a 3))), (1, .int p0), (2, .int p1), (3, .ref ((z.1 p2))), (4, .int p3)]) hx hb xd_T_translate_203 hl (by decide) rfl (fun ls hl => ?_)
                refine lv_iload hx hb xd_T_translate_205 (lv_at hl 7 rfl) ?_
                have hj82 : ∀ (H : Heap) (locs : List Loc) (ls : Array Slot) (g : XG) (v80 : Int64) (v81 : XH), v80 = (if r2 = 0 then (v74) else (if (lg_cmp v74 (0 : Int64)) < 0 then (v74) else (xlt (xf_T_secondStage v75 v74 p2 : Int64 × XH) fun q79 => q79.1))) → v81 = (if r2 = 0 then (v75) else (if (lg_cmp v74 (0 : Int64)) < 0 then (v75) else (xlt (xf_T_secondStage v75 v74 p2 : Int64 × XH) fun q79 => q79.2))) → xok k g v81 → lv_has ls 15 [(13, .long v80), (11, .long (((Int32.toInt64 p0) &&& (4294967295 : Int64)))), (10, .int v69), (9, .int v64), (8, .int v60), (7, .int q57), (6, .ref ((a 6))), (5, .int r2), (0, .ref ((a 3))), (1, .int p0), (2, .int p1), (3, .ref ((z.1 p2))), (4, .int p3)] → va_P D xCl (xWH k a g v81) H → va_D A (xWH k a g v81) → va_S A s.heap H locs → W p l e { frames := 3, cells := 0, slots := 0, locals := 87 } s m args below meth c H locs (0) (0) Q (F0 m 226 ls []) := by
                  intro H locs ls g v80 v81 hv80 hv81 hg hl hP hD hS
                  refine lv_lload hx hb xd_T_translate_226 (lv_at hl 0 rfl) ?_
                  refine lv_lconst (v := 0) hx hb xd_T_translate_228 (by decide) ?_
                  refine W.lcmp hx hb xd_T_translate_229 ?_
                  have hj87 : ∀ (H : Heap) (locs : List Loc) (ls : Array Slot) (g : XG) (v86 : XH), v86 = (if 0 ≤ (lg_cmp v80 (0 : Int64)) then (v81) else (xlt (xf_A_causeOf p2 v80 : Int32) fun q84 => xlt (xf_P_raise v81 q84 p0 : XH) fun q85 => q85)) → xok k g v86 → lv_has ls 15 [(13, .long v80), (11, .long (((Int32.toInt64 p0) &&& (4294967295 : Int64)))), (10, .int v69), (9, .int v64), (8, .int v60), (7, .int q57), (6, .ref ((a 6))), (5, .int r2), (0, .ref ((a 3))), (1, .int p0), (2, .int p1), (3, .ref ((z.1 p2))), (4, .int p3)] → va_P D xCl (xWH k a g v86) H → va_D A (xWH k a g v86) → va_S A s.heap H locs → W p l e { frames := 3, cells := 0, slots := 0, locals := 87 } s m args below meth c H locs (0) (0) Q (F0 m 247 ls []) := by
                    intro H locs ls g v86 hv86 hg hl hP hD hS
                    refine lv_lload hx hb xd_T_translate_247 (lv_at hl 0 rfl) ?_
                    refine lv_l2i (v := (Int64.toInt32 v80)) hx hb xd_T_translate_249 rfl ?_
                    exact hret _ (v86, g) H locs ls _ ⟨(by unfold xf_T_translate; exact (xit h1 (xlt_e hr2 (xif h4 (xlt_e hv55 (xlt_e hq57 (xlt_e hr58 (xlt_e hv60 (xlt_e hv64 (xlt_e hr66 (xlt_e hv69 (xlt_e hv74 (xlt_e hv75 (xlt_e hv80 (xlt_e hv81 (xlt_e hv86 rfl)))))))))))))))), hg⟩ hP hD hS xd_T_translate_250
                  refine lv_if_ge (tgt := 247) hx hb xd_T_translate_230 rfl (fun h88 => ?_) (fun h88 => ?_)
                  · exact hj87 H locs ls g v81 (xit h88 rfl) hg hl hP hD hS
                  · refine lv_aload_n hx hb xd_T_translate_233 rfl (lv_at hl 8 rfl) ?_
                    refine xget_T_trap hx hb htg hown hK hP (htg _ xw_190) xd_T_translate_234 ?_
                    refine lv_aload_n hx hb xd_T_translate_237 rfl (lv_at hl 11 rfl) ?_
                    refine lv_lload hx hb xd_T_translate_238 (lv_at hl 0 rfl) ?_
                    refine xc0_i (va_runV (As := [.long v80]) (rest := [.ref ((a 7))]) ⟨hx, hb, hml, hown, htg⟩ (c_A_causeOf l D (xTy k) z H.size p2 hac v80) (cwV 1 htg (xg_V0 xkin_A_causeOf xw_488 xw_489 xsel_A_causeOf xw_12) rfl rfl rfl (by decide +kernel) ⟨Nat.le_of_ble_eq_true rfl, Nat.le_of_ble_eq_true rfl⟩) ⟨xB_blind, va_recvE hE.1 hac hS, fun U hU hW => xB_mk va_P0 hK va_D0 hE hS (xsub0 hA hS) hU hW⟩ rfl rfl hl.1 rfl (lv_room (Nat.le_of_ble_eq_true rfl)) xd_T_translate_240 ⟨Nat.le_of_ble_eq_true rfl, Nat.le_of_ble_eq_true rfl⟩) hP hA hS (fun q89 H locs hq89 hP hS => ?_)
                    refine lv_iload_n hx hb xd_T_translate_243 rfl (lv_at hl 9 rfl) ?_
                    refine xcW_v (va_runV (As := [.int q89, .int p0]) (rest := []) ⟨hx, hb, hml, hown, htg⟩ (c_P_raise l D z k a g H.size v81 hg q89 p0) (cwV 2 htg (xg_V0 xkin_P_raise xw_425 xw_412 xsel_P_raise xw_7) rfl rfl rfl (by decide +kernel) ⟨Nat.le_of_ble_eq_true rfl, Nat.le_of_ble_eq_true rfl⟩) ⟨xB_blind, xrecv_P hK hP, fun U hU hW => xB_mk hP hK hD hE hS (xsubW hD hA hS) hU hW⟩ rfl rfl hl.1 rfl (lv_room (Nat.le_of_ble_eq_true rfl)) xd_T_translate_244 ⟨Nat.le_of_ble_eq_true rfl, Nat.le_of_ble_eq_true rfl⟩) hD hA hS (fun w1 H locs hw hP hD hS => ?_)
                    obtain ⟨u1, g⟩ := w1
                    obtain ⟨q90, hq90⟩ : ∃ q, q = xf_P_raise v81 q89 p0 := ⟨_, rfl⟩
                    obtain ⟨e2, hg⟩ := hw
                    rw [← hq90] at e2
                    obtain rfl : q90 = u1 := e2.symm
                    have hP : va_P D xCl (xWH k a g q90) H := hP
                    have hD : va_D A (xWH k a g q90) := hD
                    have hg : xok k g q90 := hg
                    exact hj87 H locs ls g q90 (xif h88 (xlt_e hq89 (xlt_e hq90 rfl))) hg hl hP hD hS
                refine lv_if_eq (tgt := 226) hx hb xd_T_translate_207 rfl (fun h91 => ?_) (fun h91 => ?_)
                · exact hj82 H locs ls g v74 v75 (xit h91 rfl) (xit h91 rfl) hg hl hP hD hS
                · refine lv_lload hx hb xd_T_translate_210 (lv_at hl 0 rfl) ?_
                  refine lv_lconst (v := 0) hx hb xd_T_translate_212 (by decide) ?_
                  refine W.lcmp hx hb xd_T_translate_213 ?_
                  refine lv_if_lt (tgt := 226) hx hb xd_T_translate_214 rfl (fun h92 => ?_) (fun h92 => ?_)
                  · exact hj82 H locs ls g v74 v75 (xif h91 (xit h92 rfl)) (xif h91 (xit h92 rfl)) hg hl hP hD hS
                  · refine lv_aload_n hx hb xd_T_translate_217 rfl (lv_at hl 8 rfl) ?_
                    refine lv_lload hx hb xd_T_translate_218 (lv_at hl 0 rfl) ?_
                    refine lv_aload_n hx hb xd_T_translate_220 rfl (lv_at hl 11 rfl) ?_
                    refine xcW_l (va_runV (As := [.long v74, .ref ((z.1 p2))]) (rest := []) ⟨hx, hb, hml, hown, htg⟩ (c_T_secondStage l D z k a g H.size v75 hg v74 p2 hac) (cwV 2 htg (xg_V0 xkin_T_secondStage xw_484 xw_486 xsel_T_secondStage xw_4) rfl rfl rfl (by decide +kernel) ⟨Nat.le_of_ble_eq_true rfl, Nat.le_of_ble_eq_true rfl⟩) ⟨xB_blind, xrecv_T hK hP, fun U hU hW => xB_mk hP hK hD hE hS (xsubW hD hA hS) hU hW⟩ rfl rfl hl.1 rfl (lv_room (Nat.le_of_ble_eq_true rfl)) xd_T_translate_221 ⟨Nat.le_of_ble_eq_true rfl, Nat.le_of_ble_eq_true rfl⟩) hD hA hS (fun r w1 H locs hw hP hD hS => ?_)
                    obtain ⟨u1, g⟩ := w1
                    obtain ⟨q93, hq93⟩ : ∃ q, q = xf_T_secondStage v75 v74 p2 := ⟨_, rfl⟩
                    obtain ⟨e1, hg⟩ := hw
                    rw [← hq93] at e1
                    obtain rfl : r = q93.1 := congrArg Prod.fst e1
                    obtain rfl : u1 = q93.2 := congrArg Prod.snd e1
                    have hP : va_P D xCl (xWH k a g q93.2) H := hP
                    have hD : va_D A (xWH k a g q93.2) := hD
                    have hg : xok k g q93.2 := hg
                    refine lv_lstore (lv' := [(13, .long (q93.1)), (11, .long (((Int32.toInt64 p0) &&& (4294967295 : Int64)))), (10, .int v69), (9, .int v64), (8, .int v60), (7, .int q57), (6, .ref ((a 6))), (5, .int r2), (0, .ref ((a 3))), (1, .int p0), (2, .int p1), (3, .ref ((z.1 p2))), (4, .int p3)]) hx hb xd_T_translate_224 hl (by decide) rfl (fun ls hl => ?_)
                    exact hj82 H locs ls g q93.1 q93.2 (xif h91 (xif h92 (xlt_e hq93 rfl))) (xif h91 (xif h92 (xlt_e hq93 rfl))) hg hl hP hD hS
              refine lv_if_eq (tgt := 186) hx hb xd_T_translate_168 rfl (fun h94 => ?_) (fun h94 => ?_)
              · refine lv_aload_n hx hb xd_T_translate_186 rfl (lv_at hl 7 rfl) ?_
                refine lv_aload hx hb xd_T_translate_187 (lv_at hl 5 rfl) ?_
                refine xget_V_atp (v := (xg_V_atp u)) hx hb htg hown hK hP (htg _ xw_80) rfl xd_T_translate_189 ?_
                refine lv_lload hx hb xd_T_translate_192 (lv_at hl 0 rfl) ?_
                refine lv_iload hx hb xd_T_translate_194 (lv_at hl 4 rfl) ?_
                refine lv_iload hx hb xd_T_translate_196 (lv_at hl 3 rfl) ?_
                refine lv_iload hx hb xd_T_translate_198 (lv_at hl 1 rfl) ?_
                refine xcW_l (va_runV (As := [.int ((xg_V_atp u)), .long (((Int32.toInt64 p0) &&& (4294967295 : Int64))), .int q57, .int v60, .int v69]) (rest := []) ⟨hx, hb, hml, hown, htg⟩ (c_T_walk l D z k a g H.size u hg (xg_V_atp u) ((Int32.toInt64 p0) &&& (4294967295 : Int64)) q57 v60 v69) (cwV 5 htg (xg_V0 xkin_T_walk xw_451 xw_453 xsel_T_walk xw_4) rfl rfl rfl (by decide +kernel) ⟨Nat.le_of_ble_eq_true rfl, Nat.le_of_ble_eq_true rfl⟩) ⟨xB_blind, xrecv_T hK hP, fun U hU hW => xB_mk hP hK hD hE hS (xsubW hD hA hS) hU hW⟩ rfl rfl hl.1 rfl (lv_room (Nat.le_of_ble_eq_true rfl)) xd_T_translate_200 ⟨Nat.le_of_ble_eq_true rfl, Nat.le_of_ble_eq_true rfl⟩) hD hA hS (fun r w1 H locs hw hP hD hS => ?_)
                obtain ⟨u1, g⟩ := w1
                obtain ⟨q95, hq95⟩ : ∃ q, q = xf_T_walk u (xg_V_atp u) ((Int32.toInt64 p0) &&& (4294967295 : Int64)) q57 v60 v69 := ⟨_, rfl⟩
                obtain ⟨e1, hg⟩ := hw
                rw [← hq95] at e1
                obtain rfl : r = q95.1 := congrArg Prod.fst e1
                obtain rfl : u1 = q95.2 := congrArg Prod.snd e1
                have hP : va_P D xCl (xWH k a g q95.2) H := hP
                have hD : va_D A (xWH k a g q95.2) := hD
                have hg : xok k g q95.2 := hg
                exact hj76 H locs ls g q95.1 q95.2 (xit h94 (xlt_e hq95 rfl)) (xit h94 (xlt_e hq95 rfl)) hg hl hP hD hS
              · refine lv_aload_n hx hb xd_T_translate_171 rfl (lv_at hl 7 rfl) ?_
                refine lv_lload hx hb xd_T_translate_172 (lv_at hl 0 rfl) ?_
                refine lv_iload hx hb xd_T_translate_174 (lv_at hl 4 rfl) ?_
                refine lv_iload hx hb xd_T_translate_176 (lv_at hl 3 rfl) ?_
                refine lv_iload hx hb xd_T_translate_178 (lv_at hl 1 rfl) ?_
                refine xcW_l (va_runV (As := [.long (((Int32.toInt64 p0) &&& (4294967295 : Int64))), .int q57, .int v60, .int v69]) (rest := []) ⟨hx, hb, hml, hown, htg⟩ (c_T_firstStage l D z k a g H.size u hg ((Int32.toInt64 p0) &&& (4294967295 : Int64)) q57 v60 v69) (cwV 4 htg (xg_V0 xkin_T_firstStage xw_442 xw_444 xsel_T_firstStage xw_4) rfl rfl rfl (by decide +kernel) ⟨Nat.le_of_ble_eq_true rfl, Nat.le_of_ble_eq_true rfl⟩) ⟨xB_blind, xrecv_T hK hP, fun U hU hW => xB_mk hP hK hD hE hS (xsubW hD hA hS) hU hW⟩ rfl rfl hl.1 rfl (lv_room (Nat.le_of_ble_eq_true rfl)) xd_T_translate_180 ⟨Nat.le_of_ble_eq_true rfl, Nat.le_of_ble_eq_true rfl⟩) hD hA hS (fun r w1 H locs hw hP hD hS => ?_)
                obtain ⟨u1, g⟩ := w1
                obtain ⟨q96, hq96⟩ : ∃ q, q = xf_T_firstStage u ((Int32.toInt64 p0) &&& (4294967295 : Int64)) q57 v60 v69 := ⟨_, rfl⟩
                obtain ⟨e1, hg⟩ := hw
                rw [← hq96] at e1
                obtain rfl : r = q96.1 := congrArg Prod.fst e1
                obtain rfl : u1 = q96.2 := congrArg Prod.snd e1
                have hP : va_P D xCl (xWH k a g q96.2) H := hP
                have hD : va_D A (xWH k a g q96.2) := hD
                have hg : xok k g q96.2 := hg
                refine lv_goto (tgt := 203) hx hb xd_T_translate_183 rfl ?_
                exact hj76 H locs ls g q96.1 q96.2 (xif h94 (xlt_e hq96 rfl)) (xif h94 (xlt_e hq96 rfl)) hg hl hP hD hS
            refine lv_if_eq (tgt := 155) hx hb xd_T_translate_142 rfl (fun h97 => ?_) (fun h97 => ?_)
            · refine lv_iconst (v := 0) hx hb xd_T_translate_155 (by decide) ?_
              exact hj70 H locs ls g (0 : Int32) (xit h97 rfl) hg hl hP hD hS
            · refine lv_iload hx hb xd_T_translate_145 (lv_at hl 0 rfl) ?_
              refine lv_if_ne (tgt := 155) hx hb xd_T_translate_147 rfl (fun h98 => ?_) (fun h98 => ?_)
              · refine lv_iconst (v := 0) hx hb xd_T_translate_155 (by decide) ?_
                exact hj70 H locs ls g (0 : Int32) (xif h97 (xif h98 rfl)) hg hl hP hD hS
              · refine lv_bipush (v := 16) hx hb xd_T_translate_150 (by decide) ?_
                refine lv_goto (tgt := 156) hx hb xd_T_translate_152 rfl ?_
                exact hj70 H locs ls g (16 : Int32) (xif h97 (xit h98 rfl)) hg hl hP hD hS
          refine lv_acmp_eq (rx := some (z.1 p2)) (ry := some (z.1 0)) (tgt := 134) hx hb xd_T_translate_116 rfl (fun h990 => ?_) (fun h990 => ?_)
          · have h99 : p2 = 0 := hE.1.2 p2 0 hac (by decide) (Option.some.inj h990)
            refine lv_iconst (v := 0) hx hb xd_T_translate_134 (by decide) ?_
            exact hj65 H locs ls g (0 : Int32) (xit h99 rfl) hg hl hP hD hS
          · have h99 : ¬ p2 = 0 := fun e9 => h990 (by rw [e9])
            refine lv_aload hx hb xd_T_translate_119 (lv_at hl 2 rfl) ?_
            refine xget_V_status (v := (xg_V_status u)) hx hb htg hown hK hP (htg _ xw_67) rfl xd_T_translate_121 ?_
            refine lv_ldc (v := 262144) hx hb hown (htg _ xw_440) xd_T_translate_124 ?_
            refine lv_iand hx hb xd_T_translate_126 ?_
            refine lv_if_eq (tgt := 134) hx hb xd_T_translate_127 rfl (fun h100 => ?_) (fun h100 => ?_)
            · refine lv_iconst (v := 0) hx hb xd_T_translate_134 (by decide) ?_
              exact hj65 H locs ls g (0 : Int32) (xif h99 (xit h100 rfl)) hg hl hP hD hS
            · refine lv_iconst (v := 1) hx hb xd_T_translate_130 (by decide) ?_
              refine lv_goto (tgt := 135) hx hb xd_T_translate_131 rfl ?_
              exact hj65 H locs ls g (1 : Int32) (xif h99 (xif h100 rfl)) hg hl hP hD hS
        refine lv_if_eq (tgt := 103) hx hb xd_T_translate_93 rfl (fun h101 => ?_) (fun h101 => ?_)
        · refine lv_aload_n hx hb xd_T_translate_103 rfl (lv_at hl 6 rfl) ?_
          refine va_getE (q := ("HyperHost$Access", "all", "I", [65, 65, 65, 193])) hx hb hE.1 hac hS hown (by decide +kernel) (htg _ xw_1083) (fun _ h9 => h9) xd_T_translate_104 ?_
          refine lv_bipush (v := 16) hx hb xd_T_translate_107 (by decide) ?_
          refine lv_ior hx hb xd_T_translate_109 ?_
          exact hj61 H locs ls g ((List.getD [65, 65, 65, 193] p2 0) ||| (16 : Int32)) (xit h101 rfl) hg hl hP hD hS
        · refine lv_aload_n hx hb xd_T_translate_96 rfl (lv_at hl 6 rfl) ?_
          refine va_getE (q := ("HyperHost$Access", "all", "I", [65, 65, 65, 193])) hx hb hE.1 hac hS hown (by decide +kernel) (htg _ xw_1083) (fun _ h9 => h9) xd_T_translate_97 ?_
          refine lv_goto (tgt := 110) hx hb xd_T_translate_100 rfl ?_
          exact hj61 H locs ls g (List.getD [65, 65, 65, 193] p2 0) (xif h101 rfl) hg hl hP hD hS
      refine lv_if_eq (tgt := 82) hx hb xd_T_translate_75 rfl (fun h102 => ?_) (fun h102 => ?_)
      · refine lv_iconst (v := 0) hx hb xd_T_translate_82 (by decide) ?_
        exact hj56 H locs ls g (0 : Int32) (xit h102 rfl) hg hl hP hD hS
      · refine lv_iconst (v := 1) hx hb xd_T_translate_78 (by decide) ?_
        refine lv_goto (tgt := 83) hx hb xd_T_translate_79 rfl ?_
        exact hj56 H locs ls g (1 : Int32) (xif h102 rfl) hg hl hP hD hS
  · refine lv_aload_n hx hb xd_T_translate_10 rfl (lv_at hl 0 rfl) ?_
    refine xget_T_trap hx hb htg hown hK hP (htg _ xw_190) xd_T_translate_11 ?_
    refine lv_aload_n hx hb xd_T_translate_14 rfl (lv_at hl 3 rfl) ?_
    refine va_getE (q := ("HyperHost$Access", "misaligned", "I", [0, 4, 4, 6])) hx hb hE.1 hac hS hown (by decide +kernel) (htg _ xw_1081) (fun _ h9 => h9) xd_T_translate_15 ?_
    refine lv_iload_n hx hb xd_T_translate_18 rfl (lv_at hl 1 rfl) ?_
    refine xcW_v (va_runV (As := [.int ((List.getD [0, 4, 4, 6] p2 0)), .int p0]) (rest := []) ⟨hx, hb, hml, hown, htg⟩ (c_P_raise l D z k a g H.size u hg (List.getD [0, 4, 4, 6] p2 0) p0) (cwV 2 htg (xg_V0 xkin_P_raise xw_425 xw_412 xsel_P_raise xw_7) rfl rfl rfl (by decide +kernel) ⟨Nat.le_of_ble_eq_true rfl, Nat.le_of_ble_eq_true rfl⟩) ⟨xB_blind, xrecv_P hK hP, fun U hU hW => xB_mk hP hK hD hE hS (xsubW hD hA hS) hU hW⟩ rfl rfl hl.1 rfl (lv_room (Nat.le_of_ble_eq_true rfl)) xd_T_translate_19 ⟨Nat.le_of_ble_eq_true rfl, Nat.le_of_ble_eq_true rfl⟩) hD hA hS (fun w1 H locs hw hP hD hS => ?_)
    obtain ⟨u1, g⟩ := w1
    obtain ⟨q103, hq103⟩ : ∃ q, q = xf_P_raise u (List.getD [0, 4, 4, 6] p2 0) p0 := ⟨_, rfl⟩
    obtain ⟨e2, hg⟩ := hw
    rw [← hq103] at e2
    obtain rfl : q103 = u1 := e2.symm
    have hP : va_P D xCl (xWH k a g q103) H := hP
    have hD : va_D A (xWH k a g q103) := hD
    have hg : xok k g q103 := hg
    refine lv_iconst (v := (-1)) hx hb xd_T_translate_22 (by decide) ?_
    exact hret _ (q103, g) H locs ls _ ⟨(by unfold xf_T_translate; exact (xif h1 (xlt_e hq103 rfl))), hg⟩ hP hD hS xd_T_translate_23
theorem xm_T_translate (u : XH) (p0 : Int32) (p1 : Int32) (p2 : Nat) (p3 : Int32) : XE (xcH u) (xf_T_translate u p0 p1 p2 p3) := by unfold xf_T_translate; exact (xit_E (xlt_E (fun r2 hr2 => (xit_E (xlt_E (fun v6 hv6 => (xlt_E (fun q8 hq8 => (xlt_E (fun r9 hr9 => (xlt_E (fun v11 hv11 => (xlt_E (fun v15 hv15 => (xlt_E (fun r17 hr17 => (xlt_E (fun v20 hv20 => (xlt_E (fun v25 hv25 => (xlt_E (fun v26 hv26 => (xlt_E (fun v31 hv31 => (xlt_E (fun v32 hv32 => (xlt_E (fun v37 hv37 => (XEs_of hv37 (xit_Es (XEs_of hv32 (xit_Es (XEs_of hv26 (xit_Es (xlt_Es (fun q23 hq23 => ((XE_of hq23 (xm_T_walk u (xg_S_atp u) ((Int32.toInt64 p0) &&& (4294967295 : Int64)) q8 v11 v20)).trans rfl))) (xlt_Es (fun q24 hq24 => ((XE_of hq24 (xm_T_firstStage u ((Int32.toInt64 p0) &&& (4294967295 : Int64)) q8 v11 v20)).trans rfl))))) (xit_Es (XEs_of hv26 (xit_Es (xlt_Es (fun q23 hq23 => ((XE_of hq23 (xm_T_walk u (xg_S_atp u) ((Int32.toInt64 p0) &&& (4294967295 : Int64)) q8 v11 v20)).trans rfl))) (xlt_Es (fun q24 hq24 => ((XE_of hq24 (xm_T_firstStage u ((Int32.toInt64 p0) &&& (4294967295 : Int64)) q8 v11 v20)).trans rfl))))) (xlt_Es (fun q30 hq30 => ((XE_of hq30 (xm_T_secondStage v26 v25 p2)).trans (XEs_of hv26 (xit_Es (xlt_Es (fun q23 hq23 => ((XE_of hq23 (xm_T_walk u (xg_S_atp u) ((Int32.toInt64 p0) &&& (4294967295 : Int64)) q8 v11 v20)).trans rfl))) (xlt_Es (fun q24 hq24 => ((XE_of hq24 (xm_T_firstStage u ((Int32.toInt64 p0) &&& (4294967295 : Int64)) q8 v11 v20)).trans rfl))))))))))) (xlt_Es (fun q35 hq35 => (xlt_Es (fun q36 hq36 => ((XEs_of hq36 (xm_P_raise v32 q35 p0)).trans (XEs_of hv32 (xit_Es (XEs_of hv26 (xit_Es (xlt_Es (fun q23 hq23 => ((XE_of hq23 (xm_T_walk u (xg_S_atp u) ((Int32.toInt64 p0) &&& (4294967295 : Int64)) q8 v11 v20)).trans rfl))) (xlt_Es (fun q24 hq24 => ((XE_of hq24 (xm_T_firstStage u ((Int32.toInt64 p0) &&& (4294967295 : Int64)) q8 v11 v20)).trans rfl))))) (xit_Es (XEs_of hv26 (xit_Es (xlt_Es (fun q23 hq23 => ((XE_of hq23 (xm_T_walk u (xg_S_atp u) ((Int32.toInt64 p0) &&& (4294967295 : Int64)) q8 v11 v20)).trans rfl))) (xlt_Es (fun q24 hq24 => ((XE_of hq24 (xm_T_firstStage u ((Int32.toInt64 p0) &&& (4294967295 : Int64)) q8 v11 v20)).trans rfl))))) (xlt_Es (fun q30 hq30 => ((XE_of hq30 (xm_T_secondStage v26 v25 p2)).trans (XEs_of hv26 (xit_Es (xlt_Es (fun q23 hq23 => ((XE_of hq23 (xm_T_walk u (xg_S_atp u) ((Int32.toInt64 p0) &&& (4294967295 : Int64)) q8 v11 v20)).trans rfl))) (xlt_Es (fun q24 hq24 => ((XE_of hq24 (xm_T_firstStage u ((Int32.toInt64 p0) &&& (4294967295 : Int64)) q8 v11 v20)).trans rfl)))))))))))))))))))))))))))))))))))))))))) (xlt_E (fun v55 hv55 => (xlt_E (fun q57 hq57 => (xlt_E (fun r58 hr58 => (xlt_E (fun v60 hv60 => (xlt_E (fun v64 hv64 => (xlt_E (fun r66 hr66 => (xlt_E (fun v69 hv69 => (xlt_E (fun v74 hv74 => (xlt_E (fun v75 hv75 => (xlt_E (fun v80 hv80 => (xlt_E (fun v81 hv81 => (xlt_E (fun v86 hv86 => (XEs_of hv86 (xit_Es (XEs_of hv81 (xit_Es (XEs_of hv75 (xit_Es (xlt_Es (fun q72 hq72 => ((XE_of hq72 (xm_T_walk u (xg_V_atp u) ((Int32.toInt64 p0) &&& (4294967295 : Int64)) q57 v60 v69)).trans rfl))) (xlt_Es (fun q73 hq73 => ((XE_of hq73 (xm_T_firstStage u ((Int32.toInt64 p0) &&& (4294967295 : Int64)) q57 v60 v69)).trans rfl))))) (xit_Es (XEs_of hv75 (xit_Es (xlt_Es (fun q72 hq72 => ((XE_of hq72 (xm_T_walk u (xg_V_atp u) ((Int32.toInt64 p0) &&& (4294967295 : Int64)) q57 v60 v69)).trans rfl))) (xlt_Es (fun q73 hq73 => ((XE_of hq73 (xm_T_firstStage u ((Int32.toInt64 p0) &&& (4294967295 : Int64)) q57 v60 v69)).trans rfl))))) (xlt_Es (fun q79 hq79 => ((XE_of hq79 (xm_T_secondStage v75 v74 p2)).trans (XEs_of hv75 (xit_Es (xlt_Es (fun q72 hq72 => ((XE_of hq72 (xm_T_walk u (xg_V_atp u) ((Int32.toInt64 p0) &&& (4294967295 : Int64)) q57 v60 v69)).trans rfl))) (xlt_Es (fun q73 hq73 => ((XE_of hq73 (xm_T_firstStage u ((Int32.toInt64 p0) &&& (4294967295 : Int64)) q57 v60 v69)).trans rfl))))))))))) (xlt_Es (fun q84 hq84 => (xlt_Es (fun q85 hq85 => ((XEs_of hq85 (xm_P_raise v81 q84 p0)).trans (XEs_of hv81 (xit_Es (XEs_of hv75 (xit_Es (xlt_Es (fun q72 hq72 => ((XE_of hq72 (xm_T_walk u (xg_V_atp u) ((Int32.toInt64 p0) &&& (4294967295 : Int64)) q57 v60 v69)).trans rfl))) (xlt_Es (fun q73 hq73 => ((XE_of hq73 (xm_T_firstStage u ((Int32.toInt64 p0) &&& (4294967295 : Int64)) q57 v60 v69)).trans rfl))))) (xit_Es (XEs_of hv75 (xit_Es (xlt_Es (fun q72 hq72 => ((XE_of hq72 (xm_T_walk u (xg_V_atp u) ((Int32.toInt64 p0) &&& (4294967295 : Int64)) q57 v60 v69)).trans rfl))) (xlt_Es (fun q73 hq73 => ((XE_of hq73 (xm_T_firstStage u ((Int32.toInt64 p0) &&& (4294967295 : Int64)) q57 v60 v69)).trans rfl))))) (xlt_Es (fun q79 hq79 => ((XE_of hq79 (xm_T_secondStage v75 v74 p2)).trans (XEs_of hv75 (xit_Es (xlt_Es (fun q72 hq72 => ((XE_of hq72 (xm_T_walk u (xg_V_atp u) ((Int32.toInt64 p0) &&& (4294967295 : Int64)) q57 v60 v69)).trans rfl))) (xlt_Es (fun q73 hq73 => ((XE_of hq73 (xm_T_firstStage u ((Int32.toInt64 p0) &&& (4294967295 : Int64)) q57 v60 v69)).trans rfl))))))))))))))))))))))))))))))))))))))))))))) (xlt_E (fun q103 hq103 => ((XEs_of hq103 (xm_P_raise u (List.getD [0, 4, 4, 6] p2 0) p0)).trans rfl))))
