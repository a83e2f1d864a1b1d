noncomputable def xf_B_clear (b : XB) : XB :=
  (xsB_atp (xsB_ip (xsB_tval (xsB_cause (xsB_epc (xsB_scratch (xsB_tvec (xsB_ie (xsB_status b (0 : Int32)) (0 : Int32)) (0 : Int32)) (0 : Int32)) (0 : Int32)) (0 : Int32)) (0 : Int32)) (0 : Int32)) (0 : Int32))
set_option maxHeartbeats 4000000 in
set_option maxRecDepth 100000 in
theorem c_B_clear (l : Launch) (D : va_G) (tys : List (ClassId × FieldType)) (z : (Nat → Nat) × (Nat → Nat)) (sz : Nat) (h : Nat) (b : XB) : Met l xy_B_clear (xk_B_clear :: lw_g) { frames := 0, cells := 0, slots := 0, locals := 0 } (va_Pc [.ref h] (xB D tys z sz [(h, xcB b)])) (va_Qv (fun q : XB => q = xf_B_clear b) (fun q t => xQ D tys [(h, xcB q)] (va_A [(h, xcB b)] sz) t) (va_A [(h, xcB b)] sz)) 0 0 (va_A [(h, xcB b)] sz) := by
  refine xopen_v (wf := fun q : XB => [(h, xcB q)]) (lv := [(0, .ref h)]) (by decide) rfl (Nat.le_of_ble_eq_true rfl) ?_
  intro p e s m args below meth c Q ls A H locs hx hb hml htg hown hin hK hP hD hE hS hA hl hret
  refine lv_aload_n hx hb xd_B_clear_0 rfl (lv_at hl 0 rfl) ?_
  refine lv_iconst (v := 0) hx hb xd_B_clear_1 (by decide) ?_
  refine va_put (D := D) (ci := 2) (v := .int 0) (ty := .int) (C := xR_B) (T := xF_B) (N := 9) hx hb htg xin_B xT_B xO_B xN_B hown hK hP hD hS 0 rfl rfl 0 (by decide) (htg _ xw_66) (fun _ h9 => h9) rfl (by decide +kernel) rfl rfl (Nat.le_of_ble_eq_true rfl) xd_B_clear_2 (fun H locs hP hD hS => ?_)
  have hP : va_P D xCl [(h, xcB (xsB_status b (0 : Int32)))] H := hP
  have hD : va_D A [(h, xcB (xsB_status b (0 : Int32)))] := hD
  refine lv_aload_n hx hb xd_B_clear_5 rfl (lv_at hl 0 rfl) ?_
  refine lv_iconst (v := 0) hx hb xd_B_clear_6 (by decide) ?_
  refine va_put (D := D) (ci := 2) (v := .int 0) (ty := .int) (C := xR_B) (T := xF_B) (N := 9) hx hb htg xin_B xT_B xO_B xN_B hown hK hP hD hS 0 rfl rfl 1 (by decide) (htg _ xw_69) (fun _ h9 => h9) rfl (by decide +kernel) rfl rfl (Nat.le_of_ble_eq_true rfl) xd_B_clear_7 (fun H locs hP hD hS => ?_)
  have hP : va_P D xCl [(h, xcB (xsB_ie (xsB_status b (0 : Int32)) (0 : Int32)))] H := hP
  have hD : va_D A [(h, xcB (xsB_ie (xsB_status b (0 : Int32)) (0 : Int32)))] := hD
  refine lv_aload_n hx hb xd_B_clear_10 rfl (lv_at hl 0 rfl) ?_
  refine lv_iconst (v := 0) hx hb xd_B_clear_11 (by decide) ?_
  refine va_put (D := D) (ci := 2) (v := .int 0) (ty := .int) (C := xR_B) (T := xF_B) (N := 9) hx hb htg xin_B xT_B xO_B xN_B hown hK hP hD hS 0 rfl rfl 2 (by decide) (htg _ xw_71) (fun _ h9 => h9) rfl (by decide +kernel) rfl rfl (Nat.le_of_ble_eq_true rfl) xd_B_clear_12 (fun H locs hP hD hS => ?_)
  have hP : va_P D xCl [(h, xcB (xsB_tvec (xsB_ie (xsB_status b (0 : Int32)) (0 : Int32)) (0 : Int32)))] H := hP
  have hD : va_D A [(h, xcB (xsB_tvec (xsB_ie (xsB_status b (0 : Int32)) (0 : Int32)) (0 : Int32)))] := hD
  refine lv_aload_n hx hb xd_B_clear_15 rfl (lv_at hl 0 rfl) ?_
  refine lv_iconst (v := 0) hx hb xd_B_clear_16 (by decide) ?_
  refine va_put (D := D) (ci := 2) (v := .int 0) (ty := .int) (C := xR_B) (T := xF_B) (N := 9) hx hb htg xin_B xT_B xO_B xN_B hown hK hP hD hS 0 rfl rfl 3 (by decide) (htg _ xw_72) (fun _ h9 => h9) rfl (by decide +kernel) rfl rfl (Nat.le_of_ble_eq_true rfl) xd_B_clear_17 (fun H locs hP hD hS => ?_)
  have hP : va_P D xCl [(h, xcB (xsB_scratch (xsB_tvec (xsB_ie (xsB_status b (0 : Int32)) (0 : Int32)) (0 : Int32)) (0 : Int32)))] H := hP
  have hD : va_D A [(h, xcB (xsB_scratch (xsB_tvec (xsB_ie (xsB_status b (0 : Int32)) (0 : Int32)) (0 : Int32)) (0 : Int32)))] := hD
  refine lv_aload_n hx hb xd_B_clear_20 rfl (lv_at hl 0 rfl) ?_
  refine lv_iconst (v := 0) hx hb xd_B_clear_21 (by decide) ?_
  refine va_put (D := D) (ci := 2) (v := .int 0) (ty := .int) (C := xR_B) (T := xF_B) (N := 9) hx hb htg xin_B xT_B xO_B xN_B hown hK hP hD hS 0 rfl rfl 4 (by decide) (htg _ xw_73) (fun _ h9 => h9) rfl (by decide +kernel) rfl rfl (Nat.le_of_ble_eq_true rfl) xd_B_clear_22 (fun H locs hP hD hS => ?_)
  have hP : va_P D xCl [(h, xcB (xsB_epc (xsB_scratch (xsB_tvec (xsB_ie (xsB_status b (0 : Int32)) (0 : Int32)) (0 : Int32)) (0 : Int32)) (0 : Int32)))] H := hP
  have hD : va_D A [(h, xcB (xsB_epc (xsB_scratch (xsB_tvec (xsB_ie (xsB_status b (0 : Int32)) (0 : Int32)) (0 : Int32)) (0 : Int32)) (0 : Int32)))] := hD
  refine lv_aload_n hx hb xd_B_clear_25 rfl (lv_at hl 0 rfl) ?_
  refine lv_iconst (v := 0) hx hb xd_B_clear_26 (by decide) ?_
  refine va_put (D := D) (ci := 2) (v := .int 0) (ty := .int) (C := xR_B) (T := xF_B) (N := 9) hx hb htg xin_B xT_B xO_B xN_B hown hK hP hD hS 0 rfl rfl 5 (by decide) (htg _ xw_75) (fun _ h9 => h9) rfl (by decide +kernel) rfl rfl (Nat.le_of_ble_eq_true rfl) xd_B_clear_27 (fun H locs hP hD hS => ?_)
  have hP : va_P D xCl [(h, xcB (xsB_cause (xsB_epc (xsB_scratch (xsB_tvec (xsB_ie (xsB_status b (0 : Int32)) (0 : Int32)) (0 : Int32)) (0 : Int32)) (0 : Int32)) (0 : Int32)))] H := hP
  have hD : va_D A [(h, xcB (xsB_cause (xsB_epc (xsB_scratch (xsB_tvec (xsB_ie (xsB_status b (0 : Int32)) (0 : Int32)) (0 : Int32)) (0 : Int32)) (0 : Int32)) (0 : Int32)))] := hD
  refine lv_aload_n hx hb xd_B_clear_30 rfl (lv_at hl 0 rfl) ?_
  refine lv_iconst (v := 0) hx hb xd_B_clear_31 (by decide) ?_
  refine va_put (D := D) (ci := 2) (v := .int 0) (ty := .int) (C := xR_B) (T := xF_B) (N := 9) hx hb htg xin_B xT_B xO_B xN_B hown hK hP hD hS 0 rfl rfl 6 (by decide) (htg _ xw_76) (fun _ h9 => h9) rfl (by decide +kernel) rfl rfl (Nat.le_of_ble_eq_true rfl) xd_B_clear_32 (fun H locs hP hD hS => ?_)
  have hP : va_P D xCl [(h, xcB (xsB_tval (xsB_cause (xsB_epc (xsB_scratch (xsB_tvec (xsB_ie (xsB_status b (0 : Int32)) (0 : Int32)) (0 : Int32)) (0 : Int32)) (0 : Int32)) (0 : Int32)) (0 : Int32)))] H := hP
  have hD : va_D A [(h, xcB (xsB_tval (xsB_cause (xsB_epc (xsB_scratch (xsB_tvec (xsB_ie (xsB_status b (0 : Int32)) (0 : Int32)) (0 : Int32)) (0 : Int32)) (0 : Int32)) (0 : Int32)) (0 : Int32)))] := hD
  refine lv_aload_n hx hb xd_B_clear_35 rfl (lv_at hl 0 rfl) ?_
  refine lv_iconst (v := 0) hx hb xd_B_clear_36 (by decide) ?_
  refine va_put (D := D) (ci := 2) (v := .int 0) (ty := .int) (C := xR_B) (T := xF_B) (N := 9) hx hb htg xin_B xT_B xO_B xN_B hown hK hP hD hS 0 rfl rfl 7 (by decide) (htg _ xw_77) (fun _ h9 => h9) rfl (by decide +kernel) rfl rfl (Nat.le_of_ble_eq_true rfl) xd_B_clear_37 (fun H locs hP hD hS => ?_)
  have hP : va_P D xCl [(h, xcB (xsB_ip (xsB_tval (xsB_cause (xsB_epc (xsB_scratch (xsB_tvec (xsB_ie (xsB_status b (0 : Int32)) (0 : Int32)) (0 : Int32)) (0 : Int32)) (0 : Int32)) (0 : Int32)) (0 : Int32)) (0 : Int32)))] H := hP
  have hD : va_D A [(h, xcB (xsB_ip (xsB_tval (xsB_cause (xsB_epc (xsB_scratch (xsB_tvec (xsB_ie (xsB_status b (0 : Int32)) (0 : Int32)) (0 : Int32)) (0 : Int32)) (0 : Int32)) (0 : Int32)) (0 : Int32)) (0 : Int32)))] := hD
  refine lv_aload_n hx hb xd_B_clear_40 rfl (lv_at hl 0 rfl) ?_
  refine lv_iconst (v := 0) hx hb xd_B_clear_41 (by decide) ?_
  refine va_put (D := D) (ci := 2) (v := .int 0) (ty := .int) (C := xR_B) (T := xF_B) (N := 9) hx hb htg xin_B xT_B xO_B xN_B hown hK hP hD hS 0 rfl rfl 8 (by decide) (htg _ xw_79) (fun _ h9 => h9) rfl (by decide +kernel) rfl rfl (Nat.le_of_ble_eq_true rfl) xd_B_clear_42 (fun H locs hP hD hS => ?_)
  have hP : va_P D xCl [(h, xcB (xsB_atp (xsB_ip (xsB_tval (xsB_cause (xsB_epc (xsB_scratch (xsB_tvec (xsB_ie (xsB_status b (0 : Int32)) (0 : Int32)) (0 : Int32)) (0 : Int32)) (0 : Int32)) (0 : Int32)) (0 : Int32)) (0 : Int32)) (0 : Int32)))] H := hP
  have hD : va_D A [(h, xcB (xsB_atp (xsB_ip (xsB_tval (xsB_cause (xsB_epc (xsB_scratch (xsB_tvec (xsB_ie (xsB_status b (0 : Int32)) (0 : Int32)) (0 : Int32)) (0 : Int32)) (0 : Int32)) (0 : Int32)) (0 : Int32)) (0 : Int32)) (0 : Int32)))] := hD
  exact hret (xsB_atp (xsB_ip (xsB_tval (xsB_cause (xsB_epc (xsB_scratch (xsB_tvec (xsB_ie (xsB_status b (0 : Int32)) (0 : Int32)) (0 : Int32)) (0 : Int32)) (0 : Int32)) (0 : Int32)) (0 : Int32)) (0 : Int32)) (0 : Int32)) H locs ls _ (by unfold xf_B_clear; exact rfl) hP hD hS xd_B_clear_45

noncomputable def xf_B_tell (b : XB) (p0 : Int32) : Int32 :=
  if p0 = 256 then
    (xgB_status b)
  else
    if p0 = 260 then
      (xgB_ie b)
    else
      if p0 = 261 then
        (xgB_tvec b)
      else
        if p0 = 320 then
          (xgB_scratch b)
        else
          if p0 = 321 then
            (xgB_epc b)
          else
            if p0 = 322 then
              (xgB_cause b)
            else
              if p0 = 323 then
                (xgB_tval b)
              else
                if p0 = 324 then
                  (xgB_ip b)
                else
                  if p0 = 384 then
                    (xgB_atp b)
                  else
                    0
set_option maxHeartbeats 4000000 in
set_option maxRecDepth 100000 in
theorem c_B_tell (l : Launch) (D : va_G) (tys : List (ClassId × FieldType)) (z : (Nat → Nat) × (Nat → Nat)) (sz : Nat) (h : Nat) (b : XB) (p0 : Int32) : Met l xy_B_tell (xk_B_tell :: lw_g) { frames := 0, cells := 0, slots := 0, locals := 0 } (va_Pc [.ref h, .int p0] (xB D tys z sz [(h, xcB b)])) (va_Qi (fun r (q : XB) => r = xf_B_tell b p0 ∧ q = b) (fun q t => xQ D tys [(h, xcB q)] (va_A [(h, xcB b)] sz) t) (va_A [(h, xcB b)] sz)) 0 0 (va_A [(h, xcB b)] sz) := by
  refine xopen_i (wf := fun q : XB => [(h, xcB q)]) (lv := [(0, .ref h), (1, .int p0)]) (by decide) rfl (Nat.le_of_ble_eq_true rfl) ?_
  intro p e s m args below meth c Q ls A H locs hx hb hml htg hown hin hK hP hD hE hS hA hl hret
  refine lv_iload_n hx hb xd_B_tell_0 rfl (lv_at hl 1 rfl) ?_
  refine (Decidable.em (p0 = 256)).elim (fun h1 => ?_) (fun h1 => ?_)
  · refine lv_lookup (tgt := 84) (off := 83) hx hb xd_B_tell_1 (by decide +kernel) (by rw [h1]; decide +kernel) rfl ?_
    refine lv_aload_n hx hb xd_B_tell_84 rfl (lv_at hl 0 rfl) ?_
    refine va_get (D := D) (ci := 2) (v := .int ((xgB_status b))) (C := xR_B) (T := xF_B) (N := 9) hx hb htg xin_B hown hK hP 0 rfl rfl 0 (by decide) (htg _ xw_66) (fun _ h9 => h9) rfl xd_B_tell_85 ?_
    exact hret _ b H locs ls _ ⟨(by unfold xf_B_tell; exact (xit h1 rfl)), rfl⟩ hP hD hS xd_B_tell_88
  · refine (Decidable.em (p0 = 260)).elim (fun h2 => ?_) (fun h2 => ?_)
    · refine lv_lookup (tgt := 89) (off := 88) hx hb xd_B_tell_1 (by decide +kernel) (by rw [h2]; decide +kernel) rfl ?_
      refine lv_aload_n hx hb xd_B_tell_89 rfl (lv_at hl 0 rfl) ?_
      refine va_get (D := D) (ci := 2) (v := .int ((xgB_ie b))) (C := xR_B) (T := xF_B) (N := 9) hx hb htg xin_B hown hK hP 0 rfl rfl 1 (by decide) (htg _ xw_69) (fun _ h9 => h9) rfl xd_B_tell_90 ?_
      exact hret _ b H locs ls _ ⟨(by unfold xf_B_tell; exact (xif h1 (xit h2 rfl))), rfl⟩ hP hD hS xd_B_tell_93
    · refine (Decidable.em (p0 = 261)).elim (fun h3 => ?_) (fun h3 => ?_)
      · refine lv_lookup (tgt := 94) (off := 93) hx hb xd_B_tell_1 (by decide +kernel) (by rw [h3]; decide +kernel) rfl ?_
        refine lv_aload_n hx hb xd_B_tell_94 rfl (lv_at hl 0 rfl) ?_
        refine va_get (D := D) (ci := 2) (v := .int ((xgB_tvec b))) (C := xR_B) (T := xF_B) (N := 9) hx hb htg xin_B hown hK hP 0 rfl rfl 2 (by decide) (htg _ xw_71) (fun _ h9 => h9) rfl xd_B_tell_95 ?_
        exact hret _ b H locs ls _ ⟨(by unfold xf_B_tell; exact (xif h1 (xif h2 (xit h3 rfl)))), rfl⟩ hP hD hS xd_B_tell_98
      · refine (Decidable.em (p0 = 320)).elim (fun h4 => ?_) (fun h4 => ?_)
        · refine lv_lookup (tgt := 99) (off := 98) hx hb xd_B_tell_1 (by decide +kernel) (by rw [h4]; decide +kernel) rfl ?_
          refine lv_aload_n hx hb xd_B_tell_99 rfl (lv_at hl 0 rfl) ?_
          refine va_get (D := D) (ci := 2) (v := .int ((xgB_scratch b))) (C := xR_B) (T := xF_B) (N := 9) hx hb htg xin_B hown hK hP 0 rfl rfl 3 (by decide) (htg _ xw_72) (fun _ h9 => h9) rfl xd_B_tell_100 ?_
          exact hret _ b H locs ls _ ⟨(by unfold xf_B_tell; exact (xif h1 (xif h2 (xif h3 (xit h4 rfl))))), rfl⟩ hP hD hS xd_B_tell_103
        · refine (Decidable.em (p0 = 321)).elim (fun h5 => ?_) (fun h5 => ?_)
          · refine lv_lookup (tgt := 104) (off := 103) hx hb xd_B_tell_1 (by decide +kernel) (by rw [h5]; decide +kernel) rfl ?_
            refine lv_aload_n hx hb xd_B_tell_104 rfl (lv_at hl 0 rfl) ?_
            refine va_get (D := D) (ci := 2) (v := .int ((xgB_epc b))) (C := xR_B) (T := xF_B) (N := 9) hx hb htg xin_B hown hK hP 0 rfl rfl 4 (by decide) (htg _ xw_73) (fun _ h9 => h9) rfl xd_B_tell_105 ?_
            exact hret _ b H locs ls _ ⟨(by unfold xf_B_tell; exact (xif h1 (xif h2 (xif h3 (xif h4 (xit h5 rfl)))))), rfl⟩ hP hD hS xd_B_tell_108
          · refine (Decidable.em (p0 = 322)).elim (fun h6 => ?_) (fun h6 => ?_)
            · refine lv_lookup (tgt := 109) (off := 108) hx hb xd_B_tell_1 (by decide +kernel) (by rw [h6]; decide +kernel) rfl ?_
              refine lv_aload_n hx hb xd_B_tell_109 rfl (lv_at hl 0 rfl) ?_
              refine va_get (D := D) (ci := 2) (v := .int ((xgB_cause b))) (C := xR_B) (T := xF_B) (N := 9) hx hb htg xin_B hown hK hP 0 rfl rfl 5 (by decide) (htg _ xw_75) (fun _ h9 => h9) rfl xd_B_tell_110 ?_
              exact hret _ b H locs ls _ ⟨(by unfold xf_B_tell; exact (xif h1 (xif h2 (xif h3 (xif h4 (xif h5 (xit h6 rfl))))))), rfl⟩ hP hD hS xd_B_tell_113
            · refine (Decidable.em (p0 = 323)).elim (fun h7 => ?_) (fun h7 => ?_)
              · refine lv_lookup (tgt := 114) (off := 113) hx hb xd_B_tell_1 (by decide +kernel) (by rw [h7]; decide +kernel) rfl ?_
                refine lv_aload_n hx hb xd_B_tell_114 rfl (lv_at hl 0 rfl) ?_
                refine va_get (D := D) (ci := 2) (v := .int ((xgB_tval b))) (C := xR_B) (T := xF_B) (N := 9) hx hb htg xin_B hown hK hP 0 rfl rfl 6 (by decide) (htg _ xw_76) (fun _ h9 => h9) rfl xd_B_tell_115 ?_
                exact hret _ b H locs ls _ ⟨(by unfold xf_B_tell; exact (xif h1 (xif h2 (xif h3 (xif h4 (xif h5 (xif h6 (xit h7 rfl)))))))), rfl⟩ hP hD hS xd_B_tell_118
              · refine (Decidable.em (p0 = 324)).elim (fun h8 => ?_) (fun h8 => ?_)
                · refine lv_lookup (tgt := 119) (off := 118) hx hb xd_B_tell_1 (by decide +kernel) (by rw [h8]; decide +kernel) rfl ?_
                  refine lv_aload_n hx hb xd_B_tell_119 rfl (lv_at hl 0 rfl) ?_
                  refine va_get (D := D) (ci := 2) (v := .int ((xgB_ip b))) (C := xR_B) (T := xF_B) (N := 9) hx hb htg xin_B hown hK hP 0 rfl rfl 7 (by decide) (htg _ xw_77) (fun _ h9 => h9) rfl xd_B_tell_120 ?_
                  exact hret _ b H locs ls _ ⟨(by unfold xf_B_tell; exact (xif h1 (xif h2 (xif h3 (xif h4 (xif h5 (xif h6 (xif h7 (xit h8 rfl))))))))), rfl⟩ hP hD hS xd_B_tell_123
                · refine (Decidable.em (p0 = 384)).elim (fun h9 => ?_) (fun h9 => ?_)
                  · refine lv_lookup (tgt := 124) (off := 123) hx hb xd_B_tell_1 (by decide +kernel) (by rw [h9]; decide +kernel) rfl ?_
                    refine lv_aload_n hx hb xd_B_tell_124 rfl (lv_at hl 0 rfl) ?_
                    refine va_get (D := D) (ci := 2) (v := .int ((xgB_atp b))) (C := xR_B) (T := xF_B) (N := 9) hx hb htg xin_B hown hK hP 0 rfl rfl 8 (by decide) (htg _ xw_79) (fun _ h9 => h9) rfl xd_B_tell_125 ?_
                    exact hret _ b H locs ls _ ⟨(by unfold xf_B_tell; exact (xif h1 (xif h2 (xif h3 (xif h4 (xif h5 (xif h6 (xif h7 (xif h8 (xit h9 rfl)))))))))), rfl⟩ hP hD hS xd_B_tell_128
                  · refine lv_lookup (tgt := 129) (off := 128) hx hb xd_B_tell_1 (by decide +kernel) (by first | (rw [lv_osw h1 (by decide), lv_osw h2 (by decide), lv_osw h3 (by decide), lv_osw h4 (by decide), lv_osw h5 (by decide), lv_osw h6 (by decide), lv_osw h7 (by decide), lv_osw h8 (by decide), lv_osw h9 (by decide)]; rfl) | (simp only [lv_osw h1 (by decide), lv_osw h2 (by decide), lv_osw h3 (by decide), lv_osw h4 (by decide), lv_osw h5 (by decide), lv_osw h6 (by decide), lv_osw h7 (by decide), lv_osw h8 (by decide), lv_osw h9 (by decide)]; rfl)) rfl ?_
                    refine lv_iconst (v := 0) hx hb xd_B_tell_129 (by decide) ?_
                    exact hret _ b H locs ls _ ⟨(by unfold xf_B_tell; exact (xif h1 (xif h2 (xif h3 (xif h4 (xif h5 (xif h6 (xif h7 (xif h8 (xif h9 rfl)))))))))), rfl⟩ hP hD hS xd_B_tell_130

noncomputable def xf_B_write (b : XB) (p0 : Int32) (p1 : Int32) : XB :=
  xlt (if p0 = 256 then ((xsB_status b (p1 &&& (786722 : Int32)))) else (if p0 = 260 then ((xsB_ie b (p1 &&& (546 : Int32)))) else (if p0 = 261 then ((xsB_tvec b (p1 &&& (-3 : Int32)))) else (if p0 = 320 then ((xsB_scratch b p1)) else (if p0 = 321 then ((xsB_epc b (p1 &&& (-4 : Int32)))) else (if p0 = 322 then ((xsB_cause b p1)) else (if p0 = 323 then ((xsB_tval b p1)) else (if p0 = 324 then ((xsB_ip b (p1 &&& (2 : Int32)))) else (if p0 = 384 then ((xsB_atp b (p1 &&& (-2143289345 : Int32)))) else (b))))))))) : XB) fun v10 =>
  v10
set_option maxHeartbeats 4000000 in
set_option maxRecDepth 100000 in
theorem c_B_write (l : Launch) (D : va_G) (tys : List (ClassId × FieldType)) (z : (Nat → Nat) × (Nat → Nat)) (sz : Nat) (h : Nat) (b : XB) (p0 : Int32) (p1 : Int32) : Met l xy_B_write (xk_B_write :: lw_g) { frames := 0, cells := 0, slots := 0, locals := 0 } (va_Pc [.ref h, .int p0, .int p1] (xB D tys z sz [(h, xcB b)])) (va_Qv (fun q : XB => q = xf_B_write b p0 p1) (fun q t => xQ D tys [(h, xcB q)] (va_A [(h, xcB b)] sz) t) (va_A [(h, xcB b)] sz)) 0 0 (va_A [(h, xcB b)] sz) := by
  refine xopen_v (wf := fun q : XB => [(h, xcB q)]) (lv := [(0, .ref h), (1, .int p0), (2, .int p1)]) (by decide) rfl (Nat.le_of_ble_eq_true rfl) ?_
  intro p e s m args below meth c Q ls A H locs hx hb hml htg hown hin hK hP hD hE hS hA hl hret
  refine lv_iload_n hx hb xd_B_write_0 rfl (lv_at hl 1 rfl) ?_
  have hj11 : ∀ (H : Heap) (locs : List Loc) (ls : Array Slot) (v10 : XB), v10 = (if p0 = 256 then ((xsB_status b (p1 &&& (786722 : Int32)))) else (if p0 = 260 then ((xsB_ie b (p1 &&& (546 : Int32)))) else (if p0 = 261 then ((xsB_tvec b (p1 &&& (-3 : Int32)))) else (if p0 = 320 then ((xsB_scratch b p1)) else (if p0 = 321 then ((xsB_epc b (p1 &&& (-4 : Int32)))) else (if p0 = 322 then ((xsB_cause b p1)) else (if p0 = 323 then ((xsB_tval b p1)) else (if p0 = 324 then ((xsB_ip b (p1 &&& (2 : Int32)))) else (if p0 = 384 then ((xsB_atp b (p1 &&& (-2143289345 : Int32)))) else (b)))))))))) → lv_has ls 3 [(0, .ref h), (1, .int p0), (2, .int p1)] → va_P D xCl [(h, xcB v10)] H → va_D A [(h, xcB v10)] → va_S A s.heap H locs → W p l e { frames := 0, cells := 0, slots := 0, locals := 0 } s m args below meth c H locs (0) (0) Q (F0 m 174 ls []) := by
    intro H locs ls v10 hv10 hl hP hD hS
    exact hret v10 H locs ls _ (by unfold xf_B_write; exact (xlt_e hv10 rfl)) hP hD hS xd_B_write_174
  refine (Decidable.em (p0 = 256)).elim (fun h12 => ?_) (fun h12 => ?_)
  · refine lv_lookup (tgt := 84) (off := 83) hx hb xd_B_write_1 (by decide +kernel) (by rw [h12]; decide +kernel) rfl ?_
    refine lv_aload_n hx hb xd_B_write_84 rfl (lv_at hl 0 rfl) ?_
    refine lv_iload_n hx hb xd_B_write_85 rfl (lv_at hl 2 rfl) ?_
    refine lv_ldc (v := 786722) hx hb hown (htg _ xw_352) xd_B_write_86 ?_
    refine lv_iand hx hb xd_B_write_88 ?_
    refine va_put (D := D) (ci := 2) (v := .int ((p1 &&& (786722 : Int32)))) (ty := .int) (C := xR_B) (T := xF_B) (N := 9) hx hb htg xin_B xT_B xO_B xN_B hown hK hP hD hS 0 rfl rfl 0 (by decide) (htg _ xw_66) (fun _ h9 => h9) rfl (by decide +kernel) rfl rfl (Nat.le_of_ble_eq_true rfl) xd_B_write_89 (fun H locs hP hD hS => ?_)
    have hP : va_P D xCl [(h, xcB (xsB_status b (p1 &&& (786722 : Int32))))] H := hP
    have hD : va_D A [(h, xcB (xsB_status b (p1 &&& (786722 : Int32))))] := hD
    refine lv_goto (tgt := 174) hx hb xd_B_write_92 rfl ?_
    exact hj11 H locs ls (xsB_status b (p1 &&& (786722 : Int32))) (xit h12 rfl) hl hP hD hS
  · refine (Decidable.em (p0 = 260)).elim (fun h13 => ?_) (fun h13 => ?_)
    · refine lv_lookup (tgt := 95) (off := 94) hx hb xd_B_write_1 (by decide +kernel) (by rw [h13]; decide +kernel) rfl ?_
      refine lv_aload_n hx hb xd_B_write_95 rfl (lv_at hl 0 rfl) ?_
      refine lv_iload_n hx hb xd_B_write_96 rfl (lv_at hl 2 rfl) ?_
      refine lv_sipush (v := 546) hx hb xd_B_write_97 (by decide) ?_
      refine lv_iand hx hb xd_B_write_100 ?_
      refine va_put (D := D) (ci := 2) (v := .int ((p1 &&& (546 : Int32)))) (ty := .int) (C := xR_B) (T := xF_B) (N := 9) hx hb htg xin_B xT_B xO_B xN_B hown hK hP hD hS 0 rfl rfl 1 (by decide) (htg _ xw_69) (fun _ h9 => h9) rfl (by decide +kernel) rfl rfl (Nat.le_of_ble_eq_true rfl) xd_B_write_101 (fun H locs hP hD hS => ?_)
      have hP : va_P D xCl [(h, xcB (xsB_ie b (p1 &&& (546 : Int32))))] H := hP
      have hD : va_D A [(h, xcB (xsB_ie b (p1 &&& (546 : Int32))))] := hD
      refine lv_goto (tgt := 174) hx hb xd_B_write_104 rfl ?_
      exact hj11 H locs ls (xsB_ie b (p1 &&& (546 : Int32))) (xif h12 (xit h13 rfl)) hl hP hD hS
    · refine (Decidable.em (p0 = 261)).elim (fun h14 => ?_) (fun h14 => ?_)
      · refine lv_lookup (tgt := 107) (off := 106) hx hb xd_B_write_1 (by decide +kernel) (by rw [h14]; decide +kernel) rfl ?_
        refine lv_aload_n hx hb xd_B_write_107 rfl (lv_at hl 0 rfl) ?_
        refine lv_iload_n hx hb xd_B_write_108 rfl (lv_at hl 2 rfl) ?_
        refine lv_bipush (v := (-3)) hx hb xd_B_write_109 (by decide) ?_
        refine lv_iand hx hb xd_B_write_111 ?_
        refine va_put (D := D) (ci := 2) (v := .int ((p1 &&& (-3 : Int32)))) (ty := .int) (C := xR_B) (T := xF_B) (N := 9) hx hb htg xin_B xT_B xO_B xN_B hown hK hP hD hS 0 rfl rfl 2 (by decide) (htg _ xw_71) (fun _ h9 => h9) rfl (by decide +kernel) rfl rfl (Nat.le_of_ble_eq_true rfl) xd_B_write_112 (fun H locs hP hD hS => ?_)
        have hP : va_P D xCl [(h, xcB (xsB_tvec b (p1 &&& (-3 : Int32))))] H := hP
        have hD : va_D A [(h, xcB (xsB_tvec b (p1 &&& (-3 : Int32))))] := hD
        refine lv_goto (tgt := 174) hx hb xd_B_write_115 rfl ?_
        exact hj11 H locs ls (xsB_tvec b (p1 &&& (-3 : Int32))) (xif h12 (xif h13 (xit h14 rfl))) hl hP hD hS
      · refine (Decidable.em (p0 = 320)).elim (fun h15 => ?_) (fun h15 => ?_)
        · refine lv_lookup (tgt := 118) (off := 117) hx hb xd_B_write_1 (by decide +kernel) (by rw [h15]; decide +kernel) rfl ?_
          refine lv_aload_n hx hb xd_B_write_118 rfl (lv_at hl 0 rfl) ?_
          refine lv_iload_n hx hb xd_B_write_119 rfl (lv_at hl 2 rfl) ?_
          refine va_put (D := D) (ci := 2) (v := .int p1) (ty := .int) (C := xR_B) (T := xF_B) (N := 9) hx hb htg xin_B xT_B xO_B xN_B hown hK hP hD hS 0 rfl rfl 3 (by decide) (htg _ xw_72) (fun _ h9 => h9) rfl (by decide +kernel) rfl rfl (Nat.le_of_ble_eq_true rfl) xd_B_write_120 (fun H locs hP hD hS => ?_)
          have hP : va_P D xCl [(h, xcB (xsB_scratch b p1))] H := hP
          have hD : va_D A [(h, xcB (xsB_scratch b p1))] := hD
          refine lv_goto (tgt := 174) hx hb xd_B_write_123 rfl ?_
          exact hj11 H locs ls (xsB_scratch b p1) (xif h12 (xif h13 (xif h14 (xit h15 rfl)))) hl hP hD hS
        · refine (Decidable.em (p0 = 321)).elim (fun h16 => ?_) (fun h16 => ?_)
          · refine lv_lookup (tgt := 126) (off := 125) hx hb xd_B_write_1 (by decide +kernel) (by rw [h16]; decide +kernel) rfl ?_
            refine lv_aload_n hx hb xd_B_write_126 rfl (lv_at hl 0 rfl) ?_
            refine lv_iload_n hx hb xd_B_write_127 rfl (lv_at hl 2 rfl) ?_
            refine lv_bipush (v := (-4)) hx hb xd_B_write_128 (by decide) ?_
            refine lv_iand hx hb xd_B_write_130 ?_
            refine va_put (D := D) (ci := 2) (v := .int ((p1 &&& (-4 : Int32)))) (ty := .int) (C := xR_B) (T := xF_B) (N := 9) hx hb htg xin_B xT_B xO_B xN_B hown hK hP hD hS 0 rfl rfl 4 (by decide) (htg _ xw_73) (fun _ h9 => h9) rfl (by decide +kernel) rfl rfl (Nat.le_of_ble_eq_true rfl) xd_B_write_131 (fun H locs hP hD hS => ?_)
            have hP : va_P D xCl [(h, xcB (xsB_epc b (p1 &&& (-4 : Int32))))] H := hP
            have hD : va_D A [(h, xcB (xsB_epc b (p1 &&& (-4 : Int32))))] := hD
            refine lv_goto (tgt := 174) hx hb xd_B_write_134 rfl ?_
            exact hj11 H locs ls (xsB_epc b (p1 &&& (-4 : Int32))) (xif h12 (xif h13 (xif h14 (xif h15 (xit h16 rfl))))) hl hP hD hS
          · refine (Decidable.em (p0 = 322)).elim (fun h17 => ?_) (fun h17 => ?_)
            · refine lv_lookup (tgt := 137) (off := 136) hx hb xd_B_write_1 (by decide +kernel) (by rw [h17]; decide +kernel) rfl ?_
              refine lv_aload_n hx hb xd_B_write_137 rfl (lv_at hl 0 rfl) ?_
              refine lv_iload_n hx hb xd_B_write_138 rfl (lv_at hl 2 rfl) ?_
              refine va_put (D := D) (ci := 2) (v := .int p1) (ty := .int) (C := xR_B) (T := xF_B) (N := 9) hx hb htg xin_B xT_B xO_B xN_B hown hK hP hD hS 0 rfl rfl 5 (by decide) (htg _ xw_75) (fun _ h9 => h9) rfl (by decide +kernel) rfl rfl (Nat.le_of_ble_eq_true rfl) xd_B_write_139 (fun H locs hP hD hS => ?_)
              have hP : va_P D xCl [(h, xcB (xsB_cause b p1))] H := hP
              have hD : va_D A [(h, xcB (xsB_cause b p1))] := hD
              refine lv_goto (tgt := 174) hx hb xd_B_write_142 rfl ?_
              exact hj11 H locs ls (xsB_cause b p1) (xif h12 (xif h13 (xif h14 (xif h15 (xif h16 (xit h17 rfl)))))) hl hP hD hS
            · refine (Decidable.em (p0 = 323)).elim (fun h18 => ?_) (fun h18 => ?_)
              · refine lv_lookup (tgt := 145) (off := 144) hx hb xd_B_write_1 (by decide +kernel) (by rw [h18]; decide +kernel) rfl ?_
                refine lv_aload_n hx hb xd_B_write_145 rfl (lv_at hl 0 rfl) ?_
                refine lv_iload_n hx hb xd_B_write_146 rfl (lv_at hl 2 rfl) ?_
                refine va_put (D := D) (ci := 2) (v := .int p1) (ty := .int) (C := xR_B) (T := xF_B) (N := 9) hx hb htg xin_B xT_B xO_B xN_B hown hK hP hD hS 0 rfl rfl 6 (by decide) (htg _ xw_76) (fun _ h9 => h9) rfl (by decide +kernel) rfl rfl (Nat.le_of_ble_eq_true rfl) xd_B_write_147 (fun H locs hP hD hS => ?_)
                have hP : va_P D xCl [(h, xcB (xsB_tval b p1))] H := hP
                have hD : va_D A [(h, xcB (xsB_tval b p1))] := hD
                refine lv_goto (tgt := 174) hx hb xd_B_write_150 rfl ?_
                exact hj11 H locs ls (xsB_tval b p1) (xif h12 (xif h13 (xif h14 (xif h15 (xif h16 (xif h17 (xit h18 rfl))))))) hl hP hD hS
              · refine (Decidable.em (p0 = 324)).elim (fun h19 => ?_) (fun h19 => ?_)
                · refine lv_lookup (tgt := 153) (off := 152) hx hb xd_B_write_1 (by decide +kernel) (by rw [h19]; decide +kernel) rfl ?_
                  refine lv_aload_n hx hb xd_B_write_153 rfl (lv_at hl 0 rfl) ?_
                  refine lv_iload_n hx hb xd_B_write_154 rfl (lv_at hl 2 rfl) ?_
                  refine lv_iconst (v := 2) hx hb xd_B_write_155 (by decide) ?_
                  refine lv_iand hx hb xd_B_write_156 ?_
                  refine va_put (D := D) (ci := 2) (v := .int ((p1 &&& (2 : Int32)))) (ty := .int) (C := xR_B) (T := xF_B) (N := 9) hx hb htg xin_B xT_B xO_B xN_B hown hK hP hD hS 0 rfl rfl 7 (by decide) (htg _ xw_77) (fun _ h9 => h9) rfl (by decide +kernel) rfl rfl (Nat.le_of_ble_eq_true rfl) xd_B_write_157 (fun H locs hP hD hS => ?_)
                  have hP : va_P D xCl [(h, xcB (xsB_ip b (p1 &&& (2 : Int32))))] H := hP
                  have hD : va_D A [(h, xcB (xsB_ip b (p1 &&& (2 : Int32))))] := hD
                  refine lv_goto (tgt := 174) hx hb xd_B_write_160 rfl ?_
                  exact hj11 H locs ls (xsB_ip b (p1 &&& (2 : Int32))) (xif h12 (xif h13 (xif h14 (xif h15 (xif h16 (xif h17 (xif h18 (xit h19 rfl)))))))) hl hP hD hS
                · refine (Decidable.em (p0 = 384)).elim (fun h20 => ?_) (fun h20 => ?_)
                  · refine lv_lookup (tgt := 163) (off := 162) hx hb xd_B_write_1 (by decide +kernel) (by rw [h20]; decide +kernel) rfl ?_
                    refine lv_aload_n hx hb xd_B_write_163 rfl (lv_at hl 0 rfl) ?_
                    refine lv_iload_n hx hb xd_B_write_164 rfl (lv_at hl 2 rfl) ?_
                    refine lv_ldc (v := (-2143289345)) hx hb hown (htg _ xw_353) xd_B_write_165 ?_
                    refine lv_iand hx hb xd_B_write_167 ?_
                    refine va_put (D := D) (ci := 2) (v := .int ((p1 &&& (-2143289345 : Int32)))) (ty := .int) (C := xR_B) (T := xF_B) (N := 9) hx hb htg xin_B xT_B xO_B xN_B hown hK hP hD hS 0 rfl rfl 8 (by decide) (htg _ xw_79) (fun _ h9 => h9) rfl (by decide +kernel) rfl rfl (Nat.le_of_ble_eq_true rfl) xd_B_write_168 (fun H locs hP hD hS => ?_)
                    have hP : va_P D xCl [(h, xcB (xsB_atp b (p1 &&& (-2143289345 : Int32))))] H := hP
                    have hD : va_D A [(h, xcB (xsB_atp b (p1 &&& (-2143289345 : Int32))))] := hD
                    refine lv_goto (tgt := 174) hx hb xd_B_write_171 rfl ?_
                    exact hj11 H locs ls (xsB_atp b (p1 &&& (-2143289345 : Int32))) (xif h12 (xif h13 (xif h14 (xif h15 (xif h16 (xif h17 (xif h18 (xif h19 (xit h20 rfl))))))))) hl hP hD hS
                  · refine lv_lookup (tgt := 174) (off := 173) hx hb xd_B_write_1 (by decide +kernel) (by first | (rw [lv_osw h12 (by decide), lv_osw h13 (by decide), lv_osw h14 (by decide), lv_osw h15 (by decide), lv_osw h16 (by decide), lv_osw h17 (by decide), lv_osw h18 (by decide), lv_osw h19 (by decide), lv_osw h20 (by decide)]; rfl) | (simp only [lv_osw h12 (by decide), lv_osw h13 (by decide), lv_osw h14 (by decide), lv_osw h15 (by decide), lv_osw h16 (by decide), lv_osw h17 (by decide), lv_osw h18 (by decide), lv_osw h19 (by decide), lv_osw h20 (by decide)]; rfl)) rfl ?_
                    exact hj11 H locs ls b (xif h12 (xif h13 (xif h14 (xif h15 (xif h16 (xif h17 (xif h18 (xif h19 (xif h20 rfl))))))))) hl hP hD hS

noncomputable def xf_B_enter (b : XB) (p0 : Int32) (p1 : Int32) (p2 : Int32) (p3 : Int32) : Int32 × XB :=
  xlt (if ((xgB_status b) &&& (2 : Int32)) = 0 then (0) else (32) : Int32) fun v2 =>
  xlt (if p3 = 0 then (0) else (256) : Int32) fun v5 =>
  xlt (if 0 ≤ p1 then (0) else (if ((xgB_tvec b) &&& (1 : Int32)) = 0 then (0) else (1)) : Int32) fun v9 =>
  xlt (if v9 = 0 then (0) else (((4 : Int32) * (p1 &&& (2147483647 : Int32)))) : Int32) fun v12 =>
  ((((xgB_tvec b) &&& (-4 : Int32)) + v12), (xsB_status (xsB_tval (xsB_cause (xsB_epc b p0) p1) p2) ((((xgB_status b) &&& (-291 : Int32)) ||| v2) ||| v5)))
set_option maxHeartbeats 4000000 in
set_option maxRecDepth 100000 in
theorem c_B_enter (l : Launch) (D : va_G) (tys : List (ClassId × FieldType)) (z : (Nat → Nat) × (Nat → Nat)) (sz : Nat) (h : Nat) (b : XB) (p0 : Int32) (p1 : Int32) (p2 : Int32) (p3 : Int32) : Met l xy_B_enter (xk_B_enter :: lw_g) { frames := 0, cells := 0, slots := 0, locals := 0 } (va_Pc [.ref h, .int p0, .int p1, .int p2, .int p3] (xB D tys z sz [(h, xcB b)])) (va_Qi (fun r (q : XB) => (r, q) = xf_B_enter b p0 p1 p2 p3) (fun q t => xQ D tys [(h, xcB q)] (va_A [(h, xcB b)] sz) t) (va_A [(h, xcB b)] sz)) 0 0 (va_A [(h, xcB b)] sz) := by
  refine xopen_i (wf := fun q : XB => [(h, xcB q)]) (lv := [(0, .ref h), (1, .int p0), (2, .int p1), (3, .int p2), (4, .int p3)]) (by decide) rfl (Nat.le_of_ble_eq_true rfl) ?_
  intro p e s m args below meth c Q ls A H locs hx hb hml htg hown hin hK hP hD hE hS hA hl hret
  refine lv_aload_n hx hb xd_B_enter_0 rfl (lv_at hl 0 rfl) ?_
  refine lv_iload_n hx hb xd_B_enter_1 rfl (lv_at hl 1 rfl) ?_
  refine va_put (D := D) (ci := 2) (v := .int p0) (ty := .int) (C := xR_B) (T := xF_B) (N := 9) hx hb htg xin_B xT_B xO_B xN_B hown hK hP hD hS 0 rfl rfl 4 (by decide) (htg _ xw_73) (fun _ h9 => h9) rfl (by decide +kernel) rfl rfl (Nat.le_of_ble_eq_true rfl) xd_B_enter_2 (fun H locs hP hD hS => ?_)
  have hP : va_P D xCl [(h, xcB (xsB_epc b p0))] H := hP
  have hD : va_D A [(h, xcB (xsB_epc b p0))] := hD
  refine lv_aload_n hx hb xd_B_enter_5 rfl (lv_at hl 0 rfl) ?_
  refine lv_iload_n hx hb xd_B_enter_6 rfl (lv_at hl 2 rfl) ?_
  refine va_put (D := D) (ci := 2) (v := .int p1) (ty := .int) (C := xR_B) (T := xF_B) (N := 9) hx hb htg xin_B xT_B xO_B xN_B hown hK hP hD hS 0 rfl rfl 5 (by decide) (htg _ xw_75) (fun _ h9 => h9) rfl (by decide +kernel) rfl rfl (Nat.le_of_ble_eq_true rfl) xd_B_enter_7 (fun H locs hP hD hS => ?_)
  have hP : va_P D xCl [(h, xcB (xsB_cause (xsB_epc b p0) p1))] H := hP
  have hD : va_D A [(h, xcB (xsB_cause (xsB_epc b p0) p1))] := hD
  refine lv_aload_n hx hb xd_B_enter_10 rfl (lv_at hl 0 rfl) ?_
  refine lv_iload_n hx hb xd_B_enter_11 rfl (lv_at hl 3 rfl) ?_
  refine va_put (D := D) (ci := 2) (v := .int p2) (ty := .int) (C := xR_B) (T := xF_B) (N := 9) hx hb htg xin_B xT_B xO_B xN_B hown hK hP hD hS 0 rfl rfl 6 (by decide) (htg _ xw_76) (fun _ h9 => h9) rfl (by decide +kernel) rfl rfl (Nat.le_of_ble_eq_true rfl) xd_B_enter_12 (fun H locs hP hD hS => ?_)
  have hP : va_P D xCl [(h, xcB (xsB_tval (xsB_cause (xsB_epc b p0) p1) p2))] H := hP
  have hD : va_D A [(h, xcB (xsB_tval (xsB_cause (xsB_epc b p0) p1) p2))] := hD
  refine lv_aload_n hx hb xd_B_enter_15 rfl (lv_at hl 0 rfl) ?_
  refine va_get (D := D) (ci := 2) (v := .int ((xgB_status b))) (C := xR_B) (T := xF_B) (N := 9) hx hb htg xin_B hown hK hP 0 rfl rfl 0 (by decide) (htg _ xw_66) (fun _ h9 => h9) rfl xd_B_enter_16 ?_
  refine lv_iconst (v := 2) hx hb xd_B_enter_19 (by decide) ?_
  refine lv_iand hx hb xd_B_enter_20 ?_
  have hj3 : ∀ (H : Heap) (locs : List Loc) (ls : Array Slot) (v2 : Int32), v2 = (if ((xgB_status b) &&& (2 : Int32)) = 0 then (0) else (32)) → lv_has ls 8 [(0, .ref h), (1, .int p0), (2, .int p1), (3, .int p2), (4, .int p3)] → va_P D xCl [(h, xcB (xsB_tval (xsB_cause (xsB_epc b p0) p1) p2))] H → va_D A [(h, xcB (xsB_tval (xsB_cause (xsB_epc b p0) p1) p2))] → va_S A s.heap H locs → W p l e { frames := 0, cells := 0, slots := 0, locals := 0 } s m args below meth c H locs (0) (0) Q (F0 m 30 ls [.int v2]) := by
    intro H locs ls v2 hv2 hl hP hD hS
    refine lv_istore (lv' := [(5, .int v2), (0, .ref h), (1, .int p0), (2, .int p1), (3, .int p2), (4, .int p3)]) hx hb xd_B_enter_30 hl (by decide) rfl (fun ls hl => ?_)
    refine lv_iload hx hb xd_B_enter_32 (lv_at hl 5 rfl) ?_
    have hj6 : ∀ (H : Heap) (locs : List Loc) (ls : Array Slot) (v5 : Int32), v5 = (if p3 = 0 then (0) else (256)) → lv_has ls 8 [(5, .int v2), (0, .ref h), (1, .int p0), (2, .int p1), (3, .int p2), (4, .int p3)] → va_P D xCl [(h, xcB (xsB_tval (xsB_cause (xsB_epc b p0) p1) p2))] H → va_D A [(h, xcB (xsB_tval (xsB_cause (xsB_epc b p0) p1) p2))] → va_S A s.heap H locs → W p l e { frames := 0, cells := 0, slots := 0, locals := 0 } s m args below meth c H locs (0) (0) Q (F0 m 44 ls [.int v5]) := by
      intro H locs ls v5 hv5 hl hP hD hS
      refine lv_istore (lv' := [(6, .int v5), (5, .int v2), (0, .ref h), (1, .int p0), (2, .int p1), (3, .int p2), (4, .int p3)]) hx hb xd_B_enter_44 hl (by decide) rfl (fun ls hl => ?_)
      refine lv_aload_n hx hb xd_B_enter_46 rfl (lv_at hl 2 rfl) ?_
      refine lv_aload_n hx hb xd_B_enter_47 rfl (lv_at hl 2 rfl) ?_
      refine va_get (D := D) (ci := 2) (v := .int ((xgB_status b))) (C := xR_B) (T := xF_B) (N := 9) hx hb htg xin_B hown hK hP 0 rfl rfl 0 (by decide) (htg _ xw_66) (fun _ h9 => h9) rfl xd_B_enter_48 ?_
      refine lv_sipush (v := (-291)) hx hb xd_B_enter_51 (by decide) ?_
      refine lv_iand hx hb xd_B_enter_54 ?_
      refine lv_iload hx hb xd_B_enter_55 (lv_at hl 1 rfl) ?_
      refine lv_ior hx hb xd_B_enter_57 ?_
      refine lv_iload hx hb xd_B_enter_58 (lv_at hl 0 rfl) ?_
      refine lv_ior hx hb xd_B_enter_60 ?_
      refine va_put (D := D) (ci := 2) (v := .int (((((xgB_status b) &&& (-291 : Int32)) ||| v2) ||| v5))) (ty := .int) (C := xR_B) (T := xF_B) (N := 9) hx hb htg xin_B xT_B xO_B xN_B hown hK hP hD hS 0 rfl rfl 0 (by decide) (htg _ xw_66) (fun _ h9 => h9) rfl (by decide +kernel) rfl rfl (Nat.le_of_ble_eq_true rfl) xd_B_enter_61 (fun H locs hP hD hS => ?_)
      have hP : va_P D xCl [(h, xcB (xsB_status (xsB_tval (xsB_cause (xsB_epc b p0) p1) p2) ((((xgB_status b) &&& (-291 : Int32)) ||| v2) ||| v5)))] H := hP
      have hD : va_D A [(h, xcB (xsB_status (xsB_tval (xsB_cause (xsB_epc b p0) p1) p2) ((((xgB_status b) &&& (-291 : Int32)) ||| v2) ||| v5)))] := hD
      refine lv_iload_n hx hb xd_B_enter_64 rfl (lv_at hl 4 rfl) ?_
      have hj10 : ∀ (H : Heap) (locs : List Loc) (ls : Array Slot) (v9 : Int32), v9 = (if 0 ≤ p1 then (0) else (if ((xgB_tvec b) &&& (1 : Int32)) = 0 then (0) else (1))) → lv_has ls 8 [(6, .int v5), (5, .int v2), (0, .ref h), (1, .int p0), (2, .int p1), (3, .int p2), (4, .int p3)] → va_P D xCl [(h, xcB (xsB_status (xsB_tval (xsB_cause (xsB_epc b p0) p1) p2) ((((xgB_status b) &&& (-291 : Int32)) ||| v2) ||| v5)))] H → va_D A [(h, xcB (xsB_status (xsB_tval (xsB_cause (xsB_epc b p0) p1) p2) ((((xgB_status b) &&& (-291 : Int32)) ||| v2) ||| v5)))] → va_S A s.heap H locs → W p l e { frames := 0, cells := 0, slots := 0, locals := 0 } s m args below meth c H locs (0) (0) Q (F0 m 82 ls [.int v9]) := by
        intro H locs ls v9 hv9 hl hP hD hS
        refine lv_istore (lv' := [(7, .int v9), (6, .int v5), (5, .int v2), (0, .ref h), (1, .int p0), (2, .int p1), (3, .int p2), (4, .int p3)]) hx hb xd_B_enter_82 hl (by decide) rfl (fun ls hl => ?_)
        refine lv_aload_n hx hb xd_B_enter_84 rfl (lv_at hl 3 rfl) ?_
        refine va_get (D := D) (ci := 2) (v := .int ((xgB_tvec b))) (C := xR_B) (T := xF_B) (N := 9) hx hb htg xin_B hown hK hP 0 rfl rfl 2 (by decide) (htg _ xw_71) (fun _ h9 => h9) rfl xd_B_enter_85 ?_
        refine lv_bipush (v := (-4)) hx hb xd_B_enter_88 (by decide) ?_
        refine lv_iand hx hb xd_B_enter_90 ?_
        refine lv_iload hx hb xd_B_enter_91 (lv_at hl 0 rfl) ?_
        have hj13 : ∀ (H : Heap) (locs : List Loc) (ls : Array Slot) (v12 : Int32), v12 = (if v9 = 0 then (0) else (((4 : Int32) * (p1 &&& (2147483647 : Int32))))) → lv_has ls 8 [(7, .int v9), (6, .int v5), (5, .int v2), (0, .ref h), (1, .int p0), (2, .int p1), (3, .int p2), (4, .int p3)] → va_P D xCl [(h, xcB (xsB_status (xsB_tval (xsB_cause (xsB_epc b p0) p1) p2) ((((xgB_status b) &&& (-291 : Int32)) ||| v2) ||| v5)))] H → va_D A [(h, xcB (xsB_status (xsB_tval (xsB_cause (xsB_epc b p0) p1) p2) ((((xgB_status b) &&& (-291 : Int32)) ||| v2) ||| v5)))] → va_S A s.heap H locs → W p l e { frames := 0, cells := 0, slots := 0, locals := 0 } s m args below meth c H locs (0) (0) Q (F0 m 106 ls [.int v12, .int (((xgB_tvec b) &&& (-4 : Int32)))]) := by
          intro H locs ls v12 hv12 hl hP hD hS
          refine lv_iadd hx hb xd_B_enter_106 ?_
          exact hret _ (xsB_status (xsB_tval (xsB_cause (xsB_epc b p0) p1) p2) ((((xgB_status b) &&& (-291 : Int32)) ||| v2) ||| v5)) H locs ls _ (by unfold xf_B_enter; exact (xlt_e hv2 (xlt_e hv5 (xlt_e hv9 (xlt_e hv12 rfl))))) hP hD hS xd_B_enter_107
        refine lv_if_eq (tgt := 105) hx hb xd_B_enter_93 rfl (fun h14 => ?_) (fun h14 => ?_)
        · refine lv_iconst (v := 0) hx hb xd_B_enter_105 (by decide) ?_
          exact hj13 H locs ls (0 : Int32) (xit h14 rfl) hl hP hD hS
        · refine lv_iconst (v := 4) hx hb xd_B_enter_96 (by decide) ?_
          refine lv_iload_n hx hb xd_B_enter_97 rfl (lv_at hl 5 rfl) ?_
          refine lv_ldc (v := 2147483647) hx hb hown (htg _ xw_691) xd_B_enter_98 ?_
          refine lv_iand hx hb xd_B_enter_100 ?_
          refine lv_imul hx hb xd_B_enter_101 ?_
          refine lv_goto (tgt := 106) hx hb xd_B_enter_102 rfl ?_
          exact hj13 H locs ls ((4 : Int32) * (p1 &&& (2147483647 : Int32))) (xif h14 rfl) hl hP hD hS
      refine lv_if_ge (tgt := 81) hx hb xd_B_enter_65 rfl (fun h15 => ?_) (fun h15 => ?_)
      · refine lv_iconst (v := 0) hx hb xd_B_enter_81 (by decide) ?_
        exact hj10 H locs ls (0 : Int32) (xit h15 rfl) hl hP hD hS
      · refine lv_aload_n hx hb xd_B_enter_68 rfl (lv_at hl 2 rfl) ?_
        refine va_get (D := D) (ci := 2) (v := .int ((xgB_tvec b))) (C := xR_B) (T := xF_B) (N := 9) hx hb htg xin_B hown hK hP 0 rfl rfl 2 (by decide) (htg _ xw_71) (fun _ h9 => h9) rfl xd_B_enter_69 ?_
        refine lv_iconst (v := 1) hx hb xd_B_enter_72 (by decide) ?_
        refine lv_iand hx hb xd_B_enter_73 ?_
        refine lv_if_eq (tgt := 81) hx hb xd_B_enter_74 rfl (fun h16 => ?_) (fun h16 => ?_)
        · refine lv_iconst (v := 0) hx hb xd_B_enter_81 (by decide) ?_
          exact hj10 H locs ls (0 : Int32) (xif h15 (xit h16 rfl)) hl hP hD hS
        · refine lv_iconst (v := 1) hx hb xd_B_enter_77 (by decide) ?_
          refine lv_goto (tgt := 82) hx hb xd_B_enter_78 rfl ?_
          exact hj10 H locs ls (1 : Int32) (xif h15 (xif h16 rfl)) hl hP hD hS
    refine lv_if_eq (tgt := 43) hx hb xd_B_enter_34 rfl (fun h17 => ?_) (fun h17 => ?_)
    · refine lv_iconst (v := 0) hx hb xd_B_enter_43 (by decide) ?_
      exact hj6 H locs ls (0 : Int32) (xit h17 rfl) hl hP hD hS
    · refine lv_sipush (v := 256) hx hb xd_B_enter_37 (by decide) ?_
      refine lv_goto (tgt := 44) hx hb xd_B_enter_40 rfl ?_
      exact hj6 H locs ls (256 : Int32) (xif h17 rfl) hl hP hD hS
  refine lv_if_eq (tgt := 29) hx hb xd_B_enter_21 rfl (fun h18 => ?_) (fun h18 => ?_)
  · refine lv_iconst (v := 0) hx hb xd_B_enter_29 (by decide) ?_
    exact hj3 H locs ls (0 : Int32) (xit h18 rfl) hl hP hD hS
  · refine lv_bipush (v := 32) hx hb xd_B_enter_24 (by decide) ?_
    refine lv_goto (tgt := 30) hx hb xd_B_enter_26 rfl ?_
    exact hj3 H locs ls (32 : Int32) (xif h18 rfl) hl hP hD hS

noncomputable def xf_B_leave (b : XB) : Int32 × XB :=
  xlt (if ((xgB_status b) &&& (256 : Int32)) = 0 then (0) else (1) : Int32) fun v2 =>
  xlt (if ((xgB_status b) &&& (32 : Int32)) = 0 then (0) else (2) : Int32) fun v5 =>
  (v2, (xsB_status b ((((xgB_status b) &&& (-259 : Int32)) ||| v5) ||| (32 : Int32))))
set_option maxHeartbeats 4000000 in
set_option maxRecDepth 100000 in
theorem c_B_leave (l : Launch) (D : va_G) (tys : List (ClassId × FieldType)) (z : (Nat → Nat) × (Nat → Nat)) (sz : Nat) (h : Nat) (b : XB) : Met l xy_B_leave (xk_B_leave :: lw_g) { frames := 0, cells := 0, slots := 0, locals := 0 } (va_Pc [.ref h] (xB D tys z sz [(h, xcB b)])) (va_Qi (fun r (q : XB) => (r, q) = xf_B_leave b) (fun q t => xQ D tys [(h, xcB q)] (va_A [(h, xcB b)] sz) t) (va_A [(h, xcB b)] sz)) 0 0 (va_A [(h, xcB b)] sz) := by
  refine xopen_z (wf := fun q : XB => [(h, xcB q)]) (lv := [(0, .ref h)]) (by decide) rfl (Nat.le_of_ble_eq_true rfl) ?_
  intro p e s m args below meth c Q ls A H locs hx hb hml htg hown hin hK hP hD hE hS hA hl hret
  refine lv_aload_n hx hb xd_B_leave_0 rfl (lv_at hl 0 rfl) ?_
  refine va_get (D := D) (ci := 2) (v := .int ((xgB_status b))) (C := xR_B) (T := xF_B) (N := 9) hx hb htg xin_B hown hK hP 0 rfl rfl 0 (by decide) (htg _ xw_66) (fun _ h9 => h9) rfl xd_B_leave_1 ?_
  refine lv_sipush (v := 256) hx hb xd_B_leave_4 (by decide) ?_
  refine lv_iand hx hb xd_B_leave_7 ?_
  have hj3 : ∀ (H : Heap) (locs : List Loc) (ls : Array Slot) (v2 : Int32), v2 = (if ((xgB_status b) &&& (256 : Int32)) = 0 then (0) else (1)) → lv_has ls 3 [(0, .ref h)] → va_P D xCl [(h, xcB b)] H → va_D A [(h, xcB b)] → va_S A s.heap H locs → W p l e { frames := 0, cells := 0, slots := 0, locals := 0 } s m args below meth c H locs (0) (0) Q (F0 m 16 ls [.int v2]) := by
    intro H locs ls v2 hv2 hl hP hD hS
    refine lv_istore_n (lv' := [(1, .int v2), (0, .ref h)]) hx hb xd_B_leave_16 rfl hl (by decide) rfl (fun ls hl => ?_)
    refine lv_aload_n hx hb xd_B_leave_17 rfl (lv_at hl 1 rfl) ?_
    refine va_get (D := D) (ci := 2) (v := .int ((xgB_status b))) (C := xR_B) (T := xF_B) (N := 9) hx hb htg xin_B hown hK hP 0 rfl rfl 0 (by decide) (htg _ xw_66) (fun _ h9 => h9) rfl xd_B_leave_18 ?_
    refine lv_bipush (v := 32) hx hb xd_B_leave_21 (by decide) ?_
    refine lv_iand hx hb xd_B_leave_23 ?_
    have hj6 : ∀ (H : Heap) (locs : List Loc) (ls : Array Slot) (v5 : Int32), v5 = (if ((xgB_status b) &&& (32 : Int32)) = 0 then (0) else (2)) → lv_has ls 3 [(1, .int v2), (0, .ref h)] → va_P D xCl [(h, xcB b)] H → va_D A [(h, xcB b)] → va_S A s.heap H locs → W p l e { frames := 0, cells := 0, slots := 0, locals := 0 } s m args below meth c H locs (0) (0) Q (F0 m 32 ls [.int v5]) := by
      intro H locs ls v5 hv5 hl hP hD hS
      refine lv_istore_n (lv' := [(2, .int v5), (1, .int v2), (0, .ref h)]) hx hb xd_B_leave_32 rfl hl (by decide) rfl (fun ls hl => ?_)
      refine lv_aload_n hx hb xd_B_leave_33 rfl (lv_at hl 2 rfl) ?_
      refine lv_aload_n hx hb xd_B_leave_34 rfl (lv_at hl 2 rfl) ?_
      refine va_get (D := D) (ci := 2) (v := .int ((xgB_status b))) (C := xR_B) (T := xF_B) (N := 9) hx hb htg xin_B hown hK hP 0 rfl rfl 0 (by decide) (htg _ xw_66) (fun _ h9 => h9) rfl xd_B_leave_35 ?_
      refine lv_sipush (v := (-259)) hx hb xd_B_leave_38 (by decide) ?_
      refine lv_iand hx hb xd_B_leave_41 ?_
      refine lv_iload_n hx hb xd_B_leave_42 rfl (lv_at hl 0 rfl) ?_
      refine lv_ior hx hb xd_B_leave_43 ?_
      refine lv_bipush (v := 32) hx hb xd_B_leave_44 (by decide) ?_
      refine lv_ior hx hb xd_B_leave_46 ?_
      refine va_put (D := D) (ci := 2) (v := .int (((((xgB_status b) &&& (-259 : Int32)) ||| v5) ||| (32 : Int32)))) (ty := .int) (C := xR_B) (T := xF_B) (N := 9) hx hb htg xin_B xT_B xO_B xN_B hown hK hP hD hS 0 rfl rfl 0 (by decide) (htg _ xw_66) (fun _ h9 => h9) rfl (by decide +kernel) rfl rfl (Nat.le_of_ble_eq_true rfl) xd_B_leave_47 (fun H locs hP hD hS => ?_)
      have hP : va_P D xCl [(h, xcB (xsB_status b ((((xgB_status b) &&& (-259 : Int32)) ||| v5) ||| (32 : Int32))))] H := hP
      have hD : va_D A [(h, xcB (xsB_status b ((((xgB_status b) &&& (-259 : Int32)) ||| v5) ||| (32 : Int32))))] := hD
      refine lv_iload_n hx hb xd_B_leave_50 rfl (lv_at hl 1 rfl) ?_
      exact hret _ (xsB_status b ((((xgB_status b) &&& (-259 : Int32)) ||| v5) ||| (32 : Int32))) H locs ls _ (xnar (X01_of hv2 (xit_01 (Or.inl rfl) (Or.inr rfl)))) (by unfold xf_B_leave; exact (xlt_e hv2 (xlt_e hv5 rfl))) hP hD hS xd_B_leave_51
    refine lv_if_eq (tgt := 31) hx hb xd_B_leave_24 rfl (fun h7 => ?_) (fun h7 => ?_)
    · refine lv_iconst (v := 0) hx hb xd_B_leave_31 (by decide) ?_
      exact hj6 H locs ls (0 : Int32) (xit h7 rfl) hl hP hD hS
    · refine lv_iconst (v := 2) hx hb xd_B_leave_27 (by decide) ?_
      refine lv_goto (tgt := 32) hx hb xd_B_leave_28 rfl ?_
      exact hj6 H locs ls (2 : Int32) (xif h7 rfl) hl hP hD hS
  refine lv_if_eq (tgt := 15) hx hb xd_B_leave_8 rfl (fun h8 => ?_) (fun h8 => ?_)
  · refine lv_iconst (v := 0) hx hb xd_B_leave_15 (by decide) ?_
    exact hj3 H locs ls (0 : Int32) (xit h8 rfl) hl hP hD hS
  · refine lv_iconst (v := 1) hx hb xd_B_leave_11 (by decide) ?_
    refine lv_goto (tgt := 16) hx hb xd_B_leave_12 rfl ?_
    exact hj3 H locs ls (1 : Int32) (xif h8 rfl) hl hP hD hS
theorem xt01_B_leave (b : XB) : X01p (xf_B_leave b) := by unfold xf_B_leave; exact (xlt_01p (fun v2 hv2 => (xlt_01p (fun v5 hv5 => (X01_of hv2 (xit_01 (Or.inl rfl) (Or.inr rfl)))))))

noncomputable def xf_A_causeOf (i : Nat) (p0 : Int64) : Int32 :=
  if (lg_cmp p0 (-1 : Int64)) = 0 then
    (List.getD [12, 13, 13, 15] i 0)
  else
    xlt (if (lg_cmp p0 (-2 : Int64)) = 0 then ((List.getD [20, 21, 21, 23] i 0)) else ((List.getD [1, 5, 5, 7] i 0)) : Int32) fun v3 =>
    v3
set_option maxHeartbeats 4000000 in
set_option maxRecDepth 100000 in
theorem c_A_causeOf (l : Launch) (D : va_G) (tys : List (ClassId × FieldType)) (z : (Nat → Nat) × (Nat → Nat)) (sz i : Nat) (hac : i < 4) (p0 : Int64) : Met l xy_A_causeOf (xk_A_causeOf :: lw_g) { frames := 0, cells := 0, slots := 0, locals := 0 } (va_Pc [.ref ((z.1 i)), .long p0] (xB D tys z sz [])) (va_Qi (fun r (_ : Unit) => r = xf_A_causeOf i p0) (fun _ t => xQ D tys [] (va_A [] sz) t) (va_A [] sz)) 0 0 (va_A [] sz) := by
  refine xopen_i (lv := [(0, .ref ((z.1 i))), (1, .long p0)]) (by decide) rfl (Nat.le_of_ble_eq_true rfl) ?_
  intro p e s m args below meth c Q ls A H locs hx hb hml htg hown hin hK hP hD hE hS hA hl hret
  refine lv_lload_n hx hb xd_A_causeOf_0 rfl (lv_at hl 1 rfl) ?_
  refine lv_ldc2 (v := (-1)) hx hb hown (htg _ xw_492) xd_A_causeOf_1 ?_
  refine W.lcmp hx hb xd_A_causeOf_4 ?_
  refine lv_if_ne (tgt := 13) hx hb xd_A_causeOf_5 rfl (fun h1 => ?_) (fun h1 => ?_)
  · refine lv_lload_n hx hb xd_A_causeOf_13 rfl (lv_at hl 1 rfl) ?_
    refine lv_ldc2 (v := (-2)) hx hb hown (htg _ xw_493) xd_A_causeOf_14 ?_
    refine W.lcmp hx hb xd_A_causeOf_17 ?_
    have hj4 : ∀ (H : Heap) (locs : List Loc) (ls : Array Slot) (v3 : Int32), v3 = (if (lg_cmp p0 (-2 : Int64)) = 0 then ((List.getD [20, 21, 21, 23] i 0)) else ((List.getD [1, 5, 5, 7] i 0))) → lv_has ls 3 [(0, .ref ((z.1 i))), (1, .long p0)] → va_P D xCl [] H → va_D A [] → va_S A s.heap H locs → W p l e { frames := 0, cells := 0, slots := 0, locals := 0 } s m args below meth c H locs (0) (0) Q (F0 m 32 ls [.int v3]) := by
      intro H locs ls v3 hv3 hl hP hD hS
      exact hret _ () H locs ls _ (by unfold xf_A_causeOf; exact (xif h1 (xlt_e hv3 rfl))) hP hD hS xd_A_causeOf_32
    refine lv_if_ne (tgt := 28) hx hb xd_A_causeOf_18 rfl (fun h5 => ?_) (fun h5 => ?_)
    · refine lv_aload_n hx hb xd_A_causeOf_28 rfl (lv_at hl 0 rfl) ?_
      refine va_getE (q := ("HyperHost$Access", "outside", "I", [1, 5, 5, 7])) hx hb hE.1 hac hS hown (by decide +kernel) (htg _ xw_1086) (fun _ h9 => h9) xd_A_causeOf_29 ?_
      exact hj4 H locs ls (List.getD [1, 5, 5, 7] i 0) (xif h5 rfl) hl hP hD hS
    · refine lv_aload_n hx hb xd_A_causeOf_21 rfl (lv_at hl 0 rfl) ?_
      refine va_getE (q := ("HyperHost$Access", "guestFault", "I", [20, 21, 21, 23])) hx hb hE.1 hac hS hown (by decide +kernel) (htg _ xw_1085) (fun _ h9 => h9) xd_A_causeOf_22 ?_
      refine lv_goto (tgt := 32) hx hb xd_A_causeOf_25 rfl ?_
      exact hj4 H locs ls (List.getD [20, 21, 21, 23] i 0) (xit h5 rfl) hl hP hD hS
  · refine lv_aload_n hx hb xd_A_causeOf_8 rfl (lv_at hl 0 rfl) ?_
    refine va_getE (q := ("HyperHost$Access", "fault", "I", [12, 13, 13, 15])) hx hb hE.1 hac hS hown (by decide +kernel) (htg _ xw_1084) (fun _ h9 => h9) xd_A_causeOf_9 ?_
    exact hret _ () H locs ls _ (by unfold xf_A_causeOf; exact (xit h1 rfl)) hP hD hS xd_A_causeOf_12

noncomputable def xf_A_anyWith (i : Nat) (p0 : Int32) : Int32 :=
  xlt (if i = 1 then (if p0 = 0 then ((List.getD [8, 2, 8, 4] i 0)) else (((List.getD [8, 2, 8, 4] i 0) ||| (8 : Int32)))) else ((List.getD [8, 2, 8, 4] i 0)) : Int32) fun v3 =>
  v3
set_option maxHeartbeats 4000000 in
set_option maxRecDepth 100000 in
theorem c_A_anyWith (l : Launch) (D : va_G) (tys : List (ClassId × FieldType)) (z : (Nat → Nat) × (Nat → Nat)) (sz i : Nat) (hac : i < 4) (p0 : Int32) : Met l xy_A_anyWith (xk_A_anyWith :: lw_g) { frames := 0, cells := 0, slots := 0, locals := 0 } (va_Pc [.ref ((z.1 i)), .int p0] (xB D tys z sz [])) (va_Qi (fun r (_ : Unit) => r = xf_A_anyWith i p0) (fun _ t => xQ D tys [] (va_A [] sz) t) (va_A [] sz)) 0 0 (va_A [] sz) := by
  refine xopen_i (lv := [(0, .ref ((z.1 i))), (1, .int p0)]) (by decide) rfl (Nat.le_of_ble_eq_true rfl) ?_
  intro p e s m args below meth c Q ls A H locs hx hb hml htg hown hin hK hP hD hE hS hA hl hret
  refine lv_aload_n hx hb xd_A_anyWith_0 rfl (lv_at hl 0 rfl) ?_
  refine va_gets hx hb (hE.1.1 1 (by decide)).1 hS hown (htg _ xw_434) (fun _ h9 => h9) xd_A_anyWith_1 ?_
  have hj4 : ∀ (H : Heap) (locs : List Loc) (ls : Array Slot) (v3 : Int32), v3 = (if i = 1 then (if p0 = 0 then ((List.getD [8, 2, 8, 4] i 0)) else (((List.getD [8, 2, 8, 4] i 0) ||| (8 : Int32)))) else ((List.getD [8, 2, 8, 4] i 0))) → lv_has ls 2 [(0, .ref ((z.1 i))), (1, .int p0)] → va_P D xCl [] H → va_D A [] → va_S A s.heap H locs → W p l e { frames := 0, cells := 0, slots := 0, locals := 0 } s m args below meth c H locs (0) (0) Q (F0 m 25 ls [.int v3]) := by
    intro H locs ls v3 hv3 hl hP hD hS
    exact hret _ () H locs ls _ (by unfold xf_A_anyWith; exact (xlt_e hv3 rfl)) hP hD hS xd_A_anyWith_25
  refine lv_acmp_ne (rx := some (z.1 i)) (ry := some (z.1 1)) (tgt := 21) hx hb xd_A_anyWith_4 rfl (fun h50 => ?_) (fun h50 => ?_)
  · have h5 : ¬ i = 1 := fun e9 => h50 (by rw [e9])
    refine lv_aload_n hx hb xd_A_anyWith_21 rfl (lv_at hl 0 rfl) ?_
    refine va_getE (q := ("HyperHost$Access", "any", "I", [8, 2, 8, 4])) hx hb hE.1 hac hS hown (by decide +kernel) (htg _ xw_1082) (fun _ h9 => h9) xd_A_anyWith_22 ?_
    exact hj4 H locs ls (List.getD [8, 2, 8, 4] i 0) (xif h5 rfl) hl hP hD hS
  · have h5 : i = 1 := hE.1.2 i 1 hac (by decide) (Option.some.inj h50)
    refine lv_iload_n hx hb xd_A_anyWith_7 rfl (lv_at hl 1 rfl) ?_
    refine lv_if_eq (tgt := 21) hx hb xd_A_anyWith_8 rfl (fun h6 => ?_) (fun h6 => ?_)
    · refine lv_aload_n hx hb xd_A_anyWith_21 rfl (lv_at hl 0 rfl) ?_
      refine va_getE (q := ("HyperHost$Access", "any", "I", [8, 2, 8, 4])) hx hb hE.1 hac hS hown (by decide +kernel) (htg _ xw_1082) (fun _ h9 => h9) xd_A_anyWith_22 ?_
      exact hj4 H locs ls (List.getD [8, 2, 8, 4] i 0) (xit h5 (xit h6 rfl)) hl hP hD hS
    · refine lv_aload_n hx hb xd_A_anyWith_11 rfl (lv_at hl 0 rfl) ?_
      refine va_getE (q := ("HyperHost$Access", "any", "I", [8, 2, 8, 4])) hx hb hE.1 hac hS hown (by decide +kernel) (htg _ xw_1082) (fun _ h9 => h9) xd_A_anyWith_12 ?_
      refine lv_bipush (v := 8) hx hb xd_A_anyWith_15 (by decide) ?_
      refine lv_ior hx hb xd_A_anyWith_17 ?_
      refine lv_goto (tgt := 25) hx hb xd_A_anyWith_18 rfl ?_
      exact hj4 H locs ls ((List.getD [8, 2, 8, 4] i 0) ||| (8 : Int32)) (xit h5 (xif h6 rfl)) hl hP hD hS
