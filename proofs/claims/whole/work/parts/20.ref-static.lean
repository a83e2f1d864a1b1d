noncomputable def xf_Z_isIn (p0 : Int32) (p1 : Int32) (p2 : Int32) : Int32 :=
  xlt (if p0 < p1 then (0) else (if p2 < p0 then (0) else (1)) : Int32) fun v3 =>
  v3
set_option maxHeartbeats 4000000 in
set_option maxRecDepth 100000 in
theorem c_Z_isIn (l : Launch) (D : va_G) (tys : List (ClassId × FieldType)) (z : (Nat → Nat) × (Nat → Nat)) (sz : Nat) (p0 : Int32) (p1 : Int32) (p2 : Int32) : Met l xy_Z_isIn (xk_Z_isIn :: lw_g) { frames := 0, cells := 0, slots := 0, locals := 0 } (va_Pc [.int p0, .int p1, .int p2] (xB D tys z sz [])) (va_Qi (fun r (_ : Unit) => r = xf_Z_isIn p0 p1 p2) (fun _ t => xQ D tys [] (va_A [] sz) t) (va_A [] sz)) 0 0 (va_A [] sz) := by
  refine xopen_z (lv := [(0, .int p0), (1, .int p1), (2, .int p2)]) (by decide) rfl (Nat.le_of_ble_eq_true rfl) ?_
  intro p e s m args below meth c Q ls A H locs hx hb hml htg hown hin hK hP hD hE hS hA hl hret
  refine lv_iload_n hx hb xd_Z_isIn_0 rfl (lv_at hl 0 rfl) ?_
  refine lv_iload_n hx hb xd_Z_isIn_1 rfl (lv_at hl 1 rfl) ?_
  have hj4 : ∀ (H : Heap) (locs : List Loc) (ls : Array Slot) (v3 : Int32), v3 = (if p0 < p1 then (0) else (if p2 < p0 then (0) else (1))) → lv_has ls 3 [(0, .int p0), (1, .int p1), (2, .int p2)] → va_P D xCl [] H → va_D A [] → va_S A s.heap H locs → W p l e { frames := 0, cells := 0, slots := 0, locals := 0 } s m args below meth c H locs (0) (0) Q (F0 m 15 ls [.int v3]) := by
    intro H locs ls v3 hv3 hl hP hD hS
    exact hret _ () H locs ls _ (xnar (X01_of hv3 (xit_01 (Or.inl rfl) (xit_01 (Or.inl rfl) (Or.inr rfl))))) (by unfold xf_Z_isIn; exact (xlt_e hv3 rfl)) hP hD hS xd_Z_isIn_15
  refine lv_icmp_lt (tgt := 14) hx hb xd_Z_isIn_2 rfl (fun h5 => ?_) (fun h5 => ?_)
  · refine lv_iconst (v := 0) hx hb xd_Z_isIn_14 (by decide) ?_
    exact hj4 H locs ls (0 : Int32) (xit h5 rfl) hl hP hD hS
  · refine lv_iload_n hx hb xd_Z_isIn_5 rfl (lv_at hl 0 rfl) ?_
    refine lv_iload_n hx hb xd_Z_isIn_6 rfl (lv_at hl 2 rfl) ?_
    refine lv_icmp_gt (tgt := 14) hx hb xd_Z_isIn_7 rfl (fun h6 => ?_) (fun h6 => ?_)
    · refine lv_iconst (v := 0) hx hb xd_Z_isIn_14 (by decide) ?_
      exact hj4 H locs ls (0 : Int32) (xif h5 (xit h6 rfl)) hl hP hD hS
    · refine lv_iconst (v := 1) hx hb xd_Z_isIn_10 (by decide) ?_
      refine lv_goto (tgt := 15) hx hb xd_Z_isIn_11 rfl ?_
      exact hj4 H locs ls (1 : Int32) (xif h5 (xif h6 rfl)) hl hP hD hS
theorem xt01_Z_isIn (p0 : Int32) (p1 : Int32) (p2 : Int32) : X01 (xf_Z_isIn p0 p1 p2) := by unfold xf_Z_isIn; exact (xlt_01 (fun v3 hv3 => (X01_of hv3 (xit_01 (Or.inl rfl) (xit_01 (Or.inl rfl) (Or.inr rfl))))))

noncomputable def xf_Z_kept (p0 : Int32) : Int32 :=
  if p0 = 256 then
    786722
  else
    if p0 = 260 then
      546
    else
      if p0 = 261 then
        (-3)
      else
        if p0 = 321 then
          (-4)
        else
          if p0 = 324 then
            2
          else
            if p0 = 384 then
              (-2143289345)
            else
              if p0 = 512 then
                786722
              else
                if p0 = 517 then
                  (-3)
                else
                  if p0 = 577 then
                    (-4)
                  else
                    if p0 = 640 then
                      (-2143289345)
                    else
                      if p0 = 1536 then
                        7340992
                      else
                        if p0 = 1538 then
                          45567
                        else
                          if p0 = 1539 then
                            1092
                          else
                            if p0 = 1540 then
                              1092
                            else
                              if p0 = 1605 then
                                1092
                              else
                                if p0 = 1664 then
                                  (-2143289348)
                                else
                                  (-1)
set_option maxHeartbeats 4000000 in
set_option maxRecDepth 100000 in
theorem c_Z_kept (l : Launch) (D : va_G) (tys : List (ClassId × FieldType)) (z : (Nat → Nat) × (Nat → Nat)) (sz : Nat) (p0 : Int32) : Met l xy_Z_kept (xk_Z_kept :: lw_g) { frames := 0, cells := 0, slots := 0, locals := 0 } (va_Pc [.int p0] (xB D tys z sz [])) (va_Qi (fun r (_ : Unit) => r = xf_Z_kept p0) (fun _ t => xQ D tys [] (va_A [] sz) t) (va_A [] sz)) 0 0 (va_A [] sz) := by
  refine xopen_i (lv := [(0, .int p0)]) (by decide) rfl (Nat.le_of_ble_eq_true rfl) ?_
  intro p e s m args below meth c Q ls A H locs hx hb hml htg hown hin hK hP hD hE hS hA hl hret
  refine lv_iload_n hx hb xd_Z_kept_0 rfl (lv_at hl 0 rfl) ?_
  refine (Decidable.em (p0 = 256)).elim (fun h1 => ?_) (fun h1 => ?_)
  · refine lv_lookup (tgt := 140) (off := 139) hx hb xd_Z_kept_1 (by decide +kernel) (by rw [h1]; decide +kernel) rfl ?_
    refine lv_ldc (v := 786722) hx hb hown (htg _ xw_874) xd_Z_kept_140 ?_
    exact hret _ () H locs ls _ (by unfold xf_Z_kept; exact (xit h1 rfl)) hP hD hS xd_Z_kept_142
  · refine (Decidable.em (p0 = 260)).elim (fun h2 => ?_) (fun h2 => ?_)
    · refine lv_lookup (tgt := 143) (off := 142) hx hb xd_Z_kept_1 (by decide +kernel) (by rw [h2]; decide +kernel) rfl ?_
      refine lv_sipush (v := 546) hx hb xd_Z_kept_143 (by decide) ?_
      exact hret _ () H locs ls _ (by unfold xf_Z_kept; exact (xif h1 (xit h2 rfl))) hP hD hS xd_Z_kept_146
    · refine (Decidable.em (p0 = 261)).elim (fun h3 => ?_) (fun h3 => ?_)
      · refine lv_lookup (tgt := 147) (off := 146) hx hb xd_Z_kept_1 (by decide +kernel) (by rw [h3]; decide +kernel) rfl ?_
        refine lv_bipush (v := (-3)) hx hb xd_Z_kept_147 (by decide) ?_
        exact hret _ () H locs ls _ (by unfold xf_Z_kept; exact (xif h1 (xif h2 (xit h3 rfl)))) hP hD hS xd_Z_kept_149
      · refine (Decidable.em (p0 = 321)).elim (fun h4 => ?_) (fun h4 => ?_)
        · refine lv_lookup (tgt := 150) (off := 149) hx hb xd_Z_kept_1 (by decide +kernel) (by rw [h4]; decide +kernel) rfl ?_
          refine lv_bipush (v := (-4)) hx hb xd_Z_kept_150 (by decide) ?_
          exact hret _ () H locs ls _ (by unfold xf_Z_kept; exact (xif h1 (xif h2 (xif h3 (xit h4 rfl))))) hP hD hS xd_Z_kept_152
        · refine (Decidable.em (p0 = 324)).elim (fun h5 => ?_) (fun h5 => ?_)
          · refine lv_lookup (tgt := 153) (off := 152) hx hb xd_Z_kept_1 (by decide +kernel) (by rw [h5]; decide +kernel) rfl ?_
            refine lv_iconst (v := 2) hx hb xd_Z_kept_153 (by decide) ?_
            exact hret _ () H locs ls _ (by unfold xf_Z_kept; exact (xif h1 (xif h2 (xif h3 (xif h4 (xit h5 rfl)))))) hP hD hS xd_Z_kept_154
          · refine (Decidable.em (p0 = 384)).elim (fun h6 => ?_) (fun h6 => ?_)
            · refine lv_lookup (tgt := 155) (off := 154) hx hb xd_Z_kept_1 (by decide +kernel) (by rw [h6]; decide +kernel) rfl ?_
              refine lv_ldc (v := (-2143289345)) hx hb hown (htg _ xw_875) xd_Z_kept_155 ?_
              exact hret _ () H locs ls _ (by unfold xf_Z_kept; exact (xif h1 (xif h2 (xif h3 (xif h4 (xif h5 (xit h6 rfl))))))) hP hD hS xd_Z_kept_157
            · refine (Decidable.em (p0 = 512)).elim (fun h7 => ?_) (fun h7 => ?_)
              · refine lv_lookup (tgt := 140) (off := 139) hx hb xd_Z_kept_1 (by decide +kernel) (by rw [h7]; decide +kernel) rfl ?_
                refine lv_ldc (v := 786722) hx hb hown (htg _ xw_874) xd_Z_kept_140 ?_
                exact hret _ () H locs ls _ (by unfold xf_Z_kept; exact (xif h1 (xif h2 (xif h3 (xif h4 (xif h5 (xif h6 (xit h7 rfl)))))))) hP hD hS xd_Z_kept_142
              · refine (Decidable.em (p0 = 517)).elim (fun h8 => ?_) (fun h8 => ?_)
                · refine lv_lookup (tgt := 147) (off := 146) hx hb xd_Z_kept_1 (by decide +kernel) (by rw [h8]; decide +kernel) rfl ?_
                  refine lv_bipush (v := (-3)) hx hb xd_Z_kept_147 (by decide) ?_
                  exact hret _ () H locs ls _ (by unfold xf_Z_kept; exact (xif h1 (xif h2 (xif h3 (xif h4 (xif h5 (xif h6 (xif h7 (xit h8 rfl))))))))) hP hD hS xd_Z_kept_149
                · refine (Decidable.em (p0 = 577)).elim (fun h9 => ?_) (fun h9 => ?_)
                  · refine lv_lookup (tgt := 150) (off := 149) hx hb xd_Z_kept_1 (by decide +kernel) (by rw [h9]; decide +kernel) rfl ?_
                    refine lv_bipush (v := (-4)) hx hb xd_Z_kept_150 (by decide) ?_
                    exact hret _ () H locs ls _ (by unfold xf_Z_kept; exact (xif h1 (xif h2 (xif h3 (xif h4 (xif h5 (xif h6 (xif h7 (xif h8 (xit h9 rfl)))))))))) hP hD hS xd_Z_kept_152
                  · refine (Decidable.em (p0 = 640)).elim (fun h10 => ?_) (fun h10 => ?_)
                    · refine lv_lookup (tgt := 155) (off := 154) hx hb xd_Z_kept_1 (by decide +kernel) (by rw [h10]; decide +kernel) rfl ?_
                      refine lv_ldc (v := (-2143289345)) hx hb hown (htg _ xw_875) xd_Z_kept_155 ?_
                      exact hret _ () H locs ls _ (by unfold xf_Z_kept; exact (xif h1 (xif h2 (xif h3 (xif h4 (xif h5 (xif h6 (xif h7 (xif h8 (xif h9 (xit h10 rfl))))))))))) hP hD hS xd_Z_kept_157
                    · refine (Decidable.em (p0 = 1536)).elim (fun h11 => ?_) (fun h11 => ?_)
                      · refine lv_lookup (tgt := 158) (off := 157) hx hb xd_Z_kept_1 (by decide +kernel) (by rw [h11]; decide +kernel) rfl ?_
                        refine lv_ldc (v := 7340992) hx hb hown (htg _ xw_876) xd_Z_kept_158 ?_
                        exact hret _ () H locs ls _ (by unfold xf_Z_kept; exact (xif h1 (xif h2 (xif h3 (xif h4 (xif h5 (xif h6 (xif h7 (xif h8 (xif h9 (xif h10 (xit h11 rfl)))))))))))) hP hD hS xd_Z_kept_160
                      · refine (Decidable.em (p0 = 1538)).elim (fun h12 => ?_) (fun h12 => ?_)
                        · refine lv_lookup (tgt := 161) (off := 160) hx hb xd_Z_kept_1 (by decide +kernel) (by rw [h12]; decide +kernel) rfl ?_
                          refine lv_ldc (v := 45567) hx hb hown (htg _ xw_877) xd_Z_kept_161 ?_
                          exact hret _ () H locs ls _ (by unfold xf_Z_kept; exact (xif h1 (xif h2 (xif h3 (xif h4 (xif h5 (xif h6 (xif h7 (xif h8 (xif h9 (xif h10 (xif h11 (xit h12 rfl))))))))))))) hP hD hS xd_Z_kept_163
                        · refine (Decidable.em (p0 = 1539)).elim (fun h13 => ?_) (fun h13 => ?_)
                          · refine lv_lookup (tgt := 164) (off := 163) hx hb xd_Z_kept_1 (by decide +kernel) (by rw [h13]; decide +kernel) rfl ?_
                            refine lv_sipush (v := 1092) hx hb xd_Z_kept_164 (by decide) ?_
                            exact hret _ () H locs ls _ (by unfold xf_Z_kept; exact (xif h1 (xif h2 (xif h3 (xif h4 (xif h5 (xif h6 (xif h7 (xif h8 (xif h9 (xif h10 (xif h11 (xif h12 (xit h13 rfl)))))))))))))) hP hD hS xd_Z_kept_167
                          · refine (Decidable.em (p0 = 1540)).elim (fun h14 => ?_) (fun h14 => ?_)
                            · refine lv_lookup (tgt := 164) (off := 163) hx hb xd_Z_kept_1 (by decide +kernel) (by rw [h14]; decide +kernel) rfl ?_
                              refine lv_sipush (v := 1092) hx hb xd_Z_kept_164 (by decide) ?_
                              exact hret _ () H locs ls _ (by unfold xf_Z_kept; exact (xif h1 (xif h2 (xif h3 (xif h4 (xif h5 (xif h6 (xif h7 (xif h8 (xif h9 (xif h10 (xif h11 (xif h12 (xif h13 (xit h14 rfl))))))))))))))) hP hD hS xd_Z_kept_167
                            · refine (Decidable.em (p0 = 1605)).elim (fun h15 => ?_) (fun h15 => ?_)
                              · refine lv_lookup (tgt := 164) (off := 163) hx hb xd_Z_kept_1 (by decide +kernel) (by rw [h15]; decide +kernel) rfl ?_
                                refine lv_sipush (v := 1092) hx hb xd_Z_kept_164 (by decide) ?_
                                exact hret _ () H locs ls _ (by unfold xf_Z_kept; exact (xif h1 (xif h2 (xif h3 (xif h4 (xif h5 (xif h6 (xif h7 (xif h8 (xif h9 (xif h10 (xif h11 (xif h12 (xif h13 (xif h14 (xit h15 rfl)))))))))))))))) hP hD hS xd_Z_kept_167
                              · refine (Decidable.em (p0 = 1664)).elim (fun h16 => ?_) (fun h16 => ?_)
                                · refine lv_lookup (tgt := 168) (off := 167) hx hb xd_Z_kept_1 (by decide +kernel) (by rw [h16]; decide +kernel) rfl ?_
                                  refine lv_ldc (v := (-2143289348)) hx hb hown (htg _ xw_878) xd_Z_kept_168 ?_
                                  exact hret _ () H locs ls _ (by unfold xf_Z_kept; exact (xif h1 (xif h2 (xif h3 (xif h4 (xif h5 (xif h6 (xif h7 (xif h8 (xif h9 (xif h10 (xif h11 (xif h12 (xif h13 (xif h14 (xif h15 (xit h16 rfl))))))))))))))))) hP hD hS xd_Z_kept_170
                                · refine lv_lookup (tgt := 171) (off := 170) hx hb xd_Z_kept_1 (by decide +kernel) (by first | (rw [lv_osw h1 (by decide), lv_osw h2 (by decide), lv_osw h3 (by decide), lv_osw h4 (by decide), lv_osw h5 (by decide), lv_osw h6 (by decide), lv_osw h7 (by decide), lv_osw h8 (by decide), lv_osw h9 (by decide), lv_osw h10 (by decide), lv_osw h11 (by decide), lv_osw h12 (by decide), lv_osw h13 (by decide), lv_osw h14 (by decide), lv_osw h15 (by decide), lv_osw h16 (by decide)]; rfl) | (simp only [lv_osw h1 (by decide), lv_osw h2 (by decide), lv_osw h3 (by decide), lv_osw h4 (by decide), lv_osw h5 (by decide), lv_osw h6 (by decide), lv_osw h7 (by decide), lv_osw h8 (by decide), lv_osw h9 (by decide), lv_osw h10 (by decide), lv_osw h11 (by decide), lv_osw h12 (by decide), lv_osw h13 (by decide), lv_osw h14 (by decide), lv_osw h15 (by decide), lv_osw h16 (by decide)]; rfl)) rfl ?_
                                  refine lv_iconst (v := (-1)) hx hb xd_Z_kept_171 (by decide) ?_
                                  exact hret _ () H locs ls _ (by unfold xf_Z_kept; exact (xif h1 (xif h2 (xif h3 (xif h4 (xif h5 (xif h6 (xif h7 (xif h8 (xif h9 (xif h10 (xif h11 (xif h12 (xif h13 (xif h14 (xif h15 (xif h16 rfl))))))))))))))))) hP hD hS xd_Z_kept_172

noncomputable def xf_Z_signed (p0 : Int32) (p1 : Int32) : Int32 :=
  ((p0 <<< (((32 : Int32) - p1) &&& 31)) >>> (((32 : Int32) - p1) &&& 31))
set_option maxHeartbeats 4000000 in
set_option maxRecDepth 100000 in
theorem c_Z_signed (l : Launch) (D : va_G) (tys : List (ClassId × FieldType)) (z : (Nat → Nat) × (Nat → Nat)) (sz : Nat) (p0 : Int32) (p1 : Int32) : Met l xy_Z_signed (xk_Z_signed :: lw_g) { frames := 0, cells := 0, slots := 0, locals := 0 } (va_Pc [.int p0, .int p1] (xB D tys z sz [])) (va_Qi (fun r (_ : Unit) => r = xf_Z_signed p0 p1) (fun _ t => xQ D tys [] (va_A [] sz) t) (va_A [] sz)) 0 0 (va_A [] sz) := by
  refine xopen_i (lv := [(0, .int p0), (1, .int p1)]) (by decide) rfl (Nat.le_of_ble_eq_true rfl) ?_
  intro p e s m args below meth c Q ls A H locs hx hb hml htg hown hin hK hP hD hE hS hA hl hret
  refine lv_bipush (v := 32) hx hb xd_Z_signed_0 (by decide) ?_
  refine lv_iload_n hx hb xd_Z_signed_2 rfl (lv_at hl 1 rfl) ?_
  refine lv_isub hx hb xd_Z_signed_3 ?_
  refine lv_istore_n (lv' := [(2, .int (((32 : Int32) - p1))), (0, .int p0), (1, .int p1)]) hx hb xd_Z_signed_4 rfl hl (by decide) rfl (fun ls hl => ?_)
  refine lv_iload_n hx hb xd_Z_signed_5 rfl (lv_at hl 1 rfl) ?_
  refine lv_iload_n hx hb xd_Z_signed_6 rfl (lv_at hl 0 rfl) ?_
  refine lv_ishl hx hb xd_Z_signed_7 ?_
  refine lv_iload_n hx hb xd_Z_signed_8 rfl (lv_at hl 0 rfl) ?_
  refine lv_ishr hx hb xd_Z_signed_9 ?_
  exact hret _ () H locs ls _ (by unfold xf_Z_signed; exact rfl) hP hD hS xd_Z_signed_10

noncomputable def xf_Z_jump (p0 : Int32) : Int32 :=
  xlt (xf_Z_signed ((((((p0 >>> ((31 : Int32) &&& 31)) &&& (1 : Int32)) <<< ((20 : Int32) &&& 31)) ||| (((p0 >>> ((12 : Int32) &&& 31)) &&& (255 : Int32)) <<< ((12 : Int32) &&& 31))) ||| (((p0 >>> ((20 : Int32) &&& 31)) &&& (1 : Int32)) <<< ((11 : Int32) &&& 31))) ||| (((p0 >>> ((21 : Int32) &&& 31)) &&& (1023 : Int32)) <<< ((1 : Int32) &&& 31))) (21 : Int32) : Int32) fun r1 =>
  r1
set_option maxHeartbeats 4000000 in
set_option maxRecDepth 100000 in
theorem c_Z_jump (l : Launch) (D : va_G) (tys : List (ClassId × FieldType)) (z : (Nat → Nat) × (Nat → Nat)) (sz : Nat) (p0 : Int32) : Met l xy_Z_jump (xk_Z_jump :: lw_g) { frames := 1, cells := 0, slots := 0, locals := 22 } (va_Pc [.int p0] (xB D tys z sz [])) (va_Qi (fun r (_ : Unit) => r = xf_Z_jump p0) (fun _ t => xQ D tys [] (va_A [] sz) t) (va_A [] sz)) 0 0 (va_A [] sz) := by
  refine xopen_i (lv := [(0, .int p0)]) (by decide) rfl (Nat.le_of_ble_eq_true rfl) ?_
  intro p e s m args below meth c Q ls A H locs hx hb hml htg hown hin hK hP hD hE hS hA hl hret
  refine lv_iload_n hx hb xd_Z_jump_0 rfl (lv_at hl 0 rfl) ?_
  refine lv_bipush (v := 31) hx hb xd_Z_jump_1 (by decide) ?_
  refine lv_ishr hx hb xd_Z_jump_3 ?_
  refine lv_iconst (v := 1) hx hb xd_Z_jump_4 (by decide) ?_
  refine lv_iand hx hb xd_Z_jump_5 ?_
  refine lv_bipush (v := 20) hx hb xd_Z_jump_6 (by decide) ?_
  refine lv_ishl hx hb xd_Z_jump_8 ?_
  refine lv_iload_n hx hb xd_Z_jump_9 rfl (lv_at hl 0 rfl) ?_
  refine lv_bipush (v := 12) hx hb xd_Z_jump_10 (by decide) ?_
  refine lv_ishr hx hb xd_Z_jump_12 ?_
  refine lv_sipush (v := 255) hx hb xd_Z_jump_13 (by decide) ?_
  refine lv_iand hx hb xd_Z_jump_16 ?_
  refine lv_bipush (v := 12) hx hb xd_Z_jump_17 (by decide) ?_
  refine lv_ishl hx hb xd_Z_jump_19 ?_
  refine lv_ior hx hb xd_Z_jump_20 ?_
  refine lv_iload_n hx hb xd_Z_jump_21 rfl (lv_at hl 0 rfl) ?_
  refine lv_bipush (v := 20) hx hb xd_Z_jump_22 (by decide) ?_
  refine lv_ishr hx hb xd_Z_jump_24 ?_
  refine lv_iconst (v := 1) hx hb xd_Z_jump_25 (by decide) ?_
  refine lv_iand hx hb xd_Z_jump_26 ?_
  refine lv_bipush (v := 11) hx hb xd_Z_jump_27 (by decide) ?_
  refine lv_ishl hx hb xd_Z_jump_29 ?_
  refine lv_ior hx hb xd_Z_jump_30 ?_
  refine lv_iload_n hx hb xd_Z_jump_31 rfl (lv_at hl 0 rfl) ?_
  refine lv_bipush (v := 21) hx hb xd_Z_jump_32 (by decide) ?_
  refine lv_ishr hx hb xd_Z_jump_34 ?_
  refine lv_sipush (v := 1023) hx hb xd_Z_jump_35 (by decide) ?_
  refine lv_iand hx hb xd_Z_jump_38 ?_
  refine lv_iconst (v := 1) hx hb xd_Z_jump_39 (by decide) ?_
  refine lv_ishl hx hb xd_Z_jump_40 ?_
  refine lv_ior hx hb xd_Z_jump_41 ?_
  refine lv_bipush (v := 21) hx hb xd_Z_jump_42 (by decide) ?_
  refine xc0_i (va_runS (As := [.int (((((((p0 >>> ((31 : Int32) &&& 31)) &&& (1 : Int32)) <<< ((20 : Int32) &&& 31)) ||| (((p0 >>> ((12 : Int32) &&& 31)) &&& (255 : Int32)) <<< ((12 : Int32) &&& 31))) ||| (((p0 >>> ((20 : Int32) &&& 31)) &&& (1 : Int32)) <<< ((11 : Int32) &&& 31))) ||| (((p0 >>> ((21 : Int32) &&& 31)) &&& (1023 : Int32)) <<< ((1 : Int32) &&& 31)))), .int 21]) (rest := []) ⟨hx, hb, hml, hown, htg⟩ (c_Z_signed l D tys z H.size ((((((p0 >>> ((31 : Int32) &&& 31)) &&& (1 : Int32)) <<< ((20 : Int32) &&& 31)) ||| (((p0 >>> ((12 : Int32) &&& 31)) &&& (255 : Int32)) <<< ((12 : Int32) &&& 31))) ||| (((p0 >>> ((20 : Int32) &&& 31)) &&& (1 : Int32)) <<< ((11 : Int32) &&& 31))) ||| (((p0 >>> ((21 : Int32) &&& 31)) &&& (1023 : Int32)) <<< ((1 : Int32) &&& 31))) (21 : Int32)) (va_cwS 2 htg (xg_S0 xkin_Z_signed xw_983 xw_984 xw_9) rfl rfl rfl (by decide +kernel) ⟨Nat.le_of_ble_eq_true rfl, Nat.le_of_ble_eq_true rfl⟩) ⟨xB_blind, fun U hU hW => xB_mk va_P0 hK va_D0 hE hS (xsub0 hA hS) hU hW⟩ rfl rfl hl.1 rfl (lv_room (Nat.le_of_ble_eq_true rfl)) xd_Z_jump_44 ⟨Nat.le_of_ble_eq_true rfl, Nat.le_of_ble_eq_true rfl⟩) hP hA hS (fun r1 H locs hr1 hP hS => ?_)
  exact hret _ () H locs ls _ (by unfold xf_Z_jump; exact (xlt_e hr1 rfl)) hP hD hS xd_Z_jump_47

noncomputable def xf_Z_lessPlain (p0 : Int32) (p1 : Int32) : Int32 :=
  xlt (if 0 ≤ (lg_cmp ((Int32.toInt64 p0) &&& (4294967295 : Int64)) ((Int32.toInt64 p1) &&& (4294967295 : Int64))) then (0) else (1) : Int32) fun v2 =>
  v2
set_option maxHeartbeats 4000000 in
set_option maxRecDepth 100000 in
theorem c_Z_lessPlain (l : Launch) (D : va_G) (tys : List (ClassId × FieldType)) (z : (Nat → Nat) × (Nat → Nat)) (sz : Nat) (p0 : Int32) (p1 : Int32) : Met l xy_Z_lessPlain (xk_Z_lessPlain :: lw_g) { frames := 0, cells := 0, slots := 0, locals := 0 } (va_Pc [.int p0, .int p1] (xB D tys z sz [])) (va_Qi (fun r (_ : Unit) => r = xf_Z_lessPlain p0 p1) (fun _ t => xQ D tys [] (va_A [] sz) t) (va_A [] sz)) 0 0 (va_A [] sz) := by
  refine xopen_z (lv := [(0, .int p0), (1, .int p1)]) (by decide) rfl (Nat.le_of_ble_eq_true rfl) ?_
  intro p e s m args below meth c Q ls A H locs hx hb hml htg hown hin hK hP hD hE hS hA hl hret
  refine lv_iload_n hx hb xd_Z_lessPlain_0 rfl (lv_at hl 0 rfl) ?_
  refine lv_i2l (v := (Int32.toInt64 p0)) hx hb xd_Z_lessPlain_1 rfl ?_
  refine lv_ldc2 (v := 4294967295) hx hb hown (htg _ xw_887) xd_Z_lessPlain_2 ?_
  refine lv_land hx hb xd_Z_lessPlain_5 ?_
  refine lv_iload_n hx hb xd_Z_lessPlain_6 rfl (lv_at hl 1 rfl) ?_
  refine lv_i2l (v := (Int32.toInt64 p1)) hx hb xd_Z_lessPlain_7 rfl ?_
  refine lv_ldc2 (v := 4294967295) hx hb hown (htg _ xw_887) xd_Z_lessPlain_8 ?_
  refine lv_land hx hb xd_Z_lessPlain_11 ?_
  refine W.lcmp hx hb xd_Z_lessPlain_12 ?_
  have hj3 : ∀ (H : Heap) (locs : List Loc) (ls : Array Slot) (v2 : Int32), v2 = (if 0 ≤ (lg_cmp ((Int32.toInt64 p0) &&& (4294967295 : Int64)) ((Int32.toInt64 p1) &&& (4294967295 : Int64))) then (0) else (1)) → lv_has ls 2 [(0, .int p0), (1, .int p1)] → va_P D xCl [] H → va_D A [] → va_S A s.heap H locs → W p l e { frames := 0, cells := 0, slots := 0, locals := 0 } s m args below meth c H locs (0) (0) Q (F0 m 21 ls [.int v2]) := by
    intro H locs ls v2 hv2 hl hP hD hS
    exact hret _ () H locs ls _ (xnar (X01_of hv2 (xit_01 (Or.inl rfl) (Or.inr rfl)))) (by unfold xf_Z_lessPlain; exact (xlt_e hv2 rfl)) hP hD hS xd_Z_lessPlain_21
  refine lv_if_ge (tgt := 20) hx hb xd_Z_lessPlain_13 rfl (fun h4 => ?_) (fun h4 => ?_)
  · refine lv_iconst (v := 0) hx hb xd_Z_lessPlain_20 (by decide) ?_
    exact hj3 H locs ls (0 : Int32) (xit h4 rfl) hl hP hD hS
  · refine lv_iconst (v := 1) hx hb xd_Z_lessPlain_16 (by decide) ?_
    refine lv_goto (tgt := 21) hx hb xd_Z_lessPlain_17 rfl ?_
    exact hj3 H locs ls (1 : Int32) (xif h4 rfl) hl hP hD hS
theorem xt01_Z_lessPlain (p0 : Int32) (p1 : Int32) : X01 (xf_Z_lessPlain p0 p1) := by unfold xf_Z_lessPlain; exact (xlt_01 (fun v2 hv2 => (X01_of hv2 (xit_01 (Or.inl rfl) (Or.inr rfl)))))

noncomputable def xf_Z_product (p0 : Int32) (p1 : Int32) (p2 : Int32) : Int32 :=
  if p0 = 0 then
    (Int64.toInt32 ((Int32.toInt64 p1) * (Int32.toInt64 p2)))
  else
    if p0 = 1 then
      (Int64.toInt32 (((Int32.toInt64 p1) * (Int32.toInt64 p2)) >>> (Int32.toInt64 (32 : Int32) &&& 63)))
    else
      if p0 = 2 then
        (Int64.toInt32 (((Int32.toInt64 p1) * ((Int32.toInt64 p2) &&& (4294967295 : Int64))) >>> (Int32.toInt64 (32 : Int32) &&& 63)))
      else
        if p0 = 3 then
          (Int64.toInt32 (xul (((Int32.toInt64 p1) &&& (4294967295 : Int64)) * ((Int32.toInt64 p2) &&& (4294967295 : Int64))) (32 : Int32)))
        else
          if p0 = 4 then
            xlt (if p2 = 0 then ((-1)) else ((Int64.toInt32 ((Int32.toInt64 p1) / (Int32.toInt64 p2)))) : Int32) fun v7 =>
            v7
          else
            if p0 = 5 then
              xlt (if p2 = 0 then ((-1)) else ((Int64.toInt32 (((Int32.toInt64 p1) &&& (4294967295 : Int64)) / ((Int32.toInt64 p2) &&& (4294967295 : Int64))))) : Int32) fun v12 =>
              v12
            else
              if p0 = 6 then
                xlt (if p2 = 0 then (p1) else ((Int64.toInt32 ((Int32.toInt64 p1) - (Int32.toInt64 p1) / (Int32.toInt64 p2) * (Int32.toInt64 p2)))) : Int32) fun v17 =>
                v17
              else
                xlt (if p2 = 0 then (p1) else ((Int64.toInt32 (((Int32.toInt64 p1) &&& (4294967295 : Int64)) - ((Int32.toInt64 p1) &&& (4294967295 : Int64)) / ((Int32.toInt64 p2) &&& (4294967295 : Int64)) * ((Int32.toInt64 p2) &&& (4294967295 : Int64))))) : Int32) fun v21 =>
                v21
set_option maxHeartbeats 4000000 in
set_option maxRecDepth 100000 in
theorem c_Z_product (l : Launch) (D : va_G) (tys : List (ClassId × FieldType)) (z : (Nat → Nat) × (Nat → Nat)) (sz : Nat) (p0 : Int32) (p1 : Int32) (p2 : Int32) : Met l xy_Z_product (xk_Z_product :: lw_g) { frames := 0, cells := 0, slots := 0, locals := 0 } (va_Pc [.int p0, .int p1, .int p2] (xB D tys z sz [])) (va_Qi (fun r (_ : Unit) => r = xf_Z_product p0 p1 p2) (fun _ t => xQ D tys [] (va_A [] sz) t) (va_A [] sz)) 0 0 (va_A [] sz) := by
  refine xopen_i (lv := [(0, .int p0), (1, .int p1), (2, .int p2)]) (by decide) rfl (Nat.le_of_ble_eq_true rfl) ?_
  intro p e s m args below meth c Q ls A H locs hx hb hml htg hown hin hK hP hD hE hS hA hl hret
  refine lv_iload_n hx hb xd_Z_product_0 rfl (lv_at hl 1 rfl) ?_
  refine lv_i2l (v := (Int32.toInt64 p1)) hx hb xd_Z_product_1 rfl ?_
  refine lv_lstore_n (lv' := [(3, .long ((Int32.toInt64 p1))), (0, .int p0), (1, .int p1), (2, .int p2)]) hx hb xd_Z_product_2 rfl hl (by decide) rfl (fun ls hl => ?_)
  refine lv_iload_n hx hb xd_Z_product_3 rfl (lv_at hl 3 rfl) ?_
  refine lv_i2l (v := (Int32.toInt64 p2)) hx hb xd_Z_product_4 rfl ?_
  refine lv_lstore (lv' := [(5, .long ((Int32.toInt64 p2))), (3, .long ((Int32.toInt64 p1))), (0, .int p0), (1, .int p1), (2, .int p2)]) hx hb xd_Z_product_5 hl (by decide) rfl (fun ls hl => ?_)
  refine lv_iload_n hx hb xd_Z_product_7 rfl (lv_at hl 3 rfl) ?_
  refine lv_i2l (v := (Int32.toInt64 p1)) hx hb xd_Z_product_8 rfl ?_
  refine lv_ldc2 (v := 4294967295) hx hb hown (htg _ xw_887) xd_Z_product_9 ?_
  refine lv_land hx hb xd_Z_product_12 ?_
  refine lv_lstore (lv' := [(7, .long (((Int32.toInt64 p1) &&& (4294967295 : Int64)))), (5, .long ((Int32.toInt64 p2))), (3, .long ((Int32.toInt64 p1))), (0, .int p0), (1, .int p1), (2, .int p2)]) hx hb xd_Z_product_13 hl (by decide) rfl (fun ls hl => ?_)
  refine lv_iload_n hx hb xd_Z_product_15 rfl (lv_at hl 5 rfl) ?_
  refine lv_i2l (v := (Int32.toInt64 p2)) hx hb xd_Z_product_16 rfl ?_
  refine lv_ldc2 (v := 4294967295) hx hb hown (htg _ xw_887) xd_Z_product_17 ?_
  refine lv_land hx hb xd_Z_product_20 ?_
  refine lv_lstore (lv' := [(9, .long (((Int32.toInt64 p2) &&& (4294967295 : Int64)))), (7, .long (((Int32.toInt64 p1) &&& (4294967295 : Int64)))), (5, .long ((Int32.toInt64 p2))), (3, .long ((Int32.toInt64 p1))), (0, .int p0), (1, .int p1), (2, .int p2)]) hx hb xd_Z_product_21 hl (by decide) rfl (fun ls hl => ?_)
  refine lv_iload_n hx hb xd_Z_product_23 rfl (lv_at hl 4 rfl) ?_
  refine (Decidable.em (p0 = 0)).elim (fun h1 => ?_) (fun h1 => ?_)
  · refine lv_tableIn (tgt := 68) (off := 44) hx hb xd_Z_product_24 (by rw [h1]; decide) (by rw [h1]; decide) (by rw [h1]; decide +kernel) rfl ?_
    refine lv_lload_n hx hb xd_Z_product_68 rfl (lv_at hl 3 rfl) ?_
    refine lv_lload hx hb xd_Z_product_69 (lv_at hl 2 rfl) ?_
    refine lv_lmul hx hb xd_Z_product_71 ?_
    refine lv_l2i (v := (Int64.toInt32 ((Int32.toInt64 p1) * (Int32.toInt64 p2)))) hx hb xd_Z_product_72 rfl ?_
    exact hret _ () H locs ls _ (by unfold xf_Z_product; exact (xit h1 rfl)) hP hD hS xd_Z_product_73
  · refine (Decidable.em (p0 = 1)).elim (fun h2 => ?_) (fun h2 => ?_)
    · refine lv_tableIn (tgt := 74) (off := 50) hx hb xd_Z_product_24 (by rw [h2]; decide) (by rw [h2]; decide) (by rw [h2]; decide +kernel) rfl ?_
      refine lv_lload_n hx hb xd_Z_product_74 rfl (lv_at hl 3 rfl) ?_
      refine lv_lload hx hb xd_Z_product_75 (lv_at hl 2 rfl) ?_
      refine lv_lmul hx hb xd_Z_product_77 ?_
      refine lv_bipush (v := 32) hx hb xd_Z_product_78 (by decide) ?_
      refine lv_lshr (v := (((Int32.toInt64 p1) * (Int32.toInt64 p2)) >>> (Int32.toInt64 (32 : Int32) &&& 63))) hx hb xd_Z_product_80 rfl ?_
      refine lv_l2i (v := (Int64.toInt32 (((Int32.toInt64 p1) * (Int32.toInt64 p2)) >>> (Int32.toInt64 (32 : Int32) &&& 63)))) hx hb xd_Z_product_81 rfl ?_
      exact hret _ () H locs ls _ (by unfold xf_Z_product; exact (xif h1 (xit h2 rfl))) hP hD hS xd_Z_product_82
    · refine (Decidable.em (p0 = 2)).elim (fun h3 => ?_) (fun h3 => ?_)
      · refine lv_tableIn (tgt := 83) (off := 59) hx hb xd_Z_product_24 (by rw [h3]; decide) (by rw [h3]; decide) (by rw [h3]; decide +kernel) rfl ?_
        refine lv_lload_n hx hb xd_Z_product_83 rfl (lv_at hl 3 rfl) ?_
        refine lv_lload hx hb xd_Z_product_84 (lv_at hl 0 rfl) ?_
        refine lv_lmul hx hb xd_Z_product_86 ?_
        refine lv_bipush (v := 32) hx hb xd_Z_product_87 (by decide) ?_
        refine lv_lshr (v := (((Int32.toInt64 p1) * ((Int32.toInt64 p2) &&& (4294967295 : Int64))) >>> (Int32.toInt64 (32 : Int32) &&& 63))) hx hb xd_Z_product_89 rfl ?_
        refine lv_l2i (v := (Int64.toInt32 (((Int32.toInt64 p1) * ((Int32.toInt64 p2) &&& (4294967295 : Int64))) >>> (Int32.toInt64 (32 : Int32) &&& 63)))) hx hb xd_Z_product_90 rfl ?_
        exact hret _ () H locs ls _ (by unfold xf_Z_product; exact (xif h1 (xif h2 (xit h3 rfl)))) hP hD hS xd_Z_product_91
      · refine (Decidable.em (p0 = 3)).elim (fun h4 => ?_) (fun h4 => ?_)
        · refine lv_tableIn (tgt := 92) (off := 68) hx hb xd_Z_product_24 (by rw [h4]; decide) (by rw [h4]; decide) (by rw [h4]; decide +kernel) rfl ?_
          refine lv_lload hx hb xd_Z_product_92 (lv_at hl 1 rfl) ?_
          refine lv_lload hx hb xd_Z_product_94 (lv_at hl 0 rfl) ?_
          refine lv_lmul hx hb xd_Z_product_96 ?_
          refine lv_bipush (v := 32) hx hb xd_Z_product_97 (by decide) ?_
          refine lv_lushr (v := (xul (((Int32.toInt64 p1) &&& (4294967295 : Int64)) * ((Int32.toInt64 p2) &&& (4294967295 : Int64))) (32 : Int32))) hx hb xd_Z_product_99 rfl ?_
          refine lv_l2i (v := (Int64.toInt32 (xul (((Int32.toInt64 p1) &&& (4294967295 : Int64)) * ((Int32.toInt64 p2) &&& (4294967295 : Int64))) (32 : Int32)))) hx hb xd_Z_product_100 rfl ?_
          exact hret _ () H locs ls _ (by unfold xf_Z_product; exact (xif h1 (xif h2 (xif h3 (xit h4 rfl))))) hP hD hS xd_Z_product_101
        · refine (Decidable.em (p0 = 4)).elim (fun h5 => ?_) (fun h5 => ?_)
          · refine lv_tableIn (tgt := 102) (off := 78) hx hb xd_Z_product_24 (by rw [h5]; decide) (by rw [h5]; decide) (by rw [h5]; decide +kernel) rfl ?_
            refine lv_iload_n hx hb xd_Z_product_102 rfl (lv_at hl 6 rfl) ?_
            have hj8 : ∀ (H : Heap) (locs : List Loc) (ls : Array Slot) (v7 : Int32), v7 = (if p2 = 0 then ((-1)) else ((Int64.toInt32 ((Int32.toInt64 p1) / (Int32.toInt64 p2))))) → lv_has ls 11 [(9, .long (((Int32.toInt64 p2) &&& (4294967295 : Int64)))), (7, .long (((Int32.toInt64 p1) &&& (4294967295 : Int64)))), (5, .long ((Int32.toInt64 p2))), (3, .long ((Int32.toInt64 p1))), (0, .int p0), (1, .int p1), (2, .int p2)] → va_P D xCl [] H → va_D A [] → va_S A s.heap H locs → W p l e { frames := 0, cells := 0, slots := 0, locals := 0 } s m args below meth c H locs (0) (0) Q (F0 m 115 ls [.int v7]) := by
              intro H locs ls v7 hv7 hl hP hD hS
              exact hret _ () H locs ls _ (by unfold xf_Z_product; exact (xif h1 (xif h2 (xif h3 (xif h4 (xit h5 (xlt_e hv7 rfl))))))) hP hD hS xd_Z_product_115
            refine lv_if_ne (tgt := 110) hx hb xd_Z_product_103 rfl (fun h9 => ?_) (fun h9 => ?_)
            · refine lv_lload_n hx hb xd_Z_product_110 rfl (lv_at hl 3 rfl) ?_
              refine lv_lload hx hb xd_Z_product_111 (lv_at hl 2 rfl) ?_
              refine lv_ldiv hx hb xd_Z_product_113 (by first | exact xne_l (by assumption) | exact xne_u (by assumption) | assumption) ?_
              refine lv_l2i (v := (Int64.toInt32 ((Int32.toInt64 p1) / (Int32.toInt64 p2)))) hx hb xd_Z_product_114 rfl ?_
              exact hj8 H locs ls (Int64.toInt32 ((Int32.toInt64 p1) / (Int32.toInt64 p2))) (xif h9 rfl) hl hP hD hS
            · refine lv_iconst (v := (-1)) hx hb xd_Z_product_106 (by decide) ?_
              refine lv_goto (tgt := 115) hx hb xd_Z_product_107 rfl ?_
              exact hj8 H locs ls (-1 : Int32) (xit h9 rfl) hl hP hD hS
          · refine (Decidable.em (p0 = 5)).elim (fun h10 => ?_) (fun h10 => ?_)
            · refine lv_tableIn (tgt := 116) (off := 92) hx hb xd_Z_product_24 (by rw [h10]; decide) (by rw [h10]; decide) (by rw [h10]; decide +kernel) rfl ?_
              refine lv_iload_n hx hb xd_Z_product_116 rfl (lv_at hl 6 rfl) ?_
              have hj13 : ∀ (H : Heap) (locs : List Loc) (ls : Array Slot) (v12 : Int32), v12 = (if p2 = 0 then ((-1)) else ((Int64.toInt32 (((Int32.toInt64 p1) &&& (4294967295 : Int64)) / ((Int32.toInt64 p2) &&& (4294967295 : Int64)))))) → lv_has ls 11 [(9, .long (((Int32.toInt64 p2) &&& (4294967295 : Int64)))), (7, .long (((Int32.toInt64 p1) &&& (4294967295 : Int64)))), (5, .long ((Int32.toInt64 p2))), (3, .long ((Int32.toInt64 p1))), (0, .int p0), (1, .int p1), (2, .int p2)] → va_P D xCl [] H → va_D A [] → va_S A s.heap H locs → W p l e { frames := 0, cells := 0, slots := 0, locals := 0 } s m args below meth c H locs (0) (0) Q (F0 m 130 ls [.int v12]) := by
                intro H locs ls v12 hv12 hl hP hD hS
                exact hret _ () H locs ls _ (by unfold xf_Z_product; exact (xif h1 (xif h2 (xif h3 (xif h4 (xif h5 (xit h10 (xlt_e hv12 rfl)))))))) hP hD hS xd_Z_product_130
              refine lv_if_ne (tgt := 124) hx hb xd_Z_product_117 rfl (fun h14 => ?_) (fun h14 => ?_)
              · refine lv_lload hx hb xd_Z_product_124 (lv_at hl 1 rfl) ?_
                refine lv_lload hx hb xd_Z_product_126 (lv_at hl 0 rfl) ?_
                refine lv_ldiv hx hb xd_Z_product_128 (by first | exact xne_l (by assumption) | exact xne_u (by assumption) | assumption) ?_
                refine lv_l2i (v := (Int64.toInt32 (((Int32.toInt64 p1) &&& (4294967295 : Int64)) / ((Int32.toInt64 p2) &&& (4294967295 : Int64))))) hx hb xd_Z_product_129 rfl ?_
                exact hj13 H locs ls (Int64.toInt32 (((Int32.toInt64 p1) &&& (4294967295 : Int64)) / ((Int32.toInt64 p2) &&& (4294967295 : Int64)))) (xif h14 rfl) hl hP hD hS
              · refine lv_iconst (v := (-1)) hx hb xd_Z_product_120 (by decide) ?_
                refine lv_goto (tgt := 130) hx hb xd_Z_product_121 rfl ?_
                exact hj13 H locs ls (-1 : Int32) (xit h14 rfl) hl hP hD hS
            · refine (Decidable.em (p0 = 6)).elim (fun h15 => ?_) (fun h15 => ?_)
              · refine lv_tableIn (tgt := 131) (off := 107) hx hb xd_Z_product_24 (by rw [h15]; decide) (by rw [h15]; decide) (by rw [h15]; decide +kernel) rfl ?_
                refine lv_iload_n hx hb xd_Z_product_131 rfl (lv_at hl 6 rfl) ?_
                have hj18 : ∀ (H : Heap) (locs : List Loc) (ls : Array Slot) (v17 : Int32), v17 = (if p2 = 0 then (p1) else ((Int64.toInt32 ((Int32.toInt64 p1) - (Int32.toInt64 p1) / (Int32.toInt64 p2) * (Int32.toInt64 p2))))) → lv_has ls 11 [(9, .long (((Int32.toInt64 p2) &&& (4294967295 : Int64)))), (7, .long (((Int32.toInt64 p1) &&& (4294967295 : Int64)))), (5, .long ((Int32.toInt64 p2))), (3, .long ((Int32.toInt64 p1))), (0, .int p0), (1, .int p1), (2, .int p2)] → va_P D xCl [] H → va_D A [] → va_S A s.heap H locs → W p l e { frames := 0, cells := 0, slots := 0, locals := 0 } s m args below meth c H locs (0) (0) Q (F0 m 144 ls [.int v17]) := by
                  intro H locs ls v17 hv17 hl hP hD hS
                  exact hret _ () H locs ls _ (by unfold xf_Z_product; exact (xif h1 (xif h2 (xif h3 (xif h4 (xif h5 (xif h10 (xit h15 (xlt_e hv17 rfl))))))))) hP hD hS xd_Z_product_144
                refine lv_if_ne (tgt := 139) hx hb xd_Z_product_132 rfl (fun h19 => ?_) (fun h19 => ?_)
                · refine lv_lload_n hx hb xd_Z_product_139 rfl (lv_at hl 3 rfl) ?_
                  refine lv_lload hx hb xd_Z_product_140 (lv_at hl 2 rfl) ?_
                  refine lv_lrem hx hb xd_Z_product_142 (by first | exact xne_l (by assumption) | exact xne_u (by assumption) | assumption) ?_
                  refine lv_l2i (v := (Int64.toInt32 ((Int32.toInt64 p1) - (Int32.toInt64 p1) / (Int32.toInt64 p2) * (Int32.toInt64 p2)))) hx hb xd_Z_product_143 rfl ?_
                  exact hj18 H locs ls (Int64.toInt32 ((Int32.toInt64 p1) - (Int32.toInt64 p1) / (Int32.toInt64 p2) * (Int32.toInt64 p2))) (xif h19 rfl) hl hP hD hS
                · refine lv_iload_n hx hb xd_Z_product_135 rfl (lv_at hl 5 rfl) ?_
                  refine lv_goto (tgt := 144) hx hb xd_Z_product_136 rfl ?_
                  exact hj18 H locs ls p1 (xit h19 rfl) hl hP hD hS
              · refine lv_tableOut (tgt := 145) hx hb xd_Z_product_24 (xsw_out [0, 1, 2, 3, 4, 5, 6] (by decide) (by simp only [List.forall_mem_cons, List.not_mem_nil, false_imp_iff, implies_true, and_true]; exact ⟨h1, h2, h3, h4, h5, h10, h15⟩)) rfl ?_
                refine lv_iload_n hx hb xd_Z_product_145 rfl (lv_at hl 6 rfl) ?_
                have hj22 : ∀ (H : Heap) (locs : List Loc) (ls : Array Slot) (v21 : Int32), v21 = (if p2 = 0 then (p1) else ((Int64.toInt32 (((Int32.toInt64 p1) &&& (4294967295 : Int64)) - ((Int32.toInt64 p1) &&& (4294967295 : Int64)) / ((Int32.toInt64 p2) &&& (4294967295 : Int64)) * ((Int32.toInt64 p2) &&& (4294967295 : Int64)))))) → lv_has ls 11 [(9, .long (((Int32.toInt64 p2) &&& (4294967295 : Int64)))), (7, .long (((Int32.toInt64 p1) &&& (4294967295 : Int64)))), (5, .long ((Int32.toInt64 p2))), (3, .long ((Int32.toInt64 p1))), (0, .int p0), (1, .int p1), (2, .int p2)] → va_P D xCl [] H → va_D A [] → va_S A s.heap H locs → W p l e { frames := 0, cells := 0, slots := 0, locals := 0 } s m args below meth c H locs (0) (0) Q (F0 m 159 ls [.int v21]) := by
                  intro H locs ls v21 hv21 hl hP hD hS
                  exact hret _ () H locs ls _ (by unfold xf_Z_product; exact (xif h1 (xif h2 (xif h3 (xif h4 (xif h5 (xif h10 (xif h15 (xlt_e hv21 rfl))))))))) hP hD hS xd_Z_product_159
                refine lv_if_ne (tgt := 153) hx hb xd_Z_product_146 rfl (fun h23 => ?_) (fun h23 => ?_)
                · refine lv_lload hx hb xd_Z_product_153 (lv_at hl 1 rfl) ?_
                  refine lv_lload hx hb xd_Z_product_155 (lv_at hl 0 rfl) ?_
                  refine lv_lrem hx hb xd_Z_product_157 (by first | exact xne_l (by assumption) | exact xne_u (by assumption) | assumption) ?_
                  refine lv_l2i (v := (Int64.toInt32 (((Int32.toInt64 p1) &&& (4294967295 : Int64)) - ((Int32.toInt64 p1) &&& (4294967295 : Int64)) / ((Int32.toInt64 p2) &&& (4294967295 : Int64)) * ((Int32.toInt64 p2) &&& (4294967295 : Int64))))) hx hb xd_Z_product_158 rfl ?_
                  exact hj22 H locs ls (Int64.toInt32 (((Int32.toInt64 p1) &&& (4294967295 : Int64)) - ((Int32.toInt64 p1) &&& (4294967295 : Int64)) / ((Int32.toInt64 p2) &&& (4294967295 : Int64)) * ((Int32.toInt64 p2) &&& (4294967295 : Int64)))) (xif h23 rfl) hl hP hD hS
                · refine lv_iload_n hx hb xd_Z_product_149 rfl (lv_at hl 5 rfl) ?_
                  refine lv_goto (tgt := 159) hx hb xd_Z_product_150 rfl ?_
                  exact hj22 H locs ls p1 (xit h23 rfl) hl hP hD hS

noncomputable def xf_Z_indexOf (p0 : Int32) : Int32 :=
  if 256 = p0 then
    0
  else
    if 260 = p0 then
      1
    else
      if 261 = p0 then
        2
      else
        if 320 = p0 then
          3
        else
          if 321 = p0 then
            4
          else
            if 322 = p0 then
              5
            else
              if 323 = p0 then
                6
              else
                if 324 = p0 then
                  7
                else
                  if 384 = p0 then
                    8
                  else
                    if 512 = p0 then
                      9
                    else
                      if 516 = p0 then
                        10
                      else
                        if 517 = p0 then
                          11
                        else
                          if 576 = p0 then
                            12
                          else
                            if 577 = p0 then
                              13
                            else
                              if 578 = p0 then
                                14
                              else
                                if 579 = p0 then
                                  15
                                else
                                  if 580 = p0 then
                                    16
                                  else
                                    if 640 = p0 then
                                      17
                                    else
                                      if 1536 = p0 then
                                        18
                                      else
                                        if 1538 = p0 then
                                          19
                                        else
                                          if 1539 = p0 then
                                            20
                                          else
                                            if 1540 = p0 then
                                              21
                                            else
                                              if 1603 = p0 then
                                                22
                                              else
                                                if 1604 = p0 then
                                                  23
                                                else
                                                  if 1605 = p0 then
                                                    24
                                                  else
                                                    if 1610 = p0 then
                                                      25
                                                    else
                                                      if 1664 = p0 then
                                                        26
                                                      else
                                                        if 3073 = p0 then
                                                          27
                                                        else
                                                          if 3201 = p0 then
                                                            28
                                                          else
                                                            (-1)
set_option maxHeartbeats 4000000 in
set_option maxRecDepth 100000 in
theorem c_Z_indexOf (l : Launch) (D : va_G) (tys : List (ClassId × FieldType)) (z : (Nat → Nat) × (Nat → Nat)) (sz : Nat) (p0 : Int32) : Met l xy_Z_indexOf (xk_Z_indexOf :: lw_g) { frames := 0, cells := 0, slots := 0, locals := 0 } (va_Pc [.int p0] (xB D tys z sz [])) (va_Qi (fun r (_ : Unit) => r = xf_Z_indexOf p0) (fun _ t => xQ D tys [] (va_A [] sz) t) (va_A [] sz)) 0 0 (va_A [] sz) := by
  refine xopen_i (lv := [(0, .int p0)]) (by decide) rfl (Nat.le_of_ble_eq_true rfl) ?_
  intro p e s m args below meth c Q ls A H locs hx hb hml htg hown hin hK hP hD hE hS hA hl hret
  refine lv_iconst (v := 0) hx hb xd_Z_indexOf_0 (by decide) ?_
  refine lv_istore_n (lv' := [(1, .int 0), (0, .int p0)]) hx hb xd_Z_indexOf_1 rfl hl (by decide) rfl (fun ls hl => ?_)
  refine lv_iload_n hx hb xd_Z_indexOf_2 rfl (lv_at hl 0 rfl) ?_
  refine lv_bipush (v := 29) hx hb xd_Z_indexOf_3 (by decide) ?_
  refine lv_icmp_ge (tgt := 25) hx hb xd_Z_indexOf_5 rfl (fun h => absurd h (by decide)) (fun _ => ?_)
  refine va_gets hx hb hE.2.2.1.1 hS hown (htg _ xw_849) (fun _ h9 => h9) xd_Z_indexOf_8 ?_
  refine lv_iload_n hx hb xd_Z_indexOf_11 rfl (lv_at hl 0 rfl) ?_
  refine va_ti (v := .int 256) hx hb hE.2.2.1.2 hS (vp_in_iff.mpr (by decide)) rfl xd_Z_indexOf_12 ?_
  refine lv_iload_n hx hb xd_Z_indexOf_13 rfl (lv_at hl 1 rfl) ?_
  refine lv_icmp_ne (tgt := 19) hx hb xd_Z_indexOf_14 rfl (fun h1 => ?_) (fun h1 => ?_)
  · refine lv_iinc (k := 0) (v := 1) (lv' := [(1, .int 1), (0, .int p0)]) hx hb xd_Z_indexOf_19 hl rfl (by first | rfl | decide) (by decide) rfl (fun ls hl => ?_)
    refine lv_goto (tgt := 2) hx hb xd_Z_indexOf_22 rfl ?_
    refine lv_iload_n hx hb xd_Z_indexOf_2 rfl (lv_at hl 0 rfl) ?_
    refine lv_bipush (v := 29) hx hb xd_Z_indexOf_3 (by decide) ?_
    refine lv_icmp_ge (tgt := 25) hx hb xd_Z_indexOf_5 rfl (fun h => absurd h (by decide)) (fun _ => ?_)
    refine va_gets hx hb hE.2.2.1.1 hS hown (htg _ xw_849) (fun _ h9 => h9) xd_Z_indexOf_8 ?_
    refine lv_iload_n hx hb xd_Z_indexOf_11 rfl (lv_at hl 0 rfl) ?_
    refine va_ti (v := .int 260) hx hb hE.2.2.1.2 hS (vp_in_iff.mpr (by decide)) rfl xd_Z_indexOf_12 ?_
    refine lv_iload_n hx hb xd_Z_indexOf_13 rfl (lv_at hl 1 rfl) ?_
    refine lv_icmp_ne (tgt := 19) hx hb xd_Z_indexOf_14 rfl (fun h2 => ?_) (fun h2 => ?_)
    · refine lv_iinc (k := 0) (v := 2) (lv' := [(1, .int 2), (0, .int p0)]) hx hb xd_Z_indexOf_19 hl rfl (by first | rfl | decide) (by decide) rfl (fun ls hl => ?_)
      refine lv_goto (tgt := 2) hx hb xd_Z_indexOf_22 rfl ?_
      refine lv_iload_n hx hb xd_Z_indexOf_2 rfl (lv_at hl 0 rfl) ?_
      refine lv_bipush (v := 29) hx hb xd_Z_indexOf_3 (by decide) ?_
      refine lv_icmp_ge (tgt := 25) hx hb xd_Z_indexOf_5 rfl (fun h => absurd h (by decide)) (fun _ => ?_)
      refine va_gets hx hb hE.2.2.1.1 hS hown (htg _ xw_849) (fun _ h9 => h9) xd_Z_indexOf_8 ?_
      refine lv_iload_n hx hb xd_Z_indexOf_11 rfl (lv_at hl 0 rfl) ?_
      refine va_ti (v := .int 261) hx hb hE.2.2.1.2 hS (vp_in_iff.mpr (by decide)) rfl xd_Z_indexOf_12 ?_
      refine lv_iload_n hx hb xd_Z_indexOf_13 rfl (lv_at hl 1 rfl) ?_
      refine lv_icmp_ne (tgt := 19) hx hb xd_Z_indexOf_14 rfl (fun h3 => ?_) (fun h3 => ?_)
      · refine lv_iinc (k := 0) (v := 3) (lv' := [(1, .int 3), (0, .int p0)]) hx hb xd_Z_indexOf_19 hl rfl (by first | rfl | decide) (by decide) rfl (fun ls hl => ?_)
        refine lv_goto (tgt := 2) hx hb xd_Z_indexOf_22 rfl ?_
        refine lv_iload_n hx hb xd_Z_indexOf_2 rfl (lv_at hl 0 rfl) ?_
        refine lv_bipush (v := 29) hx hb xd_Z_indexOf_3 (by decide) ?_
        refine lv_icmp_ge (tgt := 25) hx hb xd_Z_indexOf_5 rfl (fun h => absurd h (by decide)) (fun _ => ?_)
        refine va_gets hx hb hE.2.2.1.1 hS hown (htg _ xw_849) (fun _ h9 => h9) xd_Z_indexOf_8 ?_
        refine lv_iload_n hx hb xd_Z_indexOf_11 rfl (lv_at hl 0 rfl) ?_
        refine va_ti (v := .int 320) hx hb hE.2.2.1.2 hS (vp_in_iff.mpr (by decide)) rfl xd_Z_indexOf_12 ?_
        refine lv_iload_n hx hb xd_Z_indexOf_13 rfl (lv_at hl 1 rfl) ?_
        refine lv_icmp_ne (tgt := 19) hx hb xd_Z_indexOf_14 rfl (fun h4 => ?_) (fun h4 => ?_)
        · refine lv_iinc (k := 0) (v := 4) (lv' := [(1, .int 4), (0, .int p0)]) hx hb xd_Z_indexOf_19 hl rfl (by first | rfl | decide) (by decide) rfl (fun ls hl => ?_)
          refine lv_goto (tgt := 2) hx hb xd_Z_indexOf_22 rfl ?_
          refine lv_iload_n hx hb xd_Z_indexOf_2 rfl (lv_at hl 0 rfl) ?_
          refine lv_bipush (v := 29) hx hb xd_Z_indexOf_3 (by decide) ?_
          refine lv_icmp_ge (tgt := 25) hx hb xd_Z_indexOf_5 rfl (fun h => absurd h (by decide)) (fun _ => ?_)
          refine va_gets hx hb hE.2.2.1.1 hS hown (htg _ xw_849) (fun _ h9 => h9) xd_Z_indexOf_8 ?_
          refine lv_iload_n hx hb xd_Z_indexOf_11 rfl (lv_at hl 0 rfl) ?_
          refine va_ti (v := .int 321) hx hb hE.2.2.1.2 hS (vp_in_iff.mpr (by decide)) rfl xd_Z_indexOf_12 ?_
          refine lv_iload_n hx hb xd_Z_indexOf_13 rfl (lv_at hl 1 rfl) ?_
          refine lv_icmp_ne (tgt := 19) hx hb xd_Z_indexOf_14 rfl (fun h5 => ?_) (fun h5 => ?_)
          · refine lv_iinc (k := 0) (v := 5) (lv' := [(1, .int 5), (0, .int p0)]) hx hb xd_Z_indexOf_19 hl rfl (by first | rfl | decide) (by decide) rfl (fun ls hl => ?_)
            refine lv_goto (tgt := 2) hx hb xd_Z_indexOf_22 rfl ?_
            refine lv_iload_n hx hb xd_Z_indexOf_2 rfl (lv_at hl 0 rfl) ?_
            refine lv_bipush (v := 29) hx hb xd_Z_indexOf_3 (by decide) ?_
            refine lv_icmp_ge (tgt := 25) hx hb xd_Z_indexOf_5 rfl (fun h => absurd h (by decide)) (fun _ => ?_)
            refine va_gets hx hb hE.2.2.1.1 hS hown (htg _ xw_849) (fun _ h9 => h9) xd_Z_indexOf_8 ?_
            refine lv_iload_n hx hb xd_Z_indexOf_11 rfl (lv_at hl 0 rfl) ?_
            refine va_ti (v := .int 322) hx hb hE.2.2.1.2 hS (vp_in_iff.mpr (by decide)) rfl xd_Z_indexOf_12 ?_
            refine lv_iload_n hx hb xd_Z_indexOf_13 rfl (lv_at hl 1 rfl) ?_
            refine lv_icmp_ne (tgt := 19) hx hb xd_Z_indexOf_14 rfl (fun h6 => ?_) (fun h6 => ?_)
            · refine lv_iinc (k := 0) (v := 6) (lv' := [(1, .int 6), (0, .int p0)]) hx hb xd_Z_indexOf_19 hl rfl (by first | rfl | decide) (by decide) rfl (fun ls hl => ?_)
              refine lv_goto (tgt := 2) hx hb xd_Z_indexOf_22 rfl ?_
              refine lv_iload_n hx hb xd_Z_indexOf_2 rfl (lv_at hl 0 rfl) ?_
              refine lv_bipush (v := 29) hx hb xd_Z_indexOf_3 (by decide) ?_
              refine lv_icmp_ge (tgt := 25) hx hb xd_Z_indexOf_5 rfl (fun h => absurd h (by decide)) (fun _ => ?_)
              refine va_gets hx hb hE.2.2.1.1 hS hown (htg _ xw_849) (fun _ h9 => h9) xd_Z_indexOf_8 ?_
              refine lv_iload_n hx hb xd_Z_indexOf_11 rfl (lv_at hl 0 rfl) ?_
              refine va_ti (v := .int 323) hx hb hE.2.2.1.2 hS (vp_in_iff.mpr (by decide)) rfl xd_Z_indexOf_12 ?_
              refine lv_iload_n hx hb xd_Z_indexOf_13 rfl (lv_at hl 1 rfl) ?_
              refine lv_icmp_ne (tgt := 19) hx hb xd_Z_indexOf_14 rfl (fun h7 => ?_) (fun h7 => ?_)
              · refine lv_iinc (k := 0) (v := 7) (lv' := [(1, .int 7), (0, .int p0)]) hx hb xd_Z_indexOf_19 hl rfl (by first | rfl | decide) (by decide) rfl (fun ls hl => ?_)
                refine lv_goto (tgt := 2) hx hb xd_Z_indexOf_22 rfl ?_
                refine lv_iload_n hx hb xd_Z_indexOf_2 rfl (lv_at hl 0 rfl) ?_
                refine lv_bipush (v := 29) hx hb xd_Z_indexOf_3 (by decide) ?_
                refine lv_icmp_ge (tgt := 25) hx hb xd_Z_indexOf_5 rfl (fun h => absurd h (by decide)) (fun _ => ?_)
                refine va_gets hx hb hE.2.2.1.1 hS hown (htg _ xw_849) (fun _ h9 => h9) xd_Z_indexOf_8 ?_
                refine lv_iload_n hx hb xd_Z_indexOf_11 rfl (lv_at hl 0 rfl) ?_
                refine va_ti (v := .int 324) hx hb hE.2.2.1.2 hS (vp_in_iff.mpr (by decide)) rfl xd_Z_indexOf_12 ?_
                refine lv_iload_n hx hb xd_Z_indexOf_13 rfl (lv_at hl 1 rfl) ?_
                refine lv_icmp_ne (tgt := 19) hx hb xd_Z_indexOf_14 rfl (fun h8 => ?_) (fun h8 => ?_)
                · refine lv_iinc (k := 0) (v := 8) (lv' := [(1, .int 8), (0, .int p0)]) hx hb xd_Z_indexOf_19 hl rfl (by first | rfl | decide) (by decide) rfl (fun ls hl => ?_)
                  refine lv_goto (tgt := 2) hx hb xd_Z_indexOf_22 rfl ?_
                  refine lv_iload_n hx hb xd_Z_indexOf_2 rfl (lv_at hl 0 rfl) ?_
                  refine lv_bipush (v := 29) hx hb xd_Z_indexOf_3 (by decide) ?_
                  refine lv_icmp_ge (tgt := 25) hx hb xd_Z_indexOf_5 rfl (fun h => absurd h (by decide)) (fun _ => ?_)
                  refine va_gets hx hb hE.2.2.1.1 hS hown (htg _ xw_849) (fun _ h9 => h9) xd_Z_indexOf_8 ?_
                  refine lv_iload_n hx hb xd_Z_indexOf_11 rfl (lv_at hl 0 rfl) ?_
                  refine va_ti (v := .int 384) hx hb hE.2.2.1.2 hS (vp_in_iff.mpr (by decide)) rfl xd_Z_indexOf_12 ?_
                  refine lv_iload_n hx hb xd_Z_indexOf_13 rfl (lv_at hl 1 rfl) ?_
                  refine lv_icmp_ne (tgt := 19) hx hb xd_Z_indexOf_14 rfl (fun h9 => ?_) (fun h9 => ?_)
                  · refine lv_iinc (k := 0) (v := 9) (lv' := [(1, .int 9), (0, .int p0)]) hx hb xd_Z_indexOf_19 hl rfl (by first | rfl | decide) (by decide) rfl (fun ls hl => ?_)
                    refine lv_goto (tgt := 2) hx hb xd_Z_indexOf_22 rfl ?_
                    refine lv_iload_n hx hb xd_Z_indexOf_2 rfl (lv_at hl 0 rfl) ?_
                    refine lv_bipush (v := 29) hx hb xd_Z_indexOf_3 (by decide) ?_
                    refine lv_icmp_ge (tgt := 25) hx hb xd_Z_indexOf_5 rfl (fun h => absurd h (by decide)) (fun _ => ?_)
                    refine va_gets hx hb hE.2.2.1.1 hS hown (htg _ xw_849) (fun _ h9 => h9) xd_Z_indexOf_8 ?_
                    refine lv_iload_n hx hb xd_Z_indexOf_11 rfl (lv_at hl 0 rfl) ?_
                    refine va_ti (v := .int 512) hx hb hE.2.2.1.2 hS (vp_in_iff.mpr (by decide)) rfl xd_Z_indexOf_12 ?_
                    refine lv_iload_n hx hb xd_Z_indexOf_13 rfl (lv_at hl 1 rfl) ?_
                    refine lv_icmp_ne (tgt := 19) hx hb xd_Z_indexOf_14 rfl (fun h10 => ?_) (fun h10 => ?_)
                    · refine lv_iinc (k := 0) (v := 10) (lv' := [(1, .int 10), (0, .int p0)]) hx hb xd_Z_indexOf_19 hl rfl (by first | rfl | decide) (by decide) rfl (fun ls hl => ?_)
                      refine lv_goto (tgt := 2) hx hb xd_Z_indexOf_22 rfl ?_
                      refine lv_iload_n hx hb xd_Z_indexOf_2 rfl (lv_at hl 0 rfl) ?_
                      refine lv_bipush (v := 29) hx hb xd_Z_indexOf_3 (by decide) ?_
                      refine lv_icmp_ge (tgt := 25) hx hb xd_Z_indexOf_5 rfl (fun h => absurd h (by decide)) (fun _ => ?_)
                      refine va_gets hx hb hE.2.2.1.1 hS hown (htg _ xw_849) (fun _ h9 => h9) xd_Z_indexOf_8 ?_
                      refine lv_iload_n hx hb xd_Z_indexOf_11 rfl (lv_at hl 0 rfl) ?_
                      refine va_ti (v := .int 516) hx hb hE.2.2.1.2 hS (vp_in_iff.mpr (by decide)) rfl xd_Z_indexOf_12 ?_
                      refine lv_iload_n hx hb xd_Z_indexOf_13 rfl (lv_at hl 1 rfl) ?_
                      refine lv_icmp_ne (tgt := 19) hx hb xd_Z_indexOf_14 rfl (fun h11 => ?_) (fun h11 => ?_)
                      · refine lv_iinc (k := 0) (v := 11) (lv' := [(1, .int 11), (0, .int p0)]) hx hb xd_Z_indexOf_19 hl rfl (by first | rfl | decide) (by decide) rfl (fun ls hl => ?_)
                        refine lv_goto (tgt := 2) hx hb xd_Z_indexOf_22 rfl ?_
                        refine lv_iload_n hx hb xd_Z_indexOf_2 rfl (lv_at hl 0 rfl) ?_
                        refine lv_bipush (v := 29) hx hb xd_Z_indexOf_3 (by decide) ?_
                        refine lv_icmp_ge (tgt := 25) hx hb xd_Z_indexOf_5 rfl (fun h => absurd h (by decide)) (fun _ => ?_)
                        refine va_gets hx hb hE.2.2.1.1 hS hown (htg _ xw_849) (fun _ h9 => h9) xd_Z_indexOf_8 ?_
                        refine lv_iload_n hx hb xd_Z_indexOf_11 rfl (lv_at hl 0 rfl) ?_
                        refine va_ti (v := .int 517) hx hb hE.2.2.1.2 hS (vp_in_iff.mpr (by decide)) rfl xd_Z_indexOf_12 ?_
                        refine lv_iload_n hx hb xd_Z_indexOf_13 rfl (lv_at hl 1 rfl) ?_
                        refine lv_icmp_ne (tgt := 19) hx hb xd_Z_indexOf_14 rfl (fun h12 => ?_) (fun h12 => ?_)
                        · refine lv_iinc (k := 0) (v := 12) (lv' := [(1, .int 12), (0, .int p0)]) hx hb xd_Z_indexOf_19 hl rfl (by first | rfl | decide) (by decide) rfl (fun ls hl => ?_)
                          refine lv_goto (tgt := 2) hx hb xd_Z_indexOf_22 rfl ?_
                          refine lv_iload_n hx hb xd_Z_indexOf_2 rfl (lv_at hl 0 rfl) ?_
                          refine lv_bipush (v := 29) hx hb xd_Z_indexOf_3 (by decide) ?_
                          refine lv_icmp_ge (tgt := 25) hx hb xd_Z_indexOf_5 rfl (fun h => absurd h (by decide)) (fun _ => ?_)
                          refine va_gets hx hb hE.2.2.1.1 hS hown (htg _ xw_849) (fun _ h9 => h9) xd_Z_indexOf_8 ?_
                          refine lv_iload_n hx hb xd_Z_indexOf_11 rfl (lv_at hl 0 rfl) ?_
                          refine va_ti (v := .int 576) hx hb hE.2.2.1.2 hS (vp_in_iff.mpr (by decide)) rfl xd_Z_indexOf_12 ?_
                          refine lv_iload_n hx hb xd_Z_indexOf_13 rfl (lv_at hl 1 rfl) ?_
                          refine lv_icmp_ne (tgt := 19) hx hb xd_Z_indexOf_14 rfl (fun h13 => ?_) (fun h13 => ?_)
                          · refine lv_iinc (k := 0) (v := 13) (lv' := [(1, .int 13), (0, .int p0)]) hx hb xd_Z_indexOf_19 hl rfl (by first | rfl | decide) (by decide) rfl (fun ls hl => ?_)
                            refine lv_goto (tgt := 2) hx hb xd_Z_indexOf_22 rfl ?_
                            refine lv_iload_n hx hb xd_Z_indexOf_2 rfl (lv_at hl 0 rfl) ?_
                            refine lv_bipush (v := 29) hx hb xd_Z_indexOf_3 (by decide) ?_
                            refine lv_icmp_ge (tgt := 25) hx hb xd_Z_indexOf_5 rfl (fun h => absurd h (by decide)) (fun _ => ?_)
                            refine va_gets hx hb hE.2.2.1.1 hS hown (htg _ xw_849) (fun _ h9 => h9) xd_Z_indexOf_8 ?_
                            refine lv_iload_n hx hb xd_Z_indexOf_11 rfl (lv_at hl 0 rfl) ?_
                            refine va_ti (v := .int 577) hx hb hE.2.2.1.2 hS (vp_in_iff.mpr (by decide)) rfl xd_Z_indexOf_12 ?_
                            refine lv_iload_n hx hb xd_Z_indexOf_13 rfl (lv_at hl 1 rfl) ?_
                            refine lv_icmp_ne (tgt := 19) hx hb xd_Z_indexOf_14 rfl (fun h14 => ?_) (fun h14 => ?_)
                            · refine lv_iinc (k := 0) (v := 14) (lv' := [(1, .int 14), (0, .int p0)]) hx hb xd_Z_indexOf_19 hl rfl (by first | rfl | decide) (by decide) rfl (fun ls hl => ?_)
                              refine lv_goto (tgt := 2) hx hb xd_Z_indexOf_22 rfl ?_
                              refine lv_iload_n hx hb xd_Z_indexOf_2 rfl (lv_at hl 0 rfl) ?_
                              refine lv_bipush (v := 29) hx hb xd_Z_indexOf_3 (by decide) ?_
                              refine lv_icmp_ge (tgt := 25) hx hb xd_Z_indexOf_5 rfl (fun h => absurd h (by decide)) (fun _ => ?_)
                              refine va_gets hx hb hE.2.2.1.1 hS hown (htg _ xw_849) (fun _ h9 => h9) xd_Z_indexOf_8 ?_
                              refine lv_iload_n hx hb xd_Z_indexOf_11 rfl (lv_at hl 0 rfl) ?_
                              refine va_ti (v := .int 578) hx hb hE.2.2.1.2 hS (vp_in_iff.mpr (by decide)) rfl xd_Z_indexOf_12 ?_
                              refine lv_iload_n hx hb xd_Z_indexOf_13 rfl (lv_at hl 1 rfl) ?_
                              refine lv_icmp_ne (tgt := 19) hx hb xd_Z_indexOf_14 rfl (fun h15 => ?_) (fun h15 => ?_)
                              · refine lv_iinc (k := 0) (v := 15) (lv' := [(1, .int 15), (0, .int p0)]) hx hb xd_Z_indexOf_19 hl rfl (by first | rfl | decide) (by decide) rfl (fun ls hl => ?_)
                                refine lv_goto (tgt := 2) hx hb xd_Z_indexOf_22 rfl ?_
                                refine lv_iload_n hx hb xd_Z_indexOf_2 rfl (lv_at hl 0 rfl) ?_
                                refine lv_bipush (v := 29) hx hb xd_Z_indexOf_3 (by decide) ?_
                                refine lv_icmp_ge (tgt := 25) hx hb xd_Z_indexOf_5 rfl (fun h => absurd h (by decide)) (fun _ => ?_)
                                refine va_gets hx hb hE.2.2.1.1 hS hown (htg _ xw_849) (fun _ h9 => h9) xd_Z_indexOf_8 ?_
                                refine lv_iload_n hx hb xd_Z_indexOf_11 rfl (lv_at hl 0 rfl) ?_
                                refine va_ti (v := .int 579) hx hb hE.2.2.1.2 hS (vp_in_iff.mpr (by decide)) rfl xd_Z_indexOf_12 ?_
                                refine lv_iload_n hx hb xd_Z_indexOf_13 rfl (lv_at hl 1 rfl) ?_
                                refine lv_icmp_ne (tgt := 19) hx hb xd_Z_indexOf_14 rfl (fun h16 => ?_) (fun h16 => ?_)
                                · refine lv_iinc (k := 0) (v := 16) (lv' := [(1, .int 16), (0, .int p0)]) hx hb xd_Z_indexOf_19 hl rfl (by first | rfl | decide) (by decide) rfl (fun ls hl => ?_)
                                  refine lv_goto (tgt := 2) hx hb xd_Z_indexOf_22 rfl ?_
                                  refine lv_iload_n hx hb xd_Z_indexOf_2 rfl (lv_at hl 0 rfl) ?_
                                  refine lv_bipush (v := 29) hx hb xd_Z_indexOf_3 (by decide) ?_
                                  refine lv_icmp_ge (tgt := 25) hx hb xd_Z_indexOf_5 rfl (fun h => absurd h (by decide)) (fun _ => ?_)
                                  refine va_gets hx hb hE.2.2.1.1 hS hown (htg _ xw_849) (fun _ h9 => h9) xd_Z_indexOf_8 ?_
                                  refine lv_iload_n hx hb xd_Z_indexOf_11 rfl (lv_at hl 0 rfl) ?_
                                  refine va_ti (v := .int 580) hx hb hE.2.2.1.2 hS (vp_in_iff.mpr (by decide)) rfl xd_Z_indexOf_12 ?_
                                  refine lv_iload_n hx hb xd_Z_indexOf_13 rfl (lv_at hl 1 rfl) ?_
                                  refine lv_icmp_ne (tgt := 19) hx hb xd_Z_indexOf_14 rfl (fun h17 => ?_) (fun h17 => ?_)
                                  · refine lv_iinc (k := 0) (v := 17) (lv' := [(1, .int 17), (0, .int p0)]) hx hb xd_Z_indexOf_19 hl rfl (by first | rfl | decide) (by decide) rfl (fun ls hl => ?_)
                                    refine lv_goto (tgt := 2) hx hb xd_Z_indexOf_22 rfl ?_
                                    refine lv_iload_n hx hb xd_Z_indexOf_2 rfl (lv_at hl 0 rfl) ?_
                                    refine lv_bipush (v := 29) hx hb xd_Z_indexOf_3 (by decide) ?_
                                    refine lv_icmp_ge (tgt := 25) hx hb xd_Z_indexOf_5 rfl (fun h => absurd h (by decide)) (fun _ => ?_)
                                    refine va_gets hx hb hE.2.2.1.1 hS hown (htg _ xw_849) (fun _ h9 => h9) xd_Z_indexOf_8 ?_
                                    refine lv_iload_n hx hb xd_Z_indexOf_11 rfl (lv_at hl 0 rfl) ?_
                                    refine va_ti (v := .int 640) hx hb hE.2.2.1.2 hS (vp_in_iff.mpr (by decide)) rfl xd_Z_indexOf_12 ?_
                                    refine lv_iload_n hx hb xd_Z_indexOf_13 rfl (lv_at hl 1 rfl) ?_
                                    refine lv_icmp_ne (tgt := 19) hx hb xd_Z_indexOf_14 rfl (fun h18 => ?_) (fun h18 => ?_)
                                    · refine lv_iinc (k := 0) (v := 18) (lv' := [(1, .int 18), (0, .int p0)]) hx hb xd_Z_indexOf_19 hl rfl (by first | rfl | decide) (by decide) rfl (fun ls hl => ?_)
                                      refine lv_goto (tgt := 2) hx hb xd_Z_indexOf_22 rfl ?_
                                      refine lv_iload_n hx hb xd_Z_indexOf_2 rfl (lv_at hl 0 rfl) ?_
                                      refine lv_bipush (v := 29) hx hb xd_Z_indexOf_3 (by decide) ?_
                                      refine lv_icmp_ge (tgt := 25) hx hb xd_Z_indexOf_5 rfl (fun h => absurd h (by decide)) (fun _ => ?_)
                                      refine va_gets hx hb hE.2.2.1.1 hS hown (htg _ xw_849) (fun _ h9 => h9) xd_Z_indexOf_8 ?_
                                      refine lv_iload_n hx hb xd_Z_indexOf_11 rfl (lv_at hl 0 rfl) ?_
                                      refine va_ti (v := .int 1536) hx hb hE.2.2.1.2 hS (vp_in_iff.mpr (by decide)) rfl xd_Z_indexOf_12 ?_
                                      refine lv_iload_n hx hb xd_Z_indexOf_13 rfl (lv_at hl 1 rfl) ?_
                                      refine lv_icmp_ne (tgt := 19) hx hb xd_Z_indexOf_14 rfl (fun h19 => ?_) (fun h19 => ?_)
                                      · refine lv_iinc (k := 0) (v := 19) (lv' := [(1, .int 19), (0, .int p0)]) hx hb xd_Z_indexOf_19 hl rfl (by first | rfl | decide) (by decide) rfl (fun ls hl => ?_)
                                        refine lv_goto (tgt := 2) hx hb xd_Z_indexOf_22 rfl ?_
                                        refine lv_iload_n hx hb xd_Z_indexOf_2 rfl (lv_at hl 0 rfl) ?_
                                        refine lv_bipush (v := 29) hx hb xd_Z_indexOf_3 (by decide) ?_
                                        refine lv_icmp_ge (tgt := 25) hx hb xd_Z_indexOf_5 rfl (fun h => absurd h (by decide)) (fun _ => ?_)
                                        refine va_gets hx hb hE.2.2.1.1 hS hown (htg _ xw_849) (fun _ h9 => h9) xd_Z_indexOf_8 ?_
                                        refine lv_iload_n hx hb xd_Z_indexOf_11 rfl (lv_at hl 0 rfl) ?_
                                        refine va_ti (v := .int 1538) hx hb hE.2.2.1.2 hS (vp_in_iff.mpr (by decide)) rfl xd_Z_indexOf_12 ?_
                                        refine lv_iload_n hx hb xd_Z_indexOf_13 rfl (lv_at hl 1 rfl) ?_
                                        refine lv_icmp_ne (tgt := 19) hx hb xd_Z_indexOf_14 rfl (fun h20 => ?_) (fun h20 => ?_)
                                        · refine lv_iinc (k := 0) (v := 20) (lv' := [(1, .int 20), (0, .int p0)]) hx hb xd_Z_indexOf_19 hl rfl (by first | rfl | decide) (by decide) rfl (fun ls hl => ?_)
                                          refine lv_goto (tgt := 2) hx hb xd_Z_indexOf_22 rfl ?_
                                          refine lv_iload_n hx hb xd_Z_indexOf_2 rfl (lv_at hl 0 rfl) ?_
                                          refine lv_bipush (v := 29) hx hb xd_Z_indexOf_3 (by decide) ?_
                                          refine lv_icmp_ge (tgt := 25) hx hb xd_Z_indexOf_5 rfl (fun h => absurd h (by decide)) (fun _ => ?_)
                                          refine va_gets hx hb hE.2.2.1.1 hS hown (htg _ xw_849) (fun _ h9 => h9) xd_Z_indexOf_8 ?_
                                          refine lv_iload_n hx hb xd_Z_indexOf_11 rfl (lv_at hl 0 rfl) ?_
                                          refine va_ti (v := .int 1539) hx hb hE.2.2.1.2 hS (vp_in_iff.mpr (by decide)) rfl xd_Z_indexOf_12 ?_
                                          refine lv_iload_n hx hb xd_Z_indexOf_13 rfl (lv_at hl 1 rfl) ?_
                                          refine lv_icmp_ne (tgt := 19) hx hb xd_Z_indexOf_14 rfl (fun h21 => ?_) (fun h21 => ?_)
                                          · refine lv_iinc (k := 0) (v := 21) (lv' := [(1, .int 21), (0, .int p0)]) hx hb xd_Z_indexOf_19 hl rfl (by first | rfl | decide) (by decide) rfl (fun ls hl => ?_)
                                            refine lv_goto (tgt := 2) hx hb xd_Z_indexOf_22 rfl ?_
                                            refine lv_iload_n hx hb xd_Z_indexOf_2 rfl (lv_at hl 0 rfl) ?_
                                            refine lv_bipush (v := 29) hx hb xd_Z_indexOf_3 (by decide) ?_
                                            refine lv_icmp_ge (tgt := 25) hx hb xd_Z_indexOf_5 rfl (fun h => absurd h (by decide)) (fun _ => ?_)
                                            refine va_gets hx hb hE.2.2.1.1 hS hown (htg _ xw_849) (fun _ h9 => h9) xd_Z_indexOf_8 ?_
                                            refine lv_iload_n hx hb xd_Z_indexOf_11 rfl (lv_at hl 0 rfl) ?_
                                            refine va_ti (v := .int 1540) hx hb hE.2.2.1.2 hS (vp_in_iff.mpr (by decide)) rfl xd_Z_indexOf_12 ?_
                                            refine lv_iload_n hx hb xd_Z_indexOf_13 rfl (lv_at hl 1 rfl) ?_
                                            refine lv_icmp_ne (tgt := 19) hx hb xd_Z_indexOf_14 rfl (fun h22 => ?_) (fun h22 => ?_)
                                            · refine lv_iinc (k := 0) (v := 22) (lv' := [(1, .int 22), (0, .int p0)]) hx hb xd_Z_indexOf_19 hl rfl (by first | rfl | decide) (by decide) rfl (fun ls hl => ?_)
                                              refine lv_goto (tgt := 2) hx hb xd_Z_indexOf_22 rfl ?_
                                              refine lv_iload_n hx hb xd_Z_indexOf_2 rfl (lv_at hl 0 rfl) ?_
                                              refine lv_bipush (v := 29) hx hb xd_Z_indexOf_3 (by decide) ?_
                                              refine lv_icmp_ge (tgt := 25) hx hb xd_Z_indexOf_5 rfl (fun h => absurd h (by decide)) (fun _ => ?_)
                                              refine va_gets hx hb hE.2.2.1.1 hS hown (htg _ xw_849) (fun _ h9 => h9) xd_Z_indexOf_8 ?_
                                              refine lv_iload_n hx hb xd_Z_indexOf_11 rfl (lv_at hl 0 rfl) ?_
                                              refine va_ti (v := .int 1603) hx hb hE.2.2.1.2 hS (vp_in_iff.mpr (by decide)) rfl xd_Z_indexOf_12 ?_
                                              refine lv_iload_n hx hb xd_Z_indexOf_13 rfl (lv_at hl 1 rfl) ?_
                                              refine lv_icmp_ne (tgt := 19) hx hb xd_Z_indexOf_14 rfl (fun h23 => ?_) (fun h23 => ?_)
                                              · refine lv_iinc (k := 0) (v := 23) (lv' := [(1, .int 23), (0, .int p0)]) hx hb xd_Z_indexOf_19 hl rfl (by first | rfl | decide) (by decide) rfl (fun ls hl => ?_)
                                                refine lv_goto (tgt := 2) hx hb xd_Z_indexOf_22 rfl ?_
                                                refine lv_iload_n hx hb xd_Z_indexOf_2 rfl (lv_at hl 0 rfl) ?_
                                                refine lv_bipush (v := 29) hx hb xd_Z_indexOf_3 (by decide) ?_
                                                refine lv_icmp_ge (tgt := 25) hx hb xd_Z_indexOf_5 rfl (fun h => absurd h (by decide)) (fun _ => ?_)
                                                refine va_gets hx hb hE.2.2.1.1 hS hown (htg _ xw_849) (fun _ h9 => h9) xd_Z_indexOf_8 ?_
                                                refine lv_iload_n hx hb xd_Z_indexOf_11 rfl (lv_at hl 0 rfl) ?_
                                                refine va_ti (v := .int 1604) hx hb hE.2.2.1.2 hS (vp_in_iff.mpr (by decide)) rfl xd_Z_indexOf_12 ?_
                                                refine lv_iload_n hx hb xd_Z_indexOf_13 rfl (lv_at hl 1 rfl) ?_
                                                refine lv_icmp_ne (tgt := 19) hx hb xd_Z_indexOf_14 rfl (fun h24 => ?_) (fun h24 => ?_)
                                                · refine lv_iinc (k := 0) (v := 24) (lv' := [(1, .int 24), (0, .int p0)]) hx hb xd_Z_indexOf_19 hl rfl (by first | rfl | decide) (by decide) rfl (fun ls hl => ?_)
                                                  refine lv_goto (tgt := 2) hx hb xd_Z_indexOf_22 rfl ?_
                                                  refine lv_iload_n hx hb xd_Z_indexOf_2 rfl (lv_at hl 0 rfl) ?_
                                                  refine lv_bipush (v := 29) hx hb xd_Z_indexOf_3 (by decide) ?_
                                                  refine lv_icmp_ge (tgt := 25) hx hb xd_Z_indexOf_5 rfl (fun h => absurd h (by decide)) (fun _ => ?_)
                                                  refine va_gets hx hb hE.2.2.1.1 hS hown (htg _ xw_849) (fun _ h9 => h9) xd_Z_indexOf_8 ?_
                                                  refine lv_iload_n hx hb xd_Z_indexOf_11 rfl (lv_at hl 0 rfl) ?_
                                                  refine va_ti (v := .int 1605) hx hb hE.2.2.1.2 hS (vp_in_iff.mpr (by decide)) rfl xd_Z_indexOf_12 ?_
                                                  refine lv_iload_n hx hb xd_Z_indexOf_13 rfl (lv_at hl 1 rfl) ?_
                                                  refine lv_icmp_ne (tgt := 19) hx hb xd_Z_indexOf_14 rfl (fun h25 => ?_) (fun h25 => ?_)
                                                  · refine lv_iinc (k := 0) (v := 25) (lv' := [(1, .int 25), (0, .int p0)]) hx hb xd_Z_indexOf_19 hl rfl (by first | rfl | decide) (by decide) rfl (fun ls hl => ?_)
                                                    refine lv_goto (tgt := 2) hx hb xd_Z_indexOf_22 rfl ?_
                                                    refine lv_iload_n hx hb xd_Z_indexOf_2 rfl (lv_at hl 0 rfl) ?_
                                                    refine lv_bipush (v := 29) hx hb xd_Z_indexOf_3 (by decide) ?_
                                                    refine lv_icmp_ge (tgt := 25) hx hb xd_Z_indexOf_5 rfl (fun h => absurd h (by decide)) (fun _ => ?_)
                                                    refine va_gets hx hb hE.2.2.1.1 hS hown (htg _ xw_849) (fun _ h9 => h9) xd_Z_indexOf_8 ?_
                                                    refine lv_iload_n hx hb xd_Z_indexOf_11 rfl (lv_at hl 0 rfl) ?_
                                                    refine va_ti (v := .int 1610) hx hb hE.2.2.1.2 hS (vp_in_iff.mpr (by decide)) rfl xd_Z_indexOf_12 ?_
                                                    refine lv_iload_n hx hb xd_Z_indexOf_13 rfl (lv_at hl 1 rfl) ?_
                                                    refine lv_icmp_ne (tgt := 19) hx hb xd_Z_indexOf_14 rfl (fun h26 => ?_) (fun h26 => ?_)
                                                    · refine lv_iinc (k := 0) (v := 26) (lv' := [(1, .int 26), (0, .int p0)]) hx hb xd_Z_indexOf_19 hl rfl (by first | rfl | decide) (by decide) rfl (fun ls hl => ?_)
                                                      refine lv_goto (tgt := 2) hx hb xd_Z_indexOf_22 rfl ?_
                                                      refine lv_iload_n hx hb xd_Z_indexOf_2 rfl (lv_at hl 0 rfl) ?_
                                                      refine lv_bipush (v := 29) hx hb xd_Z_indexOf_3 (by decide) ?_
                                                      refine lv_icmp_ge (tgt := 25) hx hb xd_Z_indexOf_5 rfl (fun h => absurd h (by decide)) (fun _ => ?_)
                                                      refine va_gets hx hb hE.2.2.1.1 hS hown (htg _ xw_849) (fun _ h9 => h9) xd_Z_indexOf_8 ?_
                                                      refine lv_iload_n hx hb xd_Z_indexOf_11 rfl (lv_at hl 0 rfl) ?_
                                                      refine va_ti (v := .int 1664) hx hb hE.2.2.1.2 hS (vp_in_iff.mpr (by decide)) rfl xd_Z_indexOf_12 ?_
                                                      refine lv_iload_n hx hb xd_Z_indexOf_13 rfl (lv_at hl 1 rfl) ?_
                                                      refine lv_icmp_ne (tgt := 19) hx hb xd_Z_indexOf_14 rfl (fun h27 => ?_) (fun h27 => ?_)
                                                      · refine lv_iinc (k := 0) (v := 27) (lv' := [(1, .int 27), (0, .int p0)]) hx hb xd_Z_indexOf_19 hl rfl (by first | rfl | decide) (by decide) rfl (fun ls hl => ?_)
                                                        refine lv_goto (tgt := 2) hx hb xd_Z_indexOf_22 rfl ?_
                                                        refine lv_iload_n hx hb xd_Z_indexOf_2 rfl (lv_at hl 0 rfl) ?_
                                                        refine lv_bipush (v := 29) hx hb xd_Z_indexOf_3 (by decide) ?_
                                                        refine lv_icmp_ge (tgt := 25) hx hb xd_Z_indexOf_5 rfl (fun h => absurd h (by decide)) (fun _ => ?_)
                                                        refine va_gets hx hb hE.2.2.1.1 hS hown (htg _ xw_849) (fun _ h9 => h9) xd_Z_indexOf_8 ?_
                                                        refine lv_iload_n hx hb xd_Z_indexOf_11 rfl (lv_at hl 0 rfl) ?_
                                                        refine va_ti (v := .int 3073) hx hb hE.2.2.1.2 hS (vp_in_iff.mpr (by decide)) rfl xd_Z_indexOf_12 ?_
                                                        refine lv_iload_n hx hb xd_Z_indexOf_13 rfl (lv_at hl 1 rfl) ?_
                                                        refine lv_icmp_ne (tgt := 19) hx hb xd_Z_indexOf_14 rfl (fun h28 => ?_) (fun h28 => ?_)
                                                        · refine lv_iinc (k := 0) (v := 28) (lv' := [(1, .int 28), (0, .int p0)]) hx hb xd_Z_indexOf_19 hl rfl (by first | rfl | decide) (by decide) rfl (fun ls hl => ?_)
                                                          refine lv_goto (tgt := 2) hx hb xd_Z_indexOf_22 rfl ?_
                                                          refine lv_iload_n hx hb xd_Z_indexOf_2 rfl (lv_at hl 0 rfl) ?_
                                                          refine lv_bipush (v := 29) hx hb xd_Z_indexOf_3 (by decide) ?_
                                                          refine lv_icmp_ge (tgt := 25) hx hb xd_Z_indexOf_5 rfl (fun h => absurd h (by decide)) (fun _ => ?_)
                                                          refine va_gets hx hb hE.2.2.1.1 hS hown (htg _ xw_849) (fun _ h9 => h9) xd_Z_indexOf_8 ?_
                                                          refine lv_iload_n hx hb xd_Z_indexOf_11 rfl (lv_at hl 0 rfl) ?_
                                                          refine va_ti (v := .int 3201) hx hb hE.2.2.1.2 hS (vp_in_iff.mpr (by decide)) rfl xd_Z_indexOf_12 ?_
                                                          refine lv_iload_n hx hb xd_Z_indexOf_13 rfl (lv_at hl 1 rfl) ?_
                                                          refine lv_icmp_ne (tgt := 19) hx hb xd_Z_indexOf_14 rfl (fun h29 => ?_) (fun h29 => ?_)
                                                          · refine lv_iinc (k := 0) (v := 29) (lv' := [(1, .int 29), (0, .int p0)]) hx hb xd_Z_indexOf_19 hl rfl (by first | rfl | decide) (by decide) rfl (fun ls hl => ?_)
                                                            refine lv_goto (tgt := 2) hx hb xd_Z_indexOf_22 rfl ?_
                                                            refine lv_iload_n hx hb xd_Z_indexOf_2 rfl (lv_at hl 0 rfl) ?_
                                                            refine lv_bipush (v := 29) hx hb xd_Z_indexOf_3 (by decide) ?_
                                                            refine lv_icmp_ge (tgt := 25) hx hb xd_Z_indexOf_5 rfl (fun _ => ?_) (fun h => absurd h (by decide))
                                                            refine lv_iconst (v := (-1)) hx hb xd_Z_indexOf_25 (by decide) ?_
                                                            exact hret _ () H locs ls _ (by unfold xf_Z_indexOf; exact (xif h1 (xif h2 (xif h3 (xif h4 (xif h5 (xif h6 (xif h7 (xif h8 (xif h9 (xif h10 (xif h11 (xif h12 (xif h13 (xif h14 (xif h15 (xif h16 (xif h17 (xif h18 (xif h19 (xif h20 (xif h21 (xif h22 (xif h23 (xif h24 (xif h25 (xif h26 (xif h27 (xif h28 (xif h29 rfl)))))))))))))))))))))))))))))) hP hD hS xd_Z_indexOf_26
                                                          · refine lv_iload_n hx hb xd_Z_indexOf_17 rfl (lv_at hl 0 rfl) ?_
                                                            exact hret _ () H locs ls _ (by unfold xf_Z_indexOf; exact (xif h1 (xif h2 (xif h3 (xif h4 (xif h5 (xif h6 (xif h7 (xif h8 (xif h9 (xif h10 (xif h11 (xif h12 (xif h13 (xif h14 (xif h15 (xif h16 (xif h17 (xif h18 (xif h19 (xif h20 (xif h21 (xif h22 (xif h23 (xif h24 (xif h25 (xif h26 (xif h27 (xif h28 (xit h29 rfl)))))))))))))))))))))))))))))) hP hD hS xd_Z_indexOf_18
                                                        · refine lv_iload_n hx hb xd_Z_indexOf_17 rfl (lv_at hl 0 rfl) ?_
                                                          exact hret _ () H locs ls _ (by unfold xf_Z_indexOf; exact (xif h1 (xif h2 (xif h3 (xif h4 (xif h5 (xif h6 (xif h7 (xif h8 (xif h9 (xif h10 (xif h11 (xif h12 (xif h13 (xif h14 (xif h15 (xif h16 (xif h17 (xif h18 (xif h19 (xif h20 (xif h21 (xif h22 (xif h23 (xif h24 (xif h25 (xif h26 (xif h27 (xit h28 rfl))))))))))))))))))))))))))))) hP hD hS xd_Z_indexOf_18
                                                      · refine lv_iload_n hx hb xd_Z_indexOf_17 rfl (lv_at hl 0 rfl) ?_
                                                        exact hret _ () H locs ls _ (by unfold xf_Z_indexOf; exact (xif h1 (xif h2 (xif h3 (xif h4 (xif h5 (xif h6 (xif h7 (xif h8 (xif h9 (xif h10 (xif h11 (xif h12 (xif h13 (xif h14 (xif h15 (xif h16 (xif h17 (xif h18 (xif h19 (xif h20 (xif h21 (xif h22 (xif h23 (xif h24 (xif h25 (xif h26 (xit h27 rfl)))))))))))))))))))))))))))) hP hD hS xd_Z_indexOf_18
                                                    · refine lv_iload_n hx hb xd_Z_indexOf_17 rfl (lv_at hl 0 rfl) ?_
                                                      exact hret _ () H locs ls _ (by unfold xf_Z_indexOf; exact (xif h1 (xif h2 (xif h3 (xif h4 (xif h5 (xif h6 (xif h7 (xif h8 (xif h9 (xif h10 (xif h11 (xif h12 (xif h13 (xif h14 (xif h15 (xif h16 (xif h17 (xif h18 (xif h19 (xif h20 (xif h21 (xif h22 (xif h23 (xif h24 (xif h25 (xit h26 rfl))))))))))))))))))))))))))) hP hD hS xd_Z_indexOf_18
                                                  · refine lv_iload_n hx hb xd_Z_indexOf_17 rfl (lv_at hl 0 rfl) ?_
                                                    exact hret _ () H locs ls _ (by unfold xf_Z_indexOf; exact (xif h1 (xif h2 (xif h3 (xif h4 (xif h5 (xif h6 (xif h7 (xif h8 (xif h9 (xif h10 (xif h11 (xif h12 (xif h13 (xif h14 (xif h15 (xif h16 (xif h17 (xif h18 (xif h19 (xif h20 (xif h21 (xif h22 (xif h23 (xif h24 (xit h25 rfl)))))))))))))))))))))))))) hP hD hS xd_Z_indexOf_18
                                                · refine lv_iload_n hx hb xd_Z_indexOf_17 rfl (lv_at hl 0 rfl) ?_
                                                  exact hret _ () H locs ls _ (by unfold xf_Z_indexOf; exact (xif h1 (xif h2 (xif h3 (xif h4 (xif h5 (xif h6 (xif h7 (xif h8 (xif h9 (xif h10 (xif h11 (xif h12 (xif h13 (xif h14 (xif h15 (xif h16 (xif h17 (xif h18 (xif h19 (xif h20 (xif h21 (xif h22 (xif h23 (xit h24 rfl))))))))))))))))))))))))) hP hD hS xd_Z_indexOf_18
                                              · refine lv_iload_n hx hb xd_Z_indexOf_17 rfl (lv_at hl 0 rfl) ?_
                                                exact hret _ () H locs ls _ (by unfold xf_Z_indexOf; exact (xif h1 (xif h2 (xif h3 (xif h4 (xif h5 (xif h6 (xif h7 (xif h8 (xif h9 (xif h10 (xif h11 (xif h12 (xif h13 (xif h14 (xif h15 (xif h16 (xif h17 (xif h18 (xif h19 (xif h20 (xif h21 (xif h22 (xit h23 rfl)))))))))))))))))))))))) hP hD hS xd_Z_indexOf_18
                                            · refine lv_iload_n hx hb xd_Z_indexOf_17 rfl (lv_at hl 0 rfl) ?_
                                              exact hret _ () H locs ls _ (by unfold xf_Z_indexOf; exact (xif h1 (xif h2 (xif h3 (xif h4 (xif h5 (xif h6 (xif h7 (xif h8 (xif h9 (xif h10 (xif h11 (xif h12 (xif h13 (xif h14 (xif h15 (xif h16 (xif h17 (xif h18 (xif h19 (xif h20 (xif h21 (xit h22 rfl))))))))))))))))))))))) hP hD hS xd_Z_indexOf_18
                                          · refine lv_iload_n hx hb xd_Z_indexOf_17 rfl (lv_at hl 0 rfl) ?_
                                            exact hret _ () H locs ls _ (by unfold xf_Z_indexOf; exact (xif h1 (xif h2 (xif h3 (xif h4 (xif h5 (xif h6 (xif h7 (xif h8 (xif h9 (xif h10 (xif h11 (xif h12 (xif h13 (xif h14 (xif h15 (xif h16 (xif h17 (xif h18 (xif h19 (xif h20 (xit h21 rfl)))))))))))))))))))))) hP hD hS xd_Z_indexOf_18
                                        · refine lv_iload_n hx hb xd_Z_indexOf_17 rfl (lv_at hl 0 rfl) ?_
                                          exact hret _ () H locs ls _ (by unfold xf_Z_indexOf; exact (xif h1 (xif h2 (xif h3 (xif h4 (xif h5 (xif h6 (xif h7 (xif h8 (xif h9 (xif h10 (xif h11 (xif h12 (xif h13 (xif h14 (xif h15 (xif h16 (xif h17 (xif h18 (xif h19 (xit h20 rfl))))))))))))))))))))) hP hD hS xd_Z_indexOf_18
                                      · refine lv_iload_n hx hb xd_Z_indexOf_17 rfl (lv_at hl 0 rfl) ?_
                                        exact hret _ () H locs ls _ (by unfold xf_Z_indexOf; exact (xif h1 (xif h2 (xif h3 (xif h4 (xif h5 (xif h6 (xif h7 (xif h8 (xif h9 (xif h10 (xif h11 (xif h12 (xif h13 (xif h14 (xif h15 (xif h16 (xif h17 (xif h18 (xit h19 rfl)))))))))))))))))))) hP hD hS xd_Z_indexOf_18
                                    · refine lv_iload_n hx hb xd_Z_indexOf_17 rfl (lv_at hl 0 rfl) ?_
                                      exact hret _ () H locs ls _ (by unfold xf_Z_indexOf; exact (xif h1 (xif h2 (xif h3 (xif h4 (xif h5 (xif h6 (xif h7 (xif h8 (xif h9 (xif h10 (xif h11 (xif h12 (xif h13 (xif h14 (xif h15 (xif h16 (xif h17 (xit h18 rfl))))))))))))))))))) hP hD hS xd_Z_indexOf_18
                                  · refine lv_iload_n hx hb xd_Z_indexOf_17 rfl (lv_at hl 0 rfl) ?_
                                    exact hret _ () H locs ls _ (by unfold xf_Z_indexOf; exact (xif h1 (xif h2 (xif h3 (xif h4 (xif h5 (xif h6 (xif h7 (xif h8 (xif h9 (xif h10 (xif h11 (xif h12 (xif h13 (xif h14 (xif h15 (xif h16 (xit h17 rfl)))))))))))))))))) hP hD hS xd_Z_indexOf_18
                                · refine lv_iload_n hx hb xd_Z_indexOf_17 rfl (lv_at hl 0 rfl) ?_
                                  exact hret _ () H locs ls _ (by unfold xf_Z_indexOf; exact (xif h1 (xif h2 (xif h3 (xif h4 (xif h5 (xif h6 (xif h7 (xif h8 (xif h9 (xif h10 (xif h11 (xif h12 (xif h13 (xif h14 (xif h15 (xit h16 rfl))))))))))))))))) hP hD hS xd_Z_indexOf_18
                              · refine lv_iload_n hx hb xd_Z_indexOf_17 rfl (lv_at hl 0 rfl) ?_
                                exact hret _ () H locs ls _ (by unfold xf_Z_indexOf; exact (xif h1 (xif h2 (xif h3 (xif h4 (xif h5 (xif h6 (xif h7 (xif h8 (xif h9 (xif h10 (xif h11 (xif h12 (xif h13 (xif h14 (xit h15 rfl)))))))))))))))) hP hD hS xd_Z_indexOf_18
                            · refine lv_iload_n hx hb xd_Z_indexOf_17 rfl (lv_at hl 0 rfl) ?_
                              exact hret _ () H locs ls _ (by unfold xf_Z_indexOf; exact (xif h1 (xif h2 (xif h3 (xif h4 (xif h5 (xif h6 (xif h7 (xif h8 (xif h9 (xif h10 (xif h11 (xif h12 (xif h13 (xit h14 rfl))))))))))))))) hP hD hS xd_Z_indexOf_18
                          · refine lv_iload_n hx hb xd_Z_indexOf_17 rfl (lv_at hl 0 rfl) ?_
                            exact hret _ () H locs ls _ (by unfold xf_Z_indexOf; exact (xif h1 (xif h2 (xif h3 (xif h4 (xif h5 (xif h6 (xif h7 (xif h8 (xif h9 (xif h10 (xif h11 (xif h12 (xit h13 rfl)))))))))))))) hP hD hS xd_Z_indexOf_18
                        · refine lv_iload_n hx hb xd_Z_indexOf_17 rfl (lv_at hl 0 rfl) ?_
                          exact hret _ () H locs ls _ (by unfold xf_Z_indexOf; exact (xif h1 (xif h2 (xif h3 (xif h4 (xif h5 (xif h6 (xif h7 (xif h8 (xif h9 (xif h10 (xif h11 (xit h12 rfl))))))))))))) hP hD hS xd_Z_indexOf_18
                      · refine lv_iload_n hx hb xd_Z_indexOf_17 rfl (lv_at hl 0 rfl) ?_
                        exact hret _ () H locs ls _ (by unfold xf_Z_indexOf; exact (xif h1 (xif h2 (xif h3 (xif h4 (xif h5 (xif h6 (xif h7 (xif h8 (xif h9 (xif h10 (xit h11 rfl)))))))))))) hP hD hS xd_Z_indexOf_18
                    · refine lv_iload_n hx hb xd_Z_indexOf_17 rfl (lv_at hl 0 rfl) ?_
                      exact hret _ () H locs ls _ (by unfold xf_Z_indexOf; exact (xif h1 (xif h2 (xif h3 (xif h4 (xif h5 (xif h6 (xif h7 (xif h8 (xif h9 (xit h10 rfl))))))))))) hP hD hS xd_Z_indexOf_18
                  · refine lv_iload_n hx hb xd_Z_indexOf_17 rfl (lv_at hl 0 rfl) ?_
                    exact hret _ () H locs ls _ (by unfold xf_Z_indexOf; exact (xif h1 (xif h2 (xif h3 (xif h4 (xif h5 (xif h6 (xif h7 (xif h8 (xit h9 rfl)))))))))) hP hD hS xd_Z_indexOf_18
                · refine lv_iload_n hx hb xd_Z_indexOf_17 rfl (lv_at hl 0 rfl) ?_
                  exact hret _ () H locs ls _ (by unfold xf_Z_indexOf; exact (xif h1 (xif h2 (xif h3 (xif h4 (xif h5 (xif h6 (xif h7 (xit h8 rfl))))))))) hP hD hS xd_Z_indexOf_18
              · refine lv_iload_n hx hb xd_Z_indexOf_17 rfl (lv_at hl 0 rfl) ?_
                exact hret _ () H locs ls _ (by unfold xf_Z_indexOf; exact (xif h1 (xif h2 (xif h3 (xif h4 (xif h5 (xif h6 (xit h7 rfl)))))))) hP hD hS xd_Z_indexOf_18
            · refine lv_iload_n hx hb xd_Z_indexOf_17 rfl (lv_at hl 0 rfl) ?_
              exact hret _ () H locs ls _ (by unfold xf_Z_indexOf; exact (xif h1 (xif h2 (xif h3 (xif h4 (xif h5 (xit h6 rfl))))))) hP hD hS xd_Z_indexOf_18
          · refine lv_iload_n hx hb xd_Z_indexOf_17 rfl (lv_at hl 0 rfl) ?_
            exact hret _ () H locs ls _ (by unfold xf_Z_indexOf; exact (xif h1 (xif h2 (xif h3 (xif h4 (xit h5 rfl)))))) hP hD hS xd_Z_indexOf_18
        · refine lv_iload_n hx hb xd_Z_indexOf_17 rfl (lv_at hl 0 rfl) ?_
          exact hret _ () H locs ls _ (by unfold xf_Z_indexOf; exact (xif h1 (xif h2 (xif h3 (xit h4 rfl))))) hP hD hS xd_Z_indexOf_18
      · refine lv_iload_n hx hb xd_Z_indexOf_17 rfl (lv_at hl 0 rfl) ?_
        exact hret _ () H locs ls _ (by unfold xf_Z_indexOf; exact (xif h1 (xif h2 (xit h3 rfl)))) hP hD hS xd_Z_indexOf_18
    · refine lv_iload_n hx hb xd_Z_indexOf_17 rfl (lv_at hl 0 rfl) ?_
      exact hret _ () H locs ls _ (by unfold xf_Z_indexOf; exact (xif h1 (xit h2 rfl))) hP hD hS xd_Z_indexOf_18
  · refine lv_iload_n hx hb xd_Z_indexOf_17 rfl (lv_at hl 0 rfl) ?_
    exact hret _ () H locs ls _ (by unfold xf_Z_indexOf; exact (xit h1 rfl)) hP hD hS xd_Z_indexOf_18
