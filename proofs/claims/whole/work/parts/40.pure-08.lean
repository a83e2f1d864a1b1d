theorem yam_kind (c : XZ) (k v us ex : Int32) : xg_Z_kind (xf_Z_asMode c k v us ex) = k := by
  obtain ⟨z1, z2, z3, z4, z5, z6, z7, z8, z9, z10, z11, z12, z13, z14, z15, z16, z17, z18, z19, z20, z21, z22, z23, z24, z25, z26, z27⟩ := c
  simp only [xf_Z_asMode, xg_Z_memory, xg_Z_x, xg_Z_pc, xg_Z_mode, xg_Z_time, xg_Z_alarm, xg_Z_line, xg_Z_off, xg_Z_controls, xg_Z_console, xg_Z_printed, xg_Z_toS, xg_Z_toVs, xg_Z_interrupts, xg_Z_cause, xg_Z_wrong, xg_Z_ofGuest, xg_Z_far, xg_Z_ofEntry, xg_Z_kind, xg_Z_virtual, xg_Z_user, xg_Z_executes, xg_Z_address, xg_Z_asGuest, xg_Z_next, xg_Z_thrown, xs_Z_memory, xs_Z_x, xs_Z_pc, xs_Z_mode, xs_Z_time, xs_Z_alarm, xs_Z_line, xs_Z_off, xs_Z_controls, xs_Z_console, xs_Z_printed, xs_Z_toS, xs_Z_toVs, xs_Z_interrupts, xs_Z_cause, xs_Z_wrong, xs_Z_ofGuest, xs_Z_far, xs_Z_ofEntry, xs_Z_kind, xs_Z_virtual, xs_Z_user, xs_Z_executes, xs_Z_address, xs_Z_asGuest, xs_Z_next, xs_Z_thrown]
theorem yam_virtual (c : XZ) (k v us ex : Int32) : xg_Z_virtual (xf_Z_asMode c k v us ex) = xb v := by
  obtain ⟨z1, z2, z3, z4, z5, z6, z7, z8, z9, z10, z11, z12, z13, z14, z15, z16, z17, z18, z19, z20, z21, z22, z23, z24, z25, z26, z27⟩ := c
  simp only [xf_Z_asMode, xg_Z_memory, xg_Z_x, xg_Z_pc, xg_Z_mode, xg_Z_time, xg_Z_alarm, xg_Z_line, xg_Z_off, xg_Z_controls, xg_Z_console, xg_Z_printed, xg_Z_toS, xg_Z_toVs, xg_Z_interrupts, xg_Z_cause, xg_Z_wrong, xg_Z_ofGuest, xg_Z_far, xg_Z_ofEntry, xg_Z_kind, xg_Z_virtual, xg_Z_user, xg_Z_executes, xg_Z_address, xg_Z_asGuest, xg_Z_next, xg_Z_thrown, xs_Z_memory, xs_Z_x, xs_Z_pc, xs_Z_mode, xs_Z_time, xs_Z_alarm, xs_Z_line, xs_Z_off, xs_Z_controls, xs_Z_console, xs_Z_printed, xs_Z_toS, xs_Z_toVs, xs_Z_interrupts, xs_Z_cause, xs_Z_wrong, xs_Z_ofGuest, xs_Z_far, xs_Z_ofEntry, xs_Z_kind, xs_Z_virtual, xs_Z_user, xs_Z_executes, xs_Z_address, xs_Z_asGuest, xs_Z_next, xs_Z_thrown]
theorem yam_user (c : XZ) (k v us ex : Int32) : xg_Z_user (xf_Z_asMode c k v us ex) = xb us := by
  obtain ⟨z1, z2, z3, z4, z5, z6, z7, z8, z9, z10, z11, z12, z13, z14, z15, z16, z17, z18, z19, z20, z21, z22, z23, z24, z25, z26, z27⟩ := c
  simp only [xf_Z_asMode, xg_Z_memory, xg_Z_x, xg_Z_pc, xg_Z_mode, xg_Z_time, xg_Z_alarm, xg_Z_line, xg_Z_off, xg_Z_controls, xg_Z_console, xg_Z_printed, xg_Z_toS, xg_Z_toVs, xg_Z_interrupts, xg_Z_cause, xg_Z_wrong, xg_Z_ofGuest, xg_Z_far, xg_Z_ofEntry, xg_Z_kind, xg_Z_virtual, xg_Z_user, xg_Z_executes, xg_Z_address, xg_Z_asGuest, xg_Z_next, xg_Z_thrown, xs_Z_memory, xs_Z_x, xs_Z_pc, xs_Z_mode, xs_Z_time, xs_Z_alarm, xs_Z_line, xs_Z_off, xs_Z_controls, xs_Z_console, xs_Z_printed, xs_Z_toS, xs_Z_toVs, xs_Z_interrupts, xs_Z_cause, xs_Z_wrong, xs_Z_ofGuest, xs_Z_far, xs_Z_ofEntry, xs_Z_kind, xs_Z_virtual, xs_Z_user, xs_Z_executes, xs_Z_address, xs_Z_asGuest, xs_Z_next, xs_Z_thrown]
theorem yam_executes (c : XZ) (k v us ex : Int32) : xg_Z_executes (xf_Z_asMode c k v us ex) = xb ex := by
  obtain ⟨z1, z2, z3, z4, z5, z6, z7, z8, z9, z10, z11, z12, z13, z14, z15, z16, z17, z18, z19, z20, z21, z22, z23, z24, z25, z26, z27⟩ := c
  simp only [xf_Z_asMode, xg_Z_memory, xg_Z_x, xg_Z_pc, xg_Z_mode, xg_Z_time, xg_Z_alarm, xg_Z_line, xg_Z_off, xg_Z_controls, xg_Z_console, xg_Z_printed, xg_Z_toS, xg_Z_toVs, xg_Z_interrupts, xg_Z_cause, xg_Z_wrong, xg_Z_ofGuest, xg_Z_far, xg_Z_ofEntry, xg_Z_kind, xg_Z_virtual, xg_Z_user, xg_Z_executes, xg_Z_address, xg_Z_asGuest, xg_Z_next, xg_Z_thrown, xs_Z_memory, xs_Z_x, xs_Z_pc, xs_Z_mode, xs_Z_time, xs_Z_alarm, xs_Z_line, xs_Z_off, xs_Z_controls, xs_Z_console, xs_Z_printed, xs_Z_toS, xs_Z_toVs, xs_Z_interrupts, xs_Z_cause, xs_Z_wrong, xs_Z_ofGuest, xs_Z_far, xs_Z_ofEntry, xs_Z_kind, xs_Z_virtual, xs_Z_user, xs_Z_executes, xs_Z_address, xs_Z_asGuest, xs_Z_next, xs_Z_thrown]
theorem yam_next (c : XZ) (k v us ex : Int32) : xg_Z_next (xf_Z_asMode c k v us ex) = xg_Z_next c := by
  obtain ⟨z1, z2, z3, z4, z5, z6, z7, z8, z9, z10, z11, z12, z13, z14, z15, z16, z17, z18, z19, z20, z21, z22, z23, z24, z25, z26, z27⟩ := c
  simp only [xf_Z_asMode, xg_Z_memory, xg_Z_x, xg_Z_pc, xg_Z_mode, xg_Z_time, xg_Z_alarm, xg_Z_line, xg_Z_off, xg_Z_controls, xg_Z_console, xg_Z_printed, xg_Z_toS, xg_Z_toVs, xg_Z_interrupts, xg_Z_cause, xg_Z_wrong, xg_Z_ofGuest, xg_Z_far, xg_Z_ofEntry, xg_Z_kind, xg_Z_virtual, xg_Z_user, xg_Z_executes, xg_Z_address, xg_Z_asGuest, xg_Z_next, xg_Z_thrown, xs_Z_memory, xs_Z_x, xs_Z_pc, xs_Z_mode, xs_Z_time, xs_Z_alarm, xs_Z_line, xs_Z_off, xs_Z_controls, xs_Z_console, xs_Z_printed, xs_Z_toS, xs_Z_toVs, xs_Z_interrupts, xs_Z_cause, xs_Z_wrong, xs_Z_ofGuest, xs_Z_far, xs_Z_ofEntry, xs_Z_kind, xs_Z_virtual, xs_Z_user, xs_Z_executes, xs_Z_address, xs_Z_asGuest, xs_Z_next, xs_Z_thrown]
theorem yam_console (c : XZ) (k v us ex : Int32) : xg_Z_console (xf_Z_asMode c k v us ex) = xg_Z_console c := by
  obtain ⟨z1, z2, z3, z4, z5, z6, z7, z8, z9, z10, z11, z12, z13, z14, z15, z16, z17, z18, z19, z20, z21, z22, z23, z24, z25, z26, z27⟩ := c
  simp only [xf_Z_asMode, xg_Z_memory, xg_Z_x, xg_Z_pc, xg_Z_mode, xg_Z_time, xg_Z_alarm, xg_Z_line, xg_Z_off, xg_Z_controls, xg_Z_console, xg_Z_printed, xg_Z_toS, xg_Z_toVs, xg_Z_interrupts, xg_Z_cause, xg_Z_wrong, xg_Z_ofGuest, xg_Z_far, xg_Z_ofEntry, xg_Z_kind, xg_Z_virtual, xg_Z_user, xg_Z_executes, xg_Z_address, xg_Z_asGuest, xg_Z_next, xg_Z_thrown, xs_Z_memory, xs_Z_x, xs_Z_pc, xs_Z_mode, xs_Z_time, xs_Z_alarm, xs_Z_line, xs_Z_off, xs_Z_controls, xs_Z_console, xs_Z_printed, xs_Z_toS, xs_Z_toVs, xs_Z_interrupts, xs_Z_cause, xs_Z_wrong, xs_Z_ofGuest, xs_Z_far, xs_Z_ofEntry, xs_Z_kind, xs_Z_virtual, xs_Z_user, xs_Z_executes, xs_Z_address, xs_Z_asGuest, xs_Z_next, xs_Z_thrown]
theorem yz_am (u : XH) (c : XZ) (k v us ex : Int32) : xf_Z_asMode (yxZof u c) k v us ex = yxZof u (xf_Z_asMode c k v us ex) := by
  unfold xf_Z_asMode
  rw [yzs_kind, yzs_virtual, yzs_user, yzs_executes]
theorem yv_am (c : XZ) (k : Int32) (v us ex : Bool) : xv_Z_asMode c k (xz v) (xz us) (xz ex) := by
  have h : ∀ b : Bool, X01 (xz b) := by intro b; cases b; exact Or.inl rfl; exact Or.inr rfl
  exact ⟨⟨h _, h _, h _, trivial⟩, trivial⟩
theorem yus_e {m : Int32} (h : ym4 m) : (if m = 0 then (1 : Int32) else (if m = 2 then 1 else 0)) = xz (!yxmS m) := by
  rcases h with h | h | h | h <;> subst h <;> decide
theorem ypreG {u : XH} {c c' : XZ} (h : yxPre u c) (h1 : xg_Z_next c' = xg_Z_next c) (h2 : xg_Z_console c' = xg_Z_console c) : yxPreG u c' := ⟨yg_con h.1 h2, ypre_c h, ypre_g h, ypre_i h, by rw [h1]; exact h.2.2.1, ypre_n h⟩
theorem yres_load {u : XH} {c : XZ} (h : yxPre u c) (w : Int32) (hw : xg_C_word u = w) {f : Int32} (hf : f = 0 ∨ f = 1 ∨ f = 2 ∨ f = 4 ∨ f = 5) (a : Int32) :
    yxRes (xf_Z_load (yxZof u c) ((w >>> ((7 : Int32) &&& 31)) &&& 31) f a) (xf_C_load u a (f &&& 3) (if f ≤ 3 then 0 else 1) 1 (xg_C_mode u)) := by
  unfold xf_Z_load
  simp only [yxlt_d, yz_isV, yzg_mode, yus_e h.1.1.1, yz_am, yprod_eta]
  have hws : ywsz (f &&& 3) ((1 : Int32) <<< ((f - f / (4 : Int32) * (4 : Int32)) &&& 31)) := by
    rcases hf with e | e | e | e | e <;> subst e
    · exact Or.inl ⟨by decide, by decide⟩
    · exact Or.inr (Or.inl ⟨by decide, by decide⟩)
    · exact Or.inr (Or.inr ⟨by decide, by decide⟩)
    · exact Or.inl ⟨by decide, by decide⟩
    · exact Or.inr (Or.inl ⟨by decide, by decide⟩)
  have hpl : ∃ pl : Bool, (if f ≤ 3 then (0 : Int32) else 1) = xz pl := by
    by_cases e : f ≤ 3
    · exact ⟨false, by rw [if_pos e]; rfl⟩
    · exact ⟨true, by rw [if_neg e]; rfl⟩
  obtain ⟨pl, hpl⟩ := hpl
  rw [hpl]
  refine yres_take (p := 1) (ypreG h (yam_next _ _ _ _ _) (yam_console _ _ _ _ _)) (by decide) (by decide) h.1.1.1 ?_ ?_ ?_ ?_ ?_ hws pl a _ ?_ (yvp31 _)
  · rw [yam_kind]; rfl
  · rw [yam_executes]; rfl
  · rw [yam_user, yxb_xz]
  · rw [yam_virtual, yxb_xz]
  · rw [ypre_a h, Bool.or_false]
  · rw [hw]; exact yfD_d w
theorem yv_load {u : XH} {c : XZ} (h : yxPre u c) (x : Int32) {f : Int32} (hf : f = 0 ∨ f = 1 ∨ f = 2 ∨ f = 4 ∨ f = 5) (a : Int32) : xv_Z_load (yxZof u c) (x &&& 31) f a := by
  have hws : ywsz (f &&& 3) ((1 : Int32) <<< ((f - f / (4 : Int32) * (4 : Int32)) &&& 31)) := by
    rcases hf with e | e | e | e | e <;> subst e
    · exact Or.inl ⟨by decide, by decide⟩
    · exact Or.inr (Or.inl ⟨by decide, by decide⟩)
    · exact Or.inr (Or.inr ⟨by decide, by decide⟩)
    · exact Or.inl ⟨by decide, by decide⟩
    · exact Or.inr (Or.inl ⟨by decide, by decide⟩)
  unfold xv_Z_load
  simp only [yxlt_d, yz_isV, yzg_mode, yus_e h.1.1.1, yz_am]
  refine ⟨⟨yv_am _ _ _ _ false, ?_, trivial⟩, trivial⟩
  refine yv_take (p := 1) (m := xg_C_mode u) (ypreG h (yam_next _ _ _ _ _) (yam_console _ _ _ _ _)) (by decide) (by decide) h.1.1.1 ?_ ?_ ?_ ?_ ?_ hws _ a _ (yvp31 _)
  · rw [yam_kind]; rfl
  · rw [yam_executes]; rfl
  · rw [yam_user, yxb_xz]
  · rw [yam_virtual, yxb_xz]
  · rw [ypre_a h, Bool.or_false]
theorem yres_store {u : XH} {c : XZ} (h : yxPre u c) {f : Int32} (hf : f = 0 ∨ f = 1 ∨ f = 2) (a : Int32) :
    yxRes (xf_Z_store (yxZof u c) ((1 : Int32) <<< (f &&& 31)) a (xg_x u (xf_D_b (xg_C_word u)).toNatClampNeg)) (xf_C_store u a f (xg_C_mode u)) := by
  unfold xf_Z_store
  simp only [yxlt_d, yz_isV, yzg_mode, yus_e h.1.1.1, yz_am, yprod_eta]
  have hws : ywsz f ((1 : Int32) <<< (f &&& 31)) := by
    rcases hf with e | e | e <;> subst e
    · exact Or.inl ⟨by decide, by decide⟩
    · exact Or.inr (Or.inl ⟨by decide, by decide⟩)
    · exact Or.inr (Or.inr ⟨by decide, by decide⟩)
  refine yres_give (ypreG h (yam_next _ _ _ _ _) (yam_console _ _ _ _ _)) h.1.1.1 ?_ ?_ ?_ ?_ ?_ hws a
  · rw [yam_kind]
  · rw [yam_executes]; rfl
  · rw [yam_user, yxb_xz]
  · rw [yam_virtual, yxb_xz]
  · rw [ypre_a h, Bool.or_false]
theorem yv_store {u : XH} {c : XZ} (h : yxPre u c) {f : Int32} (hf : f = 0 ∨ f = 1 ∨ f = 2) (a x : Int32) : xv_Z_store (yxZof u c) ((1 : Int32) <<< (f &&& 31)) a x := by
  have hws : ywsz f ((1 : Int32) <<< (f &&& 31)) := by
    rcases hf with e | e | e <;> subst e
    · exact Or.inl ⟨by decide, by decide⟩
    · exact Or.inr (Or.inl ⟨by decide, by decide⟩)
    · exact Or.inr (Or.inr ⟨by decide, by decide⟩)
  unfold xv_Z_store
  simp only [yxlt_d, yz_isV, yzg_mode, yus_e h.1.1.1, yz_am]
  refine ⟨⟨yv_am _ _ _ _ false, ?_, trivial⟩, trivial⟩
  refine yv_give (m := xg_C_mode u) (ypreG h (yam_next _ _ _ _ _) (yam_console _ _ _ _ _)) h.1.1.1 ?_ ?_ ?_ ?_ ?_ hws a x
  · rw [yam_kind]
  · rw [yam_executes]; rfl
  · rw [yam_user, yxb_xz]
  · rw [yam_virtual, yxb_xz]
  · rw [ypre_a h, Bool.or_false]
theorem ykw_fr (u : XH) {w : Int32} {n : Int32} (hn : ¬ xf_Z_indexOf n < 0) (h1 : ¬ n = 3073) (h2 : ¬ n = 3201) : xg_P (xf_K_write u n w) = xg_P u ∧ xg_C_next (xf_K_write u n w) = xg_C_next u ∧ xg_C_word (xf_K_write u n w) = xg_C_word u ∧ xg_C_pc (xf_K_write u n w) = xg_C_pc u := by
  rcases yzi_cases hn with h | h | h | h | h | h | h | h | h | h | h | h | h | h | h | h | h | h | h | h | h | h | h | h | h | h | h | h | h <;> subst h
  · rw [ykw_256]; exact ⟨rfl, rfl, rfl, rfl⟩
  · rw [ykw_260]; exact ⟨rfl, rfl, rfl, rfl⟩
  · rw [ykw_261]; exact ⟨rfl, rfl, rfl, rfl⟩
  · rw [ykw_320]; exact ⟨rfl, rfl, rfl, rfl⟩
  · rw [ykw_321]; exact ⟨rfl, rfl, rfl, rfl⟩
  · rw [ykw_322]; exact ⟨rfl, rfl, rfl, rfl⟩
  · rw [ykw_323]; exact ⟨rfl, rfl, rfl, rfl⟩
  · rw [ykw_324]; exact ⟨rfl, rfl, rfl, rfl⟩
  · rw [ykw_384]; exact ⟨rfl, rfl, rfl, rfl⟩
  · rw [ykw_512]; exact ⟨rfl, rfl, rfl, rfl⟩
  · unfold xf_K_write; rw [yxlt_d, yks_516, if_pos rfl, yxlt_d, if_pos rfl]; exact ⟨rfl, rfl, rfl, rfl⟩
  · rw [ykw_517]; exact ⟨rfl, rfl, rfl, rfl⟩
  · rw [ykw_576]; exact ⟨rfl, rfl, rfl, rfl⟩
  · rw [ykw_577]; exact ⟨rfl, rfl, rfl, rfl⟩
  · rw [ykw_578]; exact ⟨rfl, rfl, rfl, rfl⟩
  · rw [ykw_579]; exact ⟨rfl, rfl, rfl, rfl⟩
  · rw [ykw_580]; exact ⟨rfl, rfl, rfl, rfl⟩
  · rw [ykw_640]; exact ⟨rfl, rfl, rfl, rfl⟩
  · rw [ykw_1536]; exact ⟨rfl, rfl, rfl, rfl⟩
  · rw [ykw_1538]; exact ⟨rfl, rfl, rfl, rfl⟩
  · rw [ykw_1539]; exact ⟨rfl, rfl, rfl, rfl⟩
  · rw [ykw_1540]; exact ⟨rfl, rfl, rfl, rfl⟩
  · rw [ykw_1603]; exact ⟨rfl, rfl, rfl, rfl⟩
  · rw [ykw_1604]; exact ⟨rfl, rfl, rfl, rfl⟩
  · rw [ykw_1605]; exact ⟨rfl, rfl, rfl, rfl⟩
  · rw [ykw_1610]; exact ⟨rfl, rfl, rfl, rfl⟩
  · rw [ykw_1664]; exact ⟨rfl, rfl, rfl, rfl⟩
  · exact absurd rfl h1
  · exact absurd rfl h2

theorem ynt_1 (u : XH) (c : XZ) (w : Int32) : (xf_Z_notThere (yxZof u c) w).1 = 0 := by
  unfold xf_Z_notThere; simp only [yxlt_d, yz_fails]
theorem yres_may {u : XH} {c : XZ} (h : yxPre u c) (w : Int32) (hw : xg_C_word u = w) (b : Bool) :
    yxRes (if xg_C_mode u = 1 then 1 else (if xg_C_mode u = 3 then (if xz b = 0 then 1 else (if (xf_Z_notThere (yxZof u c) w).1 = 0 then 0 else 1)) else (if (xf_Z_notThere (yxZof u c) w).1 = 0 then 0 else 1)), if xg_C_mode u = 1 then yxZof u c else (if xg_C_mode u = 3 then (if xz b = 0 then yxZof u c else (if (xf_Z_notThere (yxZof u c) w).1 = 0 then (xf_Z_notThere (yxZof u c) w).2 else (xf_Z_notThere (yxZof u c) w).2)) else (if (xf_Z_notThere (yxZof u c) w).1 = 0 then (xf_Z_notThere (yxZof u c) w).2 else (xf_Z_notThere (yxZof u c) w).2))) (xf_C_mayDo u (xz b)).2 := by
  have hn := yres_nt h w hw
  have h1 := ynt_1 u c w
  have hok : yxRes ((1 : Int32), yxZof u c) u := ⟨c, rfl, h.1, Or.inl ⟨rfl, ypre_c h, h.2.2.1, ypre_n h⟩⟩
  have hnt : ∀ k, k = (if yxmV (xg_C_mode u) then 22 else 2) → yxRes ((0 : Int32), (xf_Z_notThere (yxZof u c) w).2) (xf_C_refuse u k) := by
    intro k hk
    have := hn k hk
    rw [← yprod_eta (xf_Z_notThere (yxZof u c) w), h1] at this
    exact this
  unfold xf_C_mayDo
  simp only [yxlt_d, h1, if_true, ite_self]
  rcases h.1.1.1 with hm | hm | hm | hm <;> simp only [hm] at hnt ⊢
  · exact hnt 2 (by decide)
  · exact hok
  · exact hnt 22 (by decide)
  · cases b
    · exact hok
    · exact hnt 22 (by decide)
theorem yset_e (u : XH) (m : Int32) (k : Nat) (h : ypw m k) : xf_C_isSet u m = xz (ybt (xg_K_hstatus u) k) := by
  unfold xf_C_isSet; rw [yxlt_d, ybit_e _ m k h]
theorem ynum_fits {n : Int32} : ∀ {m : Int32}, m = n → m = n := fun h => h
/-- the number that is meant: where it is allowed, both mean one -/
theorem ymeant_e {u : XH} (hi : yxInv u) (c : XZ) (n w : Int32) (h0 : xf_Z_refusal (yxZof u c) n w = 0) : (if xg_C_mode u = 3 then (if 512 ≤ n then n else n + 256) else n) = xf_K_meant n (xg_C_mode u) ∧ ¬ xf_Z_indexOf (xf_K_meant n (xg_C_mode u)) < 0 ∧ (¬ w = 0 → ¬ xf_K_meant n (xg_C_mode u) = 3073 ∧ ¬ xf_K_meant n (xg_C_mode u) = 3201) := by
  by_cases hn : xf_Z_indexOf n < 0
  · rw [yzr_none hn] at h0; exact absurd h0 (by decide)
  have hm := hi.1
  unfold xf_K_meant
  rw [yxlt_d]
  rcases yzi_cases hn with h | h | h | h | h | h | h | h | h | h | h | h | h | h | h | h | h | h | h | h | h | h | h | h | h | h | h | h | h <;> subst h

  · rcases hm with h | h | h | h <;> rw [h] <;> simp [yxlt_d, yks_256, yzi_256, yzi_512]
  · rcases hm with h | h | h | h <;> rw [h] <;> simp [yxlt_d, yks_260, yzi_260, yzi_516]
  · rcases hm with h | h | h | h <;> rw [h] <;> simp [yxlt_d, yks_261, yzi_261, yzi_517]
  · rcases hm with h | h | h | h <;> rw [h] <;> simp [yxlt_d, yks_320, yzi_320, yzi_576]
  · rcases hm with h | h | h | h <;> rw [h] <;> simp [yxlt_d, yks_321, yzi_321, yzi_577]
  · rcases hm with h | h | h | h <;> rw [h] <;> simp [yxlt_d, yks_322, yzi_322, yzi_578]
  · rcases hm with h | h | h | h <;> rw [h] <;> simp [yxlt_d, yks_323, yzi_323, yzi_579]
  · rcases hm with h | h | h | h <;> rw [h] <;> simp [yxlt_d, yks_324, yzi_324, yzi_580]
  · rcases hm with h | h | h | h <;> rw [h] <;> simp [yxlt_d, yks_384, yzi_384, yzi_640]
  · rw [yzr_512, yzg_mode] at h0
    rcases hm with h | h | h | h <;> rw [h] at h0 ⊢ <;> first | exact absurd h0 (by decide) | simp [yzi_512]
  · rw [yzr_516, yzg_mode] at h0
    rcases hm with h | h | h | h <;> rw [h] at h0 ⊢ <;> first | exact absurd h0 (by decide) | simp [yzi_516]
  · rw [yzr_517, yzg_mode] at h0
    rcases hm with h | h | h | h <;> rw [h] at h0 ⊢ <;> first | exact absurd h0 (by decide) | simp [yzi_517]
  · rw [yzr_576, yzg_mode] at h0
    rcases hm with h | h | h | h <;> rw [h] at h0 ⊢ <;> first | exact absurd h0 (by decide) | simp [yzi_576]
  · rw [yzr_577, yzg_mode] at h0
    rcases hm with h | h | h | h <;> rw [h] at h0 ⊢ <;> first | exact absurd h0 (by decide) | simp [yzi_577]
  · rw [yzr_578, yzg_mode] at h0
    rcases hm with h | h | h | h <;> rw [h] at h0 ⊢ <;> first | exact absurd h0 (by decide) | simp [yzi_578]
  · rw [yzr_579, yzg_mode] at h0
    rcases hm with h | h | h | h <;> rw [h] at h0 ⊢ <;> first | exact absurd h0 (by decide) | simp [yzi_579]
  · rw [yzr_580, yzg_mode] at h0
    rcases hm with h | h | h | h <;> rw [h] at h0 ⊢ <;> first | exact absurd h0 (by decide) | simp [yzi_580]
  · rw [yzr_640, yzg_mode] at h0
    rcases hm with h | h | h | h <;> rw [h] at h0 ⊢ <;> first | exact absurd h0 (by decide) | simp [yzi_640]
  · rw [yzr_1536, yzg_mode] at h0
    rcases hm with h | h | h | h <;> rw [h] at h0 ⊢ <;> first | exact absurd h0 (by decide) | simp [yzi_1536]
  · rw [yzr_1538, yzg_mode] at h0
    rcases hm with h | h | h | h <;> rw [h] at h0 ⊢ <;> first | exact absurd h0 (by decide) | simp [yzi_1538]
  · rw [yzr_1539, yzg_mode] at h0
    rcases hm with h | h | h | h <;> rw [h] at h0 ⊢ <;> first | exact absurd h0 (by decide) | simp [yzi_1539]
  · rw [yzr_1540, yzg_mode] at h0
    rcases hm with h | h | h | h <;> rw [h] at h0 ⊢ <;> first | exact absurd h0 (by decide) | simp [yzi_1540]
  · rw [yzr_1603, yzg_mode] at h0
    rcases hm with h | h | h | h <;> rw [h] at h0 ⊢ <;> first | exact absurd h0 (by decide) | simp [yzi_1603]
  · rw [yzr_1604, yzg_mode] at h0
    rcases hm with h | h | h | h <;> rw [h] at h0 ⊢ <;> first | exact absurd h0 (by decide) | simp [yzi_1604]
  · rw [yzr_1605, yzg_mode] at h0
    rcases hm with h | h | h | h <;> rw [h] at h0 ⊢ <;> first | exact absurd h0 (by decide) | simp [yzi_1605]
  · rw [yzr_1610, yzg_mode] at h0
    rcases hm with h | h | h | h <;> rw [h] at h0 ⊢ <;> first | exact absurd h0 (by decide) | simp [yzi_1610]
  · rw [yzr_1664, yzg_mode] at h0
    rcases hm with h | h | h | h <;> rw [h] at h0 ⊢ <;> first | exact absurd h0 (by decide) | simp [yzi_1664]
  · rw [yzr_3073] at h0
    have hw : w = 0 := Decidable.byContradiction (fun hh => by rw [if_neg hh] at h0; exact absurd h0 (by decide))
    rcases hm with h | h | h | h <;> rw [h] <;> simp [yxlt_d, yks_3073, yzi_3073, hw]
  · rw [yzr_3201] at h0
    have hw : w = 0 := Decidable.byContradiction (fun hh => by rw [if_neg hh] at h0; exact absurd h0 (by decide))
    rcases hm with h | h | h | h <;> rw [h] <;> simp [yxlt_d, yks_3201, yzi_3201, hw]
theorem yf4 {f : Int32} (hf : yf8p f) (h0 : ¬ f = 0) (h4 : ¬ f = 4) : f - f / (4 : Int32) * (4 : Int32) = f &&& 3 := by
  rcases hf with h | h | h | h | h | h | h | h <;> subst h <;> first | exact absurd rfl h0 | exact absurd rfl h4 | decide
theorem yres_control {u : XH} {c : XZ} (h : yxPre u c) (w : Int32) (hw : xg_C_word u = w) {f : Int32} (hf : yf8p f) (hf0 : ¬ f = 0) (hf4 : ¬ f = 4) :
    yxRes (xf_Z_control (yxZof u c) w ((w >>> ((7 : Int32) &&& 31)) &&& 31) f (xg_x u ((w >>> ((15 : Int32) &&& 31)) &&& 31).toNatClampNeg)) (xf_C_controlOp u f) := by
  unfold xf_Z_control xf_C_controlOp
  simp only [yxlt_d, hw, yfD_a, yf4 hf hf0 hf4, yzg_mode]
  generalize hwr : (if f &&& 3 = 1 then (1 : Int32) else if (w >>> ((15 : Int32) &&& 31)) &&& 31 = 0 then 0 else 1) = wr
  generalize xus w 20 = n
  generalize hv : (if f ≤ 4 then xg_x u ((w >>> ((15 : Int32) &&& 31)) &&& 31).toNatClampNeg else (w >>> ((15 : Int32) &&& 31)) &&& 31) = v
  obtain ⟨hr, hr2⟩ := yzr_all h.1.1 c n wr
  rw [hr]
  rcases hr2 with e | e | e
  · obtain ⟨hme, hmi, hmw⟩ := ymeant_e h.1.1 c n wr e
    rw [e, hme]
    simp only [if_pos (show (0 : Int32) ≤ 0 by decide), if_true]
    generalize xf_K_meant n (xg_C_mode u) = k at *
    rw [yzt_all h.1.1 c hmi]
    by_cases hw0 : wr = 0
    · simp only [if_pos hw0, hw, yfD_d]
      exact yres_put h (yvp31 _) _
    · have hc : (if f &&& 3 = 1 then v else if f &&& 3 = 2 then xf_K_tell u k ||| v else xf_K_tell u k &&& (v ^^^ (-1))) = xf_C_changed (f &&& 3) (xf_K_tell u k) v := by
        unfold xf_C_changed; rw [yxlt_d]
      obtain ⟨k1, k2⟩ := hmw hw0
      simp only [if_neg hw0, hc, yzw_all h.1.1 c _ hmi k1 k2]
      obtain ⟨e1, e2, e3, e4⟩ := ykw_fr u (w := xf_C_changed (f &&& 3) (xf_K_tell u k) v) hmi k1 k2
      rw [e3, hw, yfD_d]
      refine yres_put ⟨⟨yinv_write h.1.1 _ hmi k1 k2, yxCon_write h.1.2 hmi k1 k2⟩, ?_, ?_, ?_⟩ (yvp31 _) _
      · rw [e1]; exact h.2.1
      · rw [e2]; exact h.2.2.1
      · rw [e2, e4]; exact h.2.2.2
  · rw [e, if_neg (by decide), if_neg (by decide), if_neg (by decide)]
    unfold xf_C_refuse
    rw [yxlt_d, hw, yprod_eta]
    exact yres_no h (Or.inl rfl) w
  · rw [e, if_neg (by decide), if_neg (by decide), if_neg (by decide)]
    unfold xf_C_refuse
    rw [yxlt_d, hw, yprod_eta]
    exact yres_no h (Or.inr (Or.inl rfl)) w
theorem yv_control {u : XH} {c : XZ} (h : yxPre u c) (w : Int32) {f : Int32} (hf : yf8p f) (hf0 : ¬ f = 0) (hf4 : ¬ f = 4) (x a : Int32) : xv_Z_control (yxZof u c) w (x &&& 31) f a := by
  unfold xv_Z_control
  simp only [yxlt_d, yf4 hf hf0 hf4, yzg_mode, yzrv_all]
  generalize hwr : (if f &&& 3 = 1 then (1 : Int32) else if (w >>> ((15 : Int32) &&& 31)) &&& 31 = 0 then 0 else 1) = wr
  generalize xus w 20 = n
  obtain ⟨hr, hr2⟩ := yzr_all h.1.1 c n wr
  refine ⟨⟨trivial, ?_⟩, trivial⟩
  rcases hr2 with e | e | e
  · obtain ⟨hme, hmi, hmw⟩ := ymeant_e h.1.1 c n wr e
    rw [e, hme, if_pos (by decide)]
    generalize xf_K_meant n (xg_C_mode u) = k at *
    refine ⟨yztv_all _ hmi, ?_, yv_put_d _ _ _, trivial⟩
    by_cases hw0 : wr = 0
    · simp only [if_pos hw0]
    · obtain ⟨k1, k2⟩ := hmw hw0
      simp only [if_neg hw0, yzwv_all _ _ hmi k1 k2, ite_self, and_self]
  · rw [e, if_neg (by decide)]
    exact ⟨yv_fails _ _ _ false, trivial⟩
  · rw [e, if_neg (by decide)]
    exact ⟨yv_fails _ _ _ false, trivial⟩
def yxlv (st : Int32) : Int32 := yxsb (yxsb (yxsb st 1 (ybt st 5)) 5 true) 8 false
theorem ylv_eq (st : Int32) : ((st &&& (-259)) ||| (if st &&& 32 = 0 then 0 else 2)) ||| 32 = yxlv st := by
  apply ybt_ext
  intro i hi
  unfold yxlv
  rw [ybtx (b := 8) 8 (by decide) (by decide) hi, ybtx (b := 5) 5 (by decide) (by decide) hi, ybtx (b := 1) 1 (by decide) (by decide) hi, ybt_or, ybt_or, ybt_and]
  simp only [ypw_z (m := 32) (k := 5) ⟨by decide, by decide⟩]
  have h2 : ∀ i, i < 32 → ybt 2 i = decide (i = 1) := by decide +kernel
  have h32 : ∀ i, i < 32 → ybt 32 i = decide (i = 5) := by decide +kernel
  have h259 : ∀ i, i < 32 → ybt (-259) i = (!decide (i = 1) && !decide (i = 8)) := by decide +kernel
  rw [h259 i hi, h32 i hi]
  have e1 : ybt (if ybt st 5 = false then 0 else 2) i = (ybt st 5 && decide (i = 1)) := by
    cases ybt st 5
    · simp [ybt0]
    · simp [h2 i hi]
  rw [e1]
  by_cases h8 : i = 8
  · subst h8; simp
  · by_cases h1 : i = 1
    · subst h1; simp
    · by_cases h5 : i = 5
      · subst h5; simp
      · simp [h8, h1, h5]
theorem yhs7 (x : Int32) : x &&& (-129) = yxsb x 7 false := by
  apply ybt_ext
  intro i hi
  rw [ybtx (b := 7) 7 (by decide) (by decide) hi, ybt_and]
  have h : ∀ i, i < 32 → ybt (-129) i = (!decide (i = 7)) := by decide +kernel
  rw [h i hi]
  by_cases h7 : i = 7
  · subst h7; simp
  · simp [h7]
theorem ybleave (b : XB) : xf_B_leave b = (xz (ybt (xgB_status b) 8), xsB_status b (yxlv (xgB_status b))) := by
  unfold xf_B_leave
  rw [yxlt_d, yxlt_d, ylv_eq, ybit_e _ 256 8 ⟨by decide, by decide⟩]
def ymd2 (v s : Bool) : Int32 := if v then (if s then 3 else 2) else (if s then 1 else 0)
theorem ymd2_4 (v s : Bool) : ym4 (ymd2 v s) := by cases v <;> cases s <;> simp [ymd2, ym4]
/-- the state to which a way back from S leads -/
def yxbS (u : XH) : XH := xs_C_mode (xs_C_next (xs_S_status (xs_K_hstatus u (yxsb (xg_K_hstatus u) 7 false)) (yxlv (xg_S_status u))) (xg_S_epc u)) (ymd2 (ybt (xg_K_hstatus u) 7) (ybt (xg_S_status u) 8))
def yxbV (u : XH) : XH := xs_C_mode (xs_C_next (xs_V_status u (yxlv (xg_V_status u))) (xg_V_epc u)) (ymd2 true (ybt (xg_V_status u) 8))

theorem ybS_e (u : XH) (a b d : Int32) : xs_C_mode (xs_C_next (xs_S (xs_K_hstatus u a) (xsB_status (xg_S (xs_K_hstatus u a)) b)) (xg_S_epc (xs_S (xs_K_hstatus u a) (xsB_status (xg_S (xs_K_hstatus u a)) b)))) d = xs_C_mode (xs_C_next (xs_S_status (xs_K_hstatus u a) b) (xg_S_epc u)) d := by
  obtain ⟨⟨c1, c2, c3, c4, c5, c6, c7, c8, c9⟩, x, ⟨k1, k2, k3, k4, k5, k6, k7, k8, k9, k10, k11⟩, ⟨s1, s2, s3, s4, s5, s6, s7, s8, s9⟩, ⟨v1, v2, v3, v4, v5, v6, v7, v8, v9⟩, ⟨p1, p2, p3, p4, p5, p6⟩, ⟨⟨ym1, m2, m3⟩, ⟨n1, n2, n3⟩⟩⟩ := u
  simp only [xsB_status, xg_C_consoleSize, xg_C_pc, xg_C_mode, xg_C_off, xg_C_trapsToS, xg_C_trapsToVs, xg_C_interrupts, xg_C_next, xg_C_word, xg_x, xg_K_hstatus, xg_K_hedeleg, xg_K_hideleg, xg_K_hie, xg_K_htval, xg_K_hvip, xg_K_htinst, xg_K_hgatp, xg_K_time, xg_K_alarm, xg_K_lineOn, xg_S_status, xg_S_ie, xg_S_tvec, xg_S_scratch, xg_S_epc, xg_S_cause, xg_S_tval, xg_S_ip, xg_S_atp, xg_V_status, xg_V_ie, xg_V_tvec, xg_V_scratch, xg_V_epc, xg_V_cause, xg_V_tval, xg_V_ip, xg_V_atp, xg_P_cause, xg_P_tval, xg_P_guest, xg_P_inst, xg_P_asGuest, xg_P_interruptForVs, xs_C_consoleSize, xs_C_pc, xs_C_mode, xs_C_off, xs_C_trapsToS, xs_C_trapsToVs, xs_C_interrupts, xs_C_next, xs_C_word, xs_x, xs_K_hstatus, xs_K_hedeleg, xs_K_hideleg, xs_K_hie, xs_K_htval, xs_K_hvip, xs_K_htinst, xs_K_hgatp, xs_K_time, xs_K_alarm, xs_K_lineOn, xs_S_status, xs_S_ie, xs_S_tvec, xs_S_scratch, xs_S_epc, xs_S_cause, xs_S_tval, xs_S_ip, xs_S_atp, xs_V_status, xs_V_ie, xs_V_tvec, xs_V_scratch, xs_V_epc, xs_V_cause, xs_V_tval, xs_V_ip, xs_V_atp, xs_P_cause, xs_P_tval, xs_P_guest, xs_P_inst, xs_P_asGuest, xs_P_interruptForVs, xg_M, xg_S, xg_V, xg_P, xs_M1, xs_M2, xs_M, xs_S, xs_V, yxZof, yxctl]
theorem ybV_e (u : XH) (b d : Int32) : xs_C_mode (xs_C_next (xs_V u (xsB_status (xg_V u) b)) (xg_V_epc (xs_V u (xsB_status (xg_V u) b)))) d = xs_C_mode (xs_C_next (xs_V_status u b) (xg_V_epc u)) d := by
  obtain ⟨⟨c1, c2, c3, c4, c5, c6, c7, c8, c9⟩, x, ⟨k1, k2, k3, k4, k5, k6, k7, k8, k9, k10, k11⟩, ⟨s1, s2, s3, s4, s5, s6, s7, s8, s9⟩, ⟨v1, v2, v3, v4, v5, v6, v7, v8, v9⟩, ⟨p1, p2, p3, p4, p5, p6⟩, ⟨⟨ym1, m2, m3⟩, ⟨n1, n2, n3⟩⟩⟩ := u
  simp only [xsB_status, xg_C_consoleSize, xg_C_pc, xg_C_mode, xg_C_off, xg_C_trapsToS, xg_C_trapsToVs, xg_C_interrupts, xg_C_next, xg_C_word, xg_x, xg_K_hstatus, xg_K_hedeleg, xg_K_hideleg, xg_K_hie, xg_K_htval, xg_K_hvip, xg_K_htinst, xg_K_hgatp, xg_K_time, xg_K_alarm, xg_K_lineOn, xg_S_status, xg_S_ie, xg_S_tvec, xg_S_scratch, xg_S_epc, xg_S_cause, xg_S_tval, xg_S_ip, xg_S_atp, xg_V_status, xg_V_ie, xg_V_tvec, xg_V_scratch, xg_V_epc, xg_V_cause, xg_V_tval, xg_V_ip, xg_V_atp, xg_P_cause, xg_P_tval, xg_P_guest, xg_P_inst, xg_P_asGuest, xg_P_interruptForVs, xs_C_consoleSize, xs_C_pc, xs_C_mode, xs_C_off, xs_C_trapsToS, xs_C_trapsToVs, xs_C_interrupts, xs_C_next, xs_C_word, xs_x, xs_K_hstatus, xs_K_hedeleg, xs_K_hideleg, xs_K_hie, xs_K_htval, xs_K_hvip, xs_K_htinst, xs_K_hgatp, xs_K_time, xs_K_alarm, xs_K_lineOn, xs_S_status, xs_S_ie, xs_S_tvec, xs_S_scratch, xs_S_epc, xs_S_cause, xs_S_tval, xs_S_ip, xs_S_atp, xs_V_status, xs_V_ie, xs_V_tvec, xs_V_scratch, xs_V_epc, xs_V_cause, xs_V_tval, xs_V_ip, xs_V_atp, xs_P_cause, xs_P_tval, xs_P_guest, xs_P_inst, xs_P_asGuest, xs_P_interruptForVs, xg_M, xg_S, xg_V, xg_P, xs_M1, xs_M2, xs_M, xs_S, xs_V, yxZof, yxctl]
theorem yzb_S (u : XH) (a b d e : Int32) (c : XZ) : yxZof (xs_C_mode (xs_C_next (xs_S_status (xs_K_hstatus u a) b) d) e) c = yxZof (xs_C_mode (xs_K_hstatus (xs_S_status u b) a) e) c := by
  obtain ⟨⟨c1, c2, c3, c4, c5, c6, c7, c8, c9⟩, x, ⟨k1, k2, k3, k4, k5, k6, k7, k8, k9, k10, k11⟩, ⟨s1, s2, s3, s4, s5, s6, s7, s8, s9⟩, ⟨v1, v2, v3, v4, v5, v6, v7, v8, v9⟩, ⟨p1, p2, p3, p4, p5, p6⟩, ⟨⟨ym1, m2, m3⟩, ⟨n1, n2, n3⟩⟩⟩ := u
  simp only [xg_C_consoleSize, xg_C_pc, xg_C_mode, xg_C_off, xg_C_trapsToS, xg_C_trapsToVs, xg_C_interrupts, xg_C_next, xg_C_word, xg_x, xg_K_hstatus, xg_K_hedeleg, xg_K_hideleg, xg_K_hie, xg_K_htval, xg_K_hvip, xg_K_htinst, xg_K_hgatp, xg_K_time, xg_K_alarm, xg_K_lineOn, xg_S_status, xg_S_ie, xg_S_tvec, xg_S_scratch, xg_S_epc, xg_S_cause, xg_S_tval, xg_S_ip, xg_S_atp, xg_V_status, xg_V_ie, xg_V_tvec, xg_V_scratch, xg_V_epc, xg_V_cause, xg_V_tval, xg_V_ip, xg_V_atp, xg_P_cause, xg_P_tval, xg_P_guest, xg_P_inst, xg_P_asGuest, xg_P_interruptForVs, xs_C_consoleSize, xs_C_pc, xs_C_mode, xs_C_off, xs_C_trapsToS, xs_C_trapsToVs, xs_C_interrupts, xs_C_next, xs_C_word, xs_x, xs_K_hstatus, xs_K_hedeleg, xs_K_hideleg, xs_K_hie, xs_K_htval, xs_K_hvip, xs_K_htinst, xs_K_hgatp, xs_K_time, xs_K_alarm, xs_K_lineOn, xs_S_status, xs_S_ie, xs_S_tvec, xs_S_scratch, xs_S_epc, xs_S_cause, xs_S_tval, xs_S_ip, xs_S_atp, xs_V_status, xs_V_ie, xs_V_tvec, xs_V_scratch, xs_V_epc, xs_V_cause, xs_V_tval, xs_V_ip, xs_V_atp, xs_P_cause, xs_P_tval, xs_P_guest, xs_P_inst, xs_P_asGuest, xs_P_interruptForVs, xg_M, xg_S, xg_V, xg_P, xs_M1, xs_M2, xs_M, xs_S, xs_V, yxZof, yxctl]
theorem yzb_V (u : XH) (b d e : Int32) (c : XZ) : yxZof (xs_C_mode (xs_C_next (xs_V_status u b) d) e) c = yxZof (xs_C_mode (xs_V_status u b) e) c := by
  obtain ⟨⟨c1, c2, c3, c4, c5, c6, c7, c8, c9⟩, x, ⟨k1, k2, k3, k4, k5, k6, k7, k8, k9, k10, k11⟩, ⟨s1, s2, s3, s4, s5, s6, s7, s8, s9⟩, ⟨v1, v2, v3, v4, v5, v6, v7, v8, v9⟩, ⟨p1, p2, p3, p4, p5, p6⟩, ⟨⟨ym1, m2, m3⟩, ⟨n1, n2, n3⟩⟩⟩ := u
  simp only [xg_C_consoleSize, xg_C_pc, xg_C_mode, xg_C_off, xg_C_trapsToS, xg_C_trapsToVs, xg_C_interrupts, xg_C_next, xg_C_word, xg_x, xg_K_hstatus, xg_K_hedeleg, xg_K_hideleg, xg_K_hie, xg_K_htval, xg_K_hvip, xg_K_htinst, xg_K_hgatp, xg_K_time, xg_K_alarm, xg_K_lineOn, xg_S_status, xg_S_ie, xg_S_tvec, xg_S_scratch, xg_S_epc, xg_S_cause, xg_S_tval, xg_S_ip, xg_S_atp, xg_V_status, xg_V_ie, xg_V_tvec, xg_V_scratch, xg_V_epc, xg_V_cause, xg_V_tval, xg_V_ip, xg_V_atp, xg_P_cause, xg_P_tval, xg_P_guest, xg_P_inst, xg_P_asGuest, xg_P_interruptForVs, xs_C_consoleSize, xs_C_pc, xs_C_mode, xs_C_off, xs_C_trapsToS, xs_C_trapsToVs, xs_C_interrupts, xs_C_next, xs_C_word, xs_x, xs_K_hstatus, xs_K_hedeleg, xs_K_hideleg, xs_K_hie, xs_K_htval, xs_K_hvip, xs_K_htinst, xs_K_hgatp, xs_K_time, xs_K_alarm, xs_K_lineOn, xs_S_status, xs_S_ie, xs_S_tvec, xs_S_scratch, xs_S_epc, xs_S_cause, xs_S_tval, xs_S_ip, xs_S_atp, xs_V_status, xs_V_ie, xs_V_tvec, xs_V_scratch, xs_V_epc, xs_V_cause, xs_V_tval, xs_V_ip, xs_V_atp, xs_P_cause, xs_P_tval, xs_P_guest, xs_P_inst, xs_P_asGuest, xs_P_interruptForVs, xg_M, xg_S, xg_V, xg_P, xs_M1, xs_M2, xs_M, xs_S, xs_V, yxZof, yxctl]
theorem yhsS (u : XH) (a : Int32) : xgB_status (xg_S (xs_K_hstatus u a)) = xg_S_status u := (Eq.refl _).trans (Eq.refl _)
theorem yret_S {u : XH} (hm : xg_C_mode u = 1) : xf_C_returnFromTrap u = yxbS u := by
  unfold xf_C_returnFromTrap
  have e : ∀ b, xf_C_mayDo u b = (1, u) := by intro b; unfold xf_C_mayDo; rw [if_pos hm]
  simp only [yxlt_d, e, hm, show ¬ (1 : Int32) = 0 by decide, show ¬ (1 : Int32) = 3 by decide, if_false, if_true, yset_e u 128 7 ⟨by decide, by decide⟩, yhs7, ybleave, ybS_e, yhsS]
  unfold yxbS ymd2
  cases ybt (xg_K_hstatus u) 7 <;> cases ybt (xg_S_status u) 8 <;> simp [xz]
theorem yret_V {u : XH} (hm : xg_C_mode u = 3) (hb : ybt (xg_K_hstatus u) 22 = false) : xf_C_returnFromTrap u = yxbV u := by
  unfold xf_C_returnFromTrap
  have e : xf_C_mayDo u (xz false) = (1, u) := by unfold xf_C_mayDo; rw [if_neg (by rw [hm]; decide), if_pos hm, if_pos (show xz false = 0 from rfl)]
  rw [yset_e u 4194304 22 ⟨by decide, by decide⟩, hb, yxlt_d, yxlt_d, e]
  simp only [yxlt_d, hm, show ¬ (1 : Int32) = 0 by decide, show ¬ (3 : Int32) = 1 by decide, if_false, if_true, ybleave, ybV_e, ybV_st]
  unfold yxbV ymd2
  cases ybt (xg_V_status u) 8 <;> simp [xz]
theorem yret_no {u : XH} (h : (xf_C_mayDo u (xz (ybt (xg_K_hstatus u) 22))).1 = 0) : xf_C_returnFromTrap u = (xf_C_mayDo u (xz (ybt (xg_K_hstatus u) 22))).2 := by
  unfold xf_C_returnFromTrap
  rw [yset_e u 4194304 22 ⟨by decide, by decide⟩, yxlt_d, yxlt_d, if_pos h]
theorem ygs6 (u : XH) (a b : Int32) : xs_V_status (xs_V_status u a) b = xs_V_status u b := (Eq.refl _).trans (Eq.refl _)
theorem yzsb1 (v : XZ) (n b : Int32) : xf_Z_setBit v n b 1 = xf_Z_become v n (yxsb (xf_Z_value v n) b true) := yzsb v n b true
theorem yzsb0 (v : XZ) (n b : Int32) : xf_Z_setBit v n b 0 = xf_Z_become v n (yxsb (xf_Z_value v n) b false) := yzsb v n b false
theorem yz_backS (u : XH) (c : XZ) : xf_Z_back_256 (yxZof u c) = (1, yxZof (yxbS u) (xs_Z_next c (xg_S_epc u))) := by
  unfold xf_Z_back_256
  simp only [yxlt_d, yn_256_65]
  rw [yzv_321, yzs_next]
  rw [yzbit _ 256 8 8 (by decide) (by decide), yzbit _ 1536 7 7 (by decide) (by decide), yzbit _ 256 5 5 (by decide) (by decide), yzv_256, yzv_1536, yzv_256]
  rw [yzsb, yzv_256, yzb_256]
  rw [yzsb1, yzv_256, yzb_256, ygs2_S, ygs3_S]
  rw [yzsb0 _ 256 8, yzv_256, yzb_256, ygs2_S, ygs3_S]
  rw [yzsb0, yzv_1536, yzb_1536, yzs_mode]
  unfold yxbS
  rw [yzb_S]
  have em : (if (if xz (ybt (xg_K_hstatus u) 7) = 0 then (0 : Int32) else 1) = 0 then (if xz (ybt (xg_S_status u) 8) = 0 then (0 : Int32) else 1) else (if xz (ybt (xg_S_status u) 8) = 0 then 2 else 3)) = ymd2 (ybt (xg_K_hstatus u) 7) (ybt (xg_S_status u) 8) := by
    unfold ymd2
    cases ybt (xg_K_hstatus u) 7 <;> cases ybt (xg_S_status u) 8 <;> decide
  rw [em]
  rfl
theorem yz_backV (u : XH) (c : XZ) : xf_Z_back_512 (yxZof u c) = (1, yxZof (yxbV u) (xs_Z_next c (xg_V_epc u))) := by
  unfold xf_Z_back_512
  simp only [yxlt_d, yn_512_65]
  rw [yzv_577, yzs_next]
  rw [yzbit _ 512 8 8 (by decide) (by decide), yzbit _ 512 5 5 (by decide) (by decide), yzv_512, yzv_512]
  rw [yzsb, yzv_512, yzb_512]
  rw [yzsb1, yzv_512, yzb_512, ygs2_V, ygs3_V]
  rw [yzsb0, yzv_512, yzb_512, ygs2_V, ygs3_V]
  rw [yzs_mode]
  unfold yxbV
  rw [yzb_V]
  have em : (if xz (ybt (xg_V_status u) 8) = 0 then (2 : Int32) else 3) = ymd2 true (ybt (xg_V_status u) 8) := by
    unfold ymd2
    cases ybt (xg_V_status u) 8 <;> decide
  rw [em]
  rfl
theorem yv_backS (v : XZ) : xv_Z_back_256 v := by
  unfold xv_Z_back_256 XVc
  simp only [yxlt_d, yn_256_65, yzvv_321, yvb_256, yvs_256, yvb_1536, yvs_1536, true_and, and_true, ite_self]
theorem yv_backV (v : XZ) : xv_Z_back_512 v := by
  unfold xv_Z_back_512 XVc
  simp only [yxlt_d, yn_512_65, yzvv_577, yvb_512, yvs_512, true_and, and_true, ite_self]
theorem yres_bS {u : XH} {c : XZ} (h : yxPre u c) : yxRes (1, yxZof (yxbS u) (xs_Z_next c (xg_S_epc u))) (yxbS u) := by
  refine ⟨xs_Z_next c (xg_S_epc u), rfl, ygc_next ?_, Or.inl ⟨rfl, ?_, rfl, ?_⟩⟩
  · unfold yxbS
    exact ygu_C_mode (ygu_C_next (ygu_S_status (ygu_K_hstatus h.1))) (ymd2_4 _ _)
  · show xg_P_cause u = -1; exact ypre_c h
  · show xg_S_epc u &&& 3 = 0; exact h.1.1.2.2.1
theorem yres_bV {u : XH} {c : XZ} (h : yxPre u c) : yxRes (1, yxZof (yxbV u) (xs_Z_next c (xg_V_epc u))) (yxbV u) := by
  refine ⟨xs_Z_next c (xg_V_epc u), rfl, ygc_next ?_, Or.inl ⟨rfl, ?_, rfl, ?_⟩⟩
  · unfold yxbV
    exact ygu_C_mode (ygu_C_next (ygu_V_status h.1)) (ymd2_4 _ _)
  · show xg_P_cause u = -1; exact ypre_c h
  · show xg_V_epc u &&& 3 = 0; exact h.1.1.2.2.2.1
theorem yres_ret {u : XH} {c : XZ} (h : yxPre u c) (w : Int32) (hw : xg_C_word u = w) :
    yxRes (if xg_C_mode u = 1 then (xf_Z_back_256 (yxZof u c)).1 else (if xg_C_mode u = 3 then (if xz (ybt (xg_K_hstatus u) 22) = 0 then (xf_Z_back_512 (yxZof u c)).1 else (xf_Z_notThere (yxZof u c) w).1) else (xf_Z_notThere (yxZof u c) w).1), if xg_C_mode u = 1 then (xf_Z_back_256 (yxZof u c)).2 else (if xg_C_mode u = 3 then (if xz (ybt (xg_K_hstatus u) 22) = 0 then (xf_Z_back_512 (yxZof u c)).2 else (xf_Z_notThere (yxZof u c) w).2) else (xf_Z_notThere (yxZof u c) w).2)) (xf_C_returnFromTrap u) := by
  have hn := yres_nt h w hw
  rcases h.1.1.1 with hm | hm | hm | hm
  · simp only [hm, show ¬ (0 : Int32) = 1 by decide, show ¬ (0 : Int32) = 3 by decide, if_false]
    have e : xf_C_mayDo u (xz (ybt (xg_K_hstatus u) 22)) = (0, xf_C_refuse u 2) := by unfold xf_C_mayDo; simp only [hm, yxlt_d]; rfl
    rw [yret_no (by rw [e]), e]
    exact hn 2 (by rw [hm]; decide)
  · simp only [hm, if_true]
    rw [yz_backS, yret_S hm]
    exact yres_bS h
  · simp only [hm, show ¬ (2 : Int32) = 1 by decide, show ¬ (2 : Int32) = 3 by decide, if_false]
    have e : xf_C_mayDo u (xz (ybt (xg_K_hstatus u) 22)) = (0, xf_C_refuse u 22) := by unfold xf_C_mayDo; simp only [hm, yxlt_d]; rfl
    rw [yret_no (by rw [e]), e]
    exact hn 22 (by rw [hm]; decide)
  · simp only [hm, show ¬ (3 : Int32) = 1 by decide, if_false, if_true]
    cases hb : ybt (xg_K_hstatus u) 22
    · simp only [show xz false = 0 from rfl, if_true]
      rw [yz_backV, yret_V hm hb]
      exact yres_bV h
    · simp only [show ¬ xz true = 0 by decide, if_false]
      have e : xf_C_mayDo u (xz (ybt (xg_K_hstatus u) 22)) = (0, xf_C_refuse u 22) := by rw [hb]; unfold xf_C_mayDo; simp only [hm, yxlt_d]; rfl
      rw [yret_no (by rw [e]), e]
      exact hn 22 (by rw [hm]; decide)
theorem ybyt_0_0 (x v : Int32) : xus ((x &&& (((255 : Int32) <<< ((8 * 0 : Int32) &&& 31)) ^^^ (-1))) ||| ((v <<< ((8 * 0 : Int32) &&& 31)) &&& ((255 : Int32) <<< ((8 * 0 : Int32) &&& 31)))) (8 * 0) &&& 255 = v &&& 255 := by
  apply ybt_ext; intro i hi
  have em : ∀ i, i < 32 → ybt (-1) i = true := by decide +kernel
  have hm : ∀ i, i < 32 → ybt ((255 : Int32) <<< ((8 * 0 : Int32) &&& 31)) i = (decide (0 ≤ i) && decide (i < 8)) := by decide +kernel
  generalize (255 : Int32) <<< ((8 * 0 : Int32) &&& 31) = M at hm ⊢
  simp only [ybt_and, ybt_or, ybt_xor, ybt_xus _ (8 * 0 : Int32) 0 (by decide), ybt_shl _ ((8 * 0 : Int32) &&& 31) 0 (by decide), yb255 i hi]
  by_cases h : i < 8
  · rw [hm (0 + i) (by omega), em (0 + i) (by omega)]
    simp [h, hi, show 0 + i < 32 by omega, show 0 + i < 8 by omega, show ¬ 0 + i < 0 by omega]
  · simp [h]
theorem ybyt_0_1 (x v : Int32) : xus ((x &&& (((255 : Int32) <<< ((8 * 0 : Int32) &&& 31)) ^^^ (-1))) ||| ((v <<< ((8 * 0 : Int32) &&& 31)) &&& ((255 : Int32) <<< ((8 * 0 : Int32) &&& 31)))) (8 * 1) &&& 255 = xus x (8 * 1) &&& 255 := by
  apply ybt_ext; intro i hi
  have em : ∀ i, i < 32 → ybt (-1) i = true := by decide +kernel
  have hm : ∀ i, i < 32 → ybt ((255 : Int32) <<< ((8 * 0 : Int32) &&& 31)) i = (decide (0 ≤ i) && decide (i < 8)) := by decide +kernel
  generalize (255 : Int32) <<< ((8 * 0 : Int32) &&& 31) = M at hm ⊢
  simp only [ybt_and, ybt_or, ybt_xor, ybt_xus _ (8 * 1 : Int32) 8 (by decide), ybt_shl _ ((8 * 0 : Int32) &&& 31) 0 (by decide), yb255 i hi]
  by_cases h : i < 8
  · rw [hm (8 + i) (by omega), em (8 + i) (by omega)]
    simp [h, show ¬ 8 + i < 8 by omega]
  · simp [h]
theorem ybyt_0_2 (x v : Int32) : xus ((x &&& (((255 : Int32) <<< ((8 * 0 : Int32) &&& 31)) ^^^ (-1))) ||| ((v <<< ((8 * 0 : Int32) &&& 31)) &&& ((255 : Int32) <<< ((8 * 0 : Int32) &&& 31)))) (8 * 2) &&& 255 = xus x (8 * 2) &&& 255 := by
  apply ybt_ext; intro i hi
  have em : ∀ i, i < 32 → ybt (-1) i = true := by decide +kernel
  have hm : ∀ i, i < 32 → ybt ((255 : Int32) <<< ((8 * 0 : Int32) &&& 31)) i = (decide (0 ≤ i) && decide (i < 8)) := by decide +kernel
  generalize (255 : Int32) <<< ((8 * 0 : Int32) &&& 31) = M at hm ⊢
  simp only [ybt_and, ybt_or, ybt_xor, ybt_xus _ (8 * 2 : Int32) 16 (by decide), ybt_shl _ ((8 * 0 : Int32) &&& 31) 0 (by decide), yb255 i hi]
  by_cases h : i < 8
  · rw [hm (16 + i) (by omega), em (16 + i) (by omega)]
    simp [h, show ¬ 16 + i < 8 by omega]
  · simp [h]
theorem ybyt_0_3 (x v : Int32) : xus ((x &&& (((255 : Int32) <<< ((8 * 0 : Int32) &&& 31)) ^^^ (-1))) ||| ((v <<< ((8 * 0 : Int32) &&& 31)) &&& ((255 : Int32) <<< ((8 * 0 : Int32) &&& 31)))) (8 * 3) &&& 255 = xus x (8 * 3) &&& 255 := by
  apply ybt_ext; intro i hi
  have em : ∀ i, i < 32 → ybt (-1) i = true := by decide +kernel
  have hm : ∀ i, i < 32 → ybt ((255 : Int32) <<< ((8 * 0 : Int32) &&& 31)) i = (decide (0 ≤ i) && decide (i < 8)) := by decide +kernel
  generalize (255 : Int32) <<< ((8 * 0 : Int32) &&& 31) = M at hm ⊢
  simp only [ybt_and, ybt_or, ybt_xor, ybt_xus _ (8 * 3 : Int32) 24 (by decide), ybt_shl _ ((8 * 0 : Int32) &&& 31) 0 (by decide), yb255 i hi]
  by_cases h : i < 8
  · rw [hm (24 + i) (by omega), em (24 + i) (by omega)]
    simp [h, show ¬ 24 + i < 8 by omega]
  · simp [h]
theorem ybyt_1_0 (x v : Int32) : xus ((x &&& (((255 : Int32) <<< ((8 * 1 : Int32) &&& 31)) ^^^ (-1))) ||| ((v <<< ((8 * 1 : Int32) &&& 31)) &&& ((255 : Int32) <<< ((8 * 1 : Int32) &&& 31)))) (8 * 0) &&& 255 = xus x (8 * 0) &&& 255 := by
  apply ybt_ext; intro i hi
  have em : ∀ i, i < 32 → ybt (-1) i = true := by decide +kernel
  have hm : ∀ i, i < 32 → ybt ((255 : Int32) <<< ((8 * 1 : Int32) &&& 31)) i = (decide (8 ≤ i) && decide (i < 16)) := by decide +kernel
  generalize (255 : Int32) <<< ((8 * 1 : Int32) &&& 31) = M at hm ⊢
  simp only [ybt_and, ybt_or, ybt_xor, ybt_xus _ (8 * 0 : Int32) 0 (by decide), ybt_shl _ ((8 * 1 : Int32) &&& 31) 8 (by decide), yb255 i hi]
  by_cases h : i < 8
  · rw [hm (0 + i) (by omega), em (0 + i) (by omega)]
    simp [h, hi, show ¬ 8 ≤ 0 + i by omega, show ¬ 8 ≤ i by omega]
  · simp [h]
theorem ybyt_1_1 (x v : Int32) : xus ((x &&& (((255 : Int32) <<< ((8 * 1 : Int32) &&& 31)) ^^^ (-1))) ||| ((v <<< ((8 * 1 : Int32) &&& 31)) &&& ((255 : Int32) <<< ((8 * 1 : Int32) &&& 31)))) (8 * 1) &&& 255 = v &&& 255 := by
  apply ybt_ext; intro i hi
  have em : ∀ i, i < 32 → ybt (-1) i = true := by decide +kernel
  have hm : ∀ i, i < 32 → ybt ((255 : Int32) <<< ((8 * 1 : Int32) &&& 31)) i = (decide (8 ≤ i) && decide (i < 16)) := by decide +kernel
  generalize (255 : Int32) <<< ((8 * 1 : Int32) &&& 31) = M at hm ⊢
  simp only [ybt_and, ybt_or, ybt_xor, ybt_xus _ (8 * 1 : Int32) 8 (by decide), ybt_shl _ ((8 * 1 : Int32) &&& 31) 8 (by decide), yb255 i hi]
  by_cases h : i < 8
  · rw [hm (8 + i) (by omega), em (8 + i) (by omega)]
    simp [h, hi, show 8 + i < 32 by omega, show 8 + i < 16 by omega, show ¬ 8 + i < 8 by omega]
  · simp [h]
theorem ybyt_1_2 (x v : Int32) : xus ((x &&& (((255 : Int32) <<< ((8 * 1 : Int32) &&& 31)) ^^^ (-1))) ||| ((v <<< ((8 * 1 : Int32) &&& 31)) &&& ((255 : Int32) <<< ((8 * 1 : Int32) &&& 31)))) (8 * 2) &&& 255 = xus x (8 * 2) &&& 255 := by
  apply ybt_ext; intro i hi
  have em : ∀ i, i < 32 → ybt (-1) i = true := by decide +kernel
  have hm : ∀ i, i < 32 → ybt ((255 : Int32) <<< ((8 * 1 : Int32) &&& 31)) i = (decide (8 ≤ i) && decide (i < 16)) := by decide +kernel
  generalize (255 : Int32) <<< ((8 * 1 : Int32) &&& 31) = M at hm ⊢
  simp only [ybt_and, ybt_or, ybt_xor, ybt_xus _ (8 * 2 : Int32) 16 (by decide), ybt_shl _ ((8 * 1 : Int32) &&& 31) 8 (by decide), yb255 i hi]
  by_cases h : i < 8
  · rw [hm (16 + i) (by omega), em (16 + i) (by omega)]
    simp [h, show ¬ 16 + i < 16 by omega]
  · simp [h]
theorem ybyt_1_3 (x v : Int32) : xus ((x &&& (((255 : Int32) <<< ((8 * 1 : Int32) &&& 31)) ^^^ (-1))) ||| ((v <<< ((8 * 1 : Int32) &&& 31)) &&& ((255 : Int32) <<< ((8 * 1 : Int32) &&& 31)))) (8 * 3) &&& 255 = xus x (8 * 3) &&& 255 := by
  apply ybt_ext; intro i hi
  have em : ∀ i, i < 32 → ybt (-1) i = true := by decide +kernel
  have hm : ∀ i, i < 32 → ybt ((255 : Int32) <<< ((8 * 1 : Int32) &&& 31)) i = (decide (8 ≤ i) && decide (i < 16)) := by decide +kernel
  generalize (255 : Int32) <<< ((8 * 1 : Int32) &&& 31) = M at hm ⊢
  simp only [ybt_and, ybt_or, ybt_xor, ybt_xus _ (8 * 3 : Int32) 24 (by decide), ybt_shl _ ((8 * 1 : Int32) &&& 31) 8 (by decide), yb255 i hi]
  by_cases h : i < 8
  · rw [hm (24 + i) (by omega), em (24 + i) (by omega)]
    simp [h, show ¬ 24 + i < 16 by omega]
  · simp [h]
theorem ybyt_2_0 (x v : Int32) : xus ((x &&& (((255 : Int32) <<< ((8 * 2 : Int32) &&& 31)) ^^^ (-1))) ||| ((v <<< ((8 * 2 : Int32) &&& 31)) &&& ((255 : Int32) <<< ((8 * 2 : Int32) &&& 31)))) (8 * 0) &&& 255 = xus x (8 * 0) &&& 255 := by
  apply ybt_ext; intro i hi
  have em : ∀ i, i < 32 → ybt (-1) i = true := by decide +kernel
  have hm : ∀ i, i < 32 → ybt ((255 : Int32) <<< ((8 * 2 : Int32) &&& 31)) i = (decide (16 ≤ i) && decide (i < 24)) := by decide +kernel
  generalize (255 : Int32) <<< ((8 * 2 : Int32) &&& 31) = M at hm ⊢
  simp only [ybt_and, ybt_or, ybt_xor, ybt_xus _ (8 * 0 : Int32) 0 (by decide), ybt_shl _ ((8 * 2 : Int32) &&& 31) 16 (by decide), yb255 i hi]
  by_cases h : i < 8
  · rw [hm (0 + i) (by omega), em (0 + i) (by omega)]
    simp [h, hi, show ¬ 16 ≤ 0 + i by omega, show ¬ 16 ≤ i by omega]
  · simp [h]
theorem ybyt_2_1 (x v : Int32) : xus ((x &&& (((255 : Int32) <<< ((8 * 2 : Int32) &&& 31)) ^^^ (-1))) ||| ((v <<< ((8 * 2 : Int32) &&& 31)) &&& ((255 : Int32) <<< ((8 * 2 : Int32) &&& 31)))) (8 * 1) &&& 255 = xus x (8 * 1) &&& 255 := by
  apply ybt_ext; intro i hi
  have em : ∀ i, i < 32 → ybt (-1) i = true := by decide +kernel
  have hm : ∀ i, i < 32 → ybt ((255 : Int32) <<< ((8 * 2 : Int32) &&& 31)) i = (decide (16 ≤ i) && decide (i < 24)) := by decide +kernel
  generalize (255 : Int32) <<< ((8 * 2 : Int32) &&& 31) = M at hm ⊢
  simp only [ybt_and, ybt_or, ybt_xor, ybt_xus _ (8 * 1 : Int32) 8 (by decide), ybt_shl _ ((8 * 2 : Int32) &&& 31) 16 (by decide), yb255 i hi]
  by_cases h : i < 8
  · rw [hm (8 + i) (by omega), em (8 + i) (by omega)]
    simp [h, hi, show ¬ 16 ≤ 8 + i by omega, show ¬ 16 ≤ i by omega]
  · simp [h]
theorem ybyt_2_2 (x v : Int32) : xus ((x &&& (((255 : Int32) <<< ((8 * 2 : Int32) &&& 31)) ^^^ (-1))) ||| ((v <<< ((8 * 2 : Int32) &&& 31)) &&& ((255 : Int32) <<< ((8 * 2 : Int32) &&& 31)))) (8 * 2) &&& 255 = v &&& 255 := by
  apply ybt_ext; intro i hi
  have em : ∀ i, i < 32 → ybt (-1) i = true := by decide +kernel
  have hm : ∀ i, i < 32 → ybt ((255 : Int32) <<< ((8 * 2 : Int32) &&& 31)) i = (decide (16 ≤ i) && decide (i < 24)) := by decide +kernel
  generalize (255 : Int32) <<< ((8 * 2 : Int32) &&& 31) = M at hm ⊢
  simp only [ybt_and, ybt_or, ybt_xor, ybt_xus _ (8 * 2 : Int32) 16 (by decide), ybt_shl _ ((8 * 2 : Int32) &&& 31) 16 (by decide), yb255 i hi]
  by_cases h : i < 8
  · rw [hm (16 + i) (by omega), em (16 + i) (by omega)]
    simp [h, hi, show 16 + i < 32 by omega, show 16 + i < 24 by omega, show ¬ 16 + i < 16 by omega]
  · simp [h]
theorem ybyt_2_3 (x v : Int32) : xus ((x &&& (((255 : Int32) <<< ((8 * 2 : Int32) &&& 31)) ^^^ (-1))) ||| ((v <<< ((8 * 2 : Int32) &&& 31)) &&& ((255 : Int32) <<< ((8 * 2 : Int32) &&& 31)))) (8 * 3) &&& 255 = xus x (8 * 3) &&& 255 := by
  apply ybt_ext; intro i hi
  have em : ∀ i, i < 32 → ybt (-1) i = true := by decide +kernel
  have hm : ∀ i, i < 32 → ybt ((255 : Int32) <<< ((8 * 2 : Int32) &&& 31)) i = (decide (16 ≤ i) && decide (i < 24)) := by decide +kernel
  generalize (255 : Int32) <<< ((8 * 2 : Int32) &&& 31) = M at hm ⊢
  simp only [ybt_and, ybt_or, ybt_xor, ybt_xus _ (8 * 3 : Int32) 24 (by decide), ybt_shl _ ((8 * 2 : Int32) &&& 31) 16 (by decide), yb255 i hi]
  by_cases h : i < 8
  · rw [hm (24 + i) (by omega), em (24 + i) (by omega)]
    simp [h, show ¬ 24 + i < 24 by omega]
  · simp [h]
theorem ybyt_3_0 (x v : Int32) : xus ((x &&& (((255 : Int32) <<< ((8 * 3 : Int32) &&& 31)) ^^^ (-1))) ||| ((v <<< ((8 * 3 : Int32) &&& 31)) &&& ((255 : Int32) <<< ((8 * 3 : Int32) &&& 31)))) (8 * 0) &&& 255 = xus x (8 * 0) &&& 255 := by
  apply ybt_ext; intro i hi
  have em : ∀ i, i < 32 → ybt (-1) i = true := by decide +kernel
  have hm : ∀ i, i < 32 → ybt ((255 : Int32) <<< ((8 * 3 : Int32) &&& 31)) i = (decide (24 ≤ i) && decide (i < 32)) := by decide +kernel
  generalize (255 : Int32) <<< ((8 * 3 : Int32) &&& 31) = M at hm ⊢
  simp only [ybt_and, ybt_or, ybt_xor, ybt_xus _ (8 * 0 : Int32) 0 (by decide), ybt_shl _ ((8 * 3 : Int32) &&& 31) 24 (by decide), yb255 i hi]
  by_cases h : i < 8
  · rw [hm (0 + i) (by omega), em (0 + i) (by omega)]
    simp [h, hi, show ¬ 24 ≤ 0 + i by omega, show ¬ 24 ≤ i by omega]
  · simp [h]
theorem ybyt_3_1 (x v : Int32) : xus ((x &&& (((255 : Int32) <<< ((8 * 3 : Int32) &&& 31)) ^^^ (-1))) ||| ((v <<< ((8 * 3 : Int32) &&& 31)) &&& ((255 : Int32) <<< ((8 * 3 : Int32) &&& 31)))) (8 * 1) &&& 255 = xus x (8 * 1) &&& 255 := by
  apply ybt_ext; intro i hi
  have em : ∀ i, i < 32 → ybt (-1) i = true := by decide +kernel
  have hm : ∀ i, i < 32 → ybt ((255 : Int32) <<< ((8 * 3 : Int32) &&& 31)) i = (decide (24 ≤ i) && decide (i < 32)) := by decide +kernel
  generalize (255 : Int32) <<< ((8 * 3 : Int32) &&& 31) = M at hm ⊢
  simp only [ybt_and, ybt_or, ybt_xor, ybt_xus _ (8 * 1 : Int32) 8 (by decide), ybt_shl _ ((8 * 3 : Int32) &&& 31) 24 (by decide), yb255 i hi]
  by_cases h : i < 8
  · rw [hm (8 + i) (by omega), em (8 + i) (by omega)]
    simp [h, hi, show ¬ 24 ≤ 8 + i by omega, show ¬ 24 ≤ i by omega]
  · simp [h]
theorem ybyt_3_2 (x v : Int32) : xus ((x &&& (((255 : Int32) <<< ((8 * 3 : Int32) &&& 31)) ^^^ (-1))) ||| ((v <<< ((8 * 3 : Int32) &&& 31)) &&& ((255 : Int32) <<< ((8 * 3 : Int32) &&& 31)))) (8 * 2) &&& 255 = xus x (8 * 2) &&& 255 := by
  apply ybt_ext; intro i hi
  have em : ∀ i, i < 32 → ybt (-1) i = true := by decide +kernel
  have hm : ∀ i, i < 32 → ybt ((255 : Int32) <<< ((8 * 3 : Int32) &&& 31)) i = (decide (24 ≤ i) && decide (i < 32)) := by decide +kernel
  generalize (255 : Int32) <<< ((8 * 3 : Int32) &&& 31) = M at hm ⊢
  simp only [ybt_and, ybt_or, ybt_xor, ybt_xus _ (8 * 2 : Int32) 16 (by decide), ybt_shl _ ((8 * 3 : Int32) &&& 31) 24 (by decide), yb255 i hi]
  by_cases h : i < 8
  · rw [hm (16 + i) (by omega), em (16 + i) (by omega)]
    simp [h, hi, show ¬ 24 ≤ 16 + i by omega, show ¬ 24 ≤ i by omega]
  · simp [h]
theorem ybyt_3_3 (x v : Int32) : xus ((x &&& (((255 : Int32) <<< ((8 * 3 : Int32) &&& 31)) ^^^ (-1))) ||| ((v <<< ((8 * 3 : Int32) &&& 31)) &&& ((255 : Int32) <<< ((8 * 3 : Int32) &&& 31)))) (8 * 3) &&& 255 = v &&& 255 := by
  apply ybt_ext; intro i hi
  have em : ∀ i, i < 32 → ybt (-1) i = true := by decide +kernel
  have hm : ∀ i, i < 32 → ybt ((255 : Int32) <<< ((8 * 3 : Int32) &&& 31)) i = (decide (24 ≤ i) && decide (i < 32)) := by decide +kernel
  generalize (255 : Int32) <<< ((8 * 3 : Int32) &&& 31) = M at hm ⊢
  simp only [ybt_and, ybt_or, ybt_xor, ybt_xus _ (8 * 3 : Int32) 24 (by decide), ybt_shl _ ((8 * 3 : Int32) &&& 31) 24 (by decide), yb255 i hi]
  by_cases h : i < 8
  · rw [hm (24 + i) (by omega), em (24 + i) (by omega)]
    simp [h, hi, show 24 + i < 32 by omega, show 24 + i < 32 by omega, show ¬ 24 + i < 24 by omega]
  · simp [h]
theorem yn3_cases {a : Int32} {n : Nat} (h : a.toBitVec.toNat = n) : a &&& 3 = Int32.ofNat (n % 4) := by
  apply ytn_ext
  have h3 : (a &&& 3).toBitVec.toNat = a.toBitVec.toNat % 4 := yand_tn a 3 2 (by decide)
  rw [h3, h]
  exact (ynI_tn (by omega)).symm
/-- a byte of a word that was changed in one byte -/
theorem ybyt (k j : Nat) (hk : k < 4) (hj : j < 4) (x v : Int32) : xus ((x &&& (((255 : Int32) <<< (((8 : Int32) * Int32.ofNat k) &&& 31)) ^^^ (-1))) ||| ((v <<< (((8 : Int32) * Int32.ofNat k) &&& 31)) &&& ((255 : Int32) <<< (((8 : Int32) * Int32.ofNat k) &&& 31)))) (8 * Int32.ofNat j) &&& 255 = if j = k then v &&& 255 else xus x (8 * Int32.ofNat j) &&& 255 := by
  have hk4 : k = 0 ∨ k = 1 ∨ k = 2 ∨ k = 3 := by omega
  have hj4 : j = 0 ∨ j = 1 ∨ j = 2 ∨ j = 3 := by omega
  rcases hk4 with h | h | h | h <;> rcases hj4 with h2 | h2 | h2 | h2 <;> subst h <;> subst h2
  · exact ybyt_0_0 x v
  · exact ybyt_0_1 x v
  · exact ybyt_0_2 x v
  · exact ybyt_0_3 x v
  · exact ybyt_1_0 x v
  · exact ybyt_1_1 x v
  · exact ybyt_1_2 x v
  · exact ybyt_1_3 x v
  · exact ybyt_2_0 x v
  · exact ybyt_2_1 x v
  · exact ybyt_2_2 x v
  · exact ybyt_2_3 x v
  · exact ybyt_3_0 x v
  · exact ybyt_3_1 x v
  · exact ybyt_3_2 x v
  · exact ybyt_3_3 x v
theorem ywr1 (m : XM1) {a : Int32} {n : Nat} (h : a.toBitVec.toNat = n) (hn : n < 4096) (w : Int32) : xf_M_writeWord 1 m a w = (va_up m.1 0 (upd (m.1 0) (n / 4) w), va_up m.2.1 0 true, m.2.2) := by
  unfold xf_M_writeWord
  have e := yxus_tn a 12 12 (by decide)
  rw [h] at e
  have hl : xus a 12 < Int32.ofNat 1 := by
    apply Int32.lt_iff_toInt_lt.mpr
    rw [ytoInt_tn _ (by rw [e]; omega), e]
    have : (Int32.ofNat 1).toInt = 1 := by decide
    rw [this]; omega
  rw [if_pos hl, yxmI_n h, yxmJ_n h]
  have e1 : n / 4096 = 0 := by omega
  have e2 : n / 4 % 1024 = n / 4 := by omega
  rw [e1, e2]
theorem yrb1 (m : XM1) {a : Int32} {n : Nat} (h : a.toBitVec.toNat = n) (hn : n < 4096) : (xf_M_read 1 m a 0).1 &&& 255 = xus (m.1 0 (n / 4)) (8 * Int32.ofNat (n % 4)) &&& 255 := by
  unfold xf_M_read
  rw [yxlt_d, yrd1 m h hn, if_pos rfl, yun8, yn3_cases h]
theorem ycon_print {u : XH} {c : XZ} (h : yxG u c) (hs : ¬ 4096 ≤ xg_C_consoleSize u) (v : Int32) :
    yxG (xs_C_consoleSize (xs_M2 u (xf_M_write 1 (xg_M u).2 (xg_C_consoleSize u) 0 v)) (xg_C_consoleSize u + 1)) (xs_Z_console c (upd (xg_Z_console c) (xg_C_consoleSize u).toNatClampNeg (v &&& 255))) := by
  have h12 := h.1.2.2.2.2.2.2.2.2.2.2.2.1
  have h13 := h.1.2.2.2.2.2.2.2.2.2.2.2.2
  have hlt : (xg_C_consoleSize u).toInt < 4096 := by
    have : ¬ (4096 : Int32).toInt ≤ (xg_C_consoleSize u).toInt := fun hh => hs (Int32.le_iff_toInt_le.mpr hh)
    have e : (4096 : Int32).toInt = 4096 := by decide
    omega
  have hs0 : ¬ xg_C_consoleSize u < 0 := fun hh => by
    have := Int32.lt_iff_toInt_lt.mp hh
    have e : (0 : Int32).toInt = 0 := by decide
    omega
  obtain ⟨k, hk, hk2, hk3⟩ := ypos_tn hs0
  have hk4 : k < 4096 := by omega
  have hadd : (xg_C_consoleSize u + 1).toInt = (k : Int) + 1 := by
    have := yadd_tn hk 1 1 (by decide) (by omega)
    rw [ytoInt_tn _ (by rw [this]; omega), this]; omega
  have ew : xf_M_write 1 (xg_M u).2 (xg_C_consoleSize u) 0 v = (va_up (xg_M u).2.1 0 (upd ((xg_M u).2.1 0) (k / 4) ((((xg_M u).2.1 0 (k / 4)) &&& (((255 : Int32) <<< (((8 : Int32) * Int32.ofNat (k % 4)) &&& 31)) ^^^ (-1))) ||| ((v <<< (((8 : Int32) * Int32.ofNat (k % 4)) &&& 31)) &&& ((255 : Int32) <<< (((8 : Int32) * Int32.ofNat (k % 4)) &&& 31))))), va_up (xg_M u).2.2.1 0 true, (xg_M u).2.2.2) := by
    unfold xf_M_write
    rw [if_neg (by decide), yxlt_d, if_pos rfl, yxlt_d, yxlt_d, yrd1 _ hk hk4, ywr1 _ hk hk4, yn3_cases hk]
  refine ⟨?_, ?_⟩
  · obtain ⟨h1, h2, h3, h4, h5, h6, h7, h8, h9, h10, h11, _, _⟩ := h.1
    exact ⟨h1, h2, h3, h4, h5, h6, h7, h8, h9, h10, h11, (by show 0 ≤ (xg_C_consoleSize u + 1).toInt; omega), (by show (xg_C_consoleSize u + 1).toInt ≤ 4096; omega)⟩
  · intro i hi0 hi1
    have hi1' : i < xg_C_consoleSize u + 1 := hi1
    obtain ⟨n, hn, hn2, hn3⟩ := ypos_tn hi0
    have hil := Int32.lt_iff_toInt_lt.mp hi1'
    have hn4 : n ≤ k := by omega
    show upd (xg_Z_console c) (xg_C_consoleSize u).toNatClampNeg (v &&& 255) i.toNatClampNeg = (xf_M_read 1 (xf_M_write 1 (xg_M u).2 (xg_C_consoleSize u) 0 v) i 0).1 &&& 255
    rw [yrb1 _ hn (by omega), ew, yclamp_tn _ (by rw [hk]; omega), yclamp_tn i (by omega), hk, hn]
    unfold upd va_up
    simp only [if_true]
    by_cases e : n = k
    · subst e
      simp only [if_true]
      rw [ybyt _ _ (by omega) (by omega), if_pos rfl]
    · rw [if_neg e]
      have hold : xg_Z_console c i.toNatClampNeg = (xf_M_read 1 (xg_M u).2 i 0).1 &&& 255 := h.2 i hi0 (Int32.lt_iff_toInt_lt.mpr (by omega))
      rw [yrb1 _ hn (by omega), yclamp_tn i (by omega), hn] at hold
      rw [hold]
      by_cases e4 : n / 4 = k / 4
      · rw [if_pos e4, e4, ybyt _ _ (by omega) (by omega), if_neg (by omega)]
      · rw [if_neg e4]
theorem yi10 : (10 : Int32).toNatClampNeg = 10 := by decide
theorem yput10 (u : XH) (w : Int32) : xs_x u (upd (xg_x u) (10 : Int32).toNatClampNeg w) = xf_C_put u 10 w := by
  unfold xf_C_put; rw [yxlt_d, if_neg (by decide)]
theorem yal2 (u : XH) (a b : Int64) : xs_K_alarm (xs_K_alarm u a) b = xs_K_alarm u b := (Eq.refl _).trans (Eq.refl _)
theorem yalg (u : XH) (a : Int64) : xg_K_alarm (xs_K_alarm u a) = a := (Eq.refl _).trans (Eq.refl _)
theorem ycsg (u : XH) (m : XM1) : xg_C_consoleSize (xs_M2 u m) = xg_C_consoleSize u := (Eq.refl _).trans (Eq.refl _)
theorem yzprint (u : XH) (m : XM1) (a : Int32) (c : XZ) : yxZof (xs_C_consoleSize (xs_M2 u m) a) c = yxZof (xs_C_consoleSize u a) c := (Eq.refl _).trans (Eq.refl _)
theorem ypr_c (u : XH) (m : XM1) (a : Int32) : xg_P_cause (xs_C_consoleSize (xs_M2 u m) a) = xg_P_cause u := (Eq.refl _).trans (Eq.refl _)
theorem ypr_n (u : XH) (m : XM1) (a : Int32) : xg_C_next (xs_C_consoleSize (xs_M2 u m) a) = xg_C_next u := (Eq.refl _).trans (Eq.refl _)
theorem ypr_z (c : XZ) (f : Nat → Int32) : xg_Z_next (xs_Z_console c f) = xg_Z_next c := (Eq.refl _).trans (Eq.refl _)
theorem yal_c (u : XH) (a : Int64) : xg_P_cause (xs_K_alarm u a) = xg_P_cause u := (Eq.refl _).trans (Eq.refl _)
theorem yal_n (u : XH) (a : Int64) : xg_C_next (xs_K_alarm u a) = xg_C_next u := (Eq.refl _).trans (Eq.refl _)
theorem yof_c (u : XH) (a : Bool) : xg_P_cause (xs_C_off u a) = xg_P_cause u := (Eq.refl _).trans (Eq.refl _)
theorem yof_n (u : XH) (a : Bool) : xg_C_next (xs_C_off u a) = xg_C_next u := (Eq.refl _).trans (Eq.refl _)
theorem yv10 : vp_in (10 : Int32) 32 := yvp_of (n := 10) rfl (by decide) (by decide)
theorem yres_put2 {u : XH} {c : XZ} (hg : yxG u c) (h1 : xg_P_cause u = -1) (h2 : xg_Z_next c = xg_C_next u) (h3 : xg_C_next u &&& 3 = 0) {d : Int32} (hd : vp_in d 32) (w : Int32) : yxRes (xf_Z_put (yxZof u c) d w) (xf_C_put u d w) := by
  rw [yzput hg.1]
  refine ⟨c, rfl, ygput hg hd, Or.inl ⟨rfl, ?_, ?_, ?_⟩⟩
  · rw [yput_cause]; exact h1
  · rw [yput_next]; exact h2
  · rw [yput_next]; exact h3
theorem yres_call {u : XH} {c : XZ} (h : yxPre u c) : yxRes (xf_Z_call (yxZof u c)) (xf_C_environmentCall u) := by
  unfold xf_Z_call xf_C_environmentCall xf_C_setAlarm xf_C_print
  simp only [yxlt_d, yzg_mode, yzg_x, yzg_alarm, yzs_alarm, yalg, yal2, yzg_printed, yput10]
  by_cases hm : xg_C_mode u = 1
  · rw [if_pos hm, if_pos hm]
    by_cases w0 : xg_x u (17 : Int32).toNatClampNeg = 0
    · simp only [if_pos w0, yprod_eta]
      exact yres_put2 (ygu_K_alarm h.1) (by rw [yal_c]; exact ypre_c h) (by rw [yal_n]; exact h.2.2.1) (by rw [yal_n]; exact ypre_n h) yv10 _
    · by_cases w1 : xg_x u (17 : Int32).toNatClampNeg = 1
      · simp only [if_neg w0, if_pos w1, ite_self, yprod_eta]
        by_cases hs : 4096 ≤ xg_C_consoleSize u
        · simp only [if_pos hs]
          exact yres_put h yv10 _
        · simp only [if_neg hs, ycsg]
          rw [yzg_console, yzs_console, yzg_printed, yzs_printed, ← yzprint u (xf_M_write 1 (xg_M u).2 (xg_C_consoleSize u) 0 (xg_x u (10 : Int32).toNatClampNeg))]
          exact yres_put2 (ycon_print h.1 hs _) (by rw [ypr_c]; exact ypre_c h) (by rw [ypr_n, ypr_z]; exact h.2.2.1) (by rw [ypr_n]; exact ypre_n h) yv10 _
      · by_cases w8 : xg_x u (17 : Int32).toNatClampNeg = 8
        · simp only [if_neg w0, if_neg w1, if_pos w8, yprod_eta]
          rw [yzs_off]
          exact yres_put2 (ygu_C_off h.1) (by rw [yof_c]; exact ypre_c h) (by rw [yof_n]; exact h.2.2.1) (by rw [yof_n]; exact ypre_n h) yv10 _
        · simp only [if_neg w0, if_neg w1, if_neg w8, yprod_eta]
          exact yres_put h yv10 _
  · rw [if_neg hm, if_neg hm, yprod_eta]
    by_cases h3 : xg_C_mode u = 3
    · rw [if_pos h3, if_pos h3]; exact yres_no h (Or.inr (Or.inr (Or.inr rfl))) 0
    · rw [if_neg h3, if_neg h3]; exact yres_no h (Or.inr (Or.inr (Or.inl rfl))) 0
theorem yv_call {u : XH} {c : XZ} (h : yxPre u c) : xv_Z_call (yxZof u c) := by
  have hc : ∀ p : Prop, (¬ 4096 ≤ xg_C_consoleSize u → p) → (if 4096 ≤ xg_C_consoleSize u then True else p) := by
    intro p hp; by_cases h : 4096 ≤ xg_C_consoleSize u
    · rw [if_pos h]; trivial
    · rw [if_neg h]; exact hp h
  have hv : ¬ 4096 ≤ xg_C_consoleSize u → vp_in (xg_C_consoleSize u) 4096 := by
    intro hs
    have h12 := h.1.1.2.2.2.2.2.2.2.2.2.2.2.1
    have hs0 : ¬ xg_C_consoleSize u < 0 := fun hh => by
      have := Int32.lt_iff_toInt_lt.mp hh
      have e : (0 : Int32).toInt = 0 := by decide
      omega
    obtain ⟨k, hk, hk2, hk3⟩ := ypos_tn hs0
    have : ¬ (4096 : Int32).toInt ≤ (xg_C_consoleSize u).toInt := fun hh => hs (Int32.le_iff_toInt_le.mpr hh)
    have e : (4096 : Int32).toInt = 4096 := by decide
    exact yvp_of hk hk3 (by omega)
  unfold xv_Z_call
  simp only [yxlt_d, yzg_mode, yzg_x, yzg_printed, yvput yv10, show (0 : Int32) = xz false from rfl, yv_fails, and_self, ite_self]
  simp only [show xz false = (0 : Int32) from rfl]
  refine ⟨?_, trivial⟩
  by_cases hm : xg_C_mode u = 1
  · rw [if_pos hm]
    simp only [and_true, true_and]
    by_cases w0 : xg_x u (17 : Int32).toNatClampNeg = 0
    · simp only [if_pos w0]
    · by_cases w1 : xg_x u (17 : Int32).toNatClampNeg = 1
      · simp only [if_neg w0, if_pos w1]
        by_cases hs : 4096 ≤ xg_C_consoleSize u
        · simp only [if_pos hs]
        · simp only [if_neg hs]
          exact hv hs
      · simp only [if_neg w0, if_neg w1, ite_self]
  · rw [if_neg hm]; trivial
