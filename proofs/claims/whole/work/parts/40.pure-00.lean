theorem yxlt_d {α β : Type} (a : α) (f : α → β) : xlt a f = f a := Eq.trans (Eq.refl _) (Eq.refl _)
def ybt (x : Int32) (i : Nat) : Bool := x.toBitVec.getLsbD i
theorem ybt_ext {x y : Int32} (h : ∀ i, i < 32 → ybt x i = ybt y i) : x = y := Int32.toBitVec_inj.mp (BitVec.eq_of_getLsbD_eq (fun i hi => h i hi))
theorem yall32 {P : Nat → Prop} (h : P 0 ∧ P 1 ∧ P 2 ∧ P 3 ∧ P 4 ∧ P 5 ∧ P 6 ∧ P 7 ∧ P 8 ∧ P 9 ∧ P 10 ∧ P 11 ∧ P 12 ∧ P 13 ∧ P 14 ∧ P 15 ∧ P 16 ∧ P 17 ∧ P 18 ∧ P 19 ∧ P 20 ∧ P 21 ∧ P 22 ∧ P 23 ∧ P 24 ∧ P 25 ∧ P 26 ∧ P 27 ∧ P 28 ∧ P 29 ∧ P 30 ∧ P 31) : ∀ i, i < 32 → P i := by
  obtain ⟨h0, h1, h2, h3, h4, h5, h6, h7, h8, h9, h10, h11, h12, h13, h14, h15, h16, h17, h18, h19, h20, h21, h22, h23, h24, h25, h26, h27, h28, h29, h30, h31⟩ := h
  intro i hi
  match i, hi with
  | 0, _ => exact h0
  | 1, _ => exact h1
  | 2, _ => exact h2
  | 3, _ => exact h3
  | 4, _ => exact h4
  | 5, _ => exact h5
  | 6, _ => exact h6
  | 7, _ => exact h7
  | 8, _ => exact h8
  | 9, _ => exact h9
  | 10, _ => exact h10
  | 11, _ => exact h11
  | 12, _ => exact h12
  | 13, _ => exact h13
  | 14, _ => exact h14
  | 15, _ => exact h15
  | 16, _ => exact h16
  | 17, _ => exact h17
  | 18, _ => exact h18
  | 19, _ => exact h19
  | 20, _ => exact h20
  | 21, _ => exact h21
  | 22, _ => exact h22
  | 23, _ => exact h23
  | 24, _ => exact h24
  | 25, _ => exact h25
  | 26, _ => exact h26
  | 27, _ => exact h27
  | 28, _ => exact h28
  | 29, _ => exact h29
  | 30, _ => exact h30
  | 31, _ => exact h31
  | n + 32, hi => exact absurd hi (by omega)

theorem ybt_and (x y : Int32) (i : Nat) : ybt (x &&& y) i = (ybt x i && ybt y i) := by simp [ybt]
theorem ybt_or (x y : Int32) (i : Nat) : ybt (x ||| y) i = (ybt x i || ybt y i) := by simp [ybt]
theorem ybt_xor (x y : Int32) (i : Nat) : ybt (x ^^^ y) i = (ybt x i ^^ ybt y i) := by simp [ybt, bne]
theorem ybt_big (x : Int32) (i : Nat) (h : 32 ≤ i) : ybt x i = false := BitVec.getLsbD_of_ge _ _ h
theorem ybt_shl (x : Int32) (s : Int32) (k : Nat) (hk : (s.toBitVec.smod 32).toNat = k) (i : Nat) : ybt (x <<< s) i = (decide (i < 32) && !decide (i < k) && ybt x (i - k)) := by
  unfold ybt
  rw [Int32.toBitVec_shiftLeft, BitVec.shiftLeft_eq', hk, BitVec.getLsbD_shiftLeft]
theorem ybt_sar (x : Int32) (s : Int32) (k : Nat) (hk : (s.toBitVec.smod 32).toNat = k) (i : Nat) : ybt (x >>> s) i = (!decide (32 ≤ i) && if k + i < 32 then ybt x (k + i) else ybt x 31) := by
  unfold ybt
  rw [Int32.toBitVec_shiftRight, BitVec.sshiftRight', hk, BitVec.getLsbD_sshiftRight]
  congr 1
theorem ybt_xus (x : Int32) (s : Int32) (k : Nat) (hk : ((s.toUInt32 &&& Int32.toUInt32 31).toBitVec % 32).toNat = k) (i : Nat) : ybt (xus x s) i = ybt x (k + i) := by
  unfold ybt xus
  show ((x.toUInt32 >>> (s.toUInt32 &&& Int32.toUInt32 31)).toBitVec).getLsbD i = _
  rw [UInt32.toBitVec_shiftRight, BitVec.ushiftRight_eq', hk, BitVec.getLsbD_ushiftRight]
  rfl
/-- a one at bit k -/
def ypw (m : Int32) (k : Nat) : Prop := k < 32 ∧ m.toBitVec = BitVec.twoPow 32 k
theorem ypw_bt {m : Int32} {k : Nat} (h : ypw m k) (i : Nat) : ybt m i = decide (i = k) := by
  unfold ybt; rw [h.2, BitVec.getLsbD_twoPow]
  have := h.1
  by_cases e : i = k
  · subst e; simp [this]
  · simp [e, Ne.symm e]
theorem ypw_z {m : Int32} {k : Nat} (h : ypw m k) (x : Int32) : x &&& m = 0 ↔ ybt x k = false := by
  constructor
  · intro e
    have := congrArg (fun z => ybt z k) e
    simp only [ybt_and, ypw_bt h] at this
    simpa [ybt] using this
  · intro e
    refine ybt_ext (fun i hi => ?_)
    rw [ybt_and, ypw_bt h]
    by_cases e2 : i = k
    · subst e2; simp [e]; simp [ybt]
    · simp [e2]; simp [ybt]
theorem ysar1_bit (x : Int32) {s : Int32} {k : Nat} (hk : (s.toBitVec.smod 32).toNat = k) (h : k < 32) : x >>> s &&& 1 = (if ybt x k then 1 else 0) := by
  refine ybt_ext (fun i hi => ?_)
  rw [ybt_and, ybt_sar x s k hk]
  by_cases e2 : i = 0
  · subst e2; cases hb : ybt x k <;> simp [h, hb] <;> simp [ybt]
  · cases hb : ybt x k <;> simp [ybt, BitVec.getLsbD_one, e2]
theorem yxus1_bit (x : Int32) {s : Int32} {k : Nat} (hk : ((s.toUInt32 &&& Int32.toUInt32 31).toBitVec % 32).toNat = k) : xus x s &&& 1 = (if ybt x k then 1 else 0) := by
  refine ybt_ext (fun i hi => ?_)
  rw [ybt_and, ybt_xus x s k hk]
  by_cases e2 : i = 0
  · subst e2; cases hb : ybt x k <;> simp [hb] <;> simp [ybt]
  · cases hb : ybt x k <;> simp [ybt, BitVec.getLsbD_one, e2]
theorem yand1_bit (x : Int32) : x &&& 1 = (if ybt x 0 then 1 else 0) := by
  refine ybt_ext (fun i hi => ?_)
  rw [ybt_and]
  by_cases e2 : i = 0
  · subst e2; cases hb : ybt x 0 <;> simp [hb] <;> simp [ybt]
  · cases hb : ybt x 0 <;> simp [ybt, BitVec.getLsbD_one, e2]
theorem yb1_1 (b : Bool) : ((if b then (1 : Int32) else 0) = 1) ↔ b = true := by cases b <;> decide
theorem yb1_0 (b : Bool) : ((if b then (1 : Int32) else 0) = 0) ↔ b = false := by cases b <;> decide
theorem yxz_0 (b : Bool) : xz b = 0 ↔ b = false := by cases b <;> decide
theorem yxz_1 (b : Bool) : xz b = 1 ↔ b = true := by cases b <;> decide
theorem yxb_xz (b : Bool) : xb (xz b) = b := by cases b <;> decide
theorem yite01 (p : Prop) [Decidable p] : (if p then (1 : Int32) else 0) = xz (decide p) := by by_cases h : p <;> simp [h, xz]
theorem yite10 (p : Prop) [Decidable p] : (if p then (0 : Int32) else 1) = xz (!decide p) := by by_cases h : p <;> simp [h, xz]
def yxctl (u : XH) : List Int32 := [xg_S_status u, xg_S_ie u, xg_S_tvec u, xg_S_scratch u, xg_S_epc u, xg_S_cause u, xg_S_tval u, xg_S_ip u, xg_S_atp u, xg_V_status u, 0, xg_V_tvec u, xg_V_scratch u, xg_V_epc u, xg_V_cause u, xg_V_tval u, 0, xg_V_atp u, xg_K_hstatus u, xg_K_hedeleg u, xg_K_hideleg u, xg_K_hie u, xg_K_htval u, 0, xg_K_hvip u, xg_K_htinst u, xg_K_hgatp u, 0, 0]
/-- the reference's state that goes with a state of the class; what the class has not is c's -/
def yxZof (u : XH) (c : XZ) : XZ := ((fun n => (xg_M u).1.1 (n / 1024) (n % 1024)), xg_x u, xg_C_pc u, xg_C_mode u, xg_K_time u, xg_K_alarm u, xg_K_lineOn u, xg_C_off u, (fun j => (yxctl u).getD j 0), xg_Z_console c, xg_C_consoleSize u, xg_C_trapsToS u, xg_C_trapsToVs u, xg_C_interrupts u, xg_Z_cause c, xg_Z_wrong c, xg_Z_ofGuest c, xg_Z_far c, xg_Z_ofEntry c, xg_Z_kind c, xg_Z_virtual c, xg_Z_user c, xg_Z_executes c, xg_Z_address c, xg_Z_asGuest c, xg_Z_next c, xg_Z_thrown c)
theorem yzg_memory (u : XH) (c : XZ) : xg_Z_memory (yxZof u c) = (fun n => (xg_M u).1.1 (n / 1024) (n % 1024)) := (Eq.refl _).trans (Eq.refl _)
theorem yzg_x (u : XH) (c : XZ) : xg_Z_x (yxZof u c) = xg_x u := (Eq.refl _).trans (Eq.refl _)
theorem yzs_x (u : XH) (c : XZ) (w) : xs_Z_x (yxZof u c) w = yxZof (xs_x u w) c := (Eq.refl _).trans (Eq.refl _)
theorem yzg_pc (u : XH) (c : XZ) : xg_Z_pc (yxZof u c) = xg_C_pc u := (Eq.refl _).trans (Eq.refl _)
theorem yzs_pc (u : XH) (c : XZ) (w) : xs_Z_pc (yxZof u c) w = yxZof (xs_C_pc u w) c := (Eq.refl _).trans (Eq.refl _)
theorem yzg_mode (u : XH) (c : XZ) : xg_Z_mode (yxZof u c) = xg_C_mode u := (Eq.refl _).trans (Eq.refl _)
theorem yzs_mode (u : XH) (c : XZ) (w) : xs_Z_mode (yxZof u c) w = yxZof (xs_C_mode u w) c := (Eq.refl _).trans (Eq.refl _)
theorem yzg_time (u : XH) (c : XZ) : xg_Z_time (yxZof u c) = xg_K_time u := (Eq.refl _).trans (Eq.refl _)
theorem yzs_time (u : XH) (c : XZ) (w) : xs_Z_time (yxZof u c) w = yxZof (xs_K_time u w) c := (Eq.refl _).trans (Eq.refl _)
theorem yzg_alarm (u : XH) (c : XZ) : xg_Z_alarm (yxZof u c) = xg_K_alarm u := (Eq.refl _).trans (Eq.refl _)
theorem yzs_alarm (u : XH) (c : XZ) (w) : xs_Z_alarm (yxZof u c) w = yxZof (xs_K_alarm u w) c := (Eq.refl _).trans (Eq.refl _)
theorem yzg_line (u : XH) (c : XZ) : xg_Z_line (yxZof u c) = xg_K_lineOn u := (Eq.refl _).trans (Eq.refl _)
theorem yzs_line (u : XH) (c : XZ) (w) : xs_Z_line (yxZof u c) w = yxZof (xs_K_lineOn u w) c := (Eq.refl _).trans (Eq.refl _)
theorem yzg_off (u : XH) (c : XZ) : xg_Z_off (yxZof u c) = xg_C_off u := (Eq.refl _).trans (Eq.refl _)
theorem yzs_off (u : XH) (c : XZ) (w) : xs_Z_off (yxZof u c) w = yxZof (xs_C_off u w) c := (Eq.refl _).trans (Eq.refl _)
theorem yzg_controls (u : XH) (c : XZ) : xg_Z_controls (yxZof u c) = (fun j => (yxctl u).getD j 0) := (Eq.refl _).trans (Eq.refl _)
theorem yzg_console (u : XH) (c : XZ) : xg_Z_console (yxZof u c) = xg_Z_console c := (Eq.refl _).trans (Eq.refl _)
theorem yzs_console (u : XH) (c : XZ) (w) : xs_Z_console (yxZof u c) w = yxZof u (xs_Z_console c w) := (Eq.refl _).trans (Eq.refl _)
theorem yzg_printed (u : XH) (c : XZ) : xg_Z_printed (yxZof u c) = xg_C_consoleSize u := (Eq.refl _).trans (Eq.refl _)
theorem yzs_printed (u : XH) (c : XZ) (w) : xs_Z_printed (yxZof u c) w = yxZof (xs_C_consoleSize u w) c := (Eq.refl _).trans (Eq.refl _)
theorem yzg_toS (u : XH) (c : XZ) : xg_Z_toS (yxZof u c) = xg_C_trapsToS u := (Eq.refl _).trans (Eq.refl _)
theorem yzs_toS (u : XH) (c : XZ) (w) : xs_Z_toS (yxZof u c) w = yxZof (xs_C_trapsToS u w) c := (Eq.refl _).trans (Eq.refl _)
theorem yzg_toVs (u : XH) (c : XZ) : xg_Z_toVs (yxZof u c) = xg_C_trapsToVs u := (Eq.refl _).trans (Eq.refl _)
theorem yzs_toVs (u : XH) (c : XZ) (w) : xs_Z_toVs (yxZof u c) w = yxZof (xs_C_trapsToVs u w) c := (Eq.refl _).trans (Eq.refl _)
theorem yzg_interrupts (u : XH) (c : XZ) : xg_Z_interrupts (yxZof u c) = xg_C_interrupts u := (Eq.refl _).trans (Eq.refl _)
theorem yzs_interrupts (u : XH) (c : XZ) (w) : xs_Z_interrupts (yxZof u c) w = yxZof (xs_C_interrupts u w) c := (Eq.refl _).trans (Eq.refl _)
theorem yzg_cause (u : XH) (c : XZ) : xg_Z_cause (yxZof u c) = xg_Z_cause c := (Eq.refl _).trans (Eq.refl _)
theorem yzs_cause (u : XH) (c : XZ) (w) : xs_Z_cause (yxZof u c) w = yxZof u (xs_Z_cause c w) := (Eq.refl _).trans (Eq.refl _)
theorem yzg_wrong (u : XH) (c : XZ) : xg_Z_wrong (yxZof u c) = xg_Z_wrong c := (Eq.refl _).trans (Eq.refl _)
theorem yzs_wrong (u : XH) (c : XZ) (w) : xs_Z_wrong (yxZof u c) w = yxZof u (xs_Z_wrong c w) := (Eq.refl _).trans (Eq.refl _)
theorem yzg_ofGuest (u : XH) (c : XZ) : xg_Z_ofGuest (yxZof u c) = xg_Z_ofGuest c := (Eq.refl _).trans (Eq.refl _)
theorem yzs_ofGuest (u : XH) (c : XZ) (w) : xs_Z_ofGuest (yxZof u c) w = yxZof u (xs_Z_ofGuest c w) := (Eq.refl _).trans (Eq.refl _)
theorem yzg_far (u : XH) (c : XZ) : xg_Z_far (yxZof u c) = xg_Z_far c := (Eq.refl _).trans (Eq.refl _)
theorem yzs_far (u : XH) (c : XZ) (w) : xs_Z_far (yxZof u c) w = yxZof u (xs_Z_far c w) := (Eq.refl _).trans (Eq.refl _)
theorem yzg_ofEntry (u : XH) (c : XZ) : xg_Z_ofEntry (yxZof u c) = xg_Z_ofEntry c := (Eq.refl _).trans (Eq.refl _)
theorem yzs_ofEntry (u : XH) (c : XZ) (w) : xs_Z_ofEntry (yxZof u c) w = yxZof u (xs_Z_ofEntry c w) := (Eq.refl _).trans (Eq.refl _)
theorem yzg_kind (u : XH) (c : XZ) : xg_Z_kind (yxZof u c) = xg_Z_kind c := (Eq.refl _).trans (Eq.refl _)
theorem yzs_kind (u : XH) (c : XZ) (w) : xs_Z_kind (yxZof u c) w = yxZof u (xs_Z_kind c w) := (Eq.refl _).trans (Eq.refl _)
theorem yzg_virtual (u : XH) (c : XZ) : xg_Z_virtual (yxZof u c) = xg_Z_virtual c := (Eq.refl _).trans (Eq.refl _)
theorem yzs_virtual (u : XH) (c : XZ) (w) : xs_Z_virtual (yxZof u c) w = yxZof u (xs_Z_virtual c w) := (Eq.refl _).trans (Eq.refl _)
theorem yzg_user (u : XH) (c : XZ) : xg_Z_user (yxZof u c) = xg_Z_user c := (Eq.refl _).trans (Eq.refl _)
theorem yzs_user (u : XH) (c : XZ) (w) : xs_Z_user (yxZof u c) w = yxZof u (xs_Z_user c w) := (Eq.refl _).trans (Eq.refl _)
theorem yzg_executes (u : XH) (c : XZ) : xg_Z_executes (yxZof u c) = xg_Z_executes c := (Eq.refl _).trans (Eq.refl _)
theorem yzs_executes (u : XH) (c : XZ) (w) : xs_Z_executes (yxZof u c) w = yxZof u (xs_Z_executes c w) := (Eq.refl _).trans (Eq.refl _)
theorem yzg_address (u : XH) (c : XZ) : xg_Z_address (yxZof u c) = xg_Z_address c := (Eq.refl _).trans (Eq.refl _)
theorem yzs_address (u : XH) (c : XZ) (w) : xs_Z_address (yxZof u c) w = yxZof u (xs_Z_address c w) := (Eq.refl _).trans (Eq.refl _)
theorem yzg_asGuest (u : XH) (c : XZ) : xg_Z_asGuest (yxZof u c) = xg_Z_asGuest c := (Eq.refl _).trans (Eq.refl _)
theorem yzs_asGuest (u : XH) (c : XZ) (w) : xs_Z_asGuest (yxZof u c) w = yxZof u (xs_Z_asGuest c w) := (Eq.refl _).trans (Eq.refl _)
theorem yzg_next (u : XH) (c : XZ) : xg_Z_next (yxZof u c) = xg_Z_next c := (Eq.refl _).trans (Eq.refl _)
theorem yzs_next (u : XH) (c : XZ) (w) : xs_Z_next (yxZof u c) w = yxZof u (xs_Z_next c w) := (Eq.refl _).trans (Eq.refl _)
theorem yzg_thrown (u : XH) (c : XZ) : xg_Z_thrown (yxZof u c) = xg_Z_thrown c := (Eq.refl _).trans (Eq.refl _)
theorem yzs_thrown (u : XH) (c : XZ) (w) : xs_Z_thrown (yxZof u c) w = yxZof u (xs_Z_thrown c w) := (Eq.refl _).trans (Eq.refl _)
theorem yupd_getD (L : List Int32) (i : Nat) (w : Int32) (h : i < L.length) : upd (fun j => L.getD j 0) i w = fun j => (L.set i w).getD j 0 := by
  funext j
  unfold upd
  by_cases e : j = i
  · subst e; simp [h]
  · simp [List.getD_eq_getElem?_getD, List.getElem?_set, e, Ne.symm e]
theorem yzi_256 : xf_Z_indexOf 256 = 0 := by simp [xf_Z_indexOf]
theorem yzin_256 : vp_in (xf_Z_indexOf 256) 29 := by rw [yzi_256]; unfold vp_in; decide
theorem yzvv_256 (v : XZ) : xv_Z_value v 256 := ⟨⟨yzin_256, trivial⟩, trivial⟩
theorem yzvb_256 (v : XZ) (w : Int32) : xv_Z_become v 256 w := ⟨⟨yzin_256, trivial⟩, trivial⟩
theorem yzv_256 (u : XH) (c : XZ) : xf_Z_value (yxZof u c) 256 = xg_S_status u := by unfold xf_Z_value xlt; rw [yzi_256]; rfl
theorem yzb_256 (u : XH) (c : XZ) (w : Int32) : xf_Z_become (yxZof u c) 256 w = yxZof (xs_S_status u w) c := by unfold xf_Z_become xlt; rw [yzi_256, yzg_controls]; show xs_Z_controls _ (upd _ 0 w) = _; rw [yupd_getD _ _ _ (by simp [yxctl])]; rfl
theorem yzi_260 : xf_Z_indexOf 260 = 1 := by simp [xf_Z_indexOf]
theorem yzin_260 : vp_in (xf_Z_indexOf 260) 29 := by rw [yzi_260]; unfold vp_in; decide
theorem yzvv_260 (v : XZ) : xv_Z_value v 260 := ⟨⟨yzin_260, trivial⟩, trivial⟩
theorem yzvb_260 (v : XZ) (w : Int32) : xv_Z_become v 260 w := ⟨⟨yzin_260, trivial⟩, trivial⟩
theorem yzv_260 (u : XH) (c : XZ) : xf_Z_value (yxZof u c) 260 = xg_S_ie u := by unfold xf_Z_value xlt; rw [yzi_260]; rfl
theorem yzb_260 (u : XH) (c : XZ) (w : Int32) : xf_Z_become (yxZof u c) 260 w = yxZof (xs_S_ie u w) c := by unfold xf_Z_become xlt; rw [yzi_260, yzg_controls]; show xs_Z_controls _ (upd _ 1 w) = _; rw [yupd_getD _ _ _ (by simp [yxctl])]; rfl
theorem yzi_261 : xf_Z_indexOf 261 = 2 := by simp [xf_Z_indexOf]
theorem yzin_261 : vp_in (xf_Z_indexOf 261) 29 := by rw [yzi_261]; unfold vp_in; decide
theorem yzvv_261 (v : XZ) : xv_Z_value v 261 := ⟨⟨yzin_261, trivial⟩, trivial⟩
theorem yzvb_261 (v : XZ) (w : Int32) : xv_Z_become v 261 w := ⟨⟨yzin_261, trivial⟩, trivial⟩
theorem yzv_261 (u : XH) (c : XZ) : xf_Z_value (yxZof u c) 261 = xg_S_tvec u := by unfold xf_Z_value xlt; rw [yzi_261]; rfl
theorem yzb_261 (u : XH) (c : XZ) (w : Int32) : xf_Z_become (yxZof u c) 261 w = yxZof (xs_S_tvec u w) c := by unfold xf_Z_become xlt; rw [yzi_261, yzg_controls]; show xs_Z_controls _ (upd _ 2 w) = _; rw [yupd_getD _ _ _ (by simp [yxctl])]; rfl
theorem yzi_320 : xf_Z_indexOf 320 = 3 := by simp [xf_Z_indexOf]
theorem yzin_320 : vp_in (xf_Z_indexOf 320) 29 := by rw [yzi_320]; unfold vp_in; decide
theorem yzvv_320 (v : XZ) : xv_Z_value v 320 := ⟨⟨yzin_320, trivial⟩, trivial⟩
theorem yzvb_320 (v : XZ) (w : Int32) : xv_Z_become v 320 w := ⟨⟨yzin_320, trivial⟩, trivial⟩
theorem yzv_320 (u : XH) (c : XZ) : xf_Z_value (yxZof u c) 320 = xg_S_scratch u := by unfold xf_Z_value xlt; rw [yzi_320]; rfl
theorem yzb_320 (u : XH) (c : XZ) (w : Int32) : xf_Z_become (yxZof u c) 320 w = yxZof (xs_S_scratch u w) c := by unfold xf_Z_become xlt; rw [yzi_320, yzg_controls]; show xs_Z_controls _ (upd _ 3 w) = _; rw [yupd_getD _ _ _ (by simp [yxctl])]; rfl
theorem yzi_321 : xf_Z_indexOf 321 = 4 := by simp [xf_Z_indexOf]
theorem yzin_321 : vp_in (xf_Z_indexOf 321) 29 := by rw [yzi_321]; unfold vp_in; decide
theorem yzvv_321 (v : XZ) : xv_Z_value v 321 := ⟨⟨yzin_321, trivial⟩, trivial⟩
theorem yzvb_321 (v : XZ) (w : Int32) : xv_Z_become v 321 w := ⟨⟨yzin_321, trivial⟩, trivial⟩
theorem yzv_321 (u : XH) (c : XZ) : xf_Z_value (yxZof u c) 321 = xg_S_epc u := by unfold xf_Z_value xlt; rw [yzi_321]; rfl
theorem yzb_321 (u : XH) (c : XZ) (w : Int32) : xf_Z_become (yxZof u c) 321 w = yxZof (xs_S_epc u w) c := by unfold xf_Z_become xlt; rw [yzi_321, yzg_controls]; show xs_Z_controls _ (upd _ 4 w) = _; rw [yupd_getD _ _ _ (by simp [yxctl])]; rfl
theorem yzi_322 : xf_Z_indexOf 322 = 5 := by simp [xf_Z_indexOf]
theorem yzin_322 : vp_in (xf_Z_indexOf 322) 29 := by rw [yzi_322]; unfold vp_in; decide
theorem yzvv_322 (v : XZ) : xv_Z_value v 322 := ⟨⟨yzin_322, trivial⟩, trivial⟩
theorem yzvb_322 (v : XZ) (w : Int32) : xv_Z_become v 322 w := ⟨⟨yzin_322, trivial⟩, trivial⟩
theorem yzv_322 (u : XH) (c : XZ) : xf_Z_value (yxZof u c) 322 = xg_S_cause u := by unfold xf_Z_value xlt; rw [yzi_322]; rfl
theorem yzb_322 (u : XH) (c : XZ) (w : Int32) : xf_Z_become (yxZof u c) 322 w = yxZof (xs_S_cause u w) c := by unfold xf_Z_become xlt; rw [yzi_322, yzg_controls]; show xs_Z_controls _ (upd _ 5 w) = _; rw [yupd_getD _ _ _ (by simp [yxctl])]; rfl
theorem yzi_323 : xf_Z_indexOf 323 = 6 := by simp [xf_Z_indexOf]
theorem yzin_323 : vp_in (xf_Z_indexOf 323) 29 := by rw [yzi_323]; unfold vp_in; decide
theorem yzvv_323 (v : XZ) : xv_Z_value v 323 := ⟨⟨yzin_323, trivial⟩, trivial⟩
theorem yzvb_323 (v : XZ) (w : Int32) : xv_Z_become v 323 w := ⟨⟨yzin_323, trivial⟩, trivial⟩
theorem yzv_323 (u : XH) (c : XZ) : xf_Z_value (yxZof u c) 323 = xg_S_tval u := by unfold xf_Z_value xlt; rw [yzi_323]; rfl
theorem yzb_323 (u : XH) (c : XZ) (w : Int32) : xf_Z_become (yxZof u c) 323 w = yxZof (xs_S_tval u w) c := by unfold xf_Z_become xlt; rw [yzi_323, yzg_controls]; show xs_Z_controls _ (upd _ 6 w) = _; rw [yupd_getD _ _ _ (by simp [yxctl])]; rfl
theorem yzi_324 : xf_Z_indexOf 324 = 7 := by simp [xf_Z_indexOf]
theorem yzin_324 : vp_in (xf_Z_indexOf 324) 29 := by rw [yzi_324]; unfold vp_in; decide
theorem yzvv_324 (v : XZ) : xv_Z_value v 324 := ⟨⟨yzin_324, trivial⟩, trivial⟩
theorem yzvb_324 (v : XZ) (w : Int32) : xv_Z_become v 324 w := ⟨⟨yzin_324, trivial⟩, trivial⟩
theorem yzv_324 (u : XH) (c : XZ) : xf_Z_value (yxZof u c) 324 = xg_S_ip u := by unfold xf_Z_value xlt; rw [yzi_324]; rfl
theorem yzb_324 (u : XH) (c : XZ) (w : Int32) : xf_Z_become (yxZof u c) 324 w = yxZof (xs_S_ip u w) c := by unfold xf_Z_become xlt; rw [yzi_324, yzg_controls]; show xs_Z_controls _ (upd _ 7 w) = _; rw [yupd_getD _ _ _ (by simp [yxctl])]; rfl
theorem yzi_384 : xf_Z_indexOf 384 = 8 := by simp [xf_Z_indexOf]
theorem yzin_384 : vp_in (xf_Z_indexOf 384) 29 := by rw [yzi_384]; unfold vp_in; decide
theorem yzvv_384 (v : XZ) : xv_Z_value v 384 := ⟨⟨yzin_384, trivial⟩, trivial⟩
theorem yzvb_384 (v : XZ) (w : Int32) : xv_Z_become v 384 w := ⟨⟨yzin_384, trivial⟩, trivial⟩
theorem yzv_384 (u : XH) (c : XZ) : xf_Z_value (yxZof u c) 384 = xg_S_atp u := by unfold xf_Z_value xlt; rw [yzi_384]; rfl
theorem yzb_384 (u : XH) (c : XZ) (w : Int32) : xf_Z_become (yxZof u c) 384 w = yxZof (xs_S_atp u w) c := by unfold xf_Z_become xlt; rw [yzi_384, yzg_controls]; show xs_Z_controls _ (upd _ 8 w) = _; rw [yupd_getD _ _ _ (by simp [yxctl])]; rfl
theorem yzi_512 : xf_Z_indexOf 512 = 9 := by simp [xf_Z_indexOf]
theorem yzin_512 : vp_in (xf_Z_indexOf 512) 29 := by rw [yzi_512]; unfold vp_in; decide
theorem yzvv_512 (v : XZ) : xv_Z_value v 512 := ⟨⟨yzin_512, trivial⟩, trivial⟩
theorem yzvb_512 (v : XZ) (w : Int32) : xv_Z_become v 512 w := ⟨⟨yzin_512, trivial⟩, trivial⟩
theorem yzv_512 (u : XH) (c : XZ) : xf_Z_value (yxZof u c) 512 = xg_V_status u := by unfold xf_Z_value xlt; rw [yzi_512]; rfl
theorem yzb_512 (u : XH) (c : XZ) (w : Int32) : xf_Z_become (yxZof u c) 512 w = yxZof (xs_V_status u w) c := by unfold xf_Z_become xlt; rw [yzi_512, yzg_controls]; show xs_Z_controls _ (upd _ 9 w) = _; rw [yupd_getD _ _ _ (by simp [yxctl])]; rfl
theorem yzi_516 : xf_Z_indexOf 516 = 10 := by simp [xf_Z_indexOf]
theorem yzin_516 : vp_in (xf_Z_indexOf 516) 29 := by rw [yzi_516]; unfold vp_in; decide
theorem yzvv_516 (v : XZ) : xv_Z_value v 516 := ⟨⟨yzin_516, trivial⟩, trivial⟩
theorem yzvb_516 (v : XZ) (w : Int32) : xv_Z_become v 516 w := ⟨⟨yzin_516, trivial⟩, trivial⟩
theorem yzi_517 : xf_Z_indexOf 517 = 11 := by simp [xf_Z_indexOf]
theorem yzin_517 : vp_in (xf_Z_indexOf 517) 29 := by rw [yzi_517]; unfold vp_in; decide
theorem yzvv_517 (v : XZ) : xv_Z_value v 517 := ⟨⟨yzin_517, trivial⟩, trivial⟩
theorem yzvb_517 (v : XZ) (w : Int32) : xv_Z_become v 517 w := ⟨⟨yzin_517, trivial⟩, trivial⟩
theorem yzv_517 (u : XH) (c : XZ) : xf_Z_value (yxZof u c) 517 = xg_V_tvec u := by unfold xf_Z_value xlt; rw [yzi_517]; rfl
theorem yzb_517 (u : XH) (c : XZ) (w : Int32) : xf_Z_become (yxZof u c) 517 w = yxZof (xs_V_tvec u w) c := by unfold xf_Z_become xlt; rw [yzi_517, yzg_controls]; show xs_Z_controls _ (upd _ 11 w) = _; rw [yupd_getD _ _ _ (by simp [yxctl])]; rfl
theorem yzi_576 : xf_Z_indexOf 576 = 12 := by simp [xf_Z_indexOf]
theorem yzin_576 : vp_in (xf_Z_indexOf 576) 29 := by rw [yzi_576]; unfold vp_in; decide
theorem yzvv_576 (v : XZ) : xv_Z_value v 576 := ⟨⟨yzin_576, trivial⟩, trivial⟩
theorem yzvb_576 (v : XZ) (w : Int32) : xv_Z_become v 576 w := ⟨⟨yzin_576, trivial⟩, trivial⟩
theorem yzv_576 (u : XH) (c : XZ) : xf_Z_value (yxZof u c) 576 = xg_V_scratch u := by unfold xf_Z_value xlt; rw [yzi_576]; rfl
theorem yzb_576 (u : XH) (c : XZ) (w : Int32) : xf_Z_become (yxZof u c) 576 w = yxZof (xs_V_scratch u w) c := by unfold xf_Z_become xlt; rw [yzi_576, yzg_controls]; show xs_Z_controls _ (upd _ 12 w) = _; rw [yupd_getD _ _ _ (by simp [yxctl])]; rfl
theorem yzi_577 : xf_Z_indexOf 577 = 13 := by simp [xf_Z_indexOf]
theorem yzin_577 : vp_in (xf_Z_indexOf 577) 29 := by rw [yzi_577]; unfold vp_in; decide
theorem yzvv_577 (v : XZ) : xv_Z_value v 577 := ⟨⟨yzin_577, trivial⟩, trivial⟩
theorem yzvb_577 (v : XZ) (w : Int32) : xv_Z_become v 577 w := ⟨⟨yzin_577, trivial⟩, trivial⟩
theorem yzv_577 (u : XH) (c : XZ) : xf_Z_value (yxZof u c) 577 = xg_V_epc u := by unfold xf_Z_value xlt; rw [yzi_577]; rfl
theorem yzb_577 (u : XH) (c : XZ) (w : Int32) : xf_Z_become (yxZof u c) 577 w = yxZof (xs_V_epc u w) c := by unfold xf_Z_become xlt; rw [yzi_577, yzg_controls]; show xs_Z_controls _ (upd _ 13 w) = _; rw [yupd_getD _ _ _ (by simp [yxctl])]; rfl
theorem yzi_578 : xf_Z_indexOf 578 = 14 := by simp [xf_Z_indexOf]
theorem yzin_578 : vp_in (xf_Z_indexOf 578) 29 := by rw [yzi_578]; unfold vp_in; decide
theorem yzvv_578 (v : XZ) : xv_Z_value v 578 := ⟨⟨yzin_578, trivial⟩, trivial⟩
theorem yzvb_578 (v : XZ) (w : Int32) : xv_Z_become v 578 w := ⟨⟨yzin_578, trivial⟩, trivial⟩
theorem yzv_578 (u : XH) (c : XZ) : xf_Z_value (yxZof u c) 578 = xg_V_cause u := by unfold xf_Z_value xlt; rw [yzi_578]; rfl
theorem yzb_578 (u : XH) (c : XZ) (w : Int32) : xf_Z_become (yxZof u c) 578 w = yxZof (xs_V_cause u w) c := by unfold xf_Z_become xlt; rw [yzi_578, yzg_controls]; show xs_Z_controls _ (upd _ 14 w) = _; rw [yupd_getD _ _ _ (by simp [yxctl])]; rfl
theorem yzi_579 : xf_Z_indexOf 579 = 15 := by simp [xf_Z_indexOf]
theorem yzin_579 : vp_in (xf_Z_indexOf 579) 29 := by rw [yzi_579]; unfold vp_in; decide
theorem yzvv_579 (v : XZ) : xv_Z_value v 579 := ⟨⟨yzin_579, trivial⟩, trivial⟩
theorem yzvb_579 (v : XZ) (w : Int32) : xv_Z_become v 579 w := ⟨⟨yzin_579, trivial⟩, trivial⟩
theorem yzv_579 (u : XH) (c : XZ) : xf_Z_value (yxZof u c) 579 = xg_V_tval u := by unfold xf_Z_value xlt; rw [yzi_579]; rfl
theorem yzb_579 (u : XH) (c : XZ) (w : Int32) : xf_Z_become (yxZof u c) 579 w = yxZof (xs_V_tval u w) c := by unfold xf_Z_become xlt; rw [yzi_579, yzg_controls]; show xs_Z_controls _ (upd _ 15 w) = _; rw [yupd_getD _ _ _ (by simp [yxctl])]; rfl
theorem yzi_580 : xf_Z_indexOf 580 = 16 := by simp [xf_Z_indexOf]
theorem yzin_580 : vp_in (xf_Z_indexOf 580) 29 := by rw [yzi_580]; unfold vp_in; decide
theorem yzvv_580 (v : XZ) : xv_Z_value v 580 := ⟨⟨yzin_580, trivial⟩, trivial⟩
theorem yzvb_580 (v : XZ) (w : Int32) : xv_Z_become v 580 w := ⟨⟨yzin_580, trivial⟩, trivial⟩
theorem yzi_640 : xf_Z_indexOf 640 = 17 := by simp [xf_Z_indexOf]
theorem yzin_640 : vp_in (xf_Z_indexOf 640) 29 := by rw [yzi_640]; unfold vp_in; decide
theorem yzvv_640 (v : XZ) : xv_Z_value v 640 := ⟨⟨yzin_640, trivial⟩, trivial⟩
theorem yzvb_640 (v : XZ) (w : Int32) : xv_Z_become v 640 w := ⟨⟨yzin_640, trivial⟩, trivial⟩
theorem yzv_640 (u : XH) (c : XZ) : xf_Z_value (yxZof u c) 640 = xg_V_atp u := by unfold xf_Z_value xlt; rw [yzi_640]; rfl
theorem yzb_640 (u : XH) (c : XZ) (w : Int32) : xf_Z_become (yxZof u c) 640 w = yxZof (xs_V_atp u w) c := by unfold xf_Z_become xlt; rw [yzi_640, yzg_controls]; show xs_Z_controls _ (upd _ 17 w) = _; rw [yupd_getD _ _ _ (by simp [yxctl])]; rfl
theorem yzi_1536 : xf_Z_indexOf 1536 = 18 := by simp [xf_Z_indexOf]
theorem yzin_1536 : vp_in (xf_Z_indexOf 1536) 29 := by rw [yzi_1536]; unfold vp_in; decide
theorem yzvv_1536 (v : XZ) : xv_Z_value v 1536 := ⟨⟨yzin_1536, trivial⟩, trivial⟩
theorem yzvb_1536 (v : XZ) (w : Int32) : xv_Z_become v 1536 w := ⟨⟨yzin_1536, trivial⟩, trivial⟩
theorem yzv_1536 (u : XH) (c : XZ) : xf_Z_value (yxZof u c) 1536 = xg_K_hstatus u := by unfold xf_Z_value xlt; rw [yzi_1536]; rfl
theorem yzb_1536 (u : XH) (c : XZ) (w : Int32) : xf_Z_become (yxZof u c) 1536 w = yxZof (xs_K_hstatus u w) c := by unfold xf_Z_become xlt; rw [yzi_1536, yzg_controls]; show xs_Z_controls _ (upd _ 18 w) = _; rw [yupd_getD _ _ _ (by simp [yxctl])]; rfl
theorem yzi_1538 : xf_Z_indexOf 1538 = 19 := by simp [xf_Z_indexOf]
theorem yzin_1538 : vp_in (xf_Z_indexOf 1538) 29 := by rw [yzi_1538]; unfold vp_in; decide
theorem yzvv_1538 (v : XZ) : xv_Z_value v 1538 := ⟨⟨yzin_1538, trivial⟩, trivial⟩
theorem yzvb_1538 (v : XZ) (w : Int32) : xv_Z_become v 1538 w := ⟨⟨yzin_1538, trivial⟩, trivial⟩
theorem yzv_1538 (u : XH) (c : XZ) : xf_Z_value (yxZof u c) 1538 = xg_K_hedeleg u := by unfold xf_Z_value xlt; rw [yzi_1538]; rfl
theorem yzb_1538 (u : XH) (c : XZ) (w : Int32) : xf_Z_become (yxZof u c) 1538 w = yxZof (xs_K_hedeleg u w) c := by unfold xf_Z_become xlt; rw [yzi_1538, yzg_controls]; show xs_Z_controls _ (upd _ 19 w) = _; rw [yupd_getD _ _ _ (by simp [yxctl])]; rfl
theorem yzi_1539 : xf_Z_indexOf 1539 = 20 := by simp [xf_Z_indexOf]
theorem yzin_1539 : vp_in (xf_Z_indexOf 1539) 29 := by rw [yzi_1539]; unfold vp_in; decide
theorem yzvv_1539 (v : XZ) : xv_Z_value v 1539 := ⟨⟨yzin_1539, trivial⟩, trivial⟩
theorem yzvb_1539 (v : XZ) (w : Int32) : xv_Z_become v 1539 w := ⟨⟨yzin_1539, trivial⟩, trivial⟩
theorem yzv_1539 (u : XH) (c : XZ) : xf_Z_value (yxZof u c) 1539 = xg_K_hideleg u := by unfold xf_Z_value xlt; rw [yzi_1539]; rfl
theorem yzb_1539 (u : XH) (c : XZ) (w : Int32) : xf_Z_become (yxZof u c) 1539 w = yxZof (xs_K_hideleg u w) c := by unfold xf_Z_become xlt; rw [yzi_1539, yzg_controls]; show xs_Z_controls _ (upd _ 20 w) = _; rw [yupd_getD _ _ _ (by simp [yxctl])]; rfl
theorem yzi_1540 : xf_Z_indexOf 1540 = 21 := by simp [xf_Z_indexOf]
theorem yzin_1540 : vp_in (xf_Z_indexOf 1540) 29 := by rw [yzi_1540]; unfold vp_in; decide
theorem yzvv_1540 (v : XZ) : xv_Z_value v 1540 := ⟨⟨yzin_1540, trivial⟩, trivial⟩
theorem yzvb_1540 (v : XZ) (w : Int32) : xv_Z_become v 1540 w := ⟨⟨yzin_1540, trivial⟩, trivial⟩
theorem yzv_1540 (u : XH) (c : XZ) : xf_Z_value (yxZof u c) 1540 = xg_K_hie u := by unfold xf_Z_value xlt; rw [yzi_1540]; rfl
theorem yzb_1540 (u : XH) (c : XZ) (w : Int32) : xf_Z_become (yxZof u c) 1540 w = yxZof (xs_K_hie u w) c := by unfold xf_Z_become xlt; rw [yzi_1540, yzg_controls]; show xs_Z_controls _ (upd _ 21 w) = _; rw [yupd_getD _ _ _ (by simp [yxctl])]; rfl
theorem yzi_1603 : xf_Z_indexOf 1603 = 22 := by simp [xf_Z_indexOf]
theorem yzin_1603 : vp_in (xf_Z_indexOf 1603) 29 := by rw [yzi_1603]; unfold vp_in; decide
theorem yzvv_1603 (v : XZ) : xv_Z_value v 1603 := ⟨⟨yzin_1603, trivial⟩, trivial⟩
theorem yzvb_1603 (v : XZ) (w : Int32) : xv_Z_become v 1603 w := ⟨⟨yzin_1603, trivial⟩, trivial⟩
theorem yzv_1603 (u : XH) (c : XZ) : xf_Z_value (yxZof u c) 1603 = xg_K_htval u := by unfold xf_Z_value xlt; rw [yzi_1603]; rfl
theorem yzb_1603 (u : XH) (c : XZ) (w : Int32) : xf_Z_become (yxZof u c) 1603 w = yxZof (xs_K_htval u w) c := by unfold xf_Z_become xlt; rw [yzi_1603, yzg_controls]; show xs_Z_controls _ (upd _ 22 w) = _; rw [yupd_getD _ _ _ (by simp [yxctl])]; rfl
theorem yzi_1604 : xf_Z_indexOf 1604 = 23 := by simp [xf_Z_indexOf]
theorem yzin_1604 : vp_in (xf_Z_indexOf 1604) 29 := by rw [yzi_1604]; unfold vp_in; decide
theorem yzvv_1604 (v : XZ) : xv_Z_value v 1604 := ⟨⟨yzin_1604, trivial⟩, trivial⟩
theorem yzvb_1604 (v : XZ) (w : Int32) : xv_Z_become v 1604 w := ⟨⟨yzin_1604, trivial⟩, trivial⟩
theorem yzi_1605 : xf_Z_indexOf 1605 = 24 := by simp [xf_Z_indexOf]
theorem yzin_1605 : vp_in (xf_Z_indexOf 1605) 29 := by rw [yzi_1605]; unfold vp_in; decide
theorem yzvv_1605 (v : XZ) : xv_Z_value v 1605 := ⟨⟨yzin_1605, trivial⟩, trivial⟩
theorem yzvb_1605 (v : XZ) (w : Int32) : xv_Z_become v 1605 w := ⟨⟨yzin_1605, trivial⟩, trivial⟩
theorem yzv_1605 (u : XH) (c : XZ) : xf_Z_value (yxZof u c) 1605 = xg_K_hvip u := by unfold xf_Z_value xlt; rw [yzi_1605]; rfl
theorem yzb_1605 (u : XH) (c : XZ) (w : Int32) : xf_Z_become (yxZof u c) 1605 w = yxZof (xs_K_hvip u w) c := by unfold xf_Z_become xlt; rw [yzi_1605, yzg_controls]; show xs_Z_controls _ (upd _ 24 w) = _; rw [yupd_getD _ _ _ (by simp [yxctl])]; rfl
theorem yzi_1610 : xf_Z_indexOf 1610 = 25 := by simp [xf_Z_indexOf]
theorem yzin_1610 : vp_in (xf_Z_indexOf 1610) 29 := by rw [yzi_1610]; unfold vp_in; decide
theorem yzvv_1610 (v : XZ) : xv_Z_value v 1610 := ⟨⟨yzin_1610, trivial⟩, trivial⟩
theorem yzvb_1610 (v : XZ) (w : Int32) : xv_Z_become v 1610 w := ⟨⟨yzin_1610, trivial⟩, trivial⟩
theorem yzv_1610 (u : XH) (c : XZ) : xf_Z_value (yxZof u c) 1610 = xg_K_htinst u := by unfold xf_Z_value xlt; rw [yzi_1610]; rfl
theorem yzb_1610 (u : XH) (c : XZ) (w : Int32) : xf_Z_become (yxZof u c) 1610 w = yxZof (xs_K_htinst u w) c := by unfold xf_Z_become xlt; rw [yzi_1610, yzg_controls]; show xs_Z_controls _ (upd _ 25 w) = _; rw [yupd_getD _ _ _ (by simp [yxctl])]; rfl
theorem yzi_1664 : xf_Z_indexOf 1664 = 26 := by simp [xf_Z_indexOf]
theorem yzin_1664 : vp_in (xf_Z_indexOf 1664) 29 := by rw [yzi_1664]; unfold vp_in; decide
theorem yzvv_1664 (v : XZ) : xv_Z_value v 1664 := ⟨⟨yzin_1664, trivial⟩, trivial⟩
theorem yzvb_1664 (v : XZ) (w : Int32) : xv_Z_become v 1664 w := ⟨⟨yzin_1664, trivial⟩, trivial⟩
theorem yzv_1664 (u : XH) (c : XZ) : xf_Z_value (yxZof u c) 1664 = xg_K_hgatp u := by unfold xf_Z_value xlt; rw [yzi_1664]; rfl
theorem yzb_1664 (u : XH) (c : XZ) (w : Int32) : xf_Z_become (yxZof u c) 1664 w = yxZof (xs_K_hgatp u w) c := by unfold xf_Z_become xlt; rw [yzi_1664, yzg_controls]; show xs_Z_controls _ (upd _ 26 w) = _; rw [yupd_getD _ _ _ (by simp [yxctl])]; rfl
theorem yzi_3073 : xf_Z_indexOf 3073 = 27 := by simp [xf_Z_indexOf]
theorem yzin_3073 : vp_in (xf_Z_indexOf 3073) 29 := by rw [yzi_3073]; unfold vp_in; decide
theorem yzvv_3073 (v : XZ) : xv_Z_value v 3073 := ⟨⟨yzin_3073, trivial⟩, trivial⟩
theorem yzvb_3073 (v : XZ) (w : Int32) : xv_Z_become v 3073 w := ⟨⟨yzin_3073, trivial⟩, trivial⟩
theorem yzi_3201 : xf_Z_indexOf 3201 = 28 := by simp [xf_Z_indexOf]
theorem yzin_3201 : vp_in (xf_Z_indexOf 3201) 29 := by rw [yzi_3201]; unfold vp_in; decide
theorem yzvv_3201 (v : XZ) : xv_Z_value v 3201 := ⟨⟨yzin_3201, trivial⟩, trivial⟩
theorem yzvb_3201 (v : XZ) (w : Int32) : xv_Z_become v 3201 w := ⟨⟨yzin_3201, trivial⟩, trivial⟩
theorem yzi_cases {n : Int32} (h : ¬ xf_Z_indexOf n < 0) : n = 256 ∨ n = 260 ∨ n = 261 ∨ n = 320 ∨ n = 321 ∨ n = 322 ∨ n = 323 ∨ n = 324 ∨ n = 384 ∨ n = 512 ∨ n = 516 ∨ n = 517 ∨ n = 576 ∨ n = 577 ∨ n = 578 ∨ n = 579 ∨ n = 580 ∨ n = 640 ∨ n = 1536 ∨ n = 1538 ∨ n = 1539 ∨ n = 1540 ∨ n = 1603 ∨ n = 1604 ∨ n = 1605 ∨ n = 1610 ∨ n = 1664 ∨ n = 3073 ∨ n = 3201 := by
  unfold xf_Z_indexOf at h
  by_cases h0 : (256 : Int32) = n
  · exact Or.inl h0.symm
  rw [if_neg h0] at h
  by_cases h1 : (260 : Int32) = n
  · exact Or.inr (Or.inl h1.symm)
  rw [if_neg h1] at h
  by_cases h2 : (261 : Int32) = n
  · exact Or.inr (Or.inr (Or.inl h2.symm))
  rw [if_neg h2] at h
  by_cases h3 : (320 : Int32) = n
  · exact Or.inr (Or.inr (Or.inr (Or.inl h3.symm)))
  rw [if_neg h3] at h
  by_cases h4 : (321 : Int32) = n
  · exact Or.inr (Or.inr (Or.inr (Or.inr (Or.inl h4.symm))))
  rw [if_neg h4] at h
  by_cases h5 : (322 : Int32) = n
  · exact Or.inr (Or.inr (Or.inr (Or.inr (Or.inr (Or.inl h5.symm)))))
  rw [if_neg h5] at h
  by_cases h6 : (323 : Int32) = n
  · exact Or.inr (Or.inr (Or.inr (Or.inr (Or.inr (Or.inr (Or.inl h6.symm))))))
  rw [if_neg h6] at h
  by_cases h7 : (324 : Int32) = n
  · exact Or.inr (Or.inr (Or.inr (Or.inr (Or.inr (Or.inr (Or.inr (Or.inl h7.symm)))))))
  rw [if_neg h7] at h
  by_cases h8 : (384 : Int32) = n
  · exact Or.inr (Or.inr (Or.inr (Or.inr (Or.inr (Or.inr (Or.inr (Or.inr (Or.inl h8.symm))))))))
  rw [if_neg h8] at h
  by_cases h9 : (512 : Int32) = n
  · exact Or.inr (Or.inr (Or.inr (Or.inr (Or.inr (Or.inr (Or.inr (Or.inr (Or.inr (Or.inl h9.symm)))))))))
  rw [if_neg h9] at h
  by_cases h10 : (516 : Int32) = n
  · exact Or.inr (Or.inr (Or.inr (Or.inr (Or.inr (Or.inr (Or.inr (Or.inr (Or.inr (Or.inr (Or.inl h10.symm))))))))))
  rw [if_neg h10] at h
  by_cases h11 : (517 : Int32) = n
  · exact Or.inr (Or.inr (Or.inr (Or.inr (Or.inr (Or.inr (Or.inr (Or.inr (Or.inr (Or.inr (Or.inr (Or.inl h11.symm)))))))))))
  rw [if_neg h11] at h
  by_cases h12 : (576 : Int32) = n
  · exact Or.inr (Or.inr (Or.inr (Or.inr (Or.inr (Or.inr (Or.inr (Or.inr (Or.inr (Or.inr (Or.inr (Or.inr (Or.inl h12.symm))))))))))))
  rw [if_neg h12] at h
  by_cases h13 : (577 : Int32) = n
  · exact Or.inr (Or.inr (Or.inr (Or.inr (Or.inr (Or.inr (Or.inr (Or.inr (Or.inr (Or.inr (Or.inr (Or.inr (Or.inr (Or.inl h13.symm)))))))))))))
  rw [if_neg h13] at h
  by_cases h14 : (578 : Int32) = n
  · exact Or.inr (Or.inr (Or.inr (Or.inr (Or.inr (Or.inr (Or.inr (Or.inr (Or.inr (Or.inr (Or.inr (Or.inr (Or.inr (Or.inr (Or.inl h14.symm))))))))))))))
  rw [if_neg h14] at h
  by_cases h15 : (579 : Int32) = n
  · exact Or.inr (Or.inr (Or.inr (Or.inr (Or.inr (Or.inr (Or.inr (Or.inr (Or.inr (Or.inr (Or.inr (Or.inr (Or.inr (Or.inr (Or.inr (Or.inl h15.symm)))))))))))))))
  rw [if_neg h15] at h
  by_cases h16 : (580 : Int32) = n
  · exact Or.inr (Or.inr (Or.inr (Or.inr (Or.inr (Or.inr (Or.inr (Or.inr (Or.inr (Or.inr (Or.inr (Or.inr (Or.inr (Or.inr (Or.inr (Or.inr (Or.inl h16.symm))))))))))))))))
  rw [if_neg h16] at h
  by_cases h17 : (640 : Int32) = n
  · exact Or.inr (Or.inr (Or.inr (Or.inr (Or.inr (Or.inr (Or.inr (Or.inr (Or.inr (Or.inr (Or.inr (Or.inr (Or.inr (Or.inr (Or.inr (Or.inr (Or.inr (Or.inl h17.symm)))))))))))))))))
  rw [if_neg h17] at h
  by_cases h18 : (1536 : Int32) = n
  · exact Or.inr (Or.inr (Or.inr (Or.inr (Or.inr (Or.inr (Or.inr (Or.inr (Or.inr (Or.inr (Or.inr (Or.inr (Or.inr (Or.inr (Or.inr (Or.inr (Or.inr (Or.inr (Or.inl h18.symm))))))))))))))))))
  rw [if_neg h18] at h
  by_cases h19 : (1538 : Int32) = n
  · exact Or.inr (Or.inr (Or.inr (Or.inr (Or.inr (Or.inr (Or.inr (Or.inr (Or.inr (Or.inr (Or.inr (Or.inr (Or.inr (Or.inr (Or.inr (Or.inr (Or.inr (Or.inr (Or.inr (Or.inl h19.symm)))))))))))))))))))
  rw [if_neg h19] at h
  by_cases h20 : (1539 : Int32) = n
  · exact Or.inr (Or.inr (Or.inr (Or.inr (Or.inr (Or.inr (Or.inr (Or.inr (Or.inr (Or.inr (Or.inr (Or.inr (Or.inr (Or.inr (Or.inr (Or.inr (Or.inr (Or.inr (Or.inr (Or.inr (Or.inl h20.symm))))))))))))))))))))
  rw [if_neg h20] at h
  by_cases h21 : (1540 : Int32) = n
  · exact Or.inr (Or.inr (Or.inr (Or.inr (Or.inr (Or.inr (Or.inr (Or.inr (Or.inr (Or.inr (Or.inr (Or.inr (Or.inr (Or.inr (Or.inr (Or.inr (Or.inr (Or.inr (Or.inr (Or.inr (Or.inr (Or.inl h21.symm)))))))))))))))))))))
  rw [if_neg h21] at h
  by_cases h22 : (1603 : Int32) = n
  · exact Or.inr (Or.inr (Or.inr (Or.inr (Or.inr (Or.inr (Or.inr (Or.inr (Or.inr (Or.inr (Or.inr (Or.inr (Or.inr (Or.inr (Or.inr (Or.inr (Or.inr (Or.inr (Or.inr (Or.inr (Or.inr (Or.inr (Or.inl h22.symm))))))))))))))))))))))
  rw [if_neg h22] at h
  by_cases h23 : (1604 : Int32) = n
  · exact Or.inr (Or.inr (Or.inr (Or.inr (Or.inr (Or.inr (Or.inr (Or.inr (Or.inr (Or.inr (Or.inr (Or.inr (Or.inr (Or.inr (Or.inr (Or.inr (Or.inr (Or.inr (Or.inr (Or.inr (Or.inr (Or.inr (Or.inr (Or.inl h23.symm)))))))))))))))))))))))
  rw [if_neg h23] at h
  by_cases h24 : (1605 : Int32) = n
  · exact Or.inr (Or.inr (Or.inr (Or.inr (Or.inr (Or.inr (Or.inr (Or.inr (Or.inr (Or.inr (Or.inr (Or.inr (Or.inr (Or.inr (Or.inr (Or.inr (Or.inr (Or.inr (Or.inr (Or.inr (Or.inr (Or.inr (Or.inr (Or.inr (Or.inl h24.symm))))))))))))))))))))))))
  rw [if_neg h24] at h
  by_cases h25 : (1610 : Int32) = n
  · exact Or.inr (Or.inr (Or.inr (Or.inr (Or.inr (Or.inr (Or.inr (Or.inr (Or.inr (Or.inr (Or.inr (Or.inr (Or.inr (Or.inr (Or.inr (Or.inr (Or.inr (Or.inr (Or.inr (Or.inr (Or.inr (Or.inr (Or.inr (Or.inr (Or.inr (Or.inl h25.symm)))))))))))))))))))))))))
  rw [if_neg h25] at h
  by_cases h26 : (1664 : Int32) = n
  · exact Or.inr (Or.inr (Or.inr (Or.inr (Or.inr (Or.inr (Or.inr (Or.inr (Or.inr (Or.inr (Or.inr (Or.inr (Or.inr (Or.inr (Or.inr (Or.inr (Or.inr (Or.inr (Or.inr (Or.inr (Or.inr (Or.inr (Or.inr (Or.inr (Or.inr (Or.inr (Or.inl h26.symm))))))))))))))))))))))))))
  rw [if_neg h26] at h
  by_cases h27 : (3073 : Int32) = n
  · exact Or.inr (Or.inr (Or.inr (Or.inr (Or.inr (Or.inr (Or.inr (Or.inr (Or.inr (Or.inr (Or.inr (Or.inr (Or.inr (Or.inr (Or.inr (Or.inr (Or.inr (Or.inr (Or.inr (Or.inr (Or.inr (Or.inr (Or.inr (Or.inr (Or.inr (Or.inr (Or.inr (Or.inl h27.symm)))))))))))))))))))))))))))
  rw [if_neg h27] at h
  by_cases h28 : (3201 : Int32) = n
  · exact Or.inr (Or.inr (Or.inr (Or.inr (Or.inr (Or.inr (Or.inr (Or.inr (Or.inr (Or.inr (Or.inr (Or.inr (Or.inr (Or.inr (Or.inr (Or.inr (Or.inr (Or.inr (Or.inr (Or.inr (Or.inr (Or.inr (Or.inr (Or.inr (Or.inr (Or.inr (Or.inr (Or.inr (h28.symm))))))))))))))))))))))))))))
  rw [if_neg h28] at h
  exact absurd (by decide) h
theorem yzi_none {n : Int32} (h : xf_Z_indexOf n < 0) : ¬ n = 256 ∧ ¬ n = 260 ∧ ¬ n = 261 ∧ ¬ n = 320 ∧ ¬ n = 321 ∧ ¬ n = 322 ∧ ¬ n = 323 ∧ ¬ n = 324 ∧ ¬ n = 384 ∧ ¬ n = 512 ∧ ¬ n = 516 ∧ ¬ n = 517 ∧ ¬ n = 576 ∧ ¬ n = 577 ∧ ¬ n = 578 ∧ ¬ n = 579 ∧ ¬ n = 580 ∧ ¬ n = 640 ∧ ¬ n = 1536 ∧ ¬ n = 1538 ∧ ¬ n = 1539 ∧ ¬ n = 1540 ∧ ¬ n = 1603 ∧ ¬ n = 1604 ∧ ¬ n = 1605 ∧ ¬ n = 1610 ∧ ¬ n = 1664 ∧ ¬ n = 3073 ∧ ¬ n = 3201 := by
  refine ⟨?_, ?_, ?_, ?_, ?_, ?_, ?_, ?_, ?_, ?_, ?_, ?_, ?_, ?_, ?_, ?_, ?_, ?_, ?_, ?_, ?_, ?_, ?_, ?_, ?_, ?_, ?_, ?_, ?_⟩ <;> (intro e; subst e; revert h)
  · rw [yzi_256]; decide
  · rw [yzi_260]; decide
  · rw [yzi_261]; decide
  · rw [yzi_320]; decide
  · rw [yzi_321]; decide
  · rw [yzi_322]; decide
  · rw [yzi_323]; decide
  · rw [yzi_324]; decide
  · rw [yzi_384]; decide
  · rw [yzi_512]; decide
  · rw [yzi_516]; decide
  · rw [yzi_517]; decide
  · rw [yzi_576]; decide
  · rw [yzi_577]; decide
  · rw [yzi_578]; decide
  · rw [yzi_579]; decide
  · rw [yzi_580]; decide
  · rw [yzi_640]; decide
  · rw [yzi_1536]; decide
  · rw [yzi_1538]; decide
  · rw [yzi_1539]; decide
  · rw [yzi_1540]; decide
  · rw [yzi_1603]; decide
  · rw [yzi_1604]; decide
  · rw [yzi_1605]; decide
  · rw [yzi_1610]; decide
  · rw [yzi_1664]; decide
  · rw [yzi_3073]; decide
  · rw [yzi_3201]; decide
theorem ym1 (w : Int32) : w &&& -1 = w := by apply ybt_ext; apply yall32; simp only [ybt_and]; simp [ybt]
def yxInv (u : XH) : Prop := (xg_C_mode u = 0 ∨ xg_C_mode u = 1 ∨ xg_C_mode u = 2 ∨ xg_C_mode u = 3) ∧ xg_C_pc u &&& 3 = 0 ∧ xg_S_epc u &&& 3 = 0 ∧ xg_V_epc u &&& 3 = 0 ∧ xg_S_ie u &&& 546 = xg_S_ie u ∧ xg_K_hideleg u &&& 1092 = xg_K_hideleg u ∧ xg_K_hie u &&& 1092 = xg_K_hie u ∧ xg_K_hvip u &&& 1092 = xg_K_hvip u ∧ xg_K_hgatp u &&& 3 = 0 ∧ (xg_M u).1.2.2 = 0 ∧ xg_x u 0 = 0 ∧ 0 ≤ (xg_C_consoleSize u).toInt ∧ (xg_C_consoleSize u).toInt ≤ 4096
theorem yzbit (v : XZ) (n b : Int32) (k : Nat) (hk : ((b &&& 31).toBitVec.smod 32).toNat = k) (h : k < 32) : xf_Z_bit v n b = xz (ybt (xf_Z_value v n) k) := by
  simp only [xf_Z_bit, xlt, ysar1_bit _ hk h]
  cases ybt (xf_Z_value v n) k <;> rfl
theorem yzset1 (v : XZ) (n b y : Int32) (h : y ≠ 0) : xf_Z_setBit v n b y = xf_Z_become v n (xf_Z_value v n ||| ((1 : Int32) <<< (b &&& 31))) := by
  unfold xf_Z_setBit
  simp only [yxlt_d, if_neg h]
theorem yzset0 (v : XZ) (n b : Int32) : xf_Z_setBit v n b 0 = xf_Z_become v n (xf_Z_value v n &&& (((1 : Int32) <<< (b &&& 31)) ^^^ (-1))) := by
  unfold xf_Z_setBit
  simp only [yxlt_d, if_true]
theorem yzsetb (v : XZ) (n b : Int32) (y : Bool) : xf_Z_setBit v n b (xz y) = xf_Z_become v n (if y then (xf_Z_value v n ||| ((1 : Int32) <<< (b &&& 31))) else (xf_Z_value v n &&& (((1 : Int32) <<< (b &&& 31)) ^^^ (-1)))) := by
  cases y
  · exact yzset0 v n b
  · exact yzset1 v n b 1 (by decide)
theorem yzvbit {v : XZ} {n b : Int32} (h : xv_Z_value v n) : xv_Z_bit v n b := ⟨⟨h, trivial⟩, trivial⟩
theorem yzvset {v : XZ} {n b y : Int32} (h : xv_Z_value v n) (h2 : ∀ w, xv_Z_become v n w) : xv_Z_setBit v n b y := by
  refine ⟨⟨?_, h2 _, trivial⟩, trivial⟩
  by_cases e : y = 0
  · rw [if_pos e]; exact ⟨h, trivial⟩
  · rw [if_neg e]; exact ⟨h, trivial⟩
set_option maxRecDepth 10000 in
theorem ylo32 (t : Int64) : Int64.toInt32 (t &&& 4294967295) = Int64.toInt32 t := by
  apply Int32.toBitVec_inj.mp
  apply BitVec.eq_of_getLsbD_eq
  intro i hi
  have e : ∀ i, i < 32 → (4294967295#64).getLsbD i = true := by decide +kernel
  rw [Int64.toBitVec_toInt32, Int64.toBitVec_toInt32, BitVec.getLsbD_signExtend, BitVec.getLsbD_signExtend, Int64.toBitVec_and, BitVec.getLsbD_and]
  have e2 : (Int64.toBitVec 4294967295).getLsbD i = true := e i hi
  have hi' : i < 64 := by omega
  rw [e2, Bool.and_true, if_pos hi', if_pos hi']
theorem yhi32 (t : Int64) : Int64.toInt32 (xul t 32) = Int64.toInt32 (t >>> (Int32.toInt64 32 &&& 63)) := by
  apply Int32.toBitVec_inj.mp
  apply BitVec.eq_of_getLsbD_eq
  intro i hi
  have e1 : ((Int32.toInt64 32 &&& 63).toBitVec.smod 64).toNat = 32 := by decide
  unfold xul
  have e2 : (t.toUInt64 >>> ((32 : Int32).toInt64.toUInt64 &&& Int64.toUInt64 63)).toInt64.toBitVec = t.toBitVec >>> 32 := by
    show (t.toUInt64 >>> ((32 : Int32).toInt64.toUInt64 &&& Int64.toUInt64 63)).toBitVec = _
    rw [UInt64.toBitVec_shiftRight, BitVec.ushiftRight_eq']
    congr 1
  rw [Int64.toBitVec_toInt32, Int64.toBitVec_toInt32, e2, Int64.toBitVec_shiftRight, BitVec.sshiftRight', e1]
  rw [BitVec.getLsbD_signExtend, BitVec.getLsbD_signExtend]
  have hi' : i < 64 := by omega
  rw [if_pos hi', if_pos hi', BitVec.getLsbD_ushiftRight, BitVec.getLsbD_sshiftRight]
  have h3 : 32 + i < 64 := by omega
  simp [h3, hi, hi']
theorem ym444 (a b : Int32) (h : a &&& 1092 = a) : xus (a &&& b) 1 = (a &&& b) >>> ((1 : Int32) &&& 31) := by
  rw [← h]
  apply ybt_ext
  apply yall32
  simp only [ybt_xus _ 1 1 (by decide), ybt_sar _ ((1 : Int32) &&& 31) 1 (by decide), ybt_and]
  simp [ybt]
theorem ylgc (a b : Int64) : lg_cmp a b < 0 ↔ a < b := by
  unfold lg_cmp
  by_cases h1 : b < a
  · have : ¬ a < b := fun h => absurd (Int64.lt_iff_toInt_lt.mp h) (by have := Int64.lt_iff_toInt_lt.mp h1; omega)
    simp [h1, this]; 
  · by_cases h2 : a = b
    · subst h2; simp [h1]
    · have h3 : a < b := by
        apply Int64.lt_iff_toInt_lt.mpr
        have h4 : ¬ b.toInt < a.toInt := fun h => h1 (Int64.lt_iff_toInt_lt.mpr h)
        have h5 : a.toInt ≠ b.toInt := fun h => h2 (Int64.toInt_inj.mp h)
        omega
      simp [h1, h2, h3]
theorem ylgc0 (a b : Int64) : 0 ≤ lg_cmp a b ↔ b ≤ a := by
  have h := ylgc a b
  have e1 : (0 ≤ lg_cmp a b) ↔ ¬ lg_cmp a b < 0 := by
    rw [Int32.le_iff_toInt_le, Int32.lt_iff_toInt_lt]; omega
  rw [e1, h, Int64.lt_iff_toInt_lt, Int64.le_iff_toInt_le]; omega
theorem ylgce (a b : Int64) : lg_cmp a b = 0 ↔ a = b := by
  unfold lg_cmp
  by_cases h1 : b < a
  · have : ¬ a = b := fun h => by subst h; exact absurd (Int64.lt_iff_toInt_lt.mp h1) (by omega)
    simp [h1, this]
  · by_cases h2 : a = b
    · subst h2; simp [h1]
    · simp [h1, h2]
theorem yzt_256 (u : XH) (c : XZ) : xf_Z_tells (yxZof u c) 256 = xf_K_tell u 256 := by
  have e : xf_K_isOfS 256 = 1 := by simp [xf_K_isOfS]
  unfold xf_Z_tells xf_K_tell xlt
  rw [e, yzv_256]
  simp [xf_B_tell]
  try rfl
theorem yzt_260 (u : XH) (c : XZ) : xf_Z_tells (yxZof u c) 260 = xf_K_tell u 260 := by
  have e : xf_K_isOfS 260 = 1 := by simp [xf_K_isOfS]
  unfold xf_Z_tells xf_K_tell xlt
  rw [e, yzv_260]
  simp [xf_B_tell]
  try rfl
theorem yzt_261 (u : XH) (c : XZ) : xf_Z_tells (yxZof u c) 261 = xf_K_tell u 261 := by
  have e : xf_K_isOfS 261 = 1 := by simp [xf_K_isOfS]
  unfold xf_Z_tells xf_K_tell xlt
  rw [e, yzv_261]
  simp [xf_B_tell]
  try rfl
theorem yzt_320 (u : XH) (c : XZ) : xf_Z_tells (yxZof u c) 320 = xf_K_tell u 320 := by
  have e : xf_K_isOfS 320 = 1 := by simp [xf_K_isOfS]
  unfold xf_Z_tells xf_K_tell xlt
  rw [e, yzv_320]
  simp [xf_B_tell]
  try rfl
theorem yzt_321 (u : XH) (c : XZ) : xf_Z_tells (yxZof u c) 321 = xf_K_tell u 321 := by
  have e : xf_K_isOfS 321 = 1 := by simp [xf_K_isOfS]
  unfold xf_Z_tells xf_K_tell xlt
  rw [e, yzv_321]
  simp [xf_B_tell]
  try rfl
theorem yzt_322 (u : XH) (c : XZ) : xf_Z_tells (yxZof u c) 322 = xf_K_tell u 322 := by
  have e : xf_K_isOfS 322 = 1 := by simp [xf_K_isOfS]
  unfold xf_Z_tells xf_K_tell xlt
  rw [e, yzv_322]
  simp [xf_B_tell]
  try rfl
theorem yzt_323 (u : XH) (c : XZ) : xf_Z_tells (yxZof u c) 323 = xf_K_tell u 323 := by
  have e : xf_K_isOfS 323 = 1 := by simp [xf_K_isOfS]
  unfold xf_Z_tells xf_K_tell xlt
  rw [e, yzv_323]
  simp [xf_B_tell]
  try rfl
theorem yzt_324 (u : XH) (c : XZ) : xf_Z_tells (yxZof u c) 324 = xf_K_tell u 324 := by
  have e : xf_K_isOfS 324 = 1 := by simp [xf_K_isOfS]
  unfold xf_Z_tells xf_K_tell xf_K_pendingForS xlt
  rw [e, yzv_324, yzg_time, yzg_alarm, yzg_line]
  simp only [ylgc]
  simp
theorem yzt_384 (u : XH) (c : XZ) : xf_Z_tells (yxZof u c) 384 = xf_K_tell u 384 := by
  have e : xf_K_isOfS 384 = 1 := by simp [xf_K_isOfS]
  unfold xf_Z_tells xf_K_tell xlt
  rw [e, yzv_384]
  simp [xf_B_tell]
  try rfl
theorem yzt_512 (u : XH) (c : XZ) : xf_Z_tells (yxZof u c) 512 = xf_K_tell u 512 := by
  have e : xf_K_isOfS 512 = 0 := by simp [xf_K_isOfS]
  unfold xf_Z_tells xf_K_tell xlt
  rw [e, yzv_512]
  simp [xf_B_tell]
  try rfl
theorem yzt_516 {u : XH} (hi : yxInv u) (c : XZ) : xf_Z_tells (yxZof u c) 516 = xf_K_tell u 516 := by
  have e : xf_K_isOfS 516 = 0 := by simp [xf_K_isOfS]
  unfold xf_Z_tells xf_K_tell xlt
  rw [e, yzv_1540, yzv_1539, ym444 _ _ hi.2.2.2.2.2.2.1]
  simp
theorem yzt_517 (u : XH) (c : XZ) : xf_Z_tells (yxZof u c) 517 = xf_K_tell u 517 := by
  have e : xf_K_isOfS 517 = 0 := by simp [xf_K_isOfS]
  unfold xf_Z_tells xf_K_tell xlt
  rw [e, yzv_517]
  simp [xf_B_tell]
  try rfl
theorem yzt_576 (u : XH) (c : XZ) : xf_Z_tells (yxZof u c) 576 = xf_K_tell u 576 := by
  have e : xf_K_isOfS 576 = 0 := by simp [xf_K_isOfS]
  unfold xf_Z_tells xf_K_tell xlt
  rw [e, yzv_576]
  simp [xf_B_tell]
  try rfl
theorem yzt_577 (u : XH) (c : XZ) : xf_Z_tells (yxZof u c) 577 = xf_K_tell u 577 := by
  have e : xf_K_isOfS 577 = 0 := by simp [xf_K_isOfS]
  unfold xf_Z_tells xf_K_tell xlt
  rw [e, yzv_577]
  simp [xf_B_tell]
  try rfl
theorem yzt_578 (u : XH) (c : XZ) : xf_Z_tells (yxZof u c) 578 = xf_K_tell u 578 := by
  have e : xf_K_isOfS 578 = 0 := by simp [xf_K_isOfS]
  unfold xf_Z_tells xf_K_tell xlt
  rw [e, yzv_578]
  simp [xf_B_tell]
  try rfl
theorem yzt_579 (u : XH) (c : XZ) : xf_Z_tells (yxZof u c) 579 = xf_K_tell u 579 := by
  have e : xf_K_isOfS 579 = 0 := by simp [xf_K_isOfS]
  unfold xf_Z_tells xf_K_tell xlt
  rw [e, yzv_579]
  simp [xf_B_tell]
  try rfl
theorem yzt_580 {u : XH} (hi : yxInv u) (c : XZ) : xf_Z_tells (yxZof u c) 580 = xf_K_tell u 580 := by
  have e : xf_K_isOfS 580 = 0 := by simp [xf_K_isOfS]
  unfold xf_Z_tells xf_K_tell xlt
  rw [e, yzv_1605, yzv_1539, ym444 _ _ hi.2.2.2.2.2.2.2.1]
  simp
theorem yzt_640 (u : XH) (c : XZ) : xf_Z_tells (yxZof u c) 640 = xf_K_tell u 640 := by
  have e : xf_K_isOfS 640 = 0 := by simp [xf_K_isOfS]
  unfold xf_Z_tells xf_K_tell xlt
  rw [e, yzv_640]
  simp [xf_B_tell]
  try rfl
theorem yzt_1536 (u : XH) (c : XZ) : xf_Z_tells (yxZof u c) 1536 = xf_K_tell u 1536 := by
  have e : xf_K_isOfS 1536 = 0 := by simp [xf_K_isOfS]
  unfold xf_Z_tells xf_K_tell xlt
  rw [e, yzv_1536]
  simp [xf_B_tell]
  try rfl
theorem yzt_1538 (u : XH) (c : XZ) : xf_Z_tells (yxZof u c) 1538 = xf_K_tell u 1538 := by
  have e : xf_K_isOfS 1538 = 0 := by simp [xf_K_isOfS]
  unfold xf_Z_tells xf_K_tell xlt
  rw [e, yzv_1538]
  simp [xf_B_tell]
  try rfl
theorem yzt_1539 (u : XH) (c : XZ) : xf_Z_tells (yxZof u c) 1539 = xf_K_tell u 1539 := by
  have e : xf_K_isOfS 1539 = 0 := by simp [xf_K_isOfS]
  unfold xf_Z_tells xf_K_tell xlt
  rw [e, yzv_1539]
  simp [xf_B_tell]
  try rfl
theorem yzt_1540 (u : XH) (c : XZ) : xf_Z_tells (yxZof u c) 1540 = xf_K_tell u 1540 := by
  have e : xf_K_isOfS 1540 = 0 := by simp [xf_K_isOfS]
  unfold xf_Z_tells xf_K_tell xlt
  rw [e, yzv_1540]
  simp [xf_B_tell]
  try rfl
theorem yzt_1603 (u : XH) (c : XZ) : xf_Z_tells (yxZof u c) 1603 = xf_K_tell u 1603 := by
  have e : xf_K_isOfS 1603 = 0 := by simp [xf_K_isOfS]
  unfold xf_Z_tells xf_K_tell xlt
  rw [e, yzv_1603]
  simp [xf_B_tell]
  try rfl
theorem yzt_1604 (u : XH) (c : XZ) : xf_Z_tells (yxZof u c) 1604 = xf_K_tell u 1604 := by
  have e : xf_K_isOfS 1604 = 0 := by simp [xf_K_isOfS]
  unfold xf_Z_tells xf_K_tell xlt
  rw [e, yzv_1605]
  simp
theorem yzt_1605 (u : XH) (c : XZ) : xf_Z_tells (yxZof u c) 1605 = xf_K_tell u 1605 := by
  have e : xf_K_isOfS 1605 = 0 := by simp [xf_K_isOfS]
  unfold xf_Z_tells xf_K_tell xlt
  rw [e, yzv_1605]
  simp [xf_B_tell]
  try rfl
theorem yzt_1610 (u : XH) (c : XZ) : xf_Z_tells (yxZof u c) 1610 = xf_K_tell u 1610 := by
  have e : xf_K_isOfS 1610 = 0 := by simp [xf_K_isOfS]
  unfold xf_Z_tells xf_K_tell xlt
  rw [e, yzv_1610]
  simp [xf_B_tell]
  try rfl
theorem yzt_1664 (u : XH) (c : XZ) : xf_Z_tells (yxZof u c) 1664 = xf_K_tell u 1664 := by
  have e : xf_K_isOfS 1664 = 0 := by simp [xf_K_isOfS]
  unfold xf_Z_tells xf_K_tell xlt
  rw [e, yzv_1664]
  simp [xf_B_tell]
  try rfl
theorem yzt_3073 (u : XH) (c : XZ) : xf_Z_tells (yxZof u c) 3073 = xf_K_tell u 3073 := by
  have e : xf_K_isOfS 3073 = 0 := by simp [xf_K_isOfS]
  unfold xf_Z_tells xf_K_tell xlt
  rw [e, yzg_time, yhi32, ylo32]
  simp
theorem yzt_3201 (u : XH) (c : XZ) : xf_Z_tells (yxZof u c) 3201 = xf_K_tell u 3201 := by
  have e : xf_K_isOfS 3201 = 0 := by simp [xf_K_isOfS]
  unfold xf_Z_tells xf_K_tell xlt
  rw [e, yzg_time, yhi32, ylo32]
  simp
theorem yzt_all {u : XH} (hi : yxInv u) (c : XZ) {n : Int32} (h : ¬ xf_Z_indexOf n < 0) : xf_Z_tells (yxZof u c) n = xf_K_tell u n := by
  rcases yzi_cases h with h | h | h | h | h | h | h | h | h | h | h | h | h | h | h | h | h | h | h | h | h | h | h | h | h | h | h | h | h <;> subst h
  · exact yzt_256 u c
  · exact yzt_260 u c
  · exact yzt_261 u c
  · exact yzt_320 u c
  · exact yzt_321 u c
  · exact yzt_322 u c
  · exact yzt_323 u c
  · exact yzt_324 u c
  · exact yzt_384 u c
  · exact yzt_512 u c
  · exact yzt_516 hi c
  · exact yzt_517 u c
  · exact yzt_576 u c
  · exact yzt_577 u c
  · exact yzt_578 u c
  · exact yzt_579 u c
  · exact yzt_580 hi c
  · exact yzt_640 u c
  · exact yzt_1536 u c
  · exact yzt_1538 u c
  · exact yzt_1539 u c
  · exact yzt_1540 u c
  · exact yzt_1603 u c
  · exact yzt_1604 u c
  · exact yzt_1605 u c
  · exact yzt_1610 u c
  · exact yzt_1664 u c
  · exact yzt_3073 u c
  · exact yzt_3201 u c
theorem yzt_none {u : XH} {n : Int32} (h : xf_Z_indexOf n < 0) : xf_K_tell u n = 0 := by
  have h2 := yzi_none h
  obtain ⟨h256, h260, h261, h320, h321, h322, h323, h324, h384, h512, h516, h517, h576, h577, h578, h579, h580, h640, h1536, h1538, h1539, h1540, h1603, h1604, h1605, h1610, h1664, h3073, h3201⟩ := h2
  have e : xf_K_isOfS n = 0 := by simp [xf_K_isOfS, h256, h260, h261, h320, h321, h322, h323, h324, h384]
  simp only [xf_K_tell, xlt, e, if_true]
  have sb : ∀ a b : Int32, a - 256 = b → a = b + 256 := by intro a b hh; rw [← hh, Int32.sub_add_cancel]
  simp only [xf_B_tell, if_neg h512, if_neg h516, if_neg h517, if_neg h576, if_neg h577, if_neg h578, if_neg h579, if_neg h580, if_neg h640, if_neg h1536, if_neg h1538, if_neg h1539, if_neg h1540, if_neg h1603, if_neg h1604, if_neg h1605, if_neg h1610, if_neg h1664, if_neg h3073, if_neg h3201]
  rw [if_neg (fun hh => h512 (sb n _ hh))]
  rw [if_neg (fun hh => h516 (sb n _ hh))]
  rw [if_neg (fun hh => h517 (sb n _ hh))]
  rw [if_neg (fun hh => h576 (sb n _ hh))]
  rw [if_neg (fun hh => h577 (sb n _ hh))]
  rw [if_neg (fun hh => h578 (sb n _ hh))]
  rw [if_neg (fun hh => h579 (sb n _ hh))]
  rw [if_neg (fun hh => h580 (sb n _ hh))]
  rw [if_neg (fun hh => h640 (sb n _ hh))]
theorem ysS_status (u : XH) (a : Int32) : xs_S u (xsB_status (xg_S u) a) = xs_S_status u a := rfl
theorem ysV_status (u : XH) (a : Int32) : xs_V u (xsB_status (xg_V u) a) = xs_V_status u a := rfl
theorem ysS_ie (u : XH) (a : Int32) : xs_S u (xsB_ie (xg_S u) a) = xs_S_ie u a := rfl
theorem ysV_ie (u : XH) (a : Int32) : xs_V u (xsB_ie (xg_V u) a) = xs_V_ie u a := rfl
theorem ysS_tvec (u : XH) (a : Int32) : xs_S u (xsB_tvec (xg_S u) a) = xs_S_tvec u a := rfl
theorem ysV_tvec (u : XH) (a : Int32) : xs_V u (xsB_tvec (xg_V u) a) = xs_V_tvec u a := rfl
theorem ysS_scratch (u : XH) (a : Int32) : xs_S u (xsB_scratch (xg_S u) a) = xs_S_scratch u a := rfl
theorem ysV_scratch (u : XH) (a : Int32) : xs_V u (xsB_scratch (xg_V u) a) = xs_V_scratch u a := rfl
theorem ysS_epc (u : XH) (a : Int32) : xs_S u (xsB_epc (xg_S u) a) = xs_S_epc u a := rfl
theorem ysV_epc (u : XH) (a : Int32) : xs_V u (xsB_epc (xg_V u) a) = xs_V_epc u a := rfl
theorem ysS_cause (u : XH) (a : Int32) : xs_S u (xsB_cause (xg_S u) a) = xs_S_cause u a := rfl
theorem ysV_cause (u : XH) (a : Int32) : xs_V u (xsB_cause (xg_V u) a) = xs_V_cause u a := rfl
theorem ysS_tval (u : XH) (a : Int32) : xs_S u (xsB_tval (xg_S u) a) = xs_S_tval u a := rfl
theorem ysV_tval (u : XH) (a : Int32) : xs_V u (xsB_tval (xg_V u) a) = xs_V_tval u a := rfl
theorem ysS_ip (u : XH) (a : Int32) : xs_S u (xsB_ip (xg_S u) a) = xs_S_ip u a := rfl
theorem ysV_ip (u : XH) (a : Int32) : xs_V u (xsB_ip (xg_V u) a) = xs_V_ip u a := rfl
theorem ysS_atp (u : XH) (a : Int32) : xs_S u (xsB_atp (xg_S u) a) = xs_S_atp u a := rfl
theorem ysV_atp (u : XH) (a : Int32) : xs_V u (xsB_atp (xg_V u) a) = xs_V_atp u a := rfl
theorem yzk_256 : xf_Z_kept 256 = 786722 := by simp [xf_Z_kept]
theorem yzw_256 (u : XH) (c : XZ) (w : Int32) : xf_Z_write (yxZof u c) 256 w = yxZof (xs_S_status u (w &&& 786722)) c := by
  unfold xf_Z_write
  rw [yxlt_d, if_neg (by decide), if_neg (by decide), if_neg (by decide), yxlt_d, yzk_256, yxlt_d, yzb_256]
theorem ykw_256 (u : XH) (w : Int32) : xf_K_write u 256 w = xs_S_status u (w &&& 786722) := by
  have e : xf_K_isOfS 256 = 1 := by simp [xf_K_isOfS]
  have e2 : xf_B_write (xg_S u) 256 w = xsB_status (xg_S u) (w &&& 786722) := by
    unfold xf_B_write; simp [yxlt_d]
  unfold xf_K_write
  rw [yxlt_d, e, if_neg (by decide), yxlt_d, e2, ysS_status]
theorem yzk_260 : xf_Z_kept 260 = 546 := by simp [xf_Z_kept]
theorem yzw_260 (u : XH) (c : XZ) (w : Int32) : xf_Z_write (yxZof u c) 260 w = yxZof (xs_S_ie u (w &&& 546)) c := by
  unfold xf_Z_write
  rw [yxlt_d, if_neg (by decide), if_neg (by decide), if_neg (by decide), yxlt_d, yzk_260, yxlt_d, yzb_260]
theorem ykw_260 (u : XH) (w : Int32) : xf_K_write u 260 w = xs_S_ie u (w &&& 546) := by
  have e : xf_K_isOfS 260 = 1 := by simp [xf_K_isOfS]
  have e2 : xf_B_write (xg_S u) 260 w = xsB_ie (xg_S u) (w &&& 546) := by
    unfold xf_B_write; simp [yxlt_d]
  unfold xf_K_write
  rw [yxlt_d, e, if_neg (by decide), yxlt_d, e2, ysS_ie]
theorem yzk_261 : xf_Z_kept 261 = -3 := by simp [xf_Z_kept]
theorem yzw_261 (u : XH) (c : XZ) (w : Int32) : xf_Z_write (yxZof u c) 261 w = yxZof (xs_S_tvec u (w &&& -3)) c := by
  unfold xf_Z_write
  rw [yxlt_d, if_neg (by decide), if_neg (by decide), if_neg (by decide), yxlt_d, yzk_261, yxlt_d, yzb_261]
theorem ykw_261 (u : XH) (w : Int32) : xf_K_write u 261 w = xs_S_tvec u (w &&& -3) := by
  have e : xf_K_isOfS 261 = 1 := by simp [xf_K_isOfS]
  have e2 : xf_B_write (xg_S u) 261 w = xsB_tvec (xg_S u) (w &&& -3) := by
    unfold xf_B_write; simp [yxlt_d]
  unfold xf_K_write
  rw [yxlt_d, e, if_neg (by decide), yxlt_d, e2, ysS_tvec]
theorem yzk_320 : xf_Z_kept 320 = -1 := by simp [xf_Z_kept]
theorem yzw_320 (u : XH) (c : XZ) (w : Int32) : xf_Z_write (yxZof u c) 320 w = yxZof (xs_S_scratch u (w &&& -1)) c := by
  unfold xf_Z_write
  rw [yxlt_d, if_neg (by decide), if_neg (by decide), if_neg (by decide), yxlt_d, yzk_320, yxlt_d, yzb_320]
theorem ykw_320 (u : XH) (w : Int32) : xf_K_write u 320 w = xs_S_scratch u (w &&& -1) := by
  have e : xf_K_isOfS 320 = 1 := by simp [xf_K_isOfS]
  have e2 : xf_B_write (xg_S u) 320 w = xsB_scratch (xg_S u) (w &&& -1) := by
    unfold xf_B_write; simp [yxlt_d]
  unfold xf_K_write
  rw [yxlt_d, e, if_neg (by decide), yxlt_d, e2, ysS_scratch]
theorem yzk_321 : xf_Z_kept 321 = -4 := by simp [xf_Z_kept]
theorem yzw_321 (u : XH) (c : XZ) (w : Int32) : xf_Z_write (yxZof u c) 321 w = yxZof (xs_S_epc u (w &&& -4)) c := by
  unfold xf_Z_write
  rw [yxlt_d, if_neg (by decide), if_neg (by decide), if_neg (by decide), yxlt_d, yzk_321, yxlt_d, yzb_321]
theorem ykw_321 (u : XH) (w : Int32) : xf_K_write u 321 w = xs_S_epc u (w &&& -4) := by
  have e : xf_K_isOfS 321 = 1 := by simp [xf_K_isOfS]
  have e2 : xf_B_write (xg_S u) 321 w = xsB_epc (xg_S u) (w &&& -4) := by
    unfold xf_B_write; simp [yxlt_d]
  unfold xf_K_write
  rw [yxlt_d, e, if_neg (by decide), yxlt_d, e2, ysS_epc]
theorem yzk_322 : xf_Z_kept 322 = -1 := by simp [xf_Z_kept]
theorem yzw_322 (u : XH) (c : XZ) (w : Int32) : xf_Z_write (yxZof u c) 322 w = yxZof (xs_S_cause u (w &&& -1)) c := by
  unfold xf_Z_write
  rw [yxlt_d, if_neg (by decide), if_neg (by decide), if_neg (by decide), yxlt_d, yzk_322, yxlt_d, yzb_322]
theorem ykw_322 (u : XH) (w : Int32) : xf_K_write u 322 w = xs_S_cause u (w &&& -1) := by
  have e : xf_K_isOfS 322 = 1 := by simp [xf_K_isOfS]
  have e2 : xf_B_write (xg_S u) 322 w = xsB_cause (xg_S u) (w &&& -1) := by
    unfold xf_B_write; simp [yxlt_d]
  unfold xf_K_write
  rw [yxlt_d, e, if_neg (by decide), yxlt_d, e2, ysS_cause]
theorem yzk_323 : xf_Z_kept 323 = -1 := by simp [xf_Z_kept]
theorem yzw_323 (u : XH) (c : XZ) (w : Int32) : xf_Z_write (yxZof u c) 323 w = yxZof (xs_S_tval u (w &&& -1)) c := by
  unfold xf_Z_write
  rw [yxlt_d, if_neg (by decide), if_neg (by decide), if_neg (by decide), yxlt_d, yzk_323, yxlt_d, yzb_323]
theorem ykw_323 (u : XH) (w : Int32) : xf_K_write u 323 w = xs_S_tval u (w &&& -1) := by
  have e : xf_K_isOfS 323 = 1 := by simp [xf_K_isOfS]
  have e2 : xf_B_write (xg_S u) 323 w = xsB_tval (xg_S u) (w &&& -1) := by
    unfold xf_B_write; simp [yxlt_d]
  unfold xf_K_write
  rw [yxlt_d, e, if_neg (by decide), yxlt_d, e2, ysS_tval]
theorem yzk_324 : xf_Z_kept 324 = 2 := by simp [xf_Z_kept]
theorem yzw_324 (u : XH) (c : XZ) (w : Int32) : xf_Z_write (yxZof u c) 324 w = yxZof (xs_S_ip u (w &&& 2)) c := by
  unfold xf_Z_write
  rw [yxlt_d, if_neg (by decide), if_neg (by decide), if_neg (by decide), yxlt_d, yzk_324, yxlt_d, yzb_324]
theorem ykw_324 (u : XH) (w : Int32) : xf_K_write u 324 w = xs_S_ip u (w &&& 2) := by
  have e : xf_K_isOfS 324 = 1 := by simp [xf_K_isOfS]
  have e2 : xf_B_write (xg_S u) 324 w = xsB_ip (xg_S u) (w &&& 2) := by
    unfold xf_B_write; simp [yxlt_d]
  unfold xf_K_write
  rw [yxlt_d, e, if_neg (by decide), yxlt_d, e2, ysS_ip]
theorem yzk_384 : xf_Z_kept 384 = -2143289345 := by simp [xf_Z_kept]
theorem yzw_384 (u : XH) (c : XZ) (w : Int32) : xf_Z_write (yxZof u c) 384 w = yxZof (xs_S_atp u (w &&& -2143289345)) c := by
  unfold xf_Z_write
  rw [yxlt_d, if_neg (by decide), if_neg (by decide), if_neg (by decide), yxlt_d, yzk_384, yxlt_d, yzb_384]
theorem ykw_384 (u : XH) (w : Int32) : xf_K_write u 384 w = xs_S_atp u (w &&& -2143289345) := by
  have e : xf_K_isOfS 384 = 1 := by simp [xf_K_isOfS]
  have e2 : xf_B_write (xg_S u) 384 w = xsB_atp (xg_S u) (w &&& -2143289345) := by
    unfold xf_B_write; simp [yxlt_d]
  unfold xf_K_write
  rw [yxlt_d, e, if_neg (by decide), yxlt_d, e2, ysS_atp]
theorem yzk_512 : xf_Z_kept 512 = 786722 := by simp [xf_Z_kept]
theorem yzw_512 (u : XH) (c : XZ) (w : Int32) : xf_Z_write (yxZof u c) 512 w = yxZof (xs_V_status u (w &&& 786722)) c := by
  unfold xf_Z_write
  rw [yxlt_d, if_neg (by decide), if_neg (by decide), if_neg (by decide), yxlt_d, yzk_512, yxlt_d, yzb_512]
theorem ykw_512 (u : XH) (w : Int32) : xf_K_write u 512 w = xs_V_status u (w &&& 786722) := by
  have e : xf_K_isOfS 512 = 0 := by simp [xf_K_isOfS]
  have e2 : xf_B_write (xg_V u) (512 - 256) w = xsB_status (xg_V u) (w &&& 786722) := by
    unfold xf_B_write; simp [yxlt_d]
  unfold xf_K_write
  rw [yxlt_d, e, if_pos rfl, yxlt_d]
  simp only [yxlt_d]
  rw [if_neg (by decide), if_neg (by decide), if_neg (by decide), if_neg (by decide), if_neg (by decide), if_neg (by decide), if_neg (by decide), if_neg (by decide), if_neg (by decide), if_neg (by decide), if_neg (by decide), e2, ysV_status]
theorem yzk_517 : xf_Z_kept 517 = -3 := by simp [xf_Z_kept]
theorem yzw_517 (u : XH) (c : XZ) (w : Int32) : xf_Z_write (yxZof u c) 517 w = yxZof (xs_V_tvec u (w &&& -3)) c := by
  unfold xf_Z_write
  rw [yxlt_d, if_neg (by decide), if_neg (by decide), if_neg (by decide), yxlt_d, yzk_517, yxlt_d, yzb_517]
theorem ykw_517 (u : XH) (w : Int32) : xf_K_write u 517 w = xs_V_tvec u (w &&& -3) := by
  have e : xf_K_isOfS 517 = 0 := by simp [xf_K_isOfS]
  have e2 : xf_B_write (xg_V u) (517 - 256) w = xsB_tvec (xg_V u) (w &&& -3) := by
    unfold xf_B_write; simp [yxlt_d]
  unfold xf_K_write
  rw [yxlt_d, e, if_pos rfl, yxlt_d]
  simp only [yxlt_d]
  rw [if_neg (by decide), if_neg (by decide), if_neg (by decide), if_neg (by decide), if_neg (by decide), if_neg (by decide), if_neg (by decide), if_neg (by decide), if_neg (by decide), if_neg (by decide), if_neg (by decide), e2, ysV_tvec]
theorem yzk_576 : xf_Z_kept 576 = -1 := by simp [xf_Z_kept]
theorem yzw_576 (u : XH) (c : XZ) (w : Int32) : xf_Z_write (yxZof u c) 576 w = yxZof (xs_V_scratch u (w &&& -1)) c := by
  unfold xf_Z_write
  rw [yxlt_d, if_neg (by decide), if_neg (by decide), if_neg (by decide), yxlt_d, yzk_576, yxlt_d, yzb_576]
theorem ykw_576 (u : XH) (w : Int32) : xf_K_write u 576 w = xs_V_scratch u (w &&& -1) := by
  have e : xf_K_isOfS 576 = 0 := by simp [xf_K_isOfS]
  have e2 : xf_B_write (xg_V u) (576 - 256) w = xsB_scratch (xg_V u) (w &&& -1) := by
    unfold xf_B_write; simp [yxlt_d]
  unfold xf_K_write
  rw [yxlt_d, e, if_pos rfl, yxlt_d]
  simp only [yxlt_d]
  rw [if_neg (by decide), if_neg (by decide), if_neg (by decide), if_neg (by decide), if_neg (by decide), if_neg (by decide), if_neg (by decide), if_neg (by decide), if_neg (by decide), if_neg (by decide), if_neg (by decide), e2, ysV_scratch]
theorem yzk_577 : xf_Z_kept 577 = -4 := by simp [xf_Z_kept]
theorem yzw_577 (u : XH) (c : XZ) (w : Int32) : xf_Z_write (yxZof u c) 577 w = yxZof (xs_V_epc u (w &&& -4)) c := by
  unfold xf_Z_write
  rw [yxlt_d, if_neg (by decide), if_neg (by decide), if_neg (by decide), yxlt_d, yzk_577, yxlt_d, yzb_577]
theorem ykw_577 (u : XH) (w : Int32) : xf_K_write u 577 w = xs_V_epc u (w &&& -4) := by
  have e : xf_K_isOfS 577 = 0 := by simp [xf_K_isOfS]
  have e2 : xf_B_write (xg_V u) (577 - 256) w = xsB_epc (xg_V u) (w &&& -4) := by
    unfold xf_B_write; simp [yxlt_d]
  unfold xf_K_write
  rw [yxlt_d, e, if_pos rfl, yxlt_d]
  simp only [yxlt_d]
  rw [if_neg (by decide), if_neg (by decide), if_neg (by decide), if_neg (by decide), if_neg (by decide), if_neg (by decide), if_neg (by decide), if_neg (by decide), if_neg (by decide), if_neg (by decide), if_neg (by decide), e2, ysV_epc]
theorem yzk_578 : xf_Z_kept 578 = -1 := by simp [xf_Z_kept]
theorem yzw_578 (u : XH) (c : XZ) (w : Int32) : xf_Z_write (yxZof u c) 578 w = yxZof (xs_V_cause u (w &&& -1)) c := by
  unfold xf_Z_write
  rw [yxlt_d, if_neg (by decide), if_neg (by decide), if_neg (by decide), yxlt_d, yzk_578, yxlt_d, yzb_578]
theorem ykw_578 (u : XH) (w : Int32) : xf_K_write u 578 w = xs_V_cause u (w &&& -1) := by
  have e : xf_K_isOfS 578 = 0 := by simp [xf_K_isOfS]
  have e2 : xf_B_write (xg_V u) (578 - 256) w = xsB_cause (xg_V u) (w &&& -1) := by
    unfold xf_B_write; simp [yxlt_d]
  unfold xf_K_write
  rw [yxlt_d, e, if_pos rfl, yxlt_d]
  simp only [yxlt_d]
  rw [if_neg (by decide), if_neg (by decide), if_neg (by decide), if_neg (by decide), if_neg (by decide), if_neg (by decide), if_neg (by decide), if_neg (by decide), if_neg (by decide), if_neg (by decide), if_neg (by decide), e2, ysV_cause]
theorem yzk_579 : xf_Z_kept 579 = -1 := by simp [xf_Z_kept]
theorem yzw_579 (u : XH) (c : XZ) (w : Int32) : xf_Z_write (yxZof u c) 579 w = yxZof (xs_V_tval u (w &&& -1)) c := by
  unfold xf_Z_write
  rw [yxlt_d, if_neg (by decide), if_neg (by decide), if_neg (by decide), yxlt_d, yzk_579, yxlt_d, yzb_579]
theorem ykw_579 (u : XH) (w : Int32) : xf_K_write u 579 w = xs_V_tval u (w &&& -1) := by
  have e : xf_K_isOfS 579 = 0 := by simp [xf_K_isOfS]
  have e2 : xf_B_write (xg_V u) (579 - 256) w = xsB_tval (xg_V u) (w &&& -1) := by
    unfold xf_B_write; simp [yxlt_d]
  unfold xf_K_write
  rw [yxlt_d, e, if_pos rfl, yxlt_d]
  simp only [yxlt_d]
  rw [if_neg (by decide), if_neg (by decide), if_neg (by decide), if_neg (by decide), if_neg (by decide), if_neg (by decide), if_neg (by decide), if_neg (by decide), if_neg (by decide), if_neg (by decide), if_neg (by decide), e2, ysV_tval]
theorem yzk_640 : xf_Z_kept 640 = -2143289345 := by simp [xf_Z_kept]
theorem yzw_640 (u : XH) (c : XZ) (w : Int32) : xf_Z_write (yxZof u c) 640 w = yxZof (xs_V_atp u (w &&& -2143289345)) c := by
  unfold xf_Z_write
  rw [yxlt_d, if_neg (by decide), if_neg (by decide), if_neg (by decide), yxlt_d, yzk_640, yxlt_d, yzb_640]
theorem ykw_640 (u : XH) (w : Int32) : xf_K_write u 640 w = xs_V_atp u (w &&& -2143289345) := by
  have e : xf_K_isOfS 640 = 0 := by simp [xf_K_isOfS]
  have e2 : xf_B_write (xg_V u) (640 - 256) w = xsB_atp (xg_V u) (w &&& -2143289345) := by
    unfold xf_B_write; simp [yxlt_d]
  unfold xf_K_write
  rw [yxlt_d, e, if_pos rfl, yxlt_d]
  simp only [yxlt_d]
  rw [if_neg (by decide), if_neg (by decide), if_neg (by decide), if_neg (by decide), if_neg (by decide), if_neg (by decide), if_neg (by decide), if_neg (by decide), if_neg (by decide), if_neg (by decide), if_neg (by decide), e2, ysV_atp]
theorem yzk_1536 : xf_Z_kept 1536 = 7340992 := by simp [xf_Z_kept]
theorem yzw_1536 (u : XH) (c : XZ) (w : Int32) : xf_Z_write (yxZof u c) 1536 w = yxZof (xs_K_hstatus u (w &&& 7340992)) c := by
  unfold xf_Z_write
  rw [yxlt_d, if_neg (by decide), if_neg (by decide), if_neg (by decide), yxlt_d, yzk_1536, yxlt_d, yzb_1536]
theorem ykw_1536 (u : XH) (w : Int32) : xf_K_write u 1536 w = xs_K_hstatus u (w &&& 7340992) := by
  have e : xf_K_isOfS 1536 = 0 := by simp [xf_K_isOfS]
  unfold xf_K_write
  rw [yxlt_d, e, if_pos rfl, yxlt_d, if_neg (by decide), if_neg (by decide), if_pos rfl]
theorem yzk_1538 : xf_Z_kept 1538 = 45567 := by simp [xf_Z_kept]
theorem yzw_1538 (u : XH) (c : XZ) (w : Int32) : xf_Z_write (yxZof u c) 1538 w = yxZof (xs_K_hedeleg u (w &&& 45567)) c := by
  unfold xf_Z_write
  rw [yxlt_d, if_neg (by decide), if_neg (by decide), if_neg (by decide), yxlt_d, yzk_1538, yxlt_d, yzb_1538]
theorem ykw_1538 (u : XH) (w : Int32) : xf_K_write u 1538 w = xs_K_hedeleg u (w &&& 45567) := by
  have e : xf_K_isOfS 1538 = 0 := by simp [xf_K_isOfS]
  unfold xf_K_write
  rw [yxlt_d, e, if_pos rfl, yxlt_d, if_neg (by decide), if_neg (by decide), if_neg (by decide), if_pos rfl]
theorem yzk_1539 : xf_Z_kept 1539 = 1092 := by simp [xf_Z_kept]
theorem yzw_1539 (u : XH) (c : XZ) (w : Int32) : xf_Z_write (yxZof u c) 1539 w = yxZof (xs_K_hideleg u (w &&& 1092)) c := by
  unfold xf_Z_write
  rw [yxlt_d, if_neg (by decide), if_neg (by decide), if_neg (by decide), yxlt_d, yzk_1539, yxlt_d, yzb_1539]
theorem ykw_1539 (u : XH) (w : Int32) : xf_K_write u 1539 w = xs_K_hideleg u (w &&& 1092) := by
  have e : xf_K_isOfS 1539 = 0 := by simp [xf_K_isOfS]
  unfold xf_K_write
  rw [yxlt_d, e, if_pos rfl, yxlt_d, if_neg (by decide), if_neg (by decide), if_neg (by decide), if_neg (by decide), if_pos rfl]
theorem yzk_1540 : xf_Z_kept 1540 = 1092 := by simp [xf_Z_kept]
theorem yzw_1540 (u : XH) (c : XZ) (w : Int32) : xf_Z_write (yxZof u c) 1540 w = yxZof (xs_K_hie u (w &&& 1092)) c := by
  unfold xf_Z_write
  rw [yxlt_d, if_neg (by decide), if_neg (by decide), if_neg (by decide), yxlt_d, yzk_1540, yxlt_d, yzb_1540]
theorem ykw_1540 (u : XH) (w : Int32) : xf_K_write u 1540 w = xs_K_hie u (w &&& 1092) := by
  have e : xf_K_isOfS 1540 = 0 := by simp [xf_K_isOfS]
  unfold xf_K_write
  rw [yxlt_d, e, if_pos rfl, yxlt_d, if_neg (by decide), if_neg (by decide), if_neg (by decide), if_neg (by decide), if_neg (by decide), if_pos rfl]
theorem yzk_1603 : xf_Z_kept 1603 = -1 := by simp [xf_Z_kept]
theorem yzw_1603 (u : XH) (c : XZ) (w : Int32) : xf_Z_write (yxZof u c) 1603 w = yxZof (xs_K_htval u (w &&& -1)) c := by
  unfold xf_Z_write
  rw [yxlt_d, if_neg (by decide), if_neg (by decide), if_neg (by decide), yxlt_d, yzk_1603, yxlt_d, yzb_1603]
theorem ykw_1603 (u : XH) (w : Int32) : xf_K_write u 1603 w = xs_K_htval u (w &&& -1) := by
  have e : xf_K_isOfS 1603 = 0 := by simp [xf_K_isOfS]
  unfold xf_K_write
  rw [yxlt_d, e, if_pos rfl, yxlt_d, if_neg (by decide), if_neg (by decide), if_neg (by decide), if_neg (by decide), if_neg (by decide), if_neg (by decide), if_pos rfl, ym1]
theorem yzk_1605 : xf_Z_kept 1605 = 1092 := by simp [xf_Z_kept]
theorem yzw_1605 (u : XH) (c : XZ) (w : Int32) : xf_Z_write (yxZof u c) 1605 w = yxZof (xs_K_hvip u (w &&& 1092)) c := by
  unfold xf_Z_write
  rw [yxlt_d, if_neg (by decide), if_neg (by decide), if_neg (by decide), yxlt_d, yzk_1605, yxlt_d, yzb_1605]
theorem ykw_1605 (u : XH) (w : Int32) : xf_K_write u 1605 w = xs_K_hvip u (w &&& 1092) := by
  have e : xf_K_isOfS 1605 = 0 := by simp [xf_K_isOfS]
  unfold xf_K_write
  rw [yxlt_d, e, if_pos rfl, yxlt_d, if_neg (by decide), if_neg (by decide), if_neg (by decide), if_neg (by decide), if_neg (by decide), if_neg (by decide), if_neg (by decide), if_neg (by decide), if_pos rfl]
theorem yzk_1610 : xf_Z_kept 1610 = -1 := by simp [xf_Z_kept]
theorem yzw_1610 (u : XH) (c : XZ) (w : Int32) : xf_Z_write (yxZof u c) 1610 w = yxZof (xs_K_htinst u (w &&& -1)) c := by
  unfold xf_Z_write
  rw [yxlt_d, if_neg (by decide), if_neg (by decide), if_neg (by decide), yxlt_d, yzk_1610, yxlt_d, yzb_1610]
theorem ykw_1610 (u : XH) (w : Int32) : xf_K_write u 1610 w = xs_K_htinst u (w &&& -1) := by
  have e : xf_K_isOfS 1610 = 0 := by simp [xf_K_isOfS]
  unfold xf_K_write
  rw [yxlt_d, e, if_pos rfl, yxlt_d, if_neg (by decide), if_neg (by decide), if_neg (by decide), if_neg (by decide), if_neg (by decide), if_neg (by decide), if_neg (by decide), if_neg (by decide), if_neg (by decide), if_pos rfl, ym1]
theorem yzk_1664 : xf_Z_kept 1664 = -2143289348 := by simp [xf_Z_kept]
theorem yzw_1664 (u : XH) (c : XZ) (w : Int32) : xf_Z_write (yxZof u c) 1664 w = yxZof (xs_K_hgatp u (w &&& -2143289348)) c := by
  unfold xf_Z_write
  rw [yxlt_d, if_neg (by decide), if_neg (by decide), if_neg (by decide), yxlt_d, yzk_1664, yxlt_d, yzb_1664]
theorem ykw_1664 (u : XH) (w : Int32) : xf_K_write u 1664 w = xs_K_hgatp u (w &&& -2143289348) := by
  have e : xf_K_isOfS 1664 = 0 := by simp [xf_K_isOfS]
  unfold xf_K_write
  rw [yxlt_d, e, if_pos rfl, yxlt_d, if_neg (by decide), if_neg (by decide), if_neg (by decide), if_neg (by decide), if_neg (by decide), if_neg (by decide), if_neg (by decide), if_neg (by decide), if_neg (by decide), if_neg (by decide), if_pos rfl]
