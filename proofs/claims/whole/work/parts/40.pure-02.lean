theorem yxus_tn (x s : Int32) (k : Nat) (hk : ((s.toUInt32 &&& Int32.toUInt32 31).toBitVec % 32).toNat = k) : (xus x s).toBitVec.toNat = x.toBitVec.toNat / 2 ^ k := by
  unfold xus
  show ((x.toUInt32 >>> (s.toUInt32 &&& Int32.toUInt32 31)).toBitVec).toNat = _
  rw [UInt32.toBitVec_shiftRight, BitVec.ushiftRight_eq', hk, BitVec.toNat_ushiftRight, Nat.shiftRight_eq_div_pow]
  rfl
theorem yclamp_tn (x : Int32) (h : x.toBitVec.toNat < 2147483648) : x.toNatClampNeg = x.toBitVec.toNat := by
  show (x.toBitVec.toInt).toNat = _
  rw [BitVec.toInt_eq_toNat_of_lt (by omega)]
  rfl
theorem ytoInt_tn (x : Int32) (h : x.toBitVec.toNat < 2147483648) : x.toInt = (x.toBitVec.toNat : Int) := by
  show x.toBitVec.toInt = _
  rw [BitVec.toInt_eq_toNat_of_lt (by omega)]
theorem ytn_toInt (x : Int32) (h : 0 ≤ x.toInt) : (x.toBitVec.toNat : Int) = x.toInt := by
  have h2 : x.toInt = x.toBitVec.toInt := rfl
  rw [h2] at h ⊢
  have := x.toBitVec.isLt
  rw [BitVec.toInt_eq_toNat_cond] at h ⊢
  split at h <;> simp_all <;> omega
theorem yand_tn (x m : Int32) (k : Nat) (hm : m.toBitVec.toNat = 2 ^ k - 1) : (x &&& m).toBitVec.toNat = x.toBitVec.toNat % 2 ^ k := by
  rw [Int32.toBitVec_and, BitVec.toNat_and, hm, Nat.and_two_pow_sub_one_eq_mod]
theorem yxmI_n {a : Int32} {n : Nat} (h : a.toBitVec.toNat = n) : xmI a = n / 4096 := by
  have e := yxus_tn a 12 12 (by decide)
  rw [h] at e
  have := a.toBitVec.isLt
  show (xus a 12).toNatClampNeg = _
  rw [yclamp_tn _ (by rw [e]; omega), e]
theorem yxmJ_n {a : Int32} {n : Nat} (h : a.toBitVec.toNat = n) : xmJ a = n / 4 % 1024 := by
  have e := yxus_tn a 2 2 (by decide)
  rw [h] at e
  have e2 := yand_tn (xus a 2) 1023 10 (by decide)
  rw [e] at e2
  show (xus a 2 &&& 1023).toNatClampNeg = _
  rw [yclamp_tn _ (by rw [e2]; omega), e2]
theorem yxus12_lt {a : Int32} {n : Nat} (h : a.toBitVec.toNat = n) (hn : n < 262144) : xus a 12 < Int32.ofNat 64 := by
  have e := yxus_tn a 12 12 (by decide)
  rw [h] at e
  apply Int32.lt_iff_toInt_lt.mpr
  rw [ytoInt_tn _ (by rw [e]; omega), e]
  have : (Int32.ofNat 64).toInt = 64 := by decide
  rw [this]; omega
theorem yrd64 (m : XM1) {a : Int32} {n : Nat} (h : a.toBitVec.toNat = n) (hn : n < 262144) : xf_M_readWord 64 m a = (m.1 (n / 4096) (n / 4 % 1024), m) := by
  unfold xf_M_readWord
  rw [if_pos (yxus12_lt h hn), yxmI_n h, yxmJ_n h]
theorem ywr64 (m : XM1) {a : Int32} {n : Nat} (h : a.toBitVec.toNat = n) (hn : n < 262144) (w : Int32) : xf_M_writeWord 64 m a w = (va_up m.1 (n / 4096) (upd (m.1 (n / 4096)) (n / 4 % 1024) w), va_up m.2.1 (n / 4096) true, m.2.2) := by
  unfold xf_M_writeWord
  rw [if_pos (yxus12_lt h hn), yxmI_n h, yxmJ_n h]
theorem yxsM1_self (u : XH) : xs_M1 u (xg_M u).1 = u := rfl
theorem yrdu (u : XH) {a : Int32} {n : Nat} (h : a.toBitVec.toNat = n) (hn : n < 262144) : xs_M1 u (xf_M_readWord 64 (xg_M u).1 a).2 = u := by rw [yrd64 _ h hn]; rfl
theorem yzmem (u : XH) (c : XZ) (n : Nat) : xg_Z_memory (yxZof u c) (n / 4) = (xg_M u).1.1 (n / 4096) (n / 4 % 1024) := by
  rw [yzg_memory]
  show (xg_M u).1.1 (n / 4 / 1024) (n / 4 % 1024) = _
  rw [Nat.div_div_eq_div_mul]
theorem yxMg (u : XH) (m : XM1) : (xg_M (xs_M1 u m)).1 = m := rfl
theorem yzsm (u : XH) (c : XZ) (m : XM1) (f : Nat → Int32) (h : f = fun n => m.1 (n / 1024) (n % 1024)) : xs_Z_memory (yxZof u c) f = yxZof (xs_M1 u m) c := by
  subst h; rfl
theorem yzwr (u : XH) (c : XZ) {a : Int32} {n : Nat} (h : a.toBitVec.toNat = n) (hn : n < 262144) (w : Int32) : xs_Z_memory (yxZof u c) (upd (xg_Z_memory (yxZof u c)) (n / 4) w) = yxZof (xs_M1 u (xf_M_writeWord 64 (xg_M u).1 a w)) c := by
  apply yzsm
  rw [ywr64 _ h hn, yzg_memory]
  funext j
  unfold upd va_up
  simp only []
  by_cases e : j = n / 4
  · subst e
    rw [if_pos rfl, if_pos (by omega), if_pos rfl]
  · rw [if_neg e]
    by_cases e2 : j / 1024 = n / 4096
    · rw [if_pos e2, if_neg (by omega), e2]
    · rw [if_neg e2]
theorem yinv_wr {u : XH} (hi : yxInv u) {a : Int32} {n : Nat} (h : a.toBitVec.toNat = n) (hn : n < 262144) (w : Int32) : yxInv (xs_M1 u (xf_M_writeWord 64 (xg_M u).1 a w)) := by
  rw [ywr64 _ h hn]
  obtain ⟨h1, h2, h3, h4, h5, h6, h7, h8, h9, h10, h11, h12, h13⟩ := hi
  exact ⟨h1, h2, h3, h4, h5, h6, h7, h8, h9, h10, h11, h12, h13⟩
/-- what is left by 4 -/
theorem yrem4 (p : Int32) : (p - p / (4 : Int32) * (4 : Int32)) = 0 ↔ p &&& 3 = 0 := by
  have h4 : (p &&& 3).toBitVec.toNat = p.toBitVec.toNat % 4 := yand_tn p 3 2 (by decide)
  have h0 : (p &&& 3 = 0) ↔ p.toBitVec.toNat % 4 = 0 := by
    rw [← h4]
    constructor
    · intro h; rw [h]; rfl
    · intro h; apply Int32.toBitVec_inj.mp; apply BitVec.eq_of_toNat_eq; rw [h]; rfl
  have hp := p.toBitVec.isLt
  have hpi : p.toInt = if 2 * p.toBitVec.toNat < 4294967296 then (p.toBitVec.toNat : Int) else (p.toBitVec.toNat : Int) - 4294967296 := BitVec.toInt_eq_toNat_cond _
  have hb1 : -2147483648 ≤ p.toInt := Int32.le_toInt p
  have hb2 : p.toInt < 2147483648 := Int32.toInt_lt p
  have hd : (p / 4).toInt = p.toInt.tdiv 4 := by
    rw [Int32.toInt_div]
    have e4 : (4 : Int32).toInt = 4 := by decide
    rw [e4]
    have hq1 : -2147483648 ≤ p.toInt.tdiv 4 := by
      rcases Int.le_total 0 p.toInt with h | h
      · have := Int.tdiv_nonneg h (by decide : (0 : Int) ≤ 4); omega
      · have h5 : p.toInt.tdiv 4 = -((-p.toInt).tdiv 4) := by rw [Int.neg_tdiv]; omega
        rw [h5, Int.tdiv_eq_ediv_of_nonneg (by omega)]; omega
    have hq2 : p.toInt.tdiv 4 < 2147483648 := by
      rcases Int.le_total 0 p.toInt with h | h
      · rw [Int.tdiv_eq_ediv_of_nonneg h]; omega
      · have h5 : p.toInt.tdiv 4 = -((-p.toInt).tdiv 4) := by rw [Int.neg_tdiv]; omega
        rw [h5, Int.tdiv_eq_ediv_of_nonneg (by omega)]; omega
    exact Int.bmod_eq_of_le (by omega) (by omega)
  have hm : (p / 4 * 4).toInt = (p.toInt.tdiv 4) * 4 := by
    rw [Int32.toInt_mul, hd]
    have e4 : (4 : Int32).toInt = 4 := by decide
    rw [e4]
    have hs : -2147483648 ≤ (p.toInt.tdiv 4) * 4 ∧ (p.toInt.tdiv 4) * 4 < 2147483648 := by
      rcases Int.le_total 0 p.toInt with h | h
      · rw [Int.tdiv_eq_ediv_of_nonneg h]; omega
      · have h5 : p.toInt.tdiv 4 = -((-p.toInt).tdiv 4) := by rw [Int.neg_tdiv]; omega
        rw [h5, Int.tdiv_eq_ediv_of_nonneg (by omega)]; omega
    exact Int.bmod_eq_of_le (by omega) (by omega)
  have h1 : (p - p / 4 * 4 = 0) ↔ p.toInt = (p.toInt.tdiv 4) * 4 := by
    rw [← hm]
    constructor
    · intro h
      have h9 : p = p / 4 * 4 := by
        have h8 := Int32.sub_add_cancel p (p / 4 * 4)
        rw [h, Int32.zero_add] at h8
        exact h8.symm
      exact congrArg Int32.toInt h9
    · intro h
      have := Int32.toInt_inj.mp h
      rw [← this, Int32.sub_self]
  rw [h1, h0]
  rcases Int.le_total 0 p.toInt with h | h
  · rw [Int.tdiv_eq_ediv_of_nonneg h]
    rw [hpi]
    split <;> omega
  · have h5 : p.toInt.tdiv 4 = -((-p.toInt).tdiv 4) := by rw [Int.neg_tdiv]; omega
    rw [h5, Int.tdiv_eq_ediv_of_nonneg (by omega)]
    rw [hpi]
    split <;> omega
theorem yand3 (p : Int32) : (p &&& 3 = 0) ↔ p.toBitVec.toNat % 4 = 0 := by
  have h4 : (p &&& 3).toBitVec.toNat = p.toBitVec.toNat % 4 := yand_tn p 3 2 (by decide)
  rw [← h4]
  constructor
  · intro h; rw [h]; rfl
  · intro h; apply Int32.toBitVec_inj.mp; apply BitVec.eq_of_toNat_eq; rw [h]; rfl
/-- a small number by 4 -/
theorem ydiv4 {p : Int32} {n : Nat} (h : p.toBitVec.toNat = n) (hn : n < 2147483648) : (p / 4).toBitVec.toNat = n / 4 := by
  have e1 : p.toInt = (n : Int) := by rw [ytoInt_tn p (by omega), h]
  have e2 : (p / 4).toInt = ((n / 4 : Nat) : Int) := by
    rw [Int32.toInt_div, e1]
    have e4 : (4 : Int32).toInt = 4 := by decide
    rw [e4, Int.tdiv_eq_ediv_of_nonneg (by omega)]
    rw [Int.bmod_eq_of_le (by omega) (by omega)]
    omega
  have := ytn_toInt (p / 4) (by omega)
  omega
theorem ypos_tn {p : Int32} (h : ¬ p < 0) : ∃ n, p.toBitVec.toNat = n ∧ p.toInt = (n : Int) ∧ n < 2147483648 := by
  have h1 : 0 ≤ p.toInt := by
    have : ¬ p.toInt < (0 : Int32).toInt := fun hh => h (Int32.lt_iff_toInt_lt.mpr hh)
    have e : (0 : Int32).toInt = 0 := by decide
    omega
  have h2 := ytn_toInt p h1
  have h3 := Int32.toInt_lt p
  exact ⟨p.toBitVec.toNat, rfl, h2.symm, by omega⟩
theorem yvp_of {p : Int32} {n k : Nat} (h : p.toBitVec.toNat = n) (h1 : n < 2147483648) (h2 : n < k) : vp_in p k := by
  unfold vp_in
  intro hh
  have e1 : p.toInt = (n : Int) := by rw [ytoInt_tn p (by omega), h]
  rcases hh with hh | hh
  · have := Int32.lt_iff_toInt_lt.mp hh
    have e : (0 : Int32).toInt = 0 := by decide
    omega
  · rw [yclamp_tn p (by omega), h] at hh; omega
theorem ytn_ext {a b : Int32} (h : a.toBitVec.toNat = b.toBitVec.toNat) : a = b := Int32.toBitVec_inj.mp (BitVec.eq_of_toNat_eq h)
theorem yadd_tn {a : Int32} {n : Nat} (h : a.toBitVec.toNat = n) (b : Int32) (m : Nat) (hb : b.toBitVec.toNat = m) (hs : n + m < 4294967296) : (a + b).toBitVec.toNat = n + m := by
  rw [Int32.toBitVec_add, BitVec.toNat_add, h, hb, Nat.mod_eq_of_lt hs]
/-- the bytes of the console, as the class keeps them and as the reference does -/
def yxCon (u : XH) (c : XZ) : Prop := ∀ i : Int32, ¬ i < 0 → i < xg_C_consoleSize u → xg_Z_console c i.toNatClampNeg = (xf_M_read 1 (xg_M u).2 i 0).1 &&& 255
def yxG (u : XH) (c : XZ) : Prop := yxInv u ∧ yxCon u c
def yxRel (u : XH) (v : XZ) : Prop := ∃ c, v = yxZof u c ∧ yxG u c
theorem ygu_C_pc {u : XH} {c : XZ} (h : yxG u c) {w : Int32} (hw : w &&& 3 = 0) : yxG (xs_C_pc u w) c := ⟨yinv_C_pc h.1 hw, h.2⟩
theorem ygu_C_mode {u : XH} {c : XZ} (h : yxG u c) {w : Int32} (hw : w = 0 ∨ w = 1 ∨ w = 2 ∨ w = 3) : yxG (xs_C_mode u w) c := ⟨yinv_C_mode h.1 hw, h.2⟩
theorem ygu_C_off {u : XH} {c : XZ} (h : yxG u c) {w : Bool}  : yxG (xs_C_off u w) c := ⟨yinv_C_off h.1 , h.2⟩
theorem ygu_C_trapsToS {u : XH} {c : XZ} (h : yxG u c) {w : Int32}  : yxG (xs_C_trapsToS u w) c := ⟨yinv_C_trapsToS h.1 , h.2⟩
theorem ygu_C_trapsToVs {u : XH} {c : XZ} (h : yxG u c) {w : Int32}  : yxG (xs_C_trapsToVs u w) c := ⟨yinv_C_trapsToVs h.1 , h.2⟩
theorem ygu_C_interrupts {u : XH} {c : XZ} (h : yxG u c) {w : Int32}  : yxG (xs_C_interrupts u w) c := ⟨yinv_C_interrupts h.1 , h.2⟩
theorem ygu_C_next {u : XH} {c : XZ} (h : yxG u c) {w : Int32}  : yxG (xs_C_next u w) c := ⟨yinv_C_next h.1 , h.2⟩
theorem ygu_C_word {u : XH} {c : XZ} (h : yxG u c) {w : Int32}  : yxG (xs_C_word u w) c := ⟨yinv_C_word h.1 , h.2⟩
theorem ygu_x {u : XH} {c : XZ} (h : yxG u c) {w : Nat → Int32} (hw : w 0 = 0) : yxG (xs_x u w) c := ⟨yinv_x h.1 hw, h.2⟩
theorem ygu_K_hstatus {u : XH} {c : XZ} (h : yxG u c) {w : Int32}  : yxG (xs_K_hstatus u w) c := ⟨yinv_K_hstatus h.1 , h.2⟩
theorem ygu_K_hedeleg {u : XH} {c : XZ} (h : yxG u c) {w : Int32}  : yxG (xs_K_hedeleg u w) c := ⟨yinv_K_hedeleg h.1 , h.2⟩
theorem ygu_K_hideleg {u : XH} {c : XZ} (h : yxG u c) {w : Int32} (hw : w &&& 1092 = w) : yxG (xs_K_hideleg u w) c := ⟨yinv_K_hideleg h.1 hw, h.2⟩
theorem ygu_K_hie {u : XH} {c : XZ} (h : yxG u c) {w : Int32} (hw : w &&& 1092 = w) : yxG (xs_K_hie u w) c := ⟨yinv_K_hie h.1 hw, h.2⟩
theorem ygu_K_htval {u : XH} {c : XZ} (h : yxG u c) {w : Int32}  : yxG (xs_K_htval u w) c := ⟨yinv_K_htval h.1 , h.2⟩
theorem ygu_K_hvip {u : XH} {c : XZ} (h : yxG u c) {w : Int32} (hw : w &&& 1092 = w) : yxG (xs_K_hvip u w) c := ⟨yinv_K_hvip h.1 hw, h.2⟩
theorem ygu_K_htinst {u : XH} {c : XZ} (h : yxG u c) {w : Int32}  : yxG (xs_K_htinst u w) c := ⟨yinv_K_htinst h.1 , h.2⟩
theorem ygu_K_hgatp {u : XH} {c : XZ} (h : yxG u c) {w : Int32} (hw : w &&& 3 = 0) : yxG (xs_K_hgatp u w) c := ⟨yinv_K_hgatp h.1 hw, h.2⟩
theorem ygu_K_time {u : XH} {c : XZ} (h : yxG u c) {w : Int64}  : yxG (xs_K_time u w) c := ⟨yinv_K_time h.1 , h.2⟩
theorem ygu_K_alarm {u : XH} {c : XZ} (h : yxG u c) {w : Int64}  : yxG (xs_K_alarm u w) c := ⟨yinv_K_alarm h.1 , h.2⟩
theorem ygu_K_lineOn {u : XH} {c : XZ} (h : yxG u c) {w : Bool}  : yxG (xs_K_lineOn u w) c := ⟨yinv_K_lineOn h.1 , h.2⟩
theorem ygu_S_status {u : XH} {c : XZ} (h : yxG u c) {w : Int32}  : yxG (xs_S_status u w) c := ⟨yinv_S_status h.1 , h.2⟩
theorem ygu_S_ie {u : XH} {c : XZ} (h : yxG u c) {w : Int32} (hw : w &&& 546 = w) : yxG (xs_S_ie u w) c := ⟨yinv_S_ie h.1 hw, h.2⟩
theorem ygu_S_tvec {u : XH} {c : XZ} (h : yxG u c) {w : Int32}  : yxG (xs_S_tvec u w) c := ⟨yinv_S_tvec h.1 , h.2⟩
theorem ygu_S_scratch {u : XH} {c : XZ} (h : yxG u c) {w : Int32}  : yxG (xs_S_scratch u w) c := ⟨yinv_S_scratch h.1 , h.2⟩
theorem ygu_S_epc {u : XH} {c : XZ} (h : yxG u c) {w : Int32} (hw : w &&& 3 = 0) : yxG (xs_S_epc u w) c := ⟨yinv_S_epc h.1 hw, h.2⟩
theorem ygu_S_cause {u : XH} {c : XZ} (h : yxG u c) {w : Int32}  : yxG (xs_S_cause u w) c := ⟨yinv_S_cause h.1 , h.2⟩
theorem ygu_S_tval {u : XH} {c : XZ} (h : yxG u c) {w : Int32}  : yxG (xs_S_tval u w) c := ⟨yinv_S_tval h.1 , h.2⟩
theorem ygu_S_ip {u : XH} {c : XZ} (h : yxG u c) {w : Int32}  : yxG (xs_S_ip u w) c := ⟨yinv_S_ip h.1 , h.2⟩
theorem ygu_S_atp {u : XH} {c : XZ} (h : yxG u c) {w : Int32}  : yxG (xs_S_atp u w) c := ⟨yinv_S_atp h.1 , h.2⟩
theorem ygu_V_status {u : XH} {c : XZ} (h : yxG u c) {w : Int32}  : yxG (xs_V_status u w) c := ⟨yinv_V_status h.1 , h.2⟩
theorem ygu_V_ie {u : XH} {c : XZ} (h : yxG u c) {w : Int32}  : yxG (xs_V_ie u w) c := ⟨yinv_V_ie h.1 , h.2⟩
theorem ygu_V_tvec {u : XH} {c : XZ} (h : yxG u c) {w : Int32}  : yxG (xs_V_tvec u w) c := ⟨yinv_V_tvec h.1 , h.2⟩
theorem ygu_V_scratch {u : XH} {c : XZ} (h : yxG u c) {w : Int32}  : yxG (xs_V_scratch u w) c := ⟨yinv_V_scratch h.1 , h.2⟩
theorem ygu_V_epc {u : XH} {c : XZ} (h : yxG u c) {w : Int32} (hw : w &&& 3 = 0) : yxG (xs_V_epc u w) c := ⟨yinv_V_epc h.1 hw, h.2⟩
theorem ygu_V_cause {u : XH} {c : XZ} (h : yxG u c) {w : Int32}  : yxG (xs_V_cause u w) c := ⟨yinv_V_cause h.1 , h.2⟩
theorem ygu_V_tval {u : XH} {c : XZ} (h : yxG u c) {w : Int32}  : yxG (xs_V_tval u w) c := ⟨yinv_V_tval h.1 , h.2⟩
theorem ygu_V_ip {u : XH} {c : XZ} (h : yxG u c) {w : Int32}  : yxG (xs_V_ip u w) c := ⟨yinv_V_ip h.1 , h.2⟩
theorem ygu_V_atp {u : XH} {c : XZ} (h : yxG u c) {w : Int32}  : yxG (xs_V_atp u w) c := ⟨yinv_V_atp h.1 , h.2⟩
theorem ygu_P_cause {u : XH} {c : XZ} (h : yxG u c) {w : Int32}  : yxG (xs_P_cause u w) c := ⟨yinv_P_cause h.1 , h.2⟩
theorem ygu_P_tval {u : XH} {c : XZ} (h : yxG u c) {w : Int32}  : yxG (xs_P_tval u w) c := ⟨yinv_P_tval h.1 , h.2⟩
theorem ygu_P_guest {u : XH} {c : XZ} (h : yxG u c) {w : Int32}  : yxG (xs_P_guest u w) c := ⟨yinv_P_guest h.1 , h.2⟩
theorem ygu_P_inst {u : XH} {c : XZ} (h : yxG u c) {w : Int32}  : yxG (xs_P_inst u w) c := ⟨yinv_P_inst h.1 , h.2⟩
theorem ygu_P_asGuest {u : XH} {c : XZ} (h : yxG u c) {w : Bool}  : yxG (xs_P_asGuest u w) c := ⟨yinv_P_asGuest h.1 , h.2⟩
theorem ygu_P_interruptForVs {u : XH} {c : XZ} (h : yxG u c) {w : Bool}  : yxG (xs_P_interruptForVs u w) c := ⟨yinv_P_interruptForVs h.1 , h.2⟩
theorem ygc_cause {u : XH} {c : XZ} (h : yxG u c) {w : Int32} : yxG u (xs_Z_cause c w) := h
theorem ygc_wrong {u : XH} {c : XZ} (h : yxG u c) {w : Int32} : yxG u (xs_Z_wrong c w) := h
theorem ygc_ofGuest {u : XH} {c : XZ} (h : yxG u c) {w : Bool} : yxG u (xs_Z_ofGuest c w) := h
theorem ygc_far {u : XH} {c : XZ} (h : yxG u c) {w : Int64} : yxG u (xs_Z_far c w) := h
theorem ygc_ofEntry {u : XH} {c : XZ} (h : yxG u c) {w : Bool} : yxG u (xs_Z_ofEntry c w) := h
theorem ygc_kind {u : XH} {c : XZ} (h : yxG u c) {w : Int32} : yxG u (xs_Z_kind c w) := h
theorem ygc_virtual {u : XH} {c : XZ} (h : yxG u c) {w : Bool} : yxG u (xs_Z_virtual c w) := h
theorem ygc_user {u : XH} {c : XZ} (h : yxG u c) {w : Bool} : yxG u (xs_Z_user c w) := h
theorem ygc_executes {u : XH} {c : XZ} (h : yxG u c) {w : Bool} : yxG u (xs_Z_executes c w) := h
theorem ygc_address {u : XH} {c : XZ} (h : yxG u c) {w : Int32} : yxG u (xs_Z_address c w) := h
theorem ygc_asGuest {u : XH} {c : XZ} (h : yxG u c) {w : Bool} : yxG u (xs_Z_asGuest c w) := h
theorem ygc_next {u : XH} {c : XZ} (h : yxG u c) {w : Int32} : yxG u (xs_Z_next c w) := h
theorem ygc_thrown {u : XH} {c : XZ} (h : yxG u c) {w : Int32} : yxG u (xs_Z_thrown c w) := h
theorem yxCon_write {u : XH} {c : XZ} (h : yxCon u c) {w : Int32} {n : Int32} (hn : ¬ xf_Z_indexOf n < 0) (h1 : ¬ n = 3073) (h2 : ¬ n = 3201) : yxCon (xf_K_write u n w) c := by
  have e : ∀ u : XH, ∀ n w, ¬ xf_Z_indexOf n < 0 → ¬ n = 3073 → ¬ n = 3201 → xg_C_consoleSize (xf_K_write u n w) = xg_C_consoleSize u ∧ (xg_M (xf_K_write u n w)) = xg_M u := by
    intro u n w hn h1 h2
    rcases yzi_cases hn with h | h | h | h | h | h | h | h | h | h | h | h | h | h | h | h | h | h | h | h | h | h | h | h | h | h | h | h | h <;> subst h
    · rw [ykw_256]; exact ⟨rfl, rfl⟩
    · rw [ykw_260]; exact ⟨rfl, rfl⟩
    · rw [ykw_261]; exact ⟨rfl, rfl⟩
    · rw [ykw_320]; exact ⟨rfl, rfl⟩
    · rw [ykw_321]; exact ⟨rfl, rfl⟩
    · rw [ykw_322]; exact ⟨rfl, rfl⟩
    · rw [ykw_323]; exact ⟨rfl, rfl⟩
    · rw [ykw_324]; exact ⟨rfl, rfl⟩
    · rw [ykw_384]; exact ⟨rfl, rfl⟩
    · rw [ykw_512]; exact ⟨rfl, rfl⟩
    · unfold xf_K_write; rw [yxlt_d, yks_516, if_pos rfl, yxlt_d, if_pos rfl]; exact ⟨rfl, rfl⟩
    · rw [ykw_517]; exact ⟨rfl, rfl⟩
    · rw [ykw_576]; exact ⟨rfl, rfl⟩
    · rw [ykw_577]; exact ⟨rfl, rfl⟩
    · rw [ykw_578]; exact ⟨rfl, rfl⟩
    · rw [ykw_579]; exact ⟨rfl, rfl⟩
    · rw [ykw_580]; exact ⟨rfl, rfl⟩
    · rw [ykw_640]; exact ⟨rfl, rfl⟩
    · rw [ykw_1536]; exact ⟨rfl, rfl⟩
    · rw [ykw_1538]; exact ⟨rfl, rfl⟩
    · rw [ykw_1539]; exact ⟨rfl, rfl⟩
    · rw [ykw_1540]; exact ⟨rfl, rfl⟩
    · rw [ykw_1603]; exact ⟨rfl, rfl⟩
    · rw [ykw_1604]; exact ⟨rfl, rfl⟩
    · rw [ykw_1605]; exact ⟨rfl, rfl⟩
    · rw [ykw_1610]; exact ⟨rfl, rfl⟩
    · rw [ykw_1664]; exact ⟨rfl, rfl⟩
    · exact absurd rfl h1
    · exact absurd rfl h2
  obtain ⟨e1, e2⟩ := e u n w hn h1 h2
  unfold yxCon
  rw [e1, e2]
  exact h


theorem ygu_wr {u : XH} {c : XZ} (h : yxG u c) {a : Int32} {n : Nat} (ha : a.toBitVec.toNat = n) (hn : n < 262144) (w : Int32) : yxG (xs_M1 u (xf_M_writeWord 64 (xg_M u).1 a w)) c := ⟨yinv_wr h.1 ha hn w, h.2⟩
theorem yupd_self (f : Nat → Int32) (k : Nat) (w : Int32) (h : f k = w) : upd f k w = f := by
  funext j; unfold upd; by_cases e : j = k
  · subst e; rw [if_pos rfl, h]
  · rw [if_neg e]
theorem yclamp0 : (0 : Int32).toNatClampNeg = 0 := by decide
theorem yzput {u : XH} (hi : yxInv u) (c : XZ) (n w : Int32) : xf_Z_put (yxZof u c) n w = (1, yxZof (xf_C_put u n w) c) := by
  unfold xf_Z_put xf_C_put
  rw [yxlt_d, yxlt_d, yzg_x, yzs_x]
  by_cases e : n = 0
  · subst e
    rw [if_pos rfl, if_pos rfl, yclamp0, yupd_self _ _ _ hi.2.2.2.2.2.2.2.2.2.2.1]
    rfl
  · rw [if_neg e, if_neg e]
theorem yclamp_inj0 {n : Int32} (h : vp_in n 32) (h2 : ¬ n = 0) : n.toNatClampNeg ≠ 0 := by
  intro e
  unfold vp_in at h
  have h1 : ¬ n < 0 := fun hh => h (Or.inl hh)
  obtain ⟨k, hk, hk2, hk3⟩ := ypos_tn h1
  rw [yclamp_tn n (by omega)] at e
  exact h2 (ytn_ext (by rw [e]; rfl))
theorem ygput {u : XH} {c : XZ} (h : yxG u c) {n w : Int32} (hn : vp_in n 32) : yxG (xf_C_put u n w) c := by
  unfold xf_C_put
  rw [yxlt_d]
  by_cases e : n = 0
  · rw [if_pos e]; exact h
  · rw [if_neg e]
    refine ygu_x h ?_
    unfold upd
    rw [if_neg (yclamp_inj0 hn e).symm]
    exact h.1.2.2.2.2.2.2.2.2.2.2.1
theorem yvput {v : XZ} {n w : Int32} (h : vp_in n 32) : xv_Z_put v n w := ⟨⟨h, trivial⟩, trivial⟩
theorem ynot_lt_le {a b : Int32} : ¬ a < b ↔ b ≤ a := by rw [Int32.lt_iff_toInt_lt, Int32.le_iff_toInt_le]; omega
theorem yisIn0 (p lo hi : Int32) : xf_Z_isIn p lo hi = 0 ↔ (p < lo ∨ hi < p) := by
  unfold xf_Z_isIn
  rw [yxlt_d]
  by_cases h1 : p < lo
  · rw [if_pos h1]; exact ⟨fun _ => Or.inl h1, fun _ => rfl⟩
  · rw [if_neg h1]
    by_cases h2 : hi < p
    · rw [if_pos h2]; exact ⟨fun _ => Or.inr h2, fun _ => rfl⟩
    · rw [if_neg h2]
      exact ⟨fun h => absurd h (by decide), fun h => by rcases h with h | h <;> contradiction⟩
theorem ylt32_31 (p : Int32) : p < 32 ↔ ¬ 31 < p := by
  rw [Int32.lt_iff_toInt_lt, Int32.lt_iff_toInt_lt]
  have e1 : (32 : Int32).toInt = 32 := by decide
  have e2 : (31 : Int32).toInt = 31 := by decide
  omega
theorem yvp32 {p : Int32} (h0 : ¬ p < 0) (h1 : p < 32) : vp_in p 32 := by
  obtain ⟨k, hk, hk2, hk3⟩ := ypos_tn h0
  have := Int32.lt_iff_toInt_lt.mp h1
  have e1 : (32 : Int32).toInt = 32 := by decide
  exact yvp_of hk hk3 (by omega)

/- THE CALLS -/
theorem yr_count {u : XH} {v : XZ} (h : yxRel u v) (p : Int32) : xf_H_count u p = xf_Z_count v p := by
  obtain ⟨c, rfl, hg⟩ := h
  unfold xf_H_count xf_Z_count
  simp only [yzg_mode, yzg_pc, yzg_time, yzg_toS, yzg_toVs, yzg_interrupts, yzg_printed, yzg_off, yzg_alarm, ylo32, yhi32, yxlt_d]
theorem yr_breaches {u : XH} {v : XZ} (h : yxRel u v) : xf_H_breaches u = xf_Z_breaches v := by
  obtain ⟨c, rfl, hg⟩ := h
  exact hg.1.2.2.2.2.2.2.2.2.2.1
theorem yr_register {u : XH} {v : XZ} (h : yxRel u v) (p : Int32) : xf_H_register u p = xf_Z_register v p ∧ xv_Z_register v p := by
  obtain ⟨c, rfl, hg⟩ := h
  unfold xf_H_register xf_Z_register xv_Z_register
  simp only [yxlt_d, yzg_x]
  by_cases h0 : p < 0
  · have e : xf_Z_isIn p 0 31 = 0 := (yisIn0 _ _ _).mpr (Or.inl h0)
    rw [if_pos h0, e]; exact ⟨rfl, ⟨⟨trivial, trivial⟩, trivial⟩⟩
  · rw [if_neg h0]
    by_cases h1 : p < 32
    · have e : ¬ xf_Z_isIn p 0 31 = 0 := fun hh => by
        rcases (yisIn0 _ _ _).mp hh with h | h
        · exact h0 h
        · exact (ylt32_31 p).mp h1 h
      rw [if_pos h1, if_neg e, if_neg e]
      exact ⟨rfl, ⟨⟨⟨yvp32 h0 h1, trivial⟩, trivial⟩, trivial⟩⟩
    · have e : xf_Z_isIn p 0 31 = 0 := (yisIn0 _ _ _).mpr (Or.inr (Decidable.byContradiction (fun hh => h1 ((ylt32_31 p).mpr hh))))
      rw [if_neg h1, e]; exact ⟨rfl, ⟨⟨trivial, trivial⟩, trivial⟩⟩
theorem yr_setRegister {u : XH} {v : XZ} (h : yxRel u v) (p w : Int32) : (xf_H_setRegister u p w).1 = (xf_Z_setRegister v p w).1 ∧ yxRel (xf_H_setRegister u p w).2 (xf_Z_setRegister v p w).2 ∧ xv_Z_setRegister v p w := by
  obtain ⟨c, rfl, hg⟩ := h
  unfold xf_H_setRegister xf_Z_setRegister xv_Z_setRegister
  simp only [yxlt_d]
  by_cases h0 : p < 0
  · have e : xf_Z_isIn p 0 31 = 0 := (yisIn0 _ _ _).mpr (Or.inl h0)
    rw [if_pos h0, e]; exact ⟨rfl, ⟨c, rfl, hg⟩, ⟨trivial, trivial⟩⟩
  · rw [if_neg h0]
    by_cases h1 : p < 32
    · have e : ¬ xf_Z_isIn p 0 31 = 0 := fun hh => by
        rcases (yisIn0 _ _ _).mp hh with h | h
        · exact h0 h
        · exact (ylt32_31 p).mp h1 h
      rw [if_pos h1, if_neg e, if_neg e, yzput hg.1, yzg_x]
      exact ⟨rfl, ⟨c, rfl, ygput hg (yvp32 h0 h1)⟩, ⟨⟨yvp32 h0 h1, yvput (yvp32 h0 h1), trivial⟩, trivial⟩⟩
    · have e : xf_Z_isIn p 0 31 = 0 := (yisIn0 _ _ _).mpr (Or.inr (Decidable.byContradiction (fun hh => h1 ((ylt32_31 p).mpr hh))))
      rw [if_neg h1, e]; exact ⟨rfl, ⟨c, rfl, hg⟩, ⟨trivial, trivial⟩⟩
theorem ymode4 {p : Int32} (h0 : ¬ p < 0) (h3 : p ≤ 3) : p = 0 ∨ p = 1 ∨ p = 2 ∨ p = 3 := by
  obtain ⟨k, hk, hk2, hk3⟩ := ypos_tn h0
  have := Int32.le_iff_toInt_le.mp h3
  have e1 : (3 : Int32).toInt = 3 := by decide
  have hk4 : k = 0 ∨ k = 1 ∨ k = 2 ∨ k = 3 := by omega
  rcases hk4 with e | e | e | e <;> subst e
  · exact Or.inl (ytn_ext hk)
  · exact Or.inr (Or.inl (ytn_ext hk))
  · exact Or.inr (Or.inr (Or.inl (ytn_ext hk)))
  · exact Or.inr (Or.inr (Or.inr (ytn_ext hk)))
theorem yle3 (p : Int32) : p ≤ 3 ↔ ¬ 3 < p := by rw [Int32.lt_iff_toInt_lt, Int32.le_iff_toInt_le]; omega
theorem yr_place {u : XH} {v : XZ} (h : yxRel u v) (p w : Int32) : (xf_H_place u p w).1 = (xf_Z_place v p w).1 ∧ yxRel (xf_H_place u p w).2 (xf_Z_place v p w).2 := by
  obtain ⟨c, rfl, hg⟩ := h
  unfold xf_H_place xf_Z_place
  simp only [yxlt_d, yrem4]
  by_cases hp : p &&& 3 = 0
  · rw [if_pos hp, if_pos hp]
    by_cases h0 : w < 0
    · have e : xf_Z_isIn w 0 3 = 0 := (yisIn0 _ _ _).mpr (Or.inl h0)
      rw [if_pos h0, if_pos e]; exact ⟨rfl, c, rfl, hg⟩
    · rw [if_neg h0]
      by_cases h1 : w ≤ 3
      · have e : ¬ xf_Z_isIn w 0 3 = 0 := fun hh => by
          rcases (yisIn0 _ _ _).mp hh with h | h
          · exact h0 h
          · exact (yle3 w).mp h1 h
        rw [if_pos h1, if_neg e, yzs_pc, yzs_mode, yzg_mode]
        exact ⟨rfl, c, rfl, ygu_C_mode (ygu_C_pc hg hp) (ymode4 h0 h1)⟩
      · have e : xf_Z_isIn w 0 3 = 0 := (yisIn0 _ _ _).mpr (Or.inr (Decidable.byContradiction (fun hh => h1 ((yle3 w).mpr hh))))
        rw [if_neg h1, if_pos e]; exact ⟨rfl, c, rfl, hg⟩
  · rw [if_neg hp, if_neg hp]; exact ⟨rfl, c, rfl, hg⟩
theorem yr_line {u : XH} {v : XZ} (h : yxRel u v) (p : Bool) : (xf_H_line u p).1 = (xf_Z_line v (xz p)).1 ∧ yxRel (xf_H_line u p).2 (xf_Z_line v (xz p)).2 ∧ xv_Z_line v (xz p) := by
  obtain ⟨c, rfl, hg⟩ := h
  unfold xf_H_line xf_Z_line xv_Z_line
  rw [yzg_line, yxb_xz, yzs_line]
  exact ⟨rfl, ⟨c, rfl, ygu_K_lineOn hg⟩, ⟨⟨by cases p; exact Or.inl rfl; exact Or.inr rfl, trivial⟩, trivial⟩⟩
theorem yle0 (p : Int32) : 0 ≤ p ↔ ¬ p < 0 := by rw [Int32.lt_iff_toInt_lt, Int32.le_iff_toInt_le]; omega
theorem yr_control {u : XH} {v : XZ} (h : yxRel u v) (p : Int32) : xf_H_control u p = xf_Z_control2 v p ∧ xv_Z_control2 v p := by
  obtain ⟨c, rfl, hg⟩ := h
  unfold xf_H_control xf_Z_control2 xv_Z_control2
  simp only [yxlt_d, yle0]
  by_cases hn : xf_Z_indexOf p < 0
  · rw [if_neg (not_not_intro hn), if_neg (not_not_intro hn), yzt_none hn]; exact ⟨rfl, ⟨⟨trivial, trivial⟩, trivial⟩⟩
  · rw [if_pos hn, if_pos hn, yzt_all hg.1 c hn]; exact ⟨rfl, ⟨⟨⟨yztv_all _ hn, trivial⟩, trivial⟩, trivial⟩⟩
theorem yle3072 {p : Int32} (hn : ¬ xf_Z_indexOf p < 0) : p ≤ 3072 ↔ (¬ p = 3073 ∧ ¬ p = 3201) := by
  rcases yzi_cases hn with h | h | h | h | h | h | h | h | h | h | h | h | h | h | h | h | h | h | h | h | h | h | h | h | h | h | h | h | h <;> subst h <;> decide
theorem yr_setControl {u : XH} {v : XZ} (h : yxRel u v) (p w : Int32) : (xf_H_setControl u p w).1 = (xf_Z_setControl v p w).1 ∧ yxRel (xf_H_setControl u p w).2 (xf_Z_setControl v p w).2 ∧ xv_Z_setControl v p w := by
  obtain ⟨c, rfl, hg⟩ := h
  unfold xf_H_setControl xf_Z_setControl xv_Z_setControl
  simp only [yxlt_d, ykr1_all]
  by_cases hn : xf_Z_indexOf p < 0
  · rw [if_neg (fun hh => hh.1 hn), if_pos hn, if_pos hn]; exact ⟨rfl, ⟨c, rfl, hg⟩, ⟨trivial, trivial⟩⟩
  · rw [if_neg hn, if_neg hn]
    by_cases h1 : p ≤ 3072
    · have h2 := (yle3072 hn).mp h1
      rw [if_pos ⟨hn, h2⟩, if_pos h1, if_pos h1, yzw_all hg.1 c w hn h2.1 h2.2]
      exact ⟨rfl, ⟨c, rfl, ⟨yinv_write hg.1 w hn h2.1 h2.2, yxCon_write hg.2 hn h2.1 h2.2⟩⟩, ⟨⟨yzwv_all _ w hn h2.1 h2.2, trivial⟩, trivial⟩⟩
    · rw [if_neg (fun hh => h1 ((yle3072 hn).mpr hh.2)), if_neg h1, if_neg h1]; exact ⟨rfl, ⟨c, rfl, hg⟩, ⟨trivial, trivial⟩⟩
theorem yr_word {u : XH} {v : XZ} (h : yxRel u v) (p : Int32) : (xf_H_word u p).1 = xf_Z_word2 v p ∧ (xf_H_word u p).2 = u ∧ xv_Z_word2 v p := by
  obtain ⟨c, rfl, hg⟩ := h
  unfold xf_H_word xf_Z_word2 xv_Z_word2
  simp only [yxlt_d, yrem4]
  by_cases h0 : p < 0
  · rw [if_pos h0, if_pos h0, if_pos h0]; exact ⟨rfl, rfl, ⟨⟨trivial, trivial⟩, trivial⟩⟩
  rw [if_neg h0, if_neg h0, if_neg h0]
  by_cases h1 : 262144 ≤ p
  · rw [if_pos h1, if_pos h1, if_pos h1]; exact ⟨rfl, rfl, ⟨⟨trivial, trivial⟩, trivial⟩⟩
  rw [if_neg h1, if_neg h1, if_neg h1]
  by_cases h2 : p &&& 3 = 0
  · rw [if_pos h2, if_pos h2, if_pos h2]
    obtain ⟨n, hn, hn2, hn3⟩ := ypos_tn h0
    have hn4 : n < 262144 := by
      have e : (262144 : Int32).toInt = 262144 := by decide
      have : ¬ (262144 : Int32).toInt ≤ p.toInt := fun hh => h1 (Int32.le_iff_toInt_le.mpr hh)
      omega
    have hd := ydiv4 hn hn3
    rw [yrd64 _ hn hn4, yclamp_tn _ (by omega), hd, yzmem]
    exact ⟨rfl, rfl, ⟨⟨⟨yvp_of hd (by omega) (by omega), trivial⟩, trivial⟩, trivial⟩⟩
  · rw [if_neg h2, if_neg h2, if_neg h2]; exact ⟨rfl, rfl, ⟨⟨trivial, trivial⟩, trivial⟩⟩
theorem yzwrc (u : XH) (c : XZ) {a b : Int32} {n : Nat} (h : a.toBitVec.toNat = n) (hn : n < 262144) (hb : b.toBitVec.toNat = n / 4) (w : Int32) : xs_Z_memory (yxZof u c) (upd (xg_Z_memory (yxZof u c)) b.toNatClampNeg w) = yxZof (xs_M1 u (xf_M_writeWord 64 (xg_M u).1 a w)) c := by
  rw [yclamp_tn b (by omega), hb]; exact yzwr u c h hn w
theorem yr_poke {u : XH} {v : XZ} (h : yxRel u v) (p a b d e f : Int32) : (xf_H_poke u p a b d e f).1 = (xf_Z_poke v p a b d e f).1 ∧ yxRel (xf_H_poke u p a b d e f).2 (xf_Z_poke v p a b d e f).2 ∧ xv_Z_poke v p a b d e f := by
  obtain ⟨c, rfl, hg⟩ := h
  unfold xf_H_poke xf_Z_poke xv_Z_poke
  simp only [yrem4]
  by_cases h0 : p < 0
  · rw [if_pos h0, if_pos h0, if_pos h0]; exact ⟨rfl, ⟨c, rfl, hg⟩, ⟨trivial, trivial⟩⟩
  rw [if_neg h0, if_neg h0, if_neg h0]
  by_cases h2 : p &&& 3 = 0
  · rw [if_pos h2, if_pos h2, if_pos h2]
    by_cases h1 : p ≤ 262124
    · rw [if_pos h1, if_pos h1, if_pos h1]
      obtain ⟨n, hn, hn2, hn3⟩ := ypos_tn h0
      have hn4 : n ≤ 262124 := by
        have e : (262124 : Int32).toInt = 262124 := by decide
        have := Int32.le_iff_toInt_le.mp h1
        omega
      have hm : n % 4 = 0 := by rw [← hn]; exact (yand3 p).mp h2
      have hd := ydiv4 hn hn3
      have a4 := yadd_tn hn 4 4 (by decide) (by omega)
      have a8 := yadd_tn hn 8 8 (by decide) (by omega)
      have a12 := yadd_tn hn 12 12 (by decide) (by omega)
      have a16 := yadd_tn hn 16 16 (by decide) (by omega)
      have d1 := yadd_tn hd 1 1 (by decide) (by omega)
      have d2 := yadd_tn hd 2 2 (by decide) (by omega)
      have d3 := yadd_tn hd 3 3 (by decide) (by omega)
      have d4 := yadd_tn hd 4 4 (by decide) (by omega)
      rw [yzwrc u c hn (by omega) hd, yzwrc _ c a4 (by omega) (by rw [d1]; omega), yzwrc _ c a8 (by omega) (by rw [d2]; omega), yzwrc _ c a12 (by omega) (by rw [d3]; omega), yzwrc _ c a16 (by omega) (by rw [d4]; omega)]
      unfold xpokeH
      simp only [yxlt_d]
      refine ⟨trivial, ⟨c, rfl, ygu_wr (ygu_wr (ygu_wr (ygu_wr (ygu_wr hg hn (by omega) _) a4 (by omega) _) a8 (by omega) _) a12 (by omega) _) a16 (by omega) _⟩, ⟨⟨yvp_of hd (by omega) (by omega), yvp_of d1 (by omega) (by omega), yvp_of d2 (by omega) (by omega), yvp_of d3 (by omega) (by omega), yvp_of d4 (by omega) (by omega), trivial⟩, trivial⟩⟩
    · rw [if_neg h1, if_neg h1, if_neg h1]; exact ⟨rfl, ⟨c, rfl, hg⟩, ⟨trivial, trivial⟩⟩
  · rw [if_neg h2, if_neg h2, if_neg h2]; exact ⟨rfl, ⟨c, rfl, hg⟩, ⟨trivial, trivial⟩⟩
theorem ynI_tn {n : Nat} (h : n < 4294967296) : (nI n).toBitVec.toNat = n := by
  show (BitVec.ofNat 32 n).toNat = n
  rw [BitVec.toNat_ofNat]; exact Nat.mod_eq_of_lt h
theorem ysumL (u : XH) (c : XZ) : ∀ (d j : Nat) (a : Int32), 4 * j + 4 * d ≤ 262144 → xsumH d (4 * j) a u = (xsumN d j a (xg_Z_memory (yxZof u c)), u) := by
  intro d
  induction d with
  | zero => intro j a h; rfl
  | succ d ih =>
    intro j a h
    have e : (nI (4 * j)).toBitVec.toNat = 4 * j := ynI_tn (by omega)
    unfold xsumH xsumN
    rw [yrd64 _ e (by omega)]
    have e2 := yzmem u c (4 * j)
    have e3 : 4 * j / 4 = j := by omega
    rw [e3] at e2
    rw [e3, e2, yxsM1_self]
    have e4 : 4 * j + 4 = 4 * (j + 1) := by omega
    rw [e4]
    exact ih (j + 1) _ (by omega)
theorem yr_sum {u : XH} {v : XZ} (h : yxRel u v) (p q : Int32) : (xf_H_sum u p q).1 = xf_Z_sum v p q ∧ (xf_H_sum u p q).2 = u := by
  obtain ⟨c, rfl, hg⟩ := h
  unfold xf_H_sum xf_Z_sum
  have i64 : (64 : Int32).toInt = 64 := by decide
  have i63 : (63 : Int32).toInt = 63 := by decide
  have i0 : (0 : Int32).toInt = 0 := by decide
  have i1 : (1 : Int32).toInt = 1 := by decide
  have e1 : (64 ≤ p) ↔ (63 < p) := by rw [Int32.le_iff_toInt_le, Int32.lt_iff_toInt_lt]; omega
  have e2 : (q ≤ 0) ↔ (q < 1) := by rw [Int32.le_iff_toInt_le, Int32.lt_iff_toInt_lt]; omega
  simp only [e1, e2]
  by_cases h0 : p < 0
  · rw [if_pos h0, if_pos h0]; exact ⟨rfl, rfl⟩
  rw [if_neg h0, if_neg h0]
  by_cases h1 : 63 < p
  · rw [if_pos h1]
    by_cases h2 : q < 1
    · rw [if_pos h2]; exact ⟨rfl, rfl⟩
    · rw [if_neg h2, if_pos h1]; exact ⟨rfl, rfl⟩
  rw [if_neg h1]
  by_cases h2 : q < 1
  · rw [if_pos h2, if_pos h2]; exact ⟨rfl, rfl⟩
  rw [if_neg h2, if_neg h2, if_neg h1]
  by_cases h3 : q ≤ 64 - p
  · rw [if_pos h3, if_pos h3]
    obtain ⟨n, hn, hn2, hn3⟩ := ypos_tn h0
    have hq : ¬ q < 0 := fun hh => by
      have := Int32.lt_iff_toInt_lt.mp hh
      have : ¬ q.toInt < (1 : Int32).toInt := fun h => h2 (Int32.lt_iff_toInt_lt.mpr h)
      omega
    obtain ⟨m, hm, hm2, hm3⟩ := ypos_tn hq
    have hp63 : ¬ (63 : Int32).toInt < p.toInt := fun h => h1 (Int32.lt_iff_toInt_lt.mpr h)
    have hle := Int32.le_iff_toInt_le.mp h3
    have es : (64 - p).toInt = 64 - p.toInt := by
      rw [Int32.toInt_sub, i64]
      exact Int.bmod_eq_of_le (by omega) (by omega)
    rw [yclamp_tn p (by omega), yclamp_tn q (by omega), hn, hm]
    have e4 : 4096 * n = 4 * (1024 * n) := by omega
    rw [e4, ysumL u c (1024 * m) (1024 * n) 1 (by omega)]
    exact ⟨rfl, rfl⟩
  · rw [if_neg h3, if_neg h3]; exact ⟨rfl, rfl⟩
theorem yrd1 (m : XM1) {a : Int32} {n : Nat} (h : a.toBitVec.toNat = n) (hn : n < 4096) : xf_M_readWord 1 m a = (m.1 0 (n / 4), m) := by
  unfold xf_M_readWord
  have e := yxus_tn a 12 12 (by decide)
  rw [h] at e
  have hl : xus a 12 < Int32.ofNat 1 := by
    apply Int32.lt_iff_toInt_lt.mpr
    rw [ytoInt_tn _ (by rw [e]; omega), e]
    have : (Int32.ofNat 1).toInt = 1 := by decide
    rw [this]; omega
  rw [if_pos hl, yxmI_n h, yxmJ_n h]
  have e1 : n / 4096 = 0 := by omega
  have e2 : n / 4 % 1024 = n / 4 := by omega
  rw [e1, e2]
theorem yrdb_state (m : XM1) {a : Int32} {n : Nat} (h : a.toBitVec.toNat = n) (hn : n < 4096) (p1 : Int32) : (xf_M_read 1 m a p1).2 = m := by
  unfold xf_M_read
  simp only [yxlt_d, yrd1 m h hn]
  by_cases e : p1 = 0
  · rw [if_pos e]
  · rw [if_neg e]
theorem yxsM2_self (u : XH) : xs_M2 u (xg_M u).2 = u := rfl
theorem yr_console {u : XH} {v : XZ} (h : yxRel u v) (p : Int32) : (xf_H_console u p).1 = xf_Z_console v p ∧ (xf_H_console u p).2 = u ∧ xv_Z_console v p := by
  obtain ⟨c, rfl, hg⟩ := h
  unfold xf_H_console xf_Z_console xv_Z_console
  simp only [yxlt_d, yzg_printed, yzg_console]
  by_cases h0 : p < 0
  · rw [if_pos h0, if_pos h0, if_pos h0, if_pos h0]; exact ⟨rfl, rfl, ⟨⟨trivial, trivial⟩, trivial⟩⟩
  rw [if_neg h0, if_neg h0, if_neg h0, if_neg h0]
  by_cases h1 : p < xg_C_consoleSize u
  · rw [if_pos h1, if_pos h1, if_pos h1, if_pos h1]
    obtain ⟨n, hn, hn2, hn3⟩ := ypos_tn h0
    have h5 := hg.1.2.2.2.2.2.2.2.2.2.2.2.2
    have h6 := Int32.lt_iff_toInt_lt.mp h1
    have hn4 : n < 4096 := by omega
    rw [yrdb_state _ hn hn4, yxsM2_self, hg.2 p h0 h1]
    exact ⟨rfl, rfl, ⟨⟨⟨yvp_of hn hn3 hn4, trivial⟩, trivial⟩, trivial⟩⟩
  · rw [if_neg h1, if_neg h1, if_neg h1, if_neg h1]; exact ⟨rfl, rfl, ⟨⟨trivial, trivial⟩, trivial⟩⟩
def yxRst (u : XH) : XH := ((0, 0, 1, false, 0, 0, 0, xg_C_next u, xg_C_word u), (fun _ => 0), (0, 0, 0, 0, 0, 0, 0, 0, 0, 9223372036854775807, false), (0, 0, 0, 0, 0, 0, 0, 0, 0), (0, 0, 0, 0, 0, 0, 0, 0, 0), xg_P u, (((fun _ _ => 0), (xg_M u).1.2.1, 0), ((fun _ _ => 0), (xg_M u).2.2.1, 0)))
theorem yreset_eq (u : XH) : xf_C_reset u = yxRst u := by
  obtain ⟨⟨c1, c2, c3, c4, c5, c6, c7, c8, c9⟩, x, ⟨k1, k2, k3, k4, k5, k6, k7, k8, k9, k10, k11⟩, ⟨s1, s2, s3, s4, s5, s6, s7, s8, s9⟩, ⟨v1, v2, v3, v4, v5, v6, v7, v8, v9⟩, ⟨p1, p2, p3, p4, p5, p6⟩, ⟨⟨ym1, m2, m3⟩, ⟨n1, n2, n3⟩⟩⟩ := u
  simp only [xf_C_reset, xf_M_clear, xf_K_clear, xf_B_clear, yxlt_d, yxRst, xs_x, xs_C_consoleSize, xs_C_pc, xs_C_mode, xs_C_off, xs_C_trapsToS, xs_C_trapsToVs, xs_C_interrupts, xs_K_hstatus, xs_K_hedeleg, xs_K_hideleg, xs_K_hie, xs_K_htval, xs_K_hvip, xs_K_htinst, xs_K_hgatp, xs_K_time, xs_K_alarm, xs_K_lineOn, xsB_status, xsB_ie, xsB_tvec, xsB_scratch, xsB_epc, xsB_cause, xsB_tval, xsB_ip, xsB_atp, xs_S, xs_V, xs_M1, xs_M2, xg_M, xg_S, xg_V, xg_P, xg_C_next, xg_C_word, xs_M]
theorem yzclear' (u : XH) (c : XZ) : xf_Z_clearMachine c = yxZof (yxRst u) c := by
  have e : (fun _ => 0 : Nat → Int32) = fun j => ([0, 0, 0, 0, 0, 0, 0, 0, 0, 0, 0, 0, 0, 0, 0, 0, 0, 0, 0, 0, 0, 0, 0, 0, 0, 0, 0, 0, 0] : List Int32).getD j 0 := by
    funext j
    have : ∀ j, j < 29 → (0 : Int32) = ([0, 0, 0, 0, 0, 0, 0, 0, 0, 0, 0, 0, 0, 0, 0, 0, 0, 0, 0, 0, 0, 0, 0, 0, 0, 0, 0, 0, 0] : List Int32).getD j 0 := by decide +kernel
    by_cases h : j < 29
    · exact this j h
    · rw [List.getD_eq_getElem?_getD, List.getElem?_eq_none (by simp; omega)]; rfl
  have e3 : xs_Z_controls (yxZof (yxRst u) c) (fun j => ([0, 0, 0, 0, 0, 0, 0, 0, 0, 0, 0, 0, 0, 0, 0, 0, 0, 0, 0, 0, 0, 0, 0, 0, 0, 0, 0, 0, 0] : List Int32).getD j 0) = yxZof (yxRst u) c := rfl
  rw [← e] at e3
  rw [← e3]
  simp only [xf_Z_clearMachine, xs_Z_memory, xs_Z_x, xs_Z_pc, xs_Z_mode, xs_Z_time, xs_Z_alarm, xs_Z_line, xs_Z_off, xs_Z_controls, xs_Z_printed, xs_Z_toS, xs_Z_toVs, xs_Z_interrupts]
  rfl
theorem yzclear (u : XH) (c : XZ) : xf_Z_clearMachine (yxZof u c) = yxZof (xf_C_reset u) c := by
  rw [yreset_eq, yzclear' u (yxZof u c)]
  rfl
theorem ygclear {u : XH} (c : XZ) : yxG (xf_C_reset u) c := by
  rw [yreset_eq]
  have z3 : (0 : Int32) &&& 3 = 0 := by decide
  have z4 : (0 : Int32) &&& 1092 = 0 := by decide
  have z5 : (0 : Int32) &&& 546 = 0 := by decide
  refine ⟨⟨Or.inr (Or.inl rfl), z3, z3, z3, z5, z4, z4, z4, z3, rfl, rfl, (by decide : 0 ≤ (0 : Int32).toInt), (by decide : (0 : Int32).toInt ≤ 4096)⟩, ?_⟩
  intro i h0 h1
  exact absurd h1 h0
theorem yr_begin {u : XH} {v : XZ} (h : yxRel u v) : yxRel (xf_H_begin u) (xf_Z_begin v) := by
  obtain ⟨c, rfl, hg⟩ := h
  refine ⟨c, ?_, ?_⟩
  · unfold xf_H_begin xf_Z_begin
    rw [yxlt_d, yxlt_d]
    exact yzclear u c
  · unfold xf_H_begin
    rw [yxlt_d]
    exact ygclear c
theorem yr_start : yxRel (xf_C_reset xH0) (xf_Z_clearMachine xZ0) := by
  refine ⟨xZ0, ?_, ygclear _⟩
  rw [yzclear' xH0 xZ0, yreset_eq]
