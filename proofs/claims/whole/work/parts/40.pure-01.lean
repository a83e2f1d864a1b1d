theorem yinv_C_consoleSize {u : XH} (h : yxInv u) {w : Int32} (hw : 0 ≤ w.toInt ∧ w.toInt ≤ 4096) : yxInv (xs_C_consoleSize u w) := by
  obtain ⟨h1, h2, h3, h4, h5, h6, h7, h8, h9, h10, h11, h12, h13⟩ := h
  exact ⟨h1, h2, h3, h4, h5, h6, h7, h8, h9, h10, h11, hw.1, hw.2⟩
theorem yinv_C_pc {u : XH} (h : yxInv u) {w : Int32} (hw : w &&& 3 = 0) : yxInv (xs_C_pc u w) := by
  obtain ⟨h1, h2, h3, h4, h5, h6, h7, h8, h9, h10, h11, h12, h13⟩ := h
  exact ⟨h1, hw, h3, h4, h5, h6, h7, h8, h9, h10, h11, h12, h13⟩
theorem yinv_C_mode {u : XH} (h : yxInv u) {w : Int32} (hw : w = 0 ∨ w = 1 ∨ w = 2 ∨ w = 3) : yxInv (xs_C_mode u w) := by
  obtain ⟨h1, h2, h3, h4, h5, h6, h7, h8, h9, h10, h11, h12, h13⟩ := h
  exact ⟨hw, h2, h3, h4, h5, h6, h7, h8, h9, h10, h11, h12, h13⟩
theorem yinv_C_off {u : XH} (h : yxInv u) {w : Bool}  : yxInv (xs_C_off u w) := by
  obtain ⟨h1, h2, h3, h4, h5, h6, h7, h8, h9, h10, h11, h12, h13⟩ := h
  exact ⟨h1, h2, h3, h4, h5, h6, h7, h8, h9, h10, h11, h12, h13⟩
theorem yinv_C_trapsToS {u : XH} (h : yxInv u) {w : Int32}  : yxInv (xs_C_trapsToS u w) := by
  obtain ⟨h1, h2, h3, h4, h5, h6, h7, h8, h9, h10, h11, h12, h13⟩ := h
  exact ⟨h1, h2, h3, h4, h5, h6, h7, h8, h9, h10, h11, h12, h13⟩
theorem yinv_C_trapsToVs {u : XH} (h : yxInv u) {w : Int32}  : yxInv (xs_C_trapsToVs u w) := by
  obtain ⟨h1, h2, h3, h4, h5, h6, h7, h8, h9, h10, h11, h12, h13⟩ := h
  exact ⟨h1, h2, h3, h4, h5, h6, h7, h8, h9, h10, h11, h12, h13⟩
theorem yinv_C_interrupts {u : XH} (h : yxInv u) {w : Int32}  : yxInv (xs_C_interrupts u w) := by
  obtain ⟨h1, h2, h3, h4, h5, h6, h7, h8, h9, h10, h11, h12, h13⟩ := h
  exact ⟨h1, h2, h3, h4, h5, h6, h7, h8, h9, h10, h11, h12, h13⟩
theorem yinv_C_next {u : XH} (h : yxInv u) {w : Int32}  : yxInv (xs_C_next u w) := by
  obtain ⟨h1, h2, h3, h4, h5, h6, h7, h8, h9, h10, h11, h12, h13⟩ := h
  exact ⟨h1, h2, h3, h4, h5, h6, h7, h8, h9, h10, h11, h12, h13⟩
theorem yinv_C_word {u : XH} (h : yxInv u) {w : Int32}  : yxInv (xs_C_word u w) := by
  obtain ⟨h1, h2, h3, h4, h5, h6, h7, h8, h9, h10, h11, h12, h13⟩ := h
  exact ⟨h1, h2, h3, h4, h5, h6, h7, h8, h9, h10, h11, h12, h13⟩
theorem yinv_x {u : XH} (h : yxInv u) {w : Nat → Int32} (hw : w 0 = 0) : yxInv (xs_x u w) := by
  obtain ⟨h1, h2, h3, h4, h5, h6, h7, h8, h9, h10, h11, h12, h13⟩ := h
  exact ⟨h1, h2, h3, h4, h5, h6, h7, h8, h9, h10, hw, h12, h13⟩
theorem yinv_K_hstatus {u : XH} (h : yxInv u) {w : Int32}  : yxInv (xs_K_hstatus u w) := by
  obtain ⟨h1, h2, h3, h4, h5, h6, h7, h8, h9, h10, h11, h12, h13⟩ := h
  exact ⟨h1, h2, h3, h4, h5, h6, h7, h8, h9, h10, h11, h12, h13⟩
theorem yinv_K_hedeleg {u : XH} (h : yxInv u) {w : Int32}  : yxInv (xs_K_hedeleg u w) := by
  obtain ⟨h1, h2, h3, h4, h5, h6, h7, h8, h9, h10, h11, h12, h13⟩ := h
  exact ⟨h1, h2, h3, h4, h5, h6, h7, h8, h9, h10, h11, h12, h13⟩
theorem yinv_K_hideleg {u : XH} (h : yxInv u) {w : Int32} (hw : w &&& 1092 = w) : yxInv (xs_K_hideleg u w) := by
  obtain ⟨h1, h2, h3, h4, h5, h6, h7, h8, h9, h10, h11, h12, h13⟩ := h
  exact ⟨h1, h2, h3, h4, h5, hw, h7, h8, h9, h10, h11, h12, h13⟩
theorem yinv_K_hie {u : XH} (h : yxInv u) {w : Int32} (hw : w &&& 1092 = w) : yxInv (xs_K_hie u w) := by
  obtain ⟨h1, h2, h3, h4, h5, h6, h7, h8, h9, h10, h11, h12, h13⟩ := h
  exact ⟨h1, h2, h3, h4, h5, h6, hw, h8, h9, h10, h11, h12, h13⟩
theorem yinv_K_htval {u : XH} (h : yxInv u) {w : Int32}  : yxInv (xs_K_htval u w) := by
  obtain ⟨h1, h2, h3, h4, h5, h6, h7, h8, h9, h10, h11, h12, h13⟩ := h
  exact ⟨h1, h2, h3, h4, h5, h6, h7, h8, h9, h10, h11, h12, h13⟩
theorem yinv_K_hvip {u : XH} (h : yxInv u) {w : Int32} (hw : w &&& 1092 = w) : yxInv (xs_K_hvip u w) := by
  obtain ⟨h1, h2, h3, h4, h5, h6, h7, h8, h9, h10, h11, h12, h13⟩ := h
  exact ⟨h1, h2, h3, h4, h5, h6, h7, hw, h9, h10, h11, h12, h13⟩
theorem yinv_K_htinst {u : XH} (h : yxInv u) {w : Int32}  : yxInv (xs_K_htinst u w) := by
  obtain ⟨h1, h2, h3, h4, h5, h6, h7, h8, h9, h10, h11, h12, h13⟩ := h
  exact ⟨h1, h2, h3, h4, h5, h6, h7, h8, h9, h10, h11, h12, h13⟩
theorem yinv_K_hgatp {u : XH} (h : yxInv u) {w : Int32} (hw : w &&& 3 = 0) : yxInv (xs_K_hgatp u w) := by
  obtain ⟨h1, h2, h3, h4, h5, h6, h7, h8, h9, h10, h11, h12, h13⟩ := h
  exact ⟨h1, h2, h3, h4, h5, h6, h7, h8, hw, h10, h11, h12, h13⟩
theorem yinv_K_time {u : XH} (h : yxInv u) {w : Int64}  : yxInv (xs_K_time u w) := by
  obtain ⟨h1, h2, h3, h4, h5, h6, h7, h8, h9, h10, h11, h12, h13⟩ := h
  exact ⟨h1, h2, h3, h4, h5, h6, h7, h8, h9, h10, h11, h12, h13⟩
theorem yinv_K_alarm {u : XH} (h : yxInv u) {w : Int64}  : yxInv (xs_K_alarm u w) := by
  obtain ⟨h1, h2, h3, h4, h5, h6, h7, h8, h9, h10, h11, h12, h13⟩ := h
  exact ⟨h1, h2, h3, h4, h5, h6, h7, h8, h9, h10, h11, h12, h13⟩
theorem yinv_K_lineOn {u : XH} (h : yxInv u) {w : Bool}  : yxInv (xs_K_lineOn u w) := by
  obtain ⟨h1, h2, h3, h4, h5, h6, h7, h8, h9, h10, h11, h12, h13⟩ := h
  exact ⟨h1, h2, h3, h4, h5, h6, h7, h8, h9, h10, h11, h12, h13⟩
theorem yinv_S_status {u : XH} (h : yxInv u) {w : Int32}  : yxInv (xs_S_status u w) := by
  obtain ⟨h1, h2, h3, h4, h5, h6, h7, h8, h9, h10, h11, h12, h13⟩ := h
  exact ⟨h1, h2, h3, h4, h5, h6, h7, h8, h9, h10, h11, h12, h13⟩
theorem yinv_S_ie {u : XH} (h : yxInv u) {w : Int32} (hw : w &&& 546 = w) : yxInv (xs_S_ie u w) := by
  obtain ⟨h1, h2, h3, h4, h5, h6, h7, h8, h9, h10, h11, h12, h13⟩ := h
  exact ⟨h1, h2, h3, h4, hw, h6, h7, h8, h9, h10, h11, h12, h13⟩
theorem yinv_S_tvec {u : XH} (h : yxInv u) {w : Int32}  : yxInv (xs_S_tvec u w) := by
  obtain ⟨h1, h2, h3, h4, h5, h6, h7, h8, h9, h10, h11, h12, h13⟩ := h
  exact ⟨h1, h2, h3, h4, h5, h6, h7, h8, h9, h10, h11, h12, h13⟩
theorem yinv_S_scratch {u : XH} (h : yxInv u) {w : Int32}  : yxInv (xs_S_scratch u w) := by
  obtain ⟨h1, h2, h3, h4, h5, h6, h7, h8, h9, h10, h11, h12, h13⟩ := h
  exact ⟨h1, h2, h3, h4, h5, h6, h7, h8, h9, h10, h11, h12, h13⟩
theorem yinv_S_epc {u : XH} (h : yxInv u) {w : Int32} (hw : w &&& 3 = 0) : yxInv (xs_S_epc u w) := by
  obtain ⟨h1, h2, h3, h4, h5, h6, h7, h8, h9, h10, h11, h12, h13⟩ := h
  exact ⟨h1, h2, hw, h4, h5, h6, h7, h8, h9, h10, h11, h12, h13⟩
theorem yinv_S_cause {u : XH} (h : yxInv u) {w : Int32}  : yxInv (xs_S_cause u w) := by
  obtain ⟨h1, h2, h3, h4, h5, h6, h7, h8, h9, h10, h11, h12, h13⟩ := h
  exact ⟨h1, h2, h3, h4, h5, h6, h7, h8, h9, h10, h11, h12, h13⟩
theorem yinv_S_tval {u : XH} (h : yxInv u) {w : Int32}  : yxInv (xs_S_tval u w) := by
  obtain ⟨h1, h2, h3, h4, h5, h6, h7, h8, h9, h10, h11, h12, h13⟩ := h
  exact ⟨h1, h2, h3, h4, h5, h6, h7, h8, h9, h10, h11, h12, h13⟩
theorem yinv_S_ip {u : XH} (h : yxInv u) {w : Int32}  : yxInv (xs_S_ip u w) := by
  obtain ⟨h1, h2, h3, h4, h5, h6, h7, h8, h9, h10, h11, h12, h13⟩ := h
  exact ⟨h1, h2, h3, h4, h5, h6, h7, h8, h9, h10, h11, h12, h13⟩
theorem yinv_S_atp {u : XH} (h : yxInv u) {w : Int32}  : yxInv (xs_S_atp u w) := by
  obtain ⟨h1, h2, h3, h4, h5, h6, h7, h8, h9, h10, h11, h12, h13⟩ := h
  exact ⟨h1, h2, h3, h4, h5, h6, h7, h8, h9, h10, h11, h12, h13⟩
theorem yinv_V_status {u : XH} (h : yxInv u) {w : Int32}  : yxInv (xs_V_status u w) := by
  obtain ⟨h1, h2, h3, h4, h5, h6, h7, h8, h9, h10, h11, h12, h13⟩ := h
  exact ⟨h1, h2, h3, h4, h5, h6, h7, h8, h9, h10, h11, h12, h13⟩
theorem yinv_V_ie {u : XH} (h : yxInv u) {w : Int32}  : yxInv (xs_V_ie u w) := by
  obtain ⟨h1, h2, h3, h4, h5, h6, h7, h8, h9, h10, h11, h12, h13⟩ := h
  exact ⟨h1, h2, h3, h4, h5, h6, h7, h8, h9, h10, h11, h12, h13⟩
theorem yinv_V_tvec {u : XH} (h : yxInv u) {w : Int32}  : yxInv (xs_V_tvec u w) := by
  obtain ⟨h1, h2, h3, h4, h5, h6, h7, h8, h9, h10, h11, h12, h13⟩ := h
  exact ⟨h1, h2, h3, h4, h5, h6, h7, h8, h9, h10, h11, h12, h13⟩
theorem yinv_V_scratch {u : XH} (h : yxInv u) {w : Int32}  : yxInv (xs_V_scratch u w) := by
  obtain ⟨h1, h2, h3, h4, h5, h6, h7, h8, h9, h10, h11, h12, h13⟩ := h
  exact ⟨h1, h2, h3, h4, h5, h6, h7, h8, h9, h10, h11, h12, h13⟩
theorem yinv_V_epc {u : XH} (h : yxInv u) {w : Int32} (hw : w &&& 3 = 0) : yxInv (xs_V_epc u w) := by
  obtain ⟨h1, h2, h3, h4, h5, h6, h7, h8, h9, h10, h11, h12, h13⟩ := h
  exact ⟨h1, h2, h3, hw, h5, h6, h7, h8, h9, h10, h11, h12, h13⟩
theorem yinv_V_cause {u : XH} (h : yxInv u) {w : Int32}  : yxInv (xs_V_cause u w) := by
  obtain ⟨h1, h2, h3, h4, h5, h6, h7, h8, h9, h10, h11, h12, h13⟩ := h
  exact ⟨h1, h2, h3, h4, h5, h6, h7, h8, h9, h10, h11, h12, h13⟩
theorem yinv_V_tval {u : XH} (h : yxInv u) {w : Int32}  : yxInv (xs_V_tval u w) := by
  obtain ⟨h1, h2, h3, h4, h5, h6, h7, h8, h9, h10, h11, h12, h13⟩ := h
  exact ⟨h1, h2, h3, h4, h5, h6, h7, h8, h9, h10, h11, h12, h13⟩
theorem yinv_V_ip {u : XH} (h : yxInv u) {w : Int32}  : yxInv (xs_V_ip u w) := by
  obtain ⟨h1, h2, h3, h4, h5, h6, h7, h8, h9, h10, h11, h12, h13⟩ := h
  exact ⟨h1, h2, h3, h4, h5, h6, h7, h8, h9, h10, h11, h12, h13⟩
theorem yinv_V_atp {u : XH} (h : yxInv u) {w : Int32}  : yxInv (xs_V_atp u w) := by
  obtain ⟨h1, h2, h3, h4, h5, h6, h7, h8, h9, h10, h11, h12, h13⟩ := h
  exact ⟨h1, h2, h3, h4, h5, h6, h7, h8, h9, h10, h11, h12, h13⟩
theorem yinv_P_cause {u : XH} (h : yxInv u) {w : Int32}  : yxInv (xs_P_cause u w) := by
  obtain ⟨h1, h2, h3, h4, h5, h6, h7, h8, h9, h10, h11, h12, h13⟩ := h
  exact ⟨h1, h2, h3, h4, h5, h6, h7, h8, h9, h10, h11, h12, h13⟩
theorem yinv_P_tval {u : XH} (h : yxInv u) {w : Int32}  : yxInv (xs_P_tval u w) := by
  obtain ⟨h1, h2, h3, h4, h5, h6, h7, h8, h9, h10, h11, h12, h13⟩ := h
  exact ⟨h1, h2, h3, h4, h5, h6, h7, h8, h9, h10, h11, h12, h13⟩
theorem yinv_P_guest {u : XH} (h : yxInv u) {w : Int32}  : yxInv (xs_P_guest u w) := by
  obtain ⟨h1, h2, h3, h4, h5, h6, h7, h8, h9, h10, h11, h12, h13⟩ := h
  exact ⟨h1, h2, h3, h4, h5, h6, h7, h8, h9, h10, h11, h12, h13⟩
theorem yinv_P_inst {u : XH} (h : yxInv u) {w : Int32}  : yxInv (xs_P_inst u w) := by
  obtain ⟨h1, h2, h3, h4, h5, h6, h7, h8, h9, h10, h11, h12, h13⟩ := h
  exact ⟨h1, h2, h3, h4, h5, h6, h7, h8, h9, h10, h11, h12, h13⟩
theorem yinv_P_asGuest {u : XH} (h : yxInv u) {w : Bool}  : yxInv (xs_P_asGuest u w) := by
  obtain ⟨h1, h2, h3, h4, h5, h6, h7, h8, h9, h10, h11, h12, h13⟩ := h
  exact ⟨h1, h2, h3, h4, h5, h6, h7, h8, h9, h10, h11, h12, h13⟩
theorem yinv_P_interruptForVs {u : XH} (h : yxInv u) {w : Bool}  : yxInv (xs_P_interruptForVs u w) := by
  obtain ⟨h1, h2, h3, h4, h5, h6, h7, h8, h9, h10, h11, h12, h13⟩ := h
  exact ⟨h1, h2, h3, h4, h5, h6, h7, h8, h9, h10, h11, h12, h13⟩

def yxsb (x b : Int32) (y : Bool) : Int32 := if y then x ||| ((1 : Int32) <<< (b &&& 31)) else x &&& (((1 : Int32) <<< (b &&& 31)) ^^^ (-1))
theorem ybt_xsb (x b : Int32) (y : Bool) (k : Nat) (h : ypw ((1 : Int32) <<< (b &&& 31)) k) (i : Nat) (hi : i < 32) : ybt (yxsb x b y) i = if i = k then y else ybt x i := by
  have em : ybt (-1) i = true := by
    have : ∀ i, i < 32 → ybt (-1) i = true := by decide +kernel
    exact this i hi
  unfold yxsb
  cases y
  · simp only [Bool.false_eq_true, if_false, ybt_and, ybt_xor, ypw_bt h, em]
    by_cases e : i = k
    · simp [e]
    · simp [e]
  · simp only [if_true, ybt_or, ypw_bt h]
    by_cases e : i = k
    · simp [e]
    · simp [e]
theorem yzsb (v : XZ) (n b : Int32) (y : Bool) : xf_Z_setBit v n b (xz y) = xf_Z_become v n (yxsb (xf_Z_value v n) b y) := yzsetb v n b y
theorem ypwd {b : Int32} {k : Nat} (h1 : k < 32) (h : ((1 : Int32) <<< (b &&& 31)).toBitVec = BitVec.twoPow 32 k) : ypw ((1 : Int32) <<< (b &&& 31)) k := ⟨h1, h⟩
theorem ybtx {x b : Int32} {y : Bool} (k : Nat) (h1 : k < 32) (h : ((1 : Int32) <<< (b &&& 31)).toBitVec = BitVec.twoPow 32 k) {i : Nat} (hi : i < 32) : ybt (yxsb x b y) i = if i = k then y else ybt x i := ybt_xsb x b y k ⟨h1, h⟩ i hi
theorem yif01 (b : Bool) : (if (if b then (1 : Int32) else 0) = 1 then (1 : Int32) else 0) = xz b := by cases b <;> decide
theorem yzw_1604 (u : XH) (c : XZ) (w : Int32) : xf_Z_write (yxZof u c) 1604 w = yxZof (xs_K_hvip u (yxsb (xg_K_hvip u) 2 (ybt w 2))) c := by
  unfold xf_Z_write
  rw [yxlt_d, if_pos rfl, yxlt_d, yxlt_d, ysar1_bit w (s := (2 : Int32) &&& 31) (k := 2) (by decide) (by decide), yif01, yzsb, yzb_1605, yzv_1605]
theorem yzw_580 (u : XH) (c : XZ) (w : Int32) : xf_Z_write (yxZof u c) 580 w = yxZof (xs_K_hvip u (yxsb (xg_K_hvip u) 2 (if ybt (xg_K_hideleg u) 2 then ybt w 1 else ybt (xg_K_hvip u) 2))) c := by
  unfold xf_Z_write
  rw [yxlt_d, if_neg (by decide), if_pos rfl, yxlt_d, yxlt_d, yxlt_d, yxlt_d, ysar1_bit w (s := (1 : Int32) &&& 31) (k := 1) (by decide) (by decide), yif01, yzbit _ 1539 2 2 (by decide) (by decide), yzbit _ 1605 2 2 (by decide) (by decide), yzv_1539, yzv_1605]
  have e : (if xz (ybt (xg_K_hideleg u) 2) = 0 then xz (ybt (xg_K_hvip u) 2) else xz (ybt w 1)) = xz (if ybt (xg_K_hideleg u) 2 then ybt w 1 else ybt (xg_K_hvip u) 2) := by
    cases ybt (xg_K_hideleg u) 2
    · rw [if_pos (by decide)]; rfl
    · rw [if_neg (by decide)]; rfl
  rw [e, yzsb, yzb_1605, yzv_1605]
theorem yzone (u : XH) (c : XZ) (w : Int32) (b s : Int32) (k j : Nat) (hk : ((b &&& 31).toBitVec.smod 32).toNat = k) (hk2 : k < 32) (hs : ((s &&& 31).toBitVec.smod 32).toNat = j) (yhs2 : j < 32) :
    xf_Z_setBit (yxZof u c) 1540 b (if xf_Z_bit (yxZof u c) 1539 b = 0 then xf_Z_bit (yxZof u c) 1540 b else if ((w >>> (s &&& 31)) &&& (1 : Int32)) = 1 then 1 else 0) = yxZof (xs_K_hie u (yxsb (xg_K_hie u) b (if ybt (xg_K_hideleg u) k then ybt w j else ybt (xg_K_hie u) k))) c := by
  rw [ysar1_bit w hs yhs2, yif01, yzbit _ 1539 b k hk hk2, yzbit _ 1540 b k hk hk2, yzv_1539, yzv_1540]
  have e : (if xz (ybt (xg_K_hideleg u) k) = 0 then xz (ybt (xg_K_hie u) k) else xz (ybt w j)) = xz (if ybt (xg_K_hideleg u) k then ybt w j else ybt (xg_K_hie u) k) := by
    cases ybt (xg_K_hideleg u) k
    · rw [if_pos (by decide)]; rfl
    · rw [if_neg (by decide)]; rfl
  rw [e, yzsb, yzb_1540, yzv_1540]
def yxh3 (h d w : Int32) : Int32 := yxsb (yxsb (yxsb h 2 (if ybt d 2 then ybt w 1 else ybt h 2)) 6 (if ybt d 6 then ybt w 5 else ybt (yxsb h 2 (if ybt d 2 then ybt w 1 else ybt h 2)) 6)) 10 (if ybt d 10 then ybt w 9 else ybt (yxsb (yxsb h 2 (if ybt d 2 then ybt w 1 else ybt h 2)) 6 (if ybt d 6 then ybt w 5 else ybt (yxsb h 2 (if ybt d 2 then ybt w 1 else ybt h 2)) 6)) 10)
theorem yhie2 (u : XH) (a b : Int32) : xs_K_hie (xs_K_hie u a) b = xs_K_hie u b := rfl
theorem yhie_g (u : XH) (a : Int32) : xg_K_hie (xs_K_hie u a) = a := rfl
theorem yhie_d (u : XH) (a : Int32) : xg_K_hideleg (xs_K_hie u a) = xg_K_hideleg u := rfl
theorem yzw_516 (u : XH) (c : XZ) (w : Int32) : xf_Z_write (yxZof u c) 516 w = yxZof (xs_K_hie u (yxh3 (xg_K_hie u) (xg_K_hideleg u) w)) c := by
  unfold xf_Z_write
  rw [yxlt_d, if_neg (by decide), if_neg (by decide), if_pos rfl]
  simp only [yxlt_d]
  rw [yzone u c w 2 (2 - 1) 2 1 (by decide) (by decide) (by decide) (by decide), yzone _ c w 6 (6 - 1) 6 5 (by decide) (by decide) (by decide) (by decide), yzone _ c w 10 (10 - 1) 10 9 (by decide) (by decide) (by decide) (by decide)]
  simp only [yhie2, yhie_g, yhie_d]
  rfl
theorem ykw_1604 (u : XH) (w : Int32) : xf_K_write u 1604 w = xs_K_hvip u (yxsb (xg_K_hvip u) 2 (ybt w 2)) := by
  have e : xf_K_isOfS 1604 = 0 := by simp [xf_K_isOfS]
  unfold xf_K_write xf_K_raiseSoft
  rw [yxlt_d, e, if_pos rfl, yxlt_d, if_neg (by decide), if_neg (by decide), if_neg (by decide), if_neg (by decide), if_neg (by decide), if_neg (by decide), if_neg (by decide), if_pos rfl, yxlt_d]
  congr 1
  apply ybt_ext
  apply yall32
  simp only [ybt_and, ybt_or, ybt_xor, ybtx (b := 2) 2 (by decide) (by decide) (i := 0) (by decide), ybtx (b := 2) 2 (by decide) (by decide) (i := 1) (by decide), ybtx (b := 2) 2 (by decide) (by decide) (i := 2) (by decide), ybtx (b := 2) 2 (by decide) (by decide) (i := 3) (by decide), ybtx (b := 2) 2 (by decide) (by decide) (i := 4) (by decide), ybtx (b := 2) 2 (by decide) (by decide) (i := 5) (by decide), ybtx (b := 2) 2 (by decide) (by decide) (i := 6) (by decide), ybtx (b := 2) 2 (by decide) (by decide) (i := 7) (by decide), ybtx (b := 2) 2 (by decide) (by decide) (i := 8) (by decide), ybtx (b := 2) 2 (by decide) (by decide) (i := 9) (by decide), ybtx (b := 2) 2 (by decide) (by decide) (i := 10) (by decide), ybtx (b := 2) 2 (by decide) (by decide) (i := 11) (by decide), ybtx (b := 2) 2 (by decide) (by decide) (i := 12) (by decide), ybtx (b := 2) 2 (by decide) (by decide) (i := 13) (by decide), ybtx (b := 2) 2 (by decide) (by decide) (i := 14) (by decide), ybtx (b := 2) 2 (by decide) (by decide) (i := 15) (by decide), ybtx (b := 2) 2 (by decide) (by decide) (i := 16) (by decide), ybtx (b := 2) 2 (by decide) (by decide) (i := 17) (by decide), ybtx (b := 2) 2 (by decide) (by decide) (i := 18) (by decide), ybtx (b := 2) 2 (by decide) (by decide) (i := 19) (by decide), ybtx (b := 2) 2 (by decide) (by decide) (i := 20) (by decide), ybtx (b := 2) 2 (by decide) (by decide) (i := 21) (by decide), ybtx (b := 2) 2 (by decide) (by decide) (i := 22) (by decide), ybtx (b := 2) 2 (by decide) (by decide) (i := 23) (by decide), ybtx (b := 2) 2 (by decide) (by decide) (i := 24) (by decide), ybtx (b := 2) 2 (by decide) (by decide) (i := 25) (by decide), ybtx (b := 2) 2 (by decide) (by decide) (i := 26) (by decide), ybtx (b := 2) 2 (by decide) (by decide) (i := 27) (by decide), ybtx (b := 2) 2 (by decide) (by decide) (i := 28) (by decide), ybtx (b := 2) 2 (by decide) (by decide) (i := 29) (by decide), ybtx (b := 2) 2 (by decide) (by decide) (i := 30) (by decide), ybtx (b := 2) 2 (by decide) (by decide) (i := 31) (by decide)]
  simp [ybt]
theorem ykw_580 (u : XH) (w : Int32) : xf_K_write u 580 w = xs_K_hvip u (yxsb (xg_K_hvip u) 2 (if ybt (xg_K_hideleg u) 2 then ybt w 1 else ybt (xg_K_hvip u) 2)) := by
  have e : xf_K_isOfS 580 = 0 := by simp [xf_K_isOfS]
  unfold xf_K_write xf_K_raiseSoft
  rw [yxlt_d, e, if_pos rfl, yxlt_d, if_neg (by decide), if_pos rfl, yxlt_d]
  congr 1
  apply ybt_ext
  apply yall32
  simp only [ybt_and, ybt_or, ybt_xor, ybt_shl _ ((1 : Int32) &&& 31) 1 (by decide), ybtx (b := 2) 2 (by decide) (by decide) (i := 0) (by decide), ybtx (b := 2) 2 (by decide) (by decide) (i := 1) (by decide), ybtx (b := 2) 2 (by decide) (by decide) (i := 2) (by decide), ybtx (b := 2) 2 (by decide) (by decide) (i := 3) (by decide), ybtx (b := 2) 2 (by decide) (by decide) (i := 4) (by decide), ybtx (b := 2) 2 (by decide) (by decide) (i := 5) (by decide), ybtx (b := 2) 2 (by decide) (by decide) (i := 6) (by decide), ybtx (b := 2) 2 (by decide) (by decide) (i := 7) (by decide), ybtx (b := 2) 2 (by decide) (by decide) (i := 8) (by decide), ybtx (b := 2) 2 (by decide) (by decide) (i := 9) (by decide), ybtx (b := 2) 2 (by decide) (by decide) (i := 10) (by decide), ybtx (b := 2) 2 (by decide) (by decide) (i := 11) (by decide), ybtx (b := 2) 2 (by decide) (by decide) (i := 12) (by decide), ybtx (b := 2) 2 (by decide) (by decide) (i := 13) (by decide), ybtx (b := 2) 2 (by decide) (by decide) (i := 14) (by decide), ybtx (b := 2) 2 (by decide) (by decide) (i := 15) (by decide), ybtx (b := 2) 2 (by decide) (by decide) (i := 16) (by decide), ybtx (b := 2) 2 (by decide) (by decide) (i := 17) (by decide), ybtx (b := 2) 2 (by decide) (by decide) (i := 18) (by decide), ybtx (b := 2) 2 (by decide) (by decide) (i := 19) (by decide), ybtx (b := 2) 2 (by decide) (by decide) (i := 20) (by decide), ybtx (b := 2) 2 (by decide) (by decide) (i := 21) (by decide), ybtx (b := 2) 2 (by decide) (by decide) (i := 22) (by decide), ybtx (b := 2) 2 (by decide) (by decide) (i := 23) (by decide), ybtx (b := 2) 2 (by decide) (by decide) (i := 24) (by decide), ybtx (b := 2) 2 (by decide) (by decide) (i := 25) (by decide), ybtx (b := 2) 2 (by decide) (by decide) (i := 26) (by decide), ybtx (b := 2) 2 (by decide) (by decide) (i := 27) (by decide), ybtx (b := 2) 2 (by decide) (by decide) (i := 28) (by decide), ybtx (b := 2) 2 (by decide) (by decide) (i := 29) (by decide), ybtx (b := 2) 2 (by decide) (by decide) (i := 30) (by decide), ybtx (b := 2) 2 (by decide) (by decide) (i := 31) (by decide)]
  simp [ybt]
  cases (xg_K_hideleg u).toBitVec[2] <;> simp
theorem ykw_516 {u : XH} (hi : yxInv u) (w : Int32) : xf_K_write u 516 w = xs_K_hie u (yxh3 (xg_K_hie u) (xg_K_hideleg u) w) := by
  have e : xf_K_isOfS 516 = 0 := by simp [xf_K_isOfS]
  have hd := hi.2.2.2.2.2.1
  unfold xf_K_write
  rw [yxlt_d, e, if_pos rfl, yxlt_d, if_pos rfl]
  congr 1
  generalize xg_K_hideleg u = d at *
  generalize xg_K_hie u = h at *
  have hb : ∀ i, ybt d i = (ybt d i && ybt 1092 i) := fun i => by rw [← ybt_and, hd]
  apply ybt_ext
  intro i hi
  unfold yxh3
  rw [ybtx (b := 10) 10 (by decide) (by decide) hi, ybtx (b := 6) 6 (by decide) (by decide) hi, ybtx (b := 2) 2 (by decide) (by decide) hi, ybtx (b := 6) 6 (by decide) (by decide) (i := 10) (by decide), ybtx (b := 2) 2 (by decide) (by decide) (i := 10) (by decide), ybtx (b := 2) 2 (by decide) (by decide) (i := 6) (by decide)]
  simp only [ybt_and, ybt_or, ybt_xor, ybt_shl _ ((1 : Int32) &&& 31) 1 (by decide)]
  have em : ybt (-1) i = true := by
    have : ∀ i, i < 32 → ybt (-1) i = true := by decide +kernel
    exact this i hi
  rw [em]
  have hz : ∀ i, i < 32 → i ≠ 2 → i ≠ 6 → i ≠ 10 → ybt 1092 i = false := by decide +kernel
  by_cases e10 : i = 10
  · subst e10; cases h1 : ybt d 10 <;> simp [h1]
  · by_cases e6 : i = 6
    · subst e6; cases h1 : ybt d 6 <;> simp [h1]
    · by_cases e2 : i = 2
      · subst e2; cases h1 : ybt d 2 <;> simp [h1]
      · have h0 : ybt d i = false := by rw [hb i, hz i hi e2 e6 e10]; simp
        simp [h0, e10, e6, e2]

theorem yzw_all {u : XH} (hi : yxInv u) (c : XZ) (w : Int32) {n : Int32} (h : ¬ xf_Z_indexOf n < 0) (h1 : ¬ n = 3073) (h2 : ¬ n = 3201) : xf_Z_write (yxZof u c) n w = yxZof (xf_K_write u n w) c := by
  rcases yzi_cases h with h | h | h | h | h | h | h | h | h | h | h | h | h | h | h | h | h | h | h | h | h | h | h | h | h | h | h | h | h <;> subst h
  · rw [yzw_256, ykw_256]
  · rw [yzw_260, ykw_260]
  · rw [yzw_261, ykw_261]
  · rw [yzw_320, ykw_320]
  · rw [yzw_321, ykw_321]
  · rw [yzw_322, ykw_322]
  · rw [yzw_323, ykw_323]
  · rw [yzw_324, ykw_324]
  · rw [yzw_384, ykw_384]
  · rw [yzw_512, ykw_512]
  · rw [yzw_516, ykw_516 hi]
  · rw [yzw_517, ykw_517]
  · rw [yzw_576, ykw_576]
  · rw [yzw_577, ykw_577]
  · rw [yzw_578, ykw_578]
  · rw [yzw_579, ykw_579]
  · rw [yzw_580, ykw_580]
  · rw [yzw_640, ykw_640]
  · rw [yzw_1536, ykw_1536]
  · rw [yzw_1538, ykw_1538]
  · rw [yzw_1539, ykw_1539]
  · rw [yzw_1540, ykw_1540]
  · rw [yzw_1603, ykw_1603]
  · rw [yzw_1604, ykw_1604]
  · rw [yzw_1605, ykw_1605]
  · rw [yzw_1610, ykw_1610]
  · rw [yzw_1664, ykw_1664]
  · exact absurd rfl h1
  · exact absurd rfl h2

theorem yxlt_tr {α : Type} (a : α) : xlt a (fun _ => True) := trivial
theorem yzwv_1604 (v : XZ) (w : Int32) : xv_Z_write v 1604 w := by
  unfold xv_Z_write
  refine ⟨⟨?_, trivial⟩, trivial⟩
  rw [if_pos rfl, yxlt_d]
  exact ⟨yzvset (yzvv_1605 _) (fun _ => yzvb_1605 _ _), trivial⟩
theorem yzvsel {v : XZ} {n b y : Int32} {a d : Prop} (h : xv_Z_value v n) (ha : a) (hd : d) : (if y = 0 then (xv_Z_bit v n b ∧ a) else d) := by
  by_cases e : y = 0
  · rw [if_pos e]; exact ⟨yzvbit h, ha⟩
  · rw [if_neg e]; exact hd
theorem yitr (p : Prop) [Decidable p] : (if p then True else True) := by by_cases h : p <;> simp [h]
theorem yzwv_580 (v : XZ) (w : Int32) : xv_Z_write v 580 w := by
  unfold xv_Z_write
  refine ⟨⟨?_, trivial⟩, trivial⟩
  rw [if_neg (by decide), if_pos rfl, yxlt_d]
  refine ⟨yzvbit (yzvv_1539 _), yzvsel (yzvv_1605 _) trivial (yitr _), ?_⟩
  rw [yxlt_d]
  exact ⟨yzvset (yzvv_1605 _) (fun _ => yzvb_1605 _ _), trivial⟩
theorem yzwv_516 (v : XZ) (w : Int32) : xv_Z_write v 516 w := by
  unfold xv_Z_write
  refine ⟨⟨?_, trivial⟩, trivial⟩
  rw [if_neg (by decide), if_neg (by decide), if_pos rfl]
  simp only [yxlt_d]
  refine ⟨yzvbit (yzvv_1539 _), yzvsel (yzvv_1540 _) trivial (yitr _), yzvset (yzvv_1540 _) (fun _ => yzvb_1540 _ _), yzvbit (yzvv_1539 _), yzvsel (yzvv_1540 _) trivial (yitr _), yzvset (yzvv_1540 _) (fun _ => yzvb_1540 _ _), yzvbit (yzvv_1539 _), yzvsel (yzvv_1540 _) trivial (yitr _), yzvset (yzvv_1540 _) (fun _ => yzvb_1540 _ _), trivial⟩

theorem yzwv_256 (v : XZ) (w : Int32) : xv_Z_write v 256 w := by
  unfold xv_Z_write
  refine ⟨⟨?_, trivial⟩, trivial⟩
  rw [if_neg (by decide), if_neg (by decide), if_neg (by decide), yxlt_d]
  exact ⟨yzvb_256 _ _, trivial⟩
theorem yzwv_260 (v : XZ) (w : Int32) : xv_Z_write v 260 w := by
  unfold xv_Z_write
  refine ⟨⟨?_, trivial⟩, trivial⟩
  rw [if_neg (by decide), if_neg (by decide), if_neg (by decide), yxlt_d]
  exact ⟨yzvb_260 _ _, trivial⟩
theorem yzwv_261 (v : XZ) (w : Int32) : xv_Z_write v 261 w := by
  unfold xv_Z_write
  refine ⟨⟨?_, trivial⟩, trivial⟩
  rw [if_neg (by decide), if_neg (by decide), if_neg (by decide), yxlt_d]
  exact ⟨yzvb_261 _ _, trivial⟩
theorem yzwv_320 (v : XZ) (w : Int32) : xv_Z_write v 320 w := by
  unfold xv_Z_write
  refine ⟨⟨?_, trivial⟩, trivial⟩
  rw [if_neg (by decide), if_neg (by decide), if_neg (by decide), yxlt_d]
  exact ⟨yzvb_320 _ _, trivial⟩
theorem yzwv_321 (v : XZ) (w : Int32) : xv_Z_write v 321 w := by
  unfold xv_Z_write
  refine ⟨⟨?_, trivial⟩, trivial⟩
  rw [if_neg (by decide), if_neg (by decide), if_neg (by decide), yxlt_d]
  exact ⟨yzvb_321 _ _, trivial⟩
theorem yzwv_322 (v : XZ) (w : Int32) : xv_Z_write v 322 w := by
  unfold xv_Z_write
  refine ⟨⟨?_, trivial⟩, trivial⟩
  rw [if_neg (by decide), if_neg (by decide), if_neg (by decide), yxlt_d]
  exact ⟨yzvb_322 _ _, trivial⟩
theorem yzwv_323 (v : XZ) (w : Int32) : xv_Z_write v 323 w := by
  unfold xv_Z_write
  refine ⟨⟨?_, trivial⟩, trivial⟩
  rw [if_neg (by decide), if_neg (by decide), if_neg (by decide), yxlt_d]
  exact ⟨yzvb_323 _ _, trivial⟩
theorem yzwv_324 (v : XZ) (w : Int32) : xv_Z_write v 324 w := by
  unfold xv_Z_write
  refine ⟨⟨?_, trivial⟩, trivial⟩
  rw [if_neg (by decide), if_neg (by decide), if_neg (by decide), yxlt_d]
  exact ⟨yzvb_324 _ _, trivial⟩
theorem yzwv_384 (v : XZ) (w : Int32) : xv_Z_write v 384 w := by
  unfold xv_Z_write
  refine ⟨⟨?_, trivial⟩, trivial⟩
  rw [if_neg (by decide), if_neg (by decide), if_neg (by decide), yxlt_d]
  exact ⟨yzvb_384 _ _, trivial⟩
theorem yzwv_512 (v : XZ) (w : Int32) : xv_Z_write v 512 w := by
  unfold xv_Z_write
  refine ⟨⟨?_, trivial⟩, trivial⟩
  rw [if_neg (by decide), if_neg (by decide), if_neg (by decide), yxlt_d]
  exact ⟨yzvb_512 _ _, trivial⟩
theorem yzwv_517 (v : XZ) (w : Int32) : xv_Z_write v 517 w := by
  unfold xv_Z_write
  refine ⟨⟨?_, trivial⟩, trivial⟩
  rw [if_neg (by decide), if_neg (by decide), if_neg (by decide), yxlt_d]
  exact ⟨yzvb_517 _ _, trivial⟩
theorem yzwv_576 (v : XZ) (w : Int32) : xv_Z_write v 576 w := by
  unfold xv_Z_write
  refine ⟨⟨?_, trivial⟩, trivial⟩
  rw [if_neg (by decide), if_neg (by decide), if_neg (by decide), yxlt_d]
  exact ⟨yzvb_576 _ _, trivial⟩
theorem yzwv_577 (v : XZ) (w : Int32) : xv_Z_write v 577 w := by
  unfold xv_Z_write
  refine ⟨⟨?_, trivial⟩, trivial⟩
  rw [if_neg (by decide), if_neg (by decide), if_neg (by decide), yxlt_d]
  exact ⟨yzvb_577 _ _, trivial⟩
theorem yzwv_578 (v : XZ) (w : Int32) : xv_Z_write v 578 w := by
  unfold xv_Z_write
  refine ⟨⟨?_, trivial⟩, trivial⟩
  rw [if_neg (by decide), if_neg (by decide), if_neg (by decide), yxlt_d]
  exact ⟨yzvb_578 _ _, trivial⟩
theorem yzwv_579 (v : XZ) (w : Int32) : xv_Z_write v 579 w := by
  unfold xv_Z_write
  refine ⟨⟨?_, trivial⟩, trivial⟩
  rw [if_neg (by decide), if_neg (by decide), if_neg (by decide), yxlt_d]
  exact ⟨yzvb_579 _ _, trivial⟩
theorem yzwv_640 (v : XZ) (w : Int32) : xv_Z_write v 640 w := by
  unfold xv_Z_write
  refine ⟨⟨?_, trivial⟩, trivial⟩
  rw [if_neg (by decide), if_neg (by decide), if_neg (by decide), yxlt_d]
  exact ⟨yzvb_640 _ _, trivial⟩
theorem yzwv_1536 (v : XZ) (w : Int32) : xv_Z_write v 1536 w := by
  unfold xv_Z_write
  refine ⟨⟨?_, trivial⟩, trivial⟩
  rw [if_neg (by decide), if_neg (by decide), if_neg (by decide), yxlt_d]
  exact ⟨yzvb_1536 _ _, trivial⟩
theorem yzwv_1538 (v : XZ) (w : Int32) : xv_Z_write v 1538 w := by
  unfold xv_Z_write
  refine ⟨⟨?_, trivial⟩, trivial⟩
  rw [if_neg (by decide), if_neg (by decide), if_neg (by decide), yxlt_d]
  exact ⟨yzvb_1538 _ _, trivial⟩
theorem yzwv_1539 (v : XZ) (w : Int32) : xv_Z_write v 1539 w := by
  unfold xv_Z_write
  refine ⟨⟨?_, trivial⟩, trivial⟩
  rw [if_neg (by decide), if_neg (by decide), if_neg (by decide), yxlt_d]
  exact ⟨yzvb_1539 _ _, trivial⟩
theorem yzwv_1540 (v : XZ) (w : Int32) : xv_Z_write v 1540 w := by
  unfold xv_Z_write
  refine ⟨⟨?_, trivial⟩, trivial⟩
  rw [if_neg (by decide), if_neg (by decide), if_neg (by decide), yxlt_d]
  exact ⟨yzvb_1540 _ _, trivial⟩
theorem yzwv_1603 (v : XZ) (w : Int32) : xv_Z_write v 1603 w := by
  unfold xv_Z_write
  refine ⟨⟨?_, trivial⟩, trivial⟩
  rw [if_neg (by decide), if_neg (by decide), if_neg (by decide), yxlt_d]
  exact ⟨yzvb_1603 _ _, trivial⟩
theorem yzwv_1605 (v : XZ) (w : Int32) : xv_Z_write v 1605 w := by
  unfold xv_Z_write
  refine ⟨⟨?_, trivial⟩, trivial⟩
  rw [if_neg (by decide), if_neg (by decide), if_neg (by decide), yxlt_d]
  exact ⟨yzvb_1605 _ _, trivial⟩
theorem yzwv_1610 (v : XZ) (w : Int32) : xv_Z_write v 1610 w := by
  unfold xv_Z_write
  refine ⟨⟨?_, trivial⟩, trivial⟩
  rw [if_neg (by decide), if_neg (by decide), if_neg (by decide), yxlt_d]
  exact ⟨yzvb_1610 _ _, trivial⟩
theorem yzwv_1664 (v : XZ) (w : Int32) : xv_Z_write v 1664 w := by
  unfold xv_Z_write
  refine ⟨⟨?_, trivial⟩, trivial⟩
  rw [if_neg (by decide), if_neg (by decide), if_neg (by decide), yxlt_d]
  exact ⟨yzvb_1664 _ _, trivial⟩
theorem yzwv_all (v : XZ) (w : Int32) {n : Int32} (h : ¬ xf_Z_indexOf n < 0) (h1 : ¬ n = 3073) (h2 : ¬ n = 3201) : xv_Z_write v n w := by
  rcases yzi_cases h with h | h | h | h | h | h | h | h | h | h | h | h | h | h | h | h | h | h | h | h | h | h | h | h | h | h | h | h | h <;> subst h
  · exact yzwv_256 v w
  · exact yzwv_260 v w
  · exact yzwv_261 v w
  · exact yzwv_320 v w
  · exact yzwv_321 v w
  · exact yzwv_322 v w
  · exact yzwv_323 v w
  · exact yzwv_324 v w
  · exact yzwv_384 v w
  · exact yzwv_512 v w
  · exact yzwv_516 v w
  · exact yzwv_517 v w
  · exact yzwv_576 v w
  · exact yzwv_577 v w
  · exact yzwv_578 v w
  · exact yzwv_579 v w
  · exact yzwv_580 v w
  · exact yzwv_640 v w
  · exact yzwv_1536 v w
  · exact yzwv_1538 v w
  · exact yzwv_1539 v w
  · exact yzwv_1540 v w
  · exact yzwv_1603 v w
  · exact yzwv_1604 v w
  · exact yzwv_1605 v w
  · exact yzwv_1610 v w
  · exact yzwv_1664 v w
  · exact absurd rfl h1
  · exact absurd rfl h2
theorem yztv_256 (v : XZ) : xv_Z_tells v 256 := by
  unfold xv_Z_tells
  refine ⟨?_, trivial⟩
  rw [if_neg (by decide), if_neg (by decide), if_neg (by decide), if_neg (by decide), if_neg (by decide), if_neg (by decide)]
  exact ⟨yzvv_256 _, trivial⟩
theorem yztv_260 (v : XZ) : xv_Z_tells v 260 := by
  unfold xv_Z_tells
  refine ⟨?_, trivial⟩
  rw [if_neg (by decide), if_neg (by decide), if_neg (by decide), if_neg (by decide), if_neg (by decide), if_neg (by decide)]
  exact ⟨yzvv_260 _, trivial⟩
theorem yztv_261 (v : XZ) : xv_Z_tells v 261 := by
  unfold xv_Z_tells
  refine ⟨?_, trivial⟩
  rw [if_neg (by decide), if_neg (by decide), if_neg (by decide), if_neg (by decide), if_neg (by decide), if_neg (by decide)]
  exact ⟨yzvv_261 _, trivial⟩
theorem yztv_320 (v : XZ) : xv_Z_tells v 320 := by
  unfold xv_Z_tells
  refine ⟨?_, trivial⟩
  rw [if_neg (by decide), if_neg (by decide), if_neg (by decide), if_neg (by decide), if_neg (by decide), if_neg (by decide)]
  exact ⟨yzvv_320 _, trivial⟩
theorem yztv_321 (v : XZ) : xv_Z_tells v 321 := by
  unfold xv_Z_tells
  refine ⟨?_, trivial⟩
  rw [if_neg (by decide), if_neg (by decide), if_neg (by decide), if_neg (by decide), if_neg (by decide), if_neg (by decide)]
  exact ⟨yzvv_321 _, trivial⟩
theorem yztv_322 (v : XZ) : xv_Z_tells v 322 := by
  unfold xv_Z_tells
  refine ⟨?_, trivial⟩
  rw [if_neg (by decide), if_neg (by decide), if_neg (by decide), if_neg (by decide), if_neg (by decide), if_neg (by decide)]
  exact ⟨yzvv_322 _, trivial⟩
theorem yztv_323 (v : XZ) : xv_Z_tells v 323 := by
  unfold xv_Z_tells
  refine ⟨?_, trivial⟩
  rw [if_neg (by decide), if_neg (by decide), if_neg (by decide), if_neg (by decide), if_neg (by decide), if_neg (by decide)]
  exact ⟨yzvv_323 _, trivial⟩
theorem yztv_324 (v : XZ) : xv_Z_tells v 324 := by
  unfold xv_Z_tells
  refine ⟨?_, trivial⟩
  rw [if_pos rfl]
  exact ⟨yzvv_324 _, trivial⟩
theorem yztv_384 (v : XZ) : xv_Z_tells v 384 := by
  unfold xv_Z_tells
  refine ⟨?_, trivial⟩
  rw [if_neg (by decide), if_neg (by decide), if_neg (by decide), if_neg (by decide), if_neg (by decide), if_neg (by decide)]
  exact ⟨yzvv_384 _, trivial⟩
theorem yztv_512 (v : XZ) : xv_Z_tells v 512 := by
  unfold xv_Z_tells
  refine ⟨?_, trivial⟩
  rw [if_neg (by decide), if_neg (by decide), if_neg (by decide), if_neg (by decide), if_neg (by decide), if_neg (by decide)]
  exact ⟨yzvv_512 _, trivial⟩
theorem yztv_516 (v : XZ) : xv_Z_tells v 516 := by
  unfold xv_Z_tells
  refine ⟨?_, trivial⟩
  rw [if_neg (by decide), if_pos rfl]
  exact ⟨yzvv_1540 _, yzvv_1539 _, trivial⟩
theorem yztv_517 (v : XZ) : xv_Z_tells v 517 := by
  unfold xv_Z_tells
  refine ⟨?_, trivial⟩
  rw [if_neg (by decide), if_neg (by decide), if_neg (by decide), if_neg (by decide), if_neg (by decide), if_neg (by decide)]
  exact ⟨yzvv_517 _, trivial⟩
theorem yztv_576 (v : XZ) : xv_Z_tells v 576 := by
  unfold xv_Z_tells
  refine ⟨?_, trivial⟩
  rw [if_neg (by decide), if_neg (by decide), if_neg (by decide), if_neg (by decide), if_neg (by decide), if_neg (by decide)]
  exact ⟨yzvv_576 _, trivial⟩
theorem yztv_577 (v : XZ) : xv_Z_tells v 577 := by
  unfold xv_Z_tells
  refine ⟨?_, trivial⟩
  rw [if_neg (by decide), if_neg (by decide), if_neg (by decide), if_neg (by decide), if_neg (by decide), if_neg (by decide)]
  exact ⟨yzvv_577 _, trivial⟩
theorem yztv_578 (v : XZ) : xv_Z_tells v 578 := by
  unfold xv_Z_tells
  refine ⟨?_, trivial⟩
  rw [if_neg (by decide), if_neg (by decide), if_neg (by decide), if_neg (by decide), if_neg (by decide), if_neg (by decide)]
  exact ⟨yzvv_578 _, trivial⟩
theorem yztv_579 (v : XZ) : xv_Z_tells v 579 := by
  unfold xv_Z_tells
  refine ⟨?_, trivial⟩
  rw [if_neg (by decide), if_neg (by decide), if_neg (by decide), if_neg (by decide), if_neg (by decide), if_neg (by decide)]
  exact ⟨yzvv_579 _, trivial⟩
theorem yztv_580 (v : XZ) : xv_Z_tells v 580 := by
  unfold xv_Z_tells
  refine ⟨?_, trivial⟩
  rw [if_neg (by decide), if_neg (by decide), if_pos rfl]
  exact ⟨yzvv_1605 _, yzvv_1539 _, trivial⟩
theorem yztv_640 (v : XZ) : xv_Z_tells v 640 := by
  unfold xv_Z_tells
  refine ⟨?_, trivial⟩
  rw [if_neg (by decide), if_neg (by decide), if_neg (by decide), if_neg (by decide), if_neg (by decide), if_neg (by decide)]
  exact ⟨yzvv_640 _, trivial⟩
theorem yztv_1536 (v : XZ) : xv_Z_tells v 1536 := by
  unfold xv_Z_tells
  refine ⟨?_, trivial⟩
  rw [if_neg (by decide), if_neg (by decide), if_neg (by decide), if_neg (by decide), if_neg (by decide), if_neg (by decide)]
  exact ⟨yzvv_1536 _, trivial⟩
theorem yztv_1538 (v : XZ) : xv_Z_tells v 1538 := by
  unfold xv_Z_tells
  refine ⟨?_, trivial⟩
  rw [if_neg (by decide), if_neg (by decide), if_neg (by decide), if_neg (by decide), if_neg (by decide), if_neg (by decide)]
  exact ⟨yzvv_1538 _, trivial⟩
theorem yztv_1539 (v : XZ) : xv_Z_tells v 1539 := by
  unfold xv_Z_tells
  refine ⟨?_, trivial⟩
  rw [if_neg (by decide), if_neg (by decide), if_neg (by decide), if_neg (by decide), if_neg (by decide), if_neg (by decide)]
  exact ⟨yzvv_1539 _, trivial⟩
theorem yztv_1540 (v : XZ) : xv_Z_tells v 1540 := by
  unfold xv_Z_tells
  refine ⟨?_, trivial⟩
  rw [if_neg (by decide), if_neg (by decide), if_neg (by decide), if_neg (by decide), if_neg (by decide), if_neg (by decide)]
  exact ⟨yzvv_1540 _, trivial⟩
theorem yztv_1603 (v : XZ) : xv_Z_tells v 1603 := by
  unfold xv_Z_tells
  refine ⟨?_, trivial⟩
  rw [if_neg (by decide), if_neg (by decide), if_neg (by decide), if_neg (by decide), if_neg (by decide), if_neg (by decide)]
  exact ⟨yzvv_1603 _, trivial⟩
theorem yztv_1604 (v : XZ) : xv_Z_tells v 1604 := by
  unfold xv_Z_tells
  refine ⟨?_, trivial⟩
  rw [if_neg (by decide), if_neg (by decide), if_neg (by decide), if_pos rfl]
  exact ⟨yzvv_1605 _, trivial⟩
theorem yztv_1605 (v : XZ) : xv_Z_tells v 1605 := by
  unfold xv_Z_tells
  refine ⟨?_, trivial⟩
  rw [if_neg (by decide), if_neg (by decide), if_neg (by decide), if_neg (by decide), if_neg (by decide), if_neg (by decide)]
  exact ⟨yzvv_1605 _, trivial⟩
theorem yztv_1610 (v : XZ) : xv_Z_tells v 1610 := by
  unfold xv_Z_tells
  refine ⟨?_, trivial⟩
  rw [if_neg (by decide), if_neg (by decide), if_neg (by decide), if_neg (by decide), if_neg (by decide), if_neg (by decide)]
  exact ⟨yzvv_1610 _, trivial⟩
theorem yztv_1664 (v : XZ) : xv_Z_tells v 1664 := by
  unfold xv_Z_tells
  refine ⟨?_, trivial⟩
  rw [if_neg (by decide), if_neg (by decide), if_neg (by decide), if_neg (by decide), if_neg (by decide), if_neg (by decide)]
  exact ⟨yzvv_1664 _, trivial⟩
theorem yztv_3073 (v : XZ) : xv_Z_tells v 3073 := by
  unfold xv_Z_tells
  refine ⟨?_, trivial⟩
  rw [if_neg (by decide), if_neg (by decide), if_neg (by decide), if_neg (by decide), if_pos rfl]
  trivial
theorem yztv_3201 (v : XZ) : xv_Z_tells v 3201 := by
  unfold xv_Z_tells
  refine ⟨?_, trivial⟩
  rw [if_neg (by decide), if_neg (by decide), if_neg (by decide), if_neg (by decide), if_neg (by decide), if_pos rfl]
  trivial
theorem yztv_all (v : XZ) {n : Int32} (h : ¬ xf_Z_indexOf n < 0) : xv_Z_tells v n := by
  rcases yzi_cases h with h | h | h | h | h | h | h | h | h | h | h | h | h | h | h | h | h | h | h | h | h | h | h | h | h | h | h | h | h <;> subst h
  · exact yztv_256 v
  · exact yztv_260 v
  · exact yztv_261 v
  · exact yztv_320 v
  · exact yztv_321 v
  · exact yztv_322 v
  · exact yztv_323 v
  · exact yztv_324 v
  · exact yztv_384 v
  · exact yztv_512 v
  · exact yztv_516 v
  · exact yztv_517 v
  · exact yztv_576 v
  · exact yztv_577 v
  · exact yztv_578 v
  · exact yztv_579 v
  · exact yztv_580 v
  · exact yztv_640 v
  · exact yztv_1536 v
  · exact yztv_1538 v
  · exact yztv_1539 v
  · exact yztv_1540 v
  · exact yztv_1603 v
  · exact yztv_1604 v
  · exact yztv_1605 v
  · exact yztv_1610 v
  · exact yztv_1664 v
  · exact yztv_3073 v
  · exact yztv_3201 v

theorem ymk2 (w m : Int32) : (w &&& m) &&& m = w &&& m := by rw [Int32.and_assoc, Int32.and_self]
theorem ymk3 (w : Int32) : (w &&& -4) &&& 3 = 0 := by rw [Int32.and_assoc]; show w &&& 0 = 0; simp
theorem ymk5 (w : Int32) : (w &&& -2143289348) &&& 3 = 0 := by rw [Int32.and_assoc]; show w &&& 0 = 0; simp
theorem ymsk_iff (x m : Int32) : x &&& m = x ↔ ∀ i, i < 32 → ybt m i = false → ybt x i = false := by
  constructor
  · intro h i hi hm; rw [← h, ybt_and, hm, Bool.and_false]
  · intro h; apply ybt_ext; intro i hi; rw [ybt_and]
    cases hm : ybt m i
    · rw [h i hi hm]; rfl
    · simp
theorem ymks {x m b : Int32} {y : Bool} (h : x &&& m = x) (k : Nat) (h1 : k < 32) (h2 : ((1 : Int32) <<< (b &&& 31)).toBitVec = BitVec.twoPow 32 k) (h3 : ybt m k = true) : yxsb x b y &&& m = yxsb x b y := by
  rw [ymsk_iff] at h ⊢
  intro i hi hm
  rw [ybtx k h1 h2 hi]
  by_cases e : i = k
  · subst e; rw [h3] at hm; cases hm
  · rw [if_neg e]; exact h i hi hm

theorem yinv_write {u : XH} (hi : yxInv u) (w : Int32) {n : Int32} (h : ¬ xf_Z_indexOf n < 0) (h1 : ¬ n = 3073) (h2 : ¬ n = 3201) : yxInv (xf_K_write u n w) := by
  rcases yzi_cases h with h | h | h | h | h | h | h | h | h | h | h | h | h | h | h | h | h | h | h | h | h | h | h | h | h | h | h | h | h <;> subst h
  · rw [ykw_256]; exact yinv_S_status hi 
  · rw [ykw_260]; exact yinv_S_ie hi (ymk2 _ _)
  · rw [ykw_261]; exact yinv_S_tvec hi 
  · rw [ykw_320]; exact yinv_S_scratch hi 
  · rw [ykw_321]; exact yinv_S_epc hi (ymk3 _)
  · rw [ykw_322]; exact yinv_S_cause hi 
  · rw [ykw_323]; exact yinv_S_tval hi 
  · rw [ykw_324]; exact yinv_S_ip hi 
  · rw [ykw_384]; exact yinv_S_atp hi 
  · rw [ykw_512]; exact yinv_V_status hi 
  · rw [ykw_516 hi]; exact yinv_K_hie hi (ymks (ymks (ymks hi.2.2.2.2.2.2.1 2 (by decide) (by decide) (by decide)) 6 (by decide) (by decide) (by decide)) 10 (by decide) (by decide) (by decide))
  · rw [ykw_517]; exact yinv_V_tvec hi 
  · rw [ykw_576]; exact yinv_V_scratch hi 
  · rw [ykw_577]; exact yinv_V_epc hi (ymk3 _)
  · rw [ykw_578]; exact yinv_V_cause hi 
  · rw [ykw_579]; exact yinv_V_tval hi 
  · rw [ykw_580]; exact yinv_K_hvip hi (ymks hi.2.2.2.2.2.2.2.1 2 (by decide) (by decide) (by decide))
  · rw [ykw_640]; exact yinv_V_atp hi 
  · rw [ykw_1536]; exact yinv_K_hstatus hi 
  · rw [ykw_1538]; exact yinv_K_hedeleg hi 
  · rw [ykw_1539]; exact yinv_K_hideleg hi (ymk2 _ _)
  · rw [ykw_1540]; exact yinv_K_hie hi (ymk2 _ _)
  · rw [ykw_1603]; exact yinv_K_htval hi 
  · rw [ykw_1604]; exact yinv_K_hvip hi (ymks hi.2.2.2.2.2.2.2.1 2 (by decide) (by decide) (by decide))
  · rw [ykw_1605]; exact yinv_K_hvip hi (ymk2 _ _)
  · rw [ykw_1610]; exact yinv_K_htinst hi 
  · rw [ykw_1664]; exact yinv_K_hgatp hi (ymk5 _)
  · exact absurd rfl h1
  · exact absurd rfl h2
theorem yks_256 : xf_K_isOfS 256 = 1 := by simp [xf_K_isOfS]
theorem ykr_256 (u : XH) (w m : Int32) : xf_K_refusal u 256 w m = if m = 1 then -1 else if m = 0 then 2 else (if m = 3 then -1 else 22) := by
  unfold xf_K_refusal
  simp [yxlt_d, yks_256]
theorem yzr_256 (v : XZ) (w : Int32) : xf_Z_refusal v 256 w = if xg_Z_mode v = 1 then 0 else if xg_Z_mode v = 0 then 2 else (if xg_Z_mode v = 2 then 22 else 0) := by
  unfold xf_Z_refusal
  simp [yxlt_d, yzi_256]
theorem yzrv_256 (v : XZ) (w : Int32) : xv_Z_refusal v 256 w := by
  unfold xv_Z_refusal
  refine ⟨?_, trivial⟩
  simp [yxlt_d, yzi_256]
theorem yks_260 : xf_K_isOfS 260 = 1 := by simp [xf_K_isOfS]
theorem ykr_260 (u : XH) (w m : Int32) : xf_K_refusal u 260 w m = if m = 1 then -1 else if m = 0 then 2 else (if m = 3 then -1 else 22) := by
  unfold xf_K_refusal
  simp [yxlt_d, yks_260]
theorem yzr_260 (v : XZ) (w : Int32) : xf_Z_refusal v 260 w = if xg_Z_mode v = 1 then 0 else if xg_Z_mode v = 0 then 2 else (if xg_Z_mode v = 2 then 22 else 0) := by
  unfold xf_Z_refusal
  simp [yxlt_d, yzi_260]
theorem yzrv_260 (v : XZ) (w : Int32) : xv_Z_refusal v 260 w := by
  unfold xv_Z_refusal
  refine ⟨?_, trivial⟩
  simp [yxlt_d, yzi_260]
theorem yks_261 : xf_K_isOfS 261 = 1 := by simp [xf_K_isOfS]
theorem ykr_261 (u : XH) (w m : Int32) : xf_K_refusal u 261 w m = if m = 1 then -1 else if m = 0 then 2 else (if m = 3 then -1 else 22) := by
  unfold xf_K_refusal
  simp [yxlt_d, yks_261]
theorem yzr_261 (v : XZ) (w : Int32) : xf_Z_refusal v 261 w = if xg_Z_mode v = 1 then 0 else if xg_Z_mode v = 0 then 2 else (if xg_Z_mode v = 2 then 22 else 0) := by
  unfold xf_Z_refusal
  simp [yxlt_d, yzi_261]
theorem yzrv_261 (v : XZ) (w : Int32) : xv_Z_refusal v 261 w := by
  unfold xv_Z_refusal
  refine ⟨?_, trivial⟩
  simp [yxlt_d, yzi_261]
theorem yks_320 : xf_K_isOfS 320 = 1 := by simp [xf_K_isOfS]
theorem ykr_320 (u : XH) (w m : Int32) : xf_K_refusal u 320 w m = if m = 1 then -1 else if m = 0 then 2 else (if m = 3 then -1 else 22) := by
  unfold xf_K_refusal
  simp [yxlt_d, yks_320]
theorem yzr_320 (v : XZ) (w : Int32) : xf_Z_refusal v 320 w = if xg_Z_mode v = 1 then 0 else if xg_Z_mode v = 0 then 2 else (if xg_Z_mode v = 2 then 22 else 0) := by
  unfold xf_Z_refusal
  simp [yxlt_d, yzi_320]
theorem yzrv_320 (v : XZ) (w : Int32) : xv_Z_refusal v 320 w := by
  unfold xv_Z_refusal
  refine ⟨?_, trivial⟩
  simp [yxlt_d, yzi_320]
theorem yks_321 : xf_K_isOfS 321 = 1 := by simp [xf_K_isOfS]
theorem ykr_321 (u : XH) (w m : Int32) : xf_K_refusal u 321 w m = if m = 1 then -1 else if m = 0 then 2 else (if m = 3 then -1 else 22) := by
  unfold xf_K_refusal
  simp [yxlt_d, yks_321]
theorem yzr_321 (v : XZ) (w : Int32) : xf_Z_refusal v 321 w = if xg_Z_mode v = 1 then 0 else if xg_Z_mode v = 0 then 2 else (if xg_Z_mode v = 2 then 22 else 0) := by
  unfold xf_Z_refusal
  simp [yxlt_d, yzi_321]
theorem yzrv_321 (v : XZ) (w : Int32) : xv_Z_refusal v 321 w := by
  unfold xv_Z_refusal
  refine ⟨?_, trivial⟩
  simp [yxlt_d, yzi_321]
theorem yks_322 : xf_K_isOfS 322 = 1 := by simp [xf_K_isOfS]
theorem ykr_322 (u : XH) (w m : Int32) : xf_K_refusal u 322 w m = if m = 1 then -1 else if m = 0 then 2 else (if m = 3 then -1 else 22) := by
  unfold xf_K_refusal
  simp [yxlt_d, yks_322]
theorem yzr_322 (v : XZ) (w : Int32) : xf_Z_refusal v 322 w = if xg_Z_mode v = 1 then 0 else if xg_Z_mode v = 0 then 2 else (if xg_Z_mode v = 2 then 22 else 0) := by
  unfold xf_Z_refusal
  simp [yxlt_d, yzi_322]
theorem yzrv_322 (v : XZ) (w : Int32) : xv_Z_refusal v 322 w := by
  unfold xv_Z_refusal
  refine ⟨?_, trivial⟩
  simp [yxlt_d, yzi_322]
theorem yks_323 : xf_K_isOfS 323 = 1 := by simp [xf_K_isOfS]
theorem ykr_323 (u : XH) (w m : Int32) : xf_K_refusal u 323 w m = if m = 1 then -1 else if m = 0 then 2 else (if m = 3 then -1 else 22) := by
  unfold xf_K_refusal
  simp [yxlt_d, yks_323]
theorem yzr_323 (v : XZ) (w : Int32) : xf_Z_refusal v 323 w = if xg_Z_mode v = 1 then 0 else if xg_Z_mode v = 0 then 2 else (if xg_Z_mode v = 2 then 22 else 0) := by
  unfold xf_Z_refusal
  simp [yxlt_d, yzi_323]
theorem yzrv_323 (v : XZ) (w : Int32) : xv_Z_refusal v 323 w := by
  unfold xv_Z_refusal
  refine ⟨?_, trivial⟩
  simp [yxlt_d, yzi_323]
theorem yks_324 : xf_K_isOfS 324 = 1 := by simp [xf_K_isOfS]
theorem ykr_324 (u : XH) (w m : Int32) : xf_K_refusal u 324 w m = if m = 1 then -1 else if m = 0 then 2 else (if m = 3 then -1 else 22) := by
  unfold xf_K_refusal
  simp [yxlt_d, yks_324]
theorem yzr_324 (v : XZ) (w : Int32) : xf_Z_refusal v 324 w = if xg_Z_mode v = 1 then 0 else if xg_Z_mode v = 0 then 2 else (if xg_Z_mode v = 2 then 22 else 0) := by
  unfold xf_Z_refusal
  simp [yxlt_d, yzi_324]
theorem yzrv_324 (v : XZ) (w : Int32) : xv_Z_refusal v 324 w := by
  unfold xv_Z_refusal
  refine ⟨?_, trivial⟩
  simp [yxlt_d, yzi_324]
theorem yks_384 : xf_K_isOfS 384 = 1 := by simp [xf_K_isOfS]
theorem ykr_384 (u : XH) (w m : Int32) : xf_K_refusal u 384 w m = if m = 1 then -1 else if m = 0 then 2 else (if m = 3 then (if ybt (xg_K_hstatus u) 20 then 22 else -1) else 22) := by
  unfold xf_K_refusal
  simp [yxlt_d, yks_384, ypw_z (m := 1048576) (k := 20) ⟨by decide, by decide⟩]
  cases ybt (xg_K_hstatus u) 20 <;> simp
theorem yzr_384 (v : XZ) (w : Int32) : xf_Z_refusal v 384 w = if xg_Z_mode v = 1 then 0 else if xg_Z_mode v = 0 then 2 else (if xg_Z_mode v = 2 then 22 else if ybt (xf_Z_value v 1536) 20 then 22 else 0) := by
  unfold xf_Z_refusal
  simp [yxlt_d, yzi_384, yzbit _ 1536 20 20 (by decide) (by decide)]
  cases ybt (xf_Z_value v 1536) 20 <;> simp [xz]
theorem yzrv_384 (v : XZ) (w : Int32) : xv_Z_refusal v 384 w := by
  unfold xv_Z_refusal
  refine ⟨?_, trivial⟩
  simp [yxlt_d, yzi_384, yzvbit (yzvv_1536 v)]
theorem yks_512 : xf_K_isOfS 512 = 0 := by simp [xf_K_isOfS]
theorem yksv_512 : xf_K_isOfS (512 - 256) = 1 := by simp [xf_K_isOfS]
theorem ykr_512 (u : XH) (w m : Int32) : xf_K_refusal u 512 w m = if m = 1 then -1 else if m = 0 then 2 else 22 := by
  unfold xf_K_refusal
  simp [yxlt_d, yks_512, yks_256]
theorem yzr_512 (v : XZ) (w : Int32) : xf_Z_refusal v 512 w = if xg_Z_mode v = 1 then 0 else if xg_Z_mode v = 0 then 2 else 22 := by
  unfold xf_Z_refusal
  simp [yxlt_d, yzi_512]
theorem yzrv_512 (v : XZ) (w : Int32) : xv_Z_refusal v 512 w := by
  unfold xv_Z_refusal
  refine ⟨?_, trivial⟩
  simp [yxlt_d, yzi_512]
theorem yks_516 : xf_K_isOfS 516 = 0 := by simp [xf_K_isOfS]
theorem yksv_516 : xf_K_isOfS (516 - 256) = 1 := by simp [xf_K_isOfS]
theorem ykr_516 (u : XH) (w m : Int32) : xf_K_refusal u 516 w m = if m = 1 then -1 else if m = 0 then 2 else 22 := by
  unfold xf_K_refusal
  simp [yxlt_d, yks_516, yks_260]
theorem yzr_516 (v : XZ) (w : Int32) : xf_Z_refusal v 516 w = if xg_Z_mode v = 1 then 0 else if xg_Z_mode v = 0 then 2 else 22 := by
  unfold xf_Z_refusal
  simp [yxlt_d, yzi_516]
theorem yzrv_516 (v : XZ) (w : Int32) : xv_Z_refusal v 516 w := by
  unfold xv_Z_refusal
  refine ⟨?_, trivial⟩
  simp [yxlt_d, yzi_516]
theorem yks_517 : xf_K_isOfS 517 = 0 := by simp [xf_K_isOfS]
theorem yksv_517 : xf_K_isOfS (517 - 256) = 1 := by simp [xf_K_isOfS]
theorem ykr_517 (u : XH) (w m : Int32) : xf_K_refusal u 517 w m = if m = 1 then -1 else if m = 0 then 2 else 22 := by
  unfold xf_K_refusal
  simp [yxlt_d, yks_517, yks_261]
theorem yzr_517 (v : XZ) (w : Int32) : xf_Z_refusal v 517 w = if xg_Z_mode v = 1 then 0 else if xg_Z_mode v = 0 then 2 else 22 := by
  unfold xf_Z_refusal
  simp [yxlt_d, yzi_517]
theorem yzrv_517 (v : XZ) (w : Int32) : xv_Z_refusal v 517 w := by
  unfold xv_Z_refusal
  refine ⟨?_, trivial⟩
  simp [yxlt_d, yzi_517]
theorem yks_576 : xf_K_isOfS 576 = 0 := by simp [xf_K_isOfS]
theorem yksv_576 : xf_K_isOfS (576 - 256) = 1 := by simp [xf_K_isOfS]
theorem ykr_576 (u : XH) (w m : Int32) : xf_K_refusal u 576 w m = if m = 1 then -1 else if m = 0 then 2 else 22 := by
  unfold xf_K_refusal
  simp [yxlt_d, yks_576, yks_320]
theorem yzr_576 (v : XZ) (w : Int32) : xf_Z_refusal v 576 w = if xg_Z_mode v = 1 then 0 else if xg_Z_mode v = 0 then 2 else 22 := by
  unfold xf_Z_refusal
  simp [yxlt_d, yzi_576]
theorem yzrv_576 (v : XZ) (w : Int32) : xv_Z_refusal v 576 w := by
  unfold xv_Z_refusal
  refine ⟨?_, trivial⟩
  simp [yxlt_d, yzi_576]
theorem yks_577 : xf_K_isOfS 577 = 0 := by simp [xf_K_isOfS]
theorem yksv_577 : xf_K_isOfS (577 - 256) = 1 := by simp [xf_K_isOfS]
theorem ykr_577 (u : XH) (w m : Int32) : xf_K_refusal u 577 w m = if m = 1 then -1 else if m = 0 then 2 else 22 := by
  unfold xf_K_refusal
  simp [yxlt_d, yks_577, yks_321]
theorem yzr_577 (v : XZ) (w : Int32) : xf_Z_refusal v 577 w = if xg_Z_mode v = 1 then 0 else if xg_Z_mode v = 0 then 2 else 22 := by
  unfold xf_Z_refusal
  simp [yxlt_d, yzi_577]
theorem yzrv_577 (v : XZ) (w : Int32) : xv_Z_refusal v 577 w := by
  unfold xv_Z_refusal
  refine ⟨?_, trivial⟩
  simp [yxlt_d, yzi_577]
theorem yks_578 : xf_K_isOfS 578 = 0 := by simp [xf_K_isOfS]
theorem yksv_578 : xf_K_isOfS (578 - 256) = 1 := by simp [xf_K_isOfS]
theorem ykr_578 (u : XH) (w m : Int32) : xf_K_refusal u 578 w m = if m = 1 then -1 else if m = 0 then 2 else 22 := by
  unfold xf_K_refusal
  simp [yxlt_d, yks_578, yks_322]
theorem yzr_578 (v : XZ) (w : Int32) : xf_Z_refusal v 578 w = if xg_Z_mode v = 1 then 0 else if xg_Z_mode v = 0 then 2 else 22 := by
  unfold xf_Z_refusal
  simp [yxlt_d, yzi_578]
theorem yzrv_578 (v : XZ) (w : Int32) : xv_Z_refusal v 578 w := by
  unfold xv_Z_refusal
  refine ⟨?_, trivial⟩
  simp [yxlt_d, yzi_578]
theorem yks_579 : xf_K_isOfS 579 = 0 := by simp [xf_K_isOfS]
theorem yksv_579 : xf_K_isOfS (579 - 256) = 1 := by simp [xf_K_isOfS]
theorem ykr_579 (u : XH) (w m : Int32) : xf_K_refusal u 579 w m = if m = 1 then -1 else if m = 0 then 2 else 22 := by
  unfold xf_K_refusal
  simp [yxlt_d, yks_579, yks_323]
theorem yzr_579 (v : XZ) (w : Int32) : xf_Z_refusal v 579 w = if xg_Z_mode v = 1 then 0 else if xg_Z_mode v = 0 then 2 else 22 := by
  unfold xf_Z_refusal
  simp [yxlt_d, yzi_579]
theorem yzrv_579 (v : XZ) (w : Int32) : xv_Z_refusal v 579 w := by
  unfold xv_Z_refusal
  refine ⟨?_, trivial⟩
  simp [yxlt_d, yzi_579]
theorem yks_580 : xf_K_isOfS 580 = 0 := by simp [xf_K_isOfS]
theorem yksv_580 : xf_K_isOfS (580 - 256) = 1 := by simp [xf_K_isOfS]
theorem ykr_580 (u : XH) (w m : Int32) : xf_K_refusal u 580 w m = if m = 1 then -1 else if m = 0 then 2 else 22 := by
  unfold xf_K_refusal
  simp [yxlt_d, yks_580, yks_324]
theorem yzr_580 (v : XZ) (w : Int32) : xf_Z_refusal v 580 w = if xg_Z_mode v = 1 then 0 else if xg_Z_mode v = 0 then 2 else 22 := by
  unfold xf_Z_refusal
  simp [yxlt_d, yzi_580]
theorem yzrv_580 (v : XZ) (w : Int32) : xv_Z_refusal v 580 w := by
  unfold xv_Z_refusal
  refine ⟨?_, trivial⟩
  simp [yxlt_d, yzi_580]
theorem yks_640 : xf_K_isOfS 640 = 0 := by simp [xf_K_isOfS]
theorem yksv_640 : xf_K_isOfS (640 - 256) = 1 := by simp [xf_K_isOfS]
theorem ykr_640 (u : XH) (w m : Int32) : xf_K_refusal u 640 w m = if m = 1 then -1 else if m = 0 then 2 else 22 := by
  unfold xf_K_refusal
  simp [yxlt_d, yks_640, yks_384]
theorem yzr_640 (v : XZ) (w : Int32) : xf_Z_refusal v 640 w = if xg_Z_mode v = 1 then 0 else if xg_Z_mode v = 0 then 2 else 22 := by
  unfold xf_Z_refusal
  simp [yxlt_d, yzi_640]
theorem yzrv_640 (v : XZ) (w : Int32) : xv_Z_refusal v 640 w := by
  unfold xv_Z_refusal
  refine ⟨?_, trivial⟩
  simp [yxlt_d, yzi_640]
theorem yks_1536 : xf_K_isOfS 1536 = 0 := by simp [xf_K_isOfS]
theorem yksv_1536 : xf_K_isOfS (1536 - 256) = 0 := by simp [xf_K_isOfS]
theorem ykh_1536 : xf_K_isOfH 1536 = 1 := by simp [xf_K_isOfH]
theorem ykr_1536 (u : XH) (w m : Int32) : xf_K_refusal u 1536 w m = if m = 1 then -1 else if m = 0 then 2 else 22 := by
  unfold xf_K_refusal
  simp [yxlt_d, yks_1536, ykh_1536]
theorem yzr_1536 (v : XZ) (w : Int32) : xf_Z_refusal v 1536 w = if xg_Z_mode v = 1 then 0 else if xg_Z_mode v = 0 then 2 else 22 := by
  unfold xf_Z_refusal
  simp [yxlt_d, yzi_1536]
theorem yzrv_1536 (v : XZ) (w : Int32) : xv_Z_refusal v 1536 w := by
  unfold xv_Z_refusal
  refine ⟨?_, trivial⟩
  simp [yxlt_d, yzi_1536]
theorem yks_1538 : xf_K_isOfS 1538 = 0 := by simp [xf_K_isOfS]
theorem yksv_1538 : xf_K_isOfS (1538 - 256) = 0 := by simp [xf_K_isOfS]
theorem ykh_1538 : xf_K_isOfH 1538 = 1 := by simp [xf_K_isOfH]
theorem ykr_1538 (u : XH) (w m : Int32) : xf_K_refusal u 1538 w m = if m = 1 then -1 else if m = 0 then 2 else 22 := by
  unfold xf_K_refusal
  simp [yxlt_d, yks_1538, ykh_1538]
theorem yzr_1538 (v : XZ) (w : Int32) : xf_Z_refusal v 1538 w = if xg_Z_mode v = 1 then 0 else if xg_Z_mode v = 0 then 2 else 22 := by
  unfold xf_Z_refusal
  simp [yxlt_d, yzi_1538]
theorem yzrv_1538 (v : XZ) (w : Int32) : xv_Z_refusal v 1538 w := by
  unfold xv_Z_refusal
  refine ⟨?_, trivial⟩
  simp [yxlt_d, yzi_1538]
theorem yks_1539 : xf_K_isOfS 1539 = 0 := by simp [xf_K_isOfS]
theorem yksv_1539 : xf_K_isOfS (1539 - 256) = 0 := by simp [xf_K_isOfS]
theorem ykh_1539 : xf_K_isOfH 1539 = 1 := by simp [xf_K_isOfH]
theorem ykr_1539 (u : XH) (w m : Int32) : xf_K_refusal u 1539 w m = if m = 1 then -1 else if m = 0 then 2 else 22 := by
  unfold xf_K_refusal
  simp [yxlt_d, yks_1539, ykh_1539]
theorem yzr_1539 (v : XZ) (w : Int32) : xf_Z_refusal v 1539 w = if xg_Z_mode v = 1 then 0 else if xg_Z_mode v = 0 then 2 else 22 := by
  unfold xf_Z_refusal
  simp [yxlt_d, yzi_1539]
theorem yzrv_1539 (v : XZ) (w : Int32) : xv_Z_refusal v 1539 w := by
  unfold xv_Z_refusal
  refine ⟨?_, trivial⟩
  simp [yxlt_d, yzi_1539]
theorem yks_1540 : xf_K_isOfS 1540 = 0 := by simp [xf_K_isOfS]
theorem yksv_1540 : xf_K_isOfS (1540 - 256) = 0 := by simp [xf_K_isOfS]
theorem ykh_1540 : xf_K_isOfH 1540 = 1 := by simp [xf_K_isOfH]
theorem ykr_1540 (u : XH) (w m : Int32) : xf_K_refusal u 1540 w m = if m = 1 then -1 else if m = 0 then 2 else 22 := by
  unfold xf_K_refusal
  simp [yxlt_d, yks_1540, ykh_1540]
theorem yzr_1540 (v : XZ) (w : Int32) : xf_Z_refusal v 1540 w = if xg_Z_mode v = 1 then 0 else if xg_Z_mode v = 0 then 2 else 22 := by
  unfold xf_Z_refusal
  simp [yxlt_d, yzi_1540]
theorem yzrv_1540 (v : XZ) (w : Int32) : xv_Z_refusal v 1540 w := by
  unfold xv_Z_refusal
  refine ⟨?_, trivial⟩
  simp [yxlt_d, yzi_1540]
theorem yks_1603 : xf_K_isOfS 1603 = 0 := by simp [xf_K_isOfS]
theorem yksv_1603 : xf_K_isOfS (1603 - 256) = 0 := by simp [xf_K_isOfS]
theorem ykh_1603 : xf_K_isOfH 1603 = 1 := by simp [xf_K_isOfH]
theorem ykr_1603 (u : XH) (w m : Int32) : xf_K_refusal u 1603 w m = if m = 1 then -1 else if m = 0 then 2 else 22 := by
  unfold xf_K_refusal
  simp [yxlt_d, yks_1603, ykh_1603]
theorem yzr_1603 (v : XZ) (w : Int32) : xf_Z_refusal v 1603 w = if xg_Z_mode v = 1 then 0 else if xg_Z_mode v = 0 then 2 else 22 := by
  unfold xf_Z_refusal
  simp [yxlt_d, yzi_1603]
theorem yzrv_1603 (v : XZ) (w : Int32) : xv_Z_refusal v 1603 w := by
  unfold xv_Z_refusal
  refine ⟨?_, trivial⟩
  simp [yxlt_d, yzi_1603]
theorem yks_1604 : xf_K_isOfS 1604 = 0 := by simp [xf_K_isOfS]
theorem yksv_1604 : xf_K_isOfS (1604 - 256) = 0 := by simp [xf_K_isOfS]
theorem ykh_1604 : xf_K_isOfH 1604 = 1 := by simp [xf_K_isOfH]
theorem ykr_1604 (u : XH) (w m : Int32) : xf_K_refusal u 1604 w m = if m = 1 then -1 else if m = 0 then 2 else 22 := by
  unfold xf_K_refusal
  simp [yxlt_d, yks_1604, ykh_1604]
theorem yzr_1604 (v : XZ) (w : Int32) : xf_Z_refusal v 1604 w = if xg_Z_mode v = 1 then 0 else if xg_Z_mode v = 0 then 2 else 22 := by
  unfold xf_Z_refusal
  simp [yxlt_d, yzi_1604]
theorem yzrv_1604 (v : XZ) (w : Int32) : xv_Z_refusal v 1604 w := by
  unfold xv_Z_refusal
  refine ⟨?_, trivial⟩
  simp [yxlt_d, yzi_1604]
theorem yks_1605 : xf_K_isOfS 1605 = 0 := by simp [xf_K_isOfS]
theorem yksv_1605 : xf_K_isOfS (1605 - 256) = 0 := by simp [xf_K_isOfS]
theorem ykh_1605 : xf_K_isOfH 1605 = 1 := by simp [xf_K_isOfH]
theorem ykr_1605 (u : XH) (w m : Int32) : xf_K_refusal u 1605 w m = if m = 1 then -1 else if m = 0 then 2 else 22 := by
  unfold xf_K_refusal
  simp [yxlt_d, yks_1605, ykh_1605]
theorem yzr_1605 (v : XZ) (w : Int32) : xf_Z_refusal v 1605 w = if xg_Z_mode v = 1 then 0 else if xg_Z_mode v = 0 then 2 else 22 := by
  unfold xf_Z_refusal
  simp [yxlt_d, yzi_1605]
theorem yzrv_1605 (v : XZ) (w : Int32) : xv_Z_refusal v 1605 w := by
  unfold xv_Z_refusal
  refine ⟨?_, trivial⟩
  simp [yxlt_d, yzi_1605]
theorem yks_1610 : xf_K_isOfS 1610 = 0 := by simp [xf_K_isOfS]
theorem yksv_1610 : xf_K_isOfS (1610 - 256) = 0 := by simp [xf_K_isOfS]
theorem ykh_1610 : xf_K_isOfH 1610 = 1 := by simp [xf_K_isOfH]
theorem ykr_1610 (u : XH) (w m : Int32) : xf_K_refusal u 1610 w m = if m = 1 then -1 else if m = 0 then 2 else 22 := by
  unfold xf_K_refusal
  simp [yxlt_d, yks_1610, ykh_1610]
theorem yzr_1610 (v : XZ) (w : Int32) : xf_Z_refusal v 1610 w = if xg_Z_mode v = 1 then 0 else if xg_Z_mode v = 0 then 2 else 22 := by
  unfold xf_Z_refusal
  simp [yxlt_d, yzi_1610]
theorem yzrv_1610 (v : XZ) (w : Int32) : xv_Z_refusal v 1610 w := by
  unfold xv_Z_refusal
  refine ⟨?_, trivial⟩
  simp [yxlt_d, yzi_1610]
theorem yks_1664 : xf_K_isOfS 1664 = 0 := by simp [xf_K_isOfS]
theorem yksv_1664 : xf_K_isOfS (1664 - 256) = 0 := by simp [xf_K_isOfS]
theorem ykh_1664 : xf_K_isOfH 1664 = 1 := by simp [xf_K_isOfH]
theorem ykr_1664 (u : XH) (w m : Int32) : xf_K_refusal u 1664 w m = if m = 1 then -1 else if m = 0 then 2 else 22 := by
  unfold xf_K_refusal
  simp [yxlt_d, yks_1664, ykh_1664]
theorem yzr_1664 (v : XZ) (w : Int32) : xf_Z_refusal v 1664 w = if xg_Z_mode v = 1 then 0 else if xg_Z_mode v = 0 then 2 else 22 := by
  unfold xf_Z_refusal
  simp [yxlt_d, yzi_1664]
theorem yzrv_1664 (v : XZ) (w : Int32) : xv_Z_refusal v 1664 w := by
  unfold xv_Z_refusal
  refine ⟨?_, trivial⟩
  simp [yxlt_d, yzi_1664]
theorem yks_3073 : xf_K_isOfS 3073 = 0 := by simp [xf_K_isOfS]
theorem yksv_3073 : xf_K_isOfS (3073 - 256) = 0 := by simp [xf_K_isOfS]
theorem ykr_3073 (u : XH) (w m : Int32) : xf_K_refusal u 3073 w m = if w = 0 then -1 else 2 := by
  unfold xf_K_refusal
  simp [yxlt_d]
theorem yzr_3073 (v : XZ) (w : Int32) : xf_Z_refusal v 3073 w = if w = 0 then 0 else 2 := by
  unfold xf_Z_refusal
  simp [yxlt_d, yzi_3073]
theorem yzrv_3073 (v : XZ) (w : Int32) : xv_Z_refusal v 3073 w := by
  unfold xv_Z_refusal
  refine ⟨?_, trivial⟩
  simp [yxlt_d, yzi_3073]
theorem yks_3201 : xf_K_isOfS 3201 = 0 := by simp [xf_K_isOfS]
theorem yksv_3201 : xf_K_isOfS (3201 - 256) = 0 := by simp [xf_K_isOfS]
theorem ykr_3201 (u : XH) (w m : Int32) : xf_K_refusal u 3201 w m = if w = 0 then -1 else 2 := by
  unfold xf_K_refusal
  simp [yxlt_d]
theorem yzr_3201 (v : XZ) (w : Int32) : xf_Z_refusal v 3201 w = if w = 0 then 0 else 2 := by
  unfold xf_Z_refusal
  simp [yxlt_d, yzi_3201]
theorem yzrv_3201 (v : XZ) (w : Int32) : xv_Z_refusal v 3201 w := by
  unfold xv_Z_refusal
  refine ⟨?_, trivial⟩
  simp [yxlt_d, yzi_3201]
theorem yk_none {n : Int32} (h : xf_Z_indexOf n < 0) : xf_K_isOfS n = 0 ∧ xf_K_isOfS (n - 256) = 0 ∧ xf_K_isOfH n = 0 := by
  have h2 := yzi_none h
  obtain ⟨h256, h260, h261, h320, h321, h322, h323, h324, h384, h512, h516, h517, h576, h577, h578, h579, h580, h640, h1536, h1538, h1539, h1540, h1603, h1604, h1605, h1610, h1664, h3073, h3201⟩ := h2
  have sb : ∀ a b : Int32, a - 256 = b → a = b + 256 := by intro a b hh; rw [← hh, Int32.sub_add_cancel]
  refine ⟨by simp [xf_K_isOfS, h256, h260, h261, h320, h321, h322, h323, h324, h384], ?_, by simp [xf_K_isOfH, h1536, h1538, h1539, h1540, h1603, h1604, h1605, h1610, h1664]⟩
  unfold xf_K_isOfS
  rw [if_neg (fun hh => h512 (sb n _ hh)), if_neg (fun hh => h516 (sb n _ hh)), if_neg (fun hh => h517 (sb n _ hh)), if_neg (fun hh => h576 (sb n _ hh)), if_neg (fun hh => h577 (sb n _ hh)), if_neg (fun hh => h578 (sb n _ hh)), if_neg (fun hh => h579 (sb n _ hh)), if_neg (fun hh => h580 (sb n _ hh)), if_neg (fun hh => h640 (sb n _ hh))]
theorem ykr_none {n : Int32} (h : xf_Z_indexOf n < 0) (u : XH) (w m : Int32) : xf_K_refusal u n w m = 2 := by
  obtain ⟨h1, h2, h3⟩ := yk_none h
  have h4 := yzi_none h
  obtain ⟨h256, h260, h261, h320, h321, h322, h323, h324, h384, h512, h516, h517, h576, h577, h578, h579, h580, h640, h1536, h1538, h1539, h1540, h1603, h1604, h1605, h1610, h1664, h3073, h3201⟩ := h4
  unfold xf_K_refusal
  simp [yxlt_d, h1, h2, h3, h3073, h3201]
theorem yzr_none {n : Int32} (h : xf_Z_indexOf n < 0) (v : XZ) (w : Int32) : xf_Z_refusal v n w = 2 := by
  unfold xf_Z_refusal
  rw [yxlt_d, yxlt_d, if_pos h]
theorem yzrv_none {n : Int32} (h : xf_Z_indexOf n < 0) (v : XZ) (w : Int32) : xv_Z_refusal v n w := by
  unfold xv_Z_refusal
  refine ⟨?_, trivial⟩
  rw [yxlt_d, yxlt_d, if_pos h]
  trivial
theorem yzr_all {u : XH} (hi : yxInv u) (c : XZ) (n w : Int32) : xf_K_refusal u n w (xg_C_mode u) = (if xf_Z_refusal (yxZof u c) n w = 0 then -1 else xf_Z_refusal (yxZof u c) n w) ∧ (xf_Z_refusal (yxZof u c) n w = 0 ∨ xf_Z_refusal (yxZof u c) n w = 2 ∨ xf_Z_refusal (yxZof u c) n w = 22) := by
  by_cases hn : xf_Z_indexOf n < 0
  · rw [ykr_none hn, yzr_none hn]; exact ⟨by decide, by decide⟩
  have hm := hi.1
  rcases yzi_cases hn with h | h | h | h | h | h | h | h | h | h | h | h | h | h | h | h | h | h | h | h | h | h | h | h | h | h | h | h | h <;> subst h
  · rw [ykr_256, yzr_256, yzg_mode]; rcases hm with h | h | h | h <;> rw [h] <;> simp
  · rw [ykr_260, yzr_260, yzg_mode]; rcases hm with h | h | h | h <;> rw [h] <;> simp
  · rw [ykr_261, yzr_261, yzg_mode]; rcases hm with h | h | h | h <;> rw [h] <;> simp
  · rw [ykr_320, yzr_320, yzg_mode]; rcases hm with h | h | h | h <;> rw [h] <;> simp
  · rw [ykr_321, yzr_321, yzg_mode]; rcases hm with h | h | h | h <;> rw [h] <;> simp
  · rw [ykr_322, yzr_322, yzg_mode]; rcases hm with h | h | h | h <;> rw [h] <;> simp
  · rw [ykr_323, yzr_323, yzg_mode]; rcases hm with h | h | h | h <;> rw [h] <;> simp
  · rw [ykr_324, yzr_324, yzg_mode]; rcases hm with h | h | h | h <;> rw [h] <;> simp
  · rw [ykr_384, yzr_384, yzv_1536, yzg_mode]; rcases hm with h | h | h | h <;> rw [h] <;> cases ybt (xg_K_hstatus u) 20 <;> simp
  · rw [ykr_512, yzr_512, yzg_mode]; rcases hm with h | h | h | h <;> rw [h] <;> simp
  · rw [ykr_516, yzr_516, yzg_mode]; rcases hm with h | h | h | h <;> rw [h] <;> simp
  · rw [ykr_517, yzr_517, yzg_mode]; rcases hm with h | h | h | h <;> rw [h] <;> simp
  · rw [ykr_576, yzr_576, yzg_mode]; rcases hm with h | h | h | h <;> rw [h] <;> simp
  · rw [ykr_577, yzr_577, yzg_mode]; rcases hm with h | h | h | h <;> rw [h] <;> simp
  · rw [ykr_578, yzr_578, yzg_mode]; rcases hm with h | h | h | h <;> rw [h] <;> simp
  · rw [ykr_579, yzr_579, yzg_mode]; rcases hm with h | h | h | h <;> rw [h] <;> simp
  · rw [ykr_580, yzr_580, yzg_mode]; rcases hm with h | h | h | h <;> rw [h] <;> simp
  · rw [ykr_640, yzr_640, yzg_mode]; rcases hm with h | h | h | h <;> rw [h] <;> simp
  · rw [ykr_1536, yzr_1536, yzg_mode]; rcases hm with h | h | h | h <;> rw [h] <;> simp
  · rw [ykr_1538, yzr_1538, yzg_mode]; rcases hm with h | h | h | h <;> rw [h] <;> simp
  · rw [ykr_1539, yzr_1539, yzg_mode]; rcases hm with h | h | h | h <;> rw [h] <;> simp
  · rw [ykr_1540, yzr_1540, yzg_mode]; rcases hm with h | h | h | h <;> rw [h] <;> simp
  · rw [ykr_1603, yzr_1603, yzg_mode]; rcases hm with h | h | h | h <;> rw [h] <;> simp
  · rw [ykr_1604, yzr_1604, yzg_mode]; rcases hm with h | h | h | h <;> rw [h] <;> simp
  · rw [ykr_1605, yzr_1605, yzg_mode]; rcases hm with h | h | h | h <;> rw [h] <;> simp
  · rw [ykr_1610, yzr_1610, yzg_mode]; rcases hm with h | h | h | h <;> rw [h] <;> simp
  · rw [ykr_1664, yzr_1664, yzg_mode]; rcases hm with h | h | h | h <;> rw [h] <;> simp
  · rw [ykr_3073, yzr_3073]; by_cases e : w = 0 <;> simp [e]
  · rw [ykr_3201, yzr_3201]; by_cases e : w = 0 <;> simp [e]
theorem yzrv_all (v : XZ) (n w : Int32) : xv_Z_refusal v n w := by
  by_cases hn : xf_Z_indexOf n < 0
  · exact yzrv_none hn v w
  rcases yzi_cases hn with h | h | h | h | h | h | h | h | h | h | h | h | h | h | h | h | h | h | h | h | h | h | h | h | h | h | h | h | h <;> subst h
  · exact yzrv_256 v w
  · exact yzrv_260 v w
  · exact yzrv_261 v w
  · exact yzrv_320 v w
  · exact yzrv_321 v w
  · exact yzrv_322 v w
  · exact yzrv_323 v w
  · exact yzrv_324 v w
  · exact yzrv_384 v w
  · exact yzrv_512 v w
  · exact yzrv_516 v w
  · exact yzrv_517 v w
  · exact yzrv_576 v w
  · exact yzrv_577 v w
  · exact yzrv_578 v w
  · exact yzrv_579 v w
  · exact yzrv_580 v w
  · exact yzrv_640 v w
  · exact yzrv_1536 v w
  · exact yzrv_1538 v w
  · exact yzrv_1539 v w
  · exact yzrv_1540 v w
  · exact yzrv_1603 v w
  · exact yzrv_1604 v w
  · exact yzrv_1605 v w
  · exact yzrv_1610 v w
  · exact yzrv_1664 v w
  · exact yzrv_3073 v w
  · exact yzrv_3201 v w
theorem ykr1_all (u : XH) (n : Int32) : (xf_K_refusal u n 1 1 = -1) ↔ (¬ xf_Z_indexOf n < 0 ∧ ¬ n = 3073 ∧ ¬ n = 3201) := by
  by_cases hn : xf_Z_indexOf n < 0
  · rw [ykr_none hn]; simp [hn]
  rcases yzi_cases hn with h | h | h | h | h | h | h | h | h | h | h | h | h | h | h | h | h | h | h | h | h | h | h | h | h | h | h | h | h <;> subst h
  · rw [ykr_256]; simp [yzi_256]
  · rw [ykr_260]; simp [yzi_260]
  · rw [ykr_261]; simp [yzi_261]
  · rw [ykr_320]; simp [yzi_320]
  · rw [ykr_321]; simp [yzi_321]
  · rw [ykr_322]; simp [yzi_322]
  · rw [ykr_323]; simp [yzi_323]
  · rw [ykr_324]; simp [yzi_324]
  · rw [ykr_384]; simp [yzi_384]
  · rw [ykr_512]; simp [yzi_512]
  · rw [ykr_516]; simp [yzi_516]
  · rw [ykr_517]; simp [yzi_517]
  · rw [ykr_576]; simp [yzi_576]
  · rw [ykr_577]; simp [yzi_577]
  · rw [ykr_578]; simp [yzi_578]
  · rw [ykr_579]; simp [yzi_579]
  · rw [ykr_580]; simp [yzi_580]
  · rw [ykr_640]; simp [yzi_640]
  · rw [ykr_1536]; simp [yzi_1536]
  · rw [ykr_1538]; simp [yzi_1538]
  · rw [ykr_1539]; simp [yzi_1539]
  · rw [ykr_1540]; simp [yzi_1540]
  · rw [ykr_1603]; simp [yzi_1603]
  · rw [ykr_1604]; simp [yzi_1604]
  · rw [ykr_1605]; simp [yzi_1605]
  · rw [ykr_1610]; simp [yzi_1610]
  · rw [ykr_1664]; simp [yzi_1664]
  · rw [ykr_3073]; simp [yzi_3073]
  · rw [ykr_3201]; simp [yzi_3201]
