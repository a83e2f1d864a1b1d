abbrev yll (n : Nat) : Int64 := Int64.ofNat n
theorem yll_bv (n : Nat) : (yll n).toBitVec = BitVec.ofNat 64 n := rfl
theorem yll_tn {n : Nat} (h : n < 18446744073709551616) : (yll n).toBitVec.toNat = n := by
  rw [yll_bv, BitVec.toNat_ofNat]; exact Nat.mod_eq_of_lt h
theorem yll_ext {a b : Int64} (h : a.toBitVec.toNat = b.toBitVec.toNat) : a = b := Int64.toBitVec_inj.mp (BitVec.eq_of_toNat_eq h)
theorem yll_of (a : Int64) : a = yll a.toBitVec.toNat := yll_ext (by rw [yll_tn a.toBitVec.isLt])
theorem yll_toInt {n : Nat} (h : n < 9223372036854775808) : (yll n).toInt = (n : Int) := by
  show (yll n).toBitVec.toInt = _
  rw [BitVec.toInt_eq_toNat_of_lt (by rw [yll_tn (by omega)]; omega), yll_tn (by omega)]
theorem yll_add (a b : Nat) : yll a + yll b = yll (a + b) := by
  apply Int64.toBitVec_inj.mp
  rw [Int64.toBitVec_add, yll_bv, yll_bv, yll_bv, BitVec.ofNat_add]
theorem yll_mul (a b : Nat) : yll a * yll b = yll (a * b) := by
  apply Int64.toBitVec_inj.mp
  rw [Int64.toBitVec_mul, yll_bv, yll_bv, yll_bv, BitVec.ofNat_mul]
theorem yll_and (a : Nat) (k : Nat) (ha : a < 18446744073709551616) (hk : k < 64) : yll a &&& yll (2 ^ k - 1) = yll (a % 2 ^ k) := by
  have hp : 2 ^ k - 1 < 18446744073709551616 := by
    have : 2 ^ k < 2 ^ 64 := Nat.pow_lt_pow_right (by decide) hk
    omega
  have hq : a % 2 ^ k ≤ a := Nat.mod_le _ _
  apply yll_ext
  rw [Int64.toBitVec_and, BitVec.toNat_and, yll_tn ha, yll_tn hp, Nat.and_two_pow_sub_one_eq_mod, yll_tn (by omega)]
theorem yll_xul {a : Nat} (s : Int32) (k : Nat) (hs : ((s.toInt64.toUInt64 &&& Int64.toUInt64 63).toBitVec % 64).toNat = k) (ha : a < 18446744073709551616) : xul (yll a) s = yll (a / 2 ^ k) := by
  have hq : a / 2 ^ k ≤ a := Nat.div_le_self _ _
  apply yll_ext
  unfold xul
  show (((yll a).toUInt64 >>> (s.toInt64.toUInt64 &&& Int64.toUInt64 63)).toBitVec).toNat = _
  rw [UInt64.toBitVec_shiftRight, BitVec.ushiftRight_eq', hs, BitVec.toNat_ushiftRight, Nat.shiftRight_eq_div_pow, yll_tn (by omega)]
  show (yll a).toBitVec.toNat / _ = _
  rw [yll_tn ha]
theorem yll_sar {a : Nat} (s : Int64) (k : Nat) (hs : (s.toBitVec.smod 64).toNat = k) (ha : a < 9223372036854775808) : yll a >>> s = yll (a / 2 ^ k) := by
  have hq : a / 2 ^ k ≤ a := Nat.div_le_self _ _
  apply yll_ext
  rw [Int64.toBitVec_shiftRight, BitVec.sshiftRight', hs, BitVec.sshiftRight_eq_of_msb_false, BitVec.toNat_ushiftRight, Nat.shiftRight_eq_div_pow, yll_tn (by omega), yll_tn (by omega)]
  rw [BitVec.msb_eq_false_iff_two_mul_lt, yll_tn (by omega)]; omega
theorem yll_shl {a : Nat} (s : Int64) (k : Nat) (hs : (s.toBitVec.smod 64).toNat = k) : yll a <<< s = yll (a * 2 ^ k) := by
  apply yll_ext
  rw [Int64.toBitVec_shiftLeft, BitVec.shiftLeft_eq', hs, BitVec.toNat_shiftLeft, Nat.shiftLeft_eq, yll_bv, BitVec.toNat_ofNat, yll_bv, BitVec.toNat_ofNat]
  rw [Nat.mod_mul_mod]
theorem yll_div {a b : Nat} (ha : a < 9223372036854775808) (hb : 0 < b) (hb2 : b < 9223372036854775808) : yll a / yll b = yll (a / b) := by
  have hq : a / b ≤ a := Nat.div_le_self _ _
  apply Int64.toInt_inj.mp
  rw [Int64.toInt_div, yll_toInt ha, yll_toInt hb2, yll_toInt (by omega)]
  rw [Int.tdiv_eq_ediv_of_nonneg (by omega)]
  rw [Int.bmod_eq_of_le]
  · rfl
  · have : (0 : Int) ≤ (a : Int) / (b : Int) := Int.ediv_nonneg (by omega) (by omega)
    omega
  · have : ((a / b : Nat) : Int) = (a : Int) / (b : Int) := by simp
    omega
theorem yll_or {a b k : Nat} (hb : b < 2 ^ k) (h : a * 2 ^ k + b < 18446744073709551616) : yll (a * 2 ^ k) ||| yll b = yll (a * 2 ^ k + b) := by
  apply yll_ext
  rw [Int64.toBitVec_or, BitVec.toNat_or, yll_tn (by omega), yll_tn (by omega), yll_tn h]
  rw [Nat.mul_comm a, Nat.two_pow_add_eq_or_of_lt hb]
theorem yll_lt {a b : Nat} (ha : a < 9223372036854775808) (hb : b < 9223372036854775808) : yll a < yll b ↔ a < b := by
  rw [Int64.lt_iff_toInt_lt, yll_toInt ha, yll_toInt hb]; omega
theorem yll_le {a b : Nat} (ha : a < 9223372036854775808) (hb : b < 9223372036854775808) : yll a ≤ yll b ↔ a ≤ b := by
  rw [Int64.le_iff_toInt_le, yll_toInt ha, yll_toInt hb]; omega
theorem yll_eq {a b : Nat} (ha : a < 9223372036854775808) (hb : b < 9223372036854775808) : yll a = yll b ↔ a = b := by
  rw [← Int64.toInt_inj, yll_toInt ha, yll_toInt hb]; omega
theorem yll_i32 (n : Nat) : (Int64.toInt32 (yll n)).toBitVec.toNat = n % 4294967296 := by
  rw [Int64.toBitVec_toInt32, yll_bv]
  rw [BitVec.signExtend_eq_setWidth_of_le _ (by decide), BitVec.toNat_setWidth, BitVec.toNat_ofNat]
  omega
theorem yi64_pos {x : Int32} {n : Nat} (h : x.toBitVec.toNat = n) (hn : n < 2147483648) : Int32.toInt64 x = yll n := by
  apply Int64.toInt_inj.mp
  rw [Int32.toInt_toInt64, ytoInt_tn x (by omega), h, yll_toInt (by omega)]
theorem yi64_lo (x : Int32) : (Int32.toInt64 x) &&& 4294967295 = yll x.toBitVec.toNat := by
  apply Int64.toBitVec_inj.mp
  apply BitVec.eq_of_getLsbD_eq
  intro i hi
  have hx := x.toBitVec.isLt
  rw [Int64.toBitVec_and, BitVec.getLsbD_and, Int32.toBitVec_toInt64, BitVec.getLsbD_signExtend, yll_bv, BitVec.getLsbD_ofNat]
  have e : ∀ i, i < 64 → (Int64.toBitVec 4294967295).getLsbD i = decide (i < 32) := by decide +kernel
  rw [e i hi]
  by_cases h : i < 32
  · simp [h, hi, BitVec.getLsbD]
  · have : x.toBitVec.toNat.testBit i = false := Nat.testBit_lt_two_pow (Nat.lt_of_lt_of_le hx (Nat.pow_le_pow_right (by decide) (by omega)))
    simp [h, this]
abbrev ynn (x : Int32) : Nat := x.toBitVec.toNat
theorem ynn_lt (e : Int32) : ynn e < 4294967296 := e.toBitVec.isLt
theorem yc12 : ((Int32.toInt64 12 &&& 63).toBitVec.smod 64).toNat = 12 := by decide
theorem yc22 : ((Int32.toInt64 22 &&& 63).toBitVec.smod 64).toNat = 22 := by decide
theorem yc10 : ((Int32.toInt64 10 &&& 63).toBitVec.smod 64).toNat = 10 := by decide
def ynFirst (atp : Int32) (A : Nat) : Nat := ynn atp % 4194304 * 4096 + 4 * (A / 4194304)
def ynNext (e : Int32) (A : Nat) : Nat := ynn e / 1024 * 4096 + 4 * (A / 4096 % 1024)
def ynRes (e : Int32) (lv A : Nat) : Nat := if lv = 0 then ynn e / 1024 * 4096 + A % 4194304 else ynn e / 1024 * 4096 + A % 4096
theorem yt_first (atp : Int32) {A : Nat} (hA : A < 17179869184) : xf_T_firstPlace atp (yll A) = yll (ynFirst atp A) := by
  unfold xf_T_firstPlace ynFirst
  have e : ynn (atp &&& 4194303) = ynn atp % 4194304 := yand_tn atp 4194303 22 (by decide)
  rw [yi64_pos e (by omega), yll_shl _ 12 yc12, yll_xul 22 22 (by decide) (by omega)]
  show yll _ + yll 4 * yll _ = _
  rw [yll_mul, yll_add]
theorem yt_next (e : Int32) {A : Nat} (hA : A < 17179869184) : xf_T_nextPlace e (yll A) = yll (ynNext e A) := by
  unfold xf_T_nextPlace ynNext
  have h := ynn_lt e
  have e1 : ynn (xus e 10) = ynn e / 1024 := yxus_tn e 10 10 (by decide)
  rw [yi64_pos e1 (by omega), yll_shl _ 12 yc12, yll_xul 12 12 (by decide) (by omega)]
  have e2 : yll (A / 2 ^ 12) &&& 1023 = yll (A / 4096 % 1024) := yll_and (A / 4096) 10 (by omega) (by decide)
  rw [e2]
  show yll _ + yll 4 * yll _ = _
  rw [yll_mul, yll_add]
theorem yt_res1 (e : Int32) {A : Nat} (hA : A < 17179869184) : xf_T_result e 1 (yll A) = yll (ynRes e 1 A) := by
  unfold xf_T_result ynRes
  have h := ynn_lt e
  have e1 : ynn (xus e 10) = ynn e / 1024 := yxus_tn e 10 10 (by decide)
  rw [yxlt_d, if_neg (by decide), if_neg (by decide), yi64_pos e1 (by omega), yll_shl _ 12 yc12]
  have e2 : yll A &&& Int32.toInt64 4095 = yll (A % 4096) := yll_and A 12 (by omega) (by decide)
  rw [e2]
  exact yll_or (k := 12) (by omega) (by omega)
theorem ylow0 (e : Int32) : e &&& 1047552 = 0 ↔ ynn e / 1024 % 1024 = 0 := by
  have e1 : ynn (xus e 10 &&& 1023) = ynn e / 1024 % 1024 := by rw [show ynn (xus e 10 &&& 1023) = ynn (xus e 10) % 1024 from yand_tn _ 1023 10 (by decide), show ynn (xus e 10) = ynn e / 1024 from yxus_tn e 10 10 (by decide)]
  rw [← e1]
  constructor
  · intro h
    have : xus e 10 &&& 1023 = 0 := by
      apply ybt_ext; intro i hi
      rw [ybt_and, ybt_xus e 10 10 (by decide), ybt0]
      have hb : ∀ i, i < 32 → ybt 1023 i = true → ybt 1047552 (10 + i) = true := by decide +kernel
      cases h1 : ybt 1023 i
      · simp
      · have h2 := congrArg (fun z => ybt z (10 + i)) h
        simp only [ybt_and, hb i hi h1, Bool.and_true, ybt0] at h2
        simp [h2]
    rw [this]; rfl
  · intro h
    have h0 : xus e 10 &&& 1023 = 0 := ytn_ext h
    apply ybt_ext; intro i hi
    rw [ybt_and, ybt0]
    have hb : ∀ i, i < 32 → ybt 1047552 i = true → 10 ≤ i ∧ ybt 1023 (i - 10) = true := by decide +kernel
    cases h1 : ybt 1047552 i
    · simp
    · obtain ⟨h3, h4⟩ := hb i hi h1
      have h2 := congrArg (fun z => ybt z (i - 10)) h0
      simp only [ybt_and, h4, Bool.and_true, ybt_xus e 10 10 (by decide), ybt0] at h2
      rw [show 10 + (i - 10) = i by omega] at h2
      simp [h2]
theorem yt_res0 (e : Int32) {A : Nat} (hA : A < 17179869184) (h0 : e &&& 1047552 = 0) : xf_T_result e 0 (yll A) = yll (ynRes e 0 A) := by
  unfold xf_T_result ynRes
  have h := ynn_lt e
  have hl := (ylow0 e).mp h0
  have e1 : ynn (xus e 10) = ynn e / 1024 := yxus_tn e 10 10 (by decide)
  rw [yxlt_d, if_pos rfl, if_pos rfl, yi64_pos e1 (by omega), yll_shl _ 12 yc12]
  have e2 : yll A &&& Int32.toInt64 4194303 = yll (A % 4194304) := yll_and A 22 (by omega) (by decide)
  rw [e2]
  have e3 : ynn e / 1024 * 2 ^ 12 = ynn e / 1048576 * 2 ^ 22 := by
    have : ynn e / 1024 = ynn e / 1048576 * 1024 := by
      have := Nat.div_add_mod (ynn e / 1024) 1024
      rw [Nat.div_div_eq_div_mul] at this
      omega
    rw [this]; omega
  rw [e3]
  exact yll_or (k := 22) (by omega) (by omega)
theorem yt_inMem {n : Nat} (h : n < 9223372036854775808) : xf_T_inMemory (yll n) = if n < 262144 then yll n else -3 := by
  unfold xf_T_inMemory
  have e : (0 ≤ lg_cmp (yll n) 262144) ↔ 262144 ≤ n := by
    rw [ylgc0]; exact yll_le (a := 262144) (by decide) h
  rw [yxlt_d]
  simp only [e]
  by_cases h1 : n < 262144
  · rw [if_pos h1, if_neg (by omega)]
  · rw [if_neg h1, if_pos (by omega)]
theorem yt_leaf (e : Int32) : xf_T_isLeaf e = 0 ↔ e &&& 14 = 0 := by
  unfold xf_T_isLeaf; rw [yxlt_d]; by_cases h : e &&& 14 = 0 <;> simp [h]
theorem yt_ptr (e : Int32) : xf_T_isPointer e = 0 ↔ ¬ e &&& 209 = 1 := by
  unfold xf_T_isPointer; rw [yxlt_d]; by_cases h : e &&& 209 = 1 <;> simp [h]
/-- the word of the memory that holds the byte n -/
def yrdM (u : XH) (n : Nat) : Int32 := (xg_M u).1.1 (n / 4096) (n / 4 % 1024)
theorem yt_rd (u : XH) {n : Nat} (h : n < 262144) : xf_M_readWord 64 (xg_M u).1 (Int64.toInt32 (yll n)) = (yrdM u n, (xg_M u).1) := by
  have e := yll_i32 n
  rw [Nat.mod_eq_of_lt (by omega)] at e
  rw [yrd64 _ e h]; rfl
/-- where a walk by tables of memory leads: below 0: -1 a fault, -3 outside -/
def yinN (n : Nat) : Int64 := if n < 262144 then yll n else -3
noncomputable def ywk (u : XH) (atp : Int32) (A : Nat) (ok : Int32 → Nat → Prop) [∀ e l, Decidable (ok e l)] : Int64 :=
  if atp < 0 then
    if ynFirst atp A < 262144 then
      if yrdM u (ynFirst atp A) &&& 14 = 0 then
        if yrdM u (ynFirst atp A) &&& 209 = 1 then
          if ynNext (yrdM u (ynFirst atp A)) A < 262144 then
            if yrdM u (ynNext (yrdM u (ynFirst atp A)) A) &&& 14 = 0 then -1
            else if ok (yrdM u (ynNext (yrdM u (ynFirst atp A)) A)) 1 then yinN (ynRes (yrdM u (ynNext (yrdM u (ynFirst atp A)) A)) 1 A) else -1
          else -3
        else -1
      else if ok (yrdM u (ynFirst atp A)) 0 then yinN (ynRes (yrdM u (ynFirst atp A)) 0 A) else -1
    else -3
  else yinN A
def yokC (any all none : Int32) (e : Int32) (l : Nat) : Prop := ¬ xf_T_allows e (if l = 0 then 0 else 1) any all none = 0
theorem yallows_low {e any all none : Int32} (h : ¬ xf_T_allows e 0 any all none = 0) : e &&& 1047552 = 0 := by
  unfold xf_T_allows at h
  simp only [yxlt_d] at h
  by_cases h1 : e &&& 6 = 4
  · simp [h1] at h
  · by_cases h2 : e &&& 1047552 = 0
    · exact h2
    · simp [h1, h2] at h
theorem ynFirst_lt (atp : Int32) {A : Nat} (hA : A < 17179869184) : ynFirst atp A < 9223372036854775808 := by unfold ynFirst; omega
theorem ynNext_lt (e : Int32) {A : Nat} (hA : A < 17179869184) : ynNext e A < 17179869184 := by unfold ynNext; have := ynn_lt e; omega
theorem ynRes_lt (e : Int32) (l : Nat) {A : Nat} (h : e &&& 1047552 = 0 ∨ ¬ l = 0) : ynRes e l A < 17179869184 := by
  unfold ynRes; have := ynn_lt e
  by_cases hl : l = 0
  · rw [if_pos hl]
    rcases h with h | h
    · have := (ylow0 e).mp h; omega
    · exact absurd hl h
  · rw [if_neg hl]; omega
theorem ycmpF {n : Nat} (h : n < 9223372036854775808) : (lg_cmp (yll n) (262144 : Int64) < 0) ↔ n < 262144 := by
  rw [ylgc]; exact yll_lt h (by decide)
set_option maxHeartbeats 1000000 in
theorem yt_walk (u : XH) (atp : Int32) {A : Nat} (hA : A < 17179869184) (any all none : Int32) [d : ∀ e l, Decidable (yokC any all none e l)] : xf_T_walk u atp (yll A) any all none = (ywk u atp A (yokC any all none), u) := by
  unfold xf_T_walk ywk
  by_cases h0 : atp < 0
  · rw [if_pos h0, if_pos h0, yxlt_d, yt_first atp hA]
    by_cases h1 : ynFirst atp A < 262144
    · rw [if_pos ((ycmpF (ynFirst_lt atp hA)).mpr h1), if_pos h1, yxlt_d, yt_rd u h1]
      simp only [yxsM1_self]
      generalize yrdM u (ynFirst atp A) = e
      rw [yxlt_d]
      by_cases h2 : e &&& 14 = 0
      · rw [if_pos ((yt_leaf e).mpr h2), if_pos h2, yxlt_d]
        by_cases h3 : e &&& 209 = 1
        · rw [if_neg (fun hh => (yt_ptr e).mp hh h3), if_pos h3, yxlt_d, yt_next e hA]
          by_cases h4 : ynNext e A < 262144
          · rw [if_pos ((ycmpF (by have := ynNext_lt e hA; omega)).mpr h4), if_pos h4, yxlt_d, yt_rd u h4]
            simp only [yxsM1_self]
            generalize yrdM u (ynNext e A) = e2
            rw [yxlt_d]
            by_cases h5 : e2 &&& 14 = 0
            · rw [if_pos ((yt_leaf e2).mpr h5), if_pos h5, yxlt_d, yxlt_d]
              by_cases h6 : xf_T_isPointer e2 = 0
              · rw [if_pos h6]
              · rw [if_neg h6]
            · rw [if_neg (fun hh => h5 ((yt_leaf e2).mp hh)), if_neg h5]
              simp only [yxlt_d]
              by_cases h6 : xf_T_allows e2 1 any all none = 0
              · rw [if_pos h6, if_neg (fun hh : yokC any all none e2 1 => hh h6)]
              · rw [if_neg h6, if_pos (show yokC any all none e2 1 from h6), yt_res1 e2 hA, yt_inMem (by have := ynRes_lt e2 1 (A := A) (Or.inr (by decide)); omega)]
                rfl
          · rw [if_neg (fun hh => h4 ((ycmpF (by have := ynNext_lt e hA; omega)).mp hh)), if_neg h4]
        · rw [if_pos ((yt_ptr e).mpr h3), if_neg h3]
      · rw [if_neg (fun hh => h2 ((yt_leaf e).mp hh)), if_neg h2]
        simp only [yxlt_d]
        by_cases h6 : xf_T_allows e 0 any all none = 0
        · rw [if_pos h6, if_neg (fun hh : yokC any all none e 0 => hh h6)]
        · rw [if_neg h6, if_pos (show yokC any all none e 0 from h6), yt_res0 e hA (yallows_low h6), yt_inMem (by have := ynRes_lt e 0 (A := A) (Or.inl (yallows_low h6)); omega)]
          rfl
    · rw [if_neg (fun hh => h1 ((ycmpF (ynFirst_lt atp hA)).mp hh)), if_neg h1]
  · rw [if_neg h0, if_neg h0, yxlt_d, yt_inMem (by omega)]
    rfl
theorem yz_fails (u : XH) (c : XZ) (a b g : Int32) : xf_Z_fails (yxZof u c) a b g = (0, yxZof u (xf_Z_fails c a b g).2) := by
  unfold xf_Z_fails
  rw [yzs_cause, yzs_wrong, yzs_ofGuest, yzs_far, yzs_ofEntry]
/-- what the reference notes of a place outside -/
noncomputable def ymf (c : XZ) : XZ := (xf_Z_fails c (if xg_Z_kind c = 0 then 1 else if xg_Z_kind c = 1 then 5 else 7) (xg_Z_address c) (xz (xg_Z_asGuest c))).2
/-- what it notes of a fault of a stage -/
noncomputable def ysf (c : XZ) (s : Int32) (a : Int64) (ent : Int32) : XZ := (xf_Z_stageFault c s a ent).2
theorem yz_sf (u : XH) (c : XZ) (s : Int32) (a : Int64) (ent : Int32) : xf_Z_stageFault (yxZof u c) s a ent = (-1, yxZof u (ysf c s a ent)) := by
  unfold ysf xf_Z_stageFault
  simp only [yxlt_d, yzg_kind, yzg_address, yzg_asGuest, yz_fails, yzs_far, yzs_ofEntry]
theorem yz_inMem (u : XH) (c : XZ) {n : Nat} (h : n < 9223372036854775808) : xf_Z_inMemory (yxZof u c) (yll n) = if n < 262144 then (yll n, yxZof u c) else (-1, yxZof u (ymf c)) := by
  unfold xf_Z_inMemory ymf
  have e : (0 ≤ lg_cmp (yll n) 262144) ↔ 262144 ≤ n := by
    rw [ylgc0]; exact yll_le (a := 262144) (by decide) h
  simp only [e, yxlt_d, yzg_kind, yzg_address, yzg_asGuest, yz_fails]
  by_cases h1 : n < 262144
  · rw [if_pos h1, if_neg (by omega)]
  · rw [if_neg h1, if_pos (by omega)]
theorem yw_idx {n : Nat} (h : n < 262144) : ynn (Int64.toInt32 (yll n / 4)) = n / 4 := by
  have e : yll n / 4 = yll (n / 4) := yll_div (b := 4) (by omega) (by decide) (by decide)
  rw [e]
  have := yll_i32 (n / 4)
  rw [Nat.mod_eq_of_lt (by omega)] at this
  exact this
theorem yz_word (u : XH) (c : XZ) {n : Nat} (h : n < 262144) : xf_Z_word (yxZof u c) (yll n) = yrdM u n := by
  unfold xf_Z_word
  have e : (Int64.toInt32 (yll n / 4)).toBitVec.toNat = n / 4 := yw_idx h
  rw [yclamp_tn _ (by rw [e]; omega), e]
  exact yzmem u c n
theorem yv_word (v : XZ) {n : Nat} (h : n < 262144) : xv_Z_word v (yll n) := ⟨⟨yvp_of (yw_idx h) (by omega) (by omega), trivial⟩, trivial⟩
theorem yv_fails (v : XZ) (a b : Int32) (g : Bool) : xv_Z_fails v a b (xz g) := ⟨⟨(by cases g; exact Or.inl rfl; exact Or.inr rfl), trivial⟩, trivial⟩
theorem yv_inMem (v : XZ) (a : Int64) : xv_Z_inMemory v a := by
  unfold xv_Z_inMemory XVc
  simp only [yxlt_d, yv_fails, and_self, ite_self]
theorem yv_sf (v : XZ) (s : Int32) (a : Int64) (ent : Int32) : xv_Z_stageFault v s a ent := by
  unfold xv_Z_stageFault XVc
  simp only [yxlt_d, yv_fails, and_self]
theorem yv_allowed (v : XZ) (s e ent : Int32) : xv_Z_isAllowed v s e ent := by
  unfold xv_Z_isAllowed XVc
  have h : ∀ b, xv_Z_bit v (if s = 1 then 512 else 256) b := by
    intro b; by_cases h : s = 1
    · rw [if_pos h]; exact yvb_512 v b
    · rw [if_neg h]; exact yvb_256 v b
  simp only [yxlt_d, yvb_256, yvb_512, h, and_self, ite_self]
theorem yll_neg1 {n : Nat} (h : n < 9223372036854775808) : ¬ yll n = -1 := by
  intro hh
  have := congrArg Int64.toInt hh
  rw [yll_toInt h] at this
  have e : (-1 : Int64).toInt = -1 := by decide
  omega
theorem yll_neg3 {n : Nat} (h : n < 9223372036854775808) : ¬ yll n = -3 := by
  intro hh
  have := congrArg Int64.toInt hh
  rw [yll_toInt h] at this
  have e : (-3 : Int64).toInt = -3 := by decide
  omega
theorem yll_ge0 {n : Nat} (h : n < 9223372036854775808) : 0 ≤ lg_cmp (yll n) 0 := by
  rw [ylgc0]; exact (yll_le (a := 0) (by decide) h).mpr (by omega)
theorem ym1_lt0 : ¬ 0 ≤ lg_cmp (-1) 0 := by decide
/-- the reference's answer to a walk's outcome -/
noncomputable def yresZ (r : Int64) (u : XH) (c : XZ) (s : Int32) (A : Nat) (ent : Int32) : Int64 × XZ := if r = -1 then (-1, yxZof u (ysf c s (yll A) ent)) else if r = -3 then (-1, yxZof u (ymf c)) else (r, yxZof u c)
theorem yresZ_1 (u : XH) (c : XZ) (s : Int32) (A : Nat) (ent : Int32) : yresZ (-1) u c s A ent = (-1, yxZof u (ysf c s (yll A) ent)) := if_pos rfl
theorem yresZ_3 (u : XH) (c : XZ) (s : Int32) (A : Nat) (ent : Int32) : yresZ (-3) u c s A ent = (-1, yxZof u (ymf c)) := by
  unfold yresZ; rw [if_neg (by decide), if_pos rfl]
theorem yresZ_n (u : XH) (c : XZ) (s : Int32) (A : Nat) (ent : Int32) {n : Nat} (h : n < 9223372036854775808) : yresZ (yll n) u c s A ent = (yll n, yxZof u c) := by
  unfold yresZ; rw [if_neg (yll_neg1 h), if_neg (yll_neg3 h)]
theorem yz_inN (u : XH) (c : XZ) (s : Int32) (A : Nat) (ent : Int32) {n : Nat} (h : n < 9223372036854775808) : xf_Z_inMemory (yxZof u c) (yll n) = yresZ (yinN n) u c s A ent := by
  rw [yz_inMem u c h]; unfold yinN
  by_cases h1 : n < 262144
  · rw [if_pos h1, if_pos h1, yresZ_n _ _ _ _ _ h]
  · rw [if_neg h1, if_neg h1, yresZ_3]
theorem ye_and (e m : Int32) : yll (ynn e) &&& yll (ynn m) = yll (ynn (e &&& m)) := by
  apply yll_ext
  have h1 := ynn_lt e; have h2 := ynn_lt m; have h3 := ynn_lt (e &&& m)
  rw [Int64.toBitVec_and, BitVec.toNat_and, yll_tn (by omega), yll_tn (by omega), yll_tn (by omega)]
  show _ = (e &&& m).toBitVec.toNat
  rw [Int32.toBitVec_and, BitVec.toNat_and]
theorem ye_z (e m : Int32) : lg_cmp (yll (ynn e) &&& yll (ynn m)) 0 = 0 ↔ e &&& m = 0 := by
  rw [ye_and, ylgce]
  have h := ynn_lt (e &&& m)
  constructor
  · intro hh
    have := (yll_eq (a := ynn (e &&& m)) (b := 0) (by omega) (by decide)).mp hh
    exact ytn_ext this
  · intro hh; rw [hh]; rfl
theorem ye_14 (e : Int32) : lg_cmp (yll (ynn e) &&& (14 : Int64)) 0 = 0 ↔ e &&& 14 = 0 := ye_z e 14
theorem ye_1 (e : Int32) : lg_cmp (yll (ynn e) &&& (1 : Int64)) 0 = 0 ↔ e &&& 1 = 0 := ye_z e 1
theorem ye_208 (e : Int32) : lg_cmp (yll (ynn e) &&& (208 : Int64)) 0 = 0 ↔ e &&& 208 = 0 := ye_z e 208
theorem ye_ptr (e : Int32) : e &&& 209 = 1 ↔ (¬ e &&& 1 = 0 ∧ e &&& 208 = 0) := by
  have h209 : ∀ i, i < 32 → ybt 209 i = (ybt 1 i || ybt 208 i) := by decide +kernel
  have hx : ∀ i, i < 32 → ybt 1 i = true → ybt 208 i = false := by decide +kernel
  constructor
  · intro h
    constructor
    · intro h1
      have h2 := congrArg (fun z => ybt z 0) h
      have h3 := congrArg (fun z => ybt z 0) h1
      have e1 : ybt 209 0 = true := by decide
      have e2 : ybt 1 0 = true := by decide
      simp only [ybt_and, e1, e2, Bool.and_true] at h2 h3
      rw [h3, ybt0] at h2; cases h2
    · apply ybt_ext; intro i hi
      have h2 := congrArg (fun z => ybt z i) h
      simp only [ybt_and, h209 i hi] at h2
      rw [ybt_and, ybt0]
      cases h3 : ybt 208 i
      · simp
      · have h4 : ybt 1 i = false := by
          cases h5 : ybt 1 i
          · rfl
          · have := hx i hi h5; rw [this] at h3; cases h3
        rw [h4, h3] at h2
        simpa using h2
  · intro ⟨h1, h2⟩
    have hb : ybt e 0 = true := by
      cases h3 : ybt e 0
      · exact absurd ((ypw_z (m := 1) (k := 0) ⟨by decide, by decide⟩ e).mpr h3) h1
      · rfl
    apply ybt_ext; intro i hi
    have h3 := congrArg (fun z => ybt z i) h2
    simp only [ybt_and, ybt0] at h3
    rw [ybt_and, h209 i hi]
    have h1i : ∀ i, i < 32 → ybt 1 i = decide (i = 0) := by decide +kernel
    rw [h1i i hi]
    by_cases e0 : i = 0
    · subst e0; simp [hb]
    · simp [e0, h3]
theorem ye_i32 (e : Int32) : Int64.toInt32 (yll (ynn e)) = e := by
  apply ytn_ext
  have := yll_i32 (ynn e)
  rw [Nat.mod_eq_of_lt (ynn_lt e)] at this
  exact this
theorem ye_low (e : Int32) : lg_cmp ((yll (ynn e) >>> (Int32.toInt64 (10 : Int32) &&& 63)) &&& (1023 : Int64)) 0 = 0 ↔ e &&& 1047552 = 0 := by
  have h := ynn_lt e
  rw [yll_sar _ 10 yc10 (by omega), ylow0]
  have e2 : yll (ynn e / 2 ^ 10) &&& 1023 = yll (ynn e / 1024 % 1024) := yll_and (ynn e / 1024) 10 (by omega) (by decide)
  rw [e2, ylgce]
  exact yll_eq (b := 0) (by omega) (by decide)
theorem ye_next (e : Int32) {A : Nat} (hA : A < 17179869184) : ((yll (ynn e) / (1024 : Int64)) * (4096 : Int64)) + ((4 : Int64) * ((yll A >>> (Int32.toInt64 (12 : Int32) &&& 63)) &&& (1023 : Int64))) = yll (ynNext e A) := by
  have h := ynn_lt e
  have e1 : yll (ynn e) / (1024 : Int64) = yll (ynn e / 1024) := yll_div (b := 1024) (by omega) (by decide) (by decide)
  have e2 : yll (A / 2 ^ 12) &&& 1023 = yll (A / 4096 % 1024) := yll_and (A / 4096) 10 (by omega) (by decide)
  rw [e1, yll_sar _ 12 yc12 (by omega), e2]
  show yll _ * yll 4096 + yll 4 * yll _ = _
  rw [yll_mul, yll_mul, yll_add]; rfl
theorem ye_first (R : Nat) {A : Nat} (hA : A < 17179869184) : yll R + ((4 : Int64) * (yll A >>> (Int32.toInt64 (22 : Int32) &&& 63))) = yll (R + 4 * (A / 4194304)) := by
  rw [yll_sar _ 22 yc22 (by omega)]
  show yll _ + yll 4 * yll _ = _
  rw [yll_mul, yll_add]
theorem ye_res1 (e : Int32) {A : Nat} (hA : A < 17179869184) : ((yll (ynn e) / (1024 : Int64)) * (4096 : Int64)) + (yll A &&& (4095 : Int64)) = yll (ynRes e 1 A) := by
  have h := ynn_lt e
  have e1 : yll (ynn e) / (1024 : Int64) = yll (ynn e / 1024) := yll_div (b := 1024) (by omega) (by decide) (by decide)
  have e2 : yll A &&& 4095 = yll (A % 4096) := yll_and A 12 (by omega) (by decide)
  rw [e1, e2]
  show yll _ * yll 4096 + yll _ = _
  rw [yll_mul, yll_add]; rfl
theorem ye_res0 (e : Int32) {A : Nat} (hA : A < 17179869184) (h0 : e &&& 1047552 = 0) : (((yll (ynn e) / (1024 : Int64)) / (1024 : Int64)) <<< (Int32.toInt64 (22 : Int32) &&& 63)) + (yll A &&& (4194303 : Int64)) = yll (ynRes e 0 A) := by
  have h := ynn_lt e
  have hl := (ylow0 e).mp h0
  have e1 : yll (ynn e) / (1024 : Int64) = yll (ynn e / 1024) := yll_div (b := 1024) (by omega) (by decide) (by decide)
  have e1' : yll (ynn e / 1024) / (1024 : Int64) = yll (ynn e / 1024 / 1024) := yll_div (b := 1024) (by omega) (by decide) (by decide)
  have e2 : yll A &&& 4194303 = yll (A % 4194304) := yll_and A 22 (by omega) (by decide)
  rw [e1, e1', e2, yll_shl _ 22 yc22, yll_add]
  unfold ynRes
  rw [if_pos rfl]
  have e9 : ynn e / 1024 / 1024 * 2 ^ 22 + A % 4194304 = ynn e / 1024 * 4096 + A % 4194304 := by omega
  rw [e9]
/-- what the reference allows of a leaf -/
def yokZ (v : XZ) (s ent : Int32) (e : Int32) (l : Nat) : Prop := ¬ xf_Z_isAllowed v s e ent = 0 ∧ (l = 0 → e &&& 1047552 = 0)

theorem ynotleaf (v : XZ) (s e ent : Int32) (h : e &&& 14 = 0) : xf_Z_isAllowed v s e ent = 0 := by
  have hb : ∀ i, i < 32 → ybt 14 i = true → ybt e i = false := by
    intro i hi h1
    have := congrArg (fun z => ybt z i) h
    simpa [ybt_and, h1, ybt0] using this
  have h2 : (if e &&& 2 = 0 then (0 : Int32) else 1) = 0 := if_pos ((ypw_z (m := 2) (k := 1) ⟨by decide, by decide⟩ e).mpr (hb 1 (by decide) (by decide)))
  have h4 : (if e &&& 4 = 0 then (0 : Int32) else 1) = 0 := if_pos ((ypw_z (m := 4) (k := 2) ⟨by decide, by decide⟩ e).mpr (hb 2 (by decide) (by decide)))
  have h8 : (if e &&& 8 = 0 then (0 : Int32) else 1) = 0 := if_pos ((ypw_z (m := 8) (k := 3) ⟨by decide, by decide⟩ e).mpr (hb 3 (by decide) (by decide)))
  unfold xf_Z_isAllowed
  rw [yxlt_d, yxlt_d, yxlt_d, yxlt_d, yxlt_d, yxlt_d, h2, h4, h8]
  simp only [yxlt_d, if_true, ite_self]

theorem yz_entry0 (u : XH) (c : XZ) {n : Nat} (h : n < 9223372036854775808) : xf_Z_entryAt_0 (yxZof u c) (yll n) = if n < 262144 then (yll (ynn (yrdM u n)), yxZof u c) else (-1, yxZof u (ymf c)) := by
  unfold xf_Z_entryAt_0
  simp only [yxlt_d, yz_inMem u c h]
  by_cases h1 : n < 262144
  · simp only [if_pos h1, if_pos (yll_ge0 h), yz_word u c h1, yi64_lo]
  · simp only [if_neg h1, if_neg ym1_lt0]
theorem yv_entry0 (u : XH) (c : XZ) {n : Nat} (h : n < 9223372036854775808) : xv_Z_entryAt_0 (yxZof u c) (yll n) := by
  unfold xv_Z_entryAt_0
  refine ⟨⟨yv_inMem _ _, ?_⟩, trivial⟩
  simp only [yxlt_d, yz_inMem u c h]
  by_cases h1 : n < 262144
  · simp only [if_pos h1, if_pos (yll_ge0 h), yv_word _ h1, and_self]
  · simp only [if_neg h1, if_neg ym1_lt0, and_self]
set_option maxHeartbeats 1000000 in
theorem yz_walk0 (u : XH) (c : XZ) (atp : Int32) (h0 : atp < 0) {A R : Nat} (hA : A < 17179869184) (hR : R = ynn atp % 4194304 * 4096) (ent : Int32) [d : ∀ e l, Decidable (yokZ (yxZof u c) 0 ent e l)] : xf_Z_walk_0 (yxZof u c) (yll R) (yll A) ent = yresZ (ywk u atp A (yokZ (yxZof u c) 0 ent)) u c 0 A ent := by
  have hF : R + 4 * (A / 4194304) = ynFirst atp A := by rw [hR]; rfl
  unfold xf_Z_walk_0 ywk
  rw [yxlt_d, ye_first R hA, hF, yz_entry0 u c (ynFirst_lt atp hA), if_pos h0]
  by_cases h1 : ynFirst atp A < 262144
  · rw [if_pos h1, if_pos h1]
    generalize yrdM u (ynFirst atp A) = e
    have hn := ynn_lt e
    rw [if_pos (yll_ge0 (by omega))]
    simp only [yxlt_d, ye_14, ye_1, ye_208]
    by_cases h2 : e &&& 14 = 0
    · rw [if_pos h2]
      simp only [if_pos h2, if_true]
      by_cases h3 : e &&& 1 = 0
      · rw [if_pos h3, if_neg (fun hh => ((ye_ptr e).mp hh).1 h3), yz_sf, yresZ_1]
      · rw [if_neg h3]
        by_cases h4 : e &&& 208 = 0
        · rw [if_pos h4, if_pos ((ye_ptr e).mpr ⟨h3, h4⟩), ye_next e hA, yz_entry0 u c (by have := ynNext_lt e hA; omega)]
          by_cases h5 : ynNext e A < 262144
          · rw [if_pos h5, if_pos h5]
            generalize yrdM u (ynNext e A) = e2
            have hn2 := ynn_lt e2
            rw [if_pos (yll_ge0 (by omega)), ye_i32]
            by_cases h7 : xf_Z_isAllowed (yxZof u c) 0 e2 ent = 0
            · rw [if_pos h7, yz_sf]
              by_cases h6 : e2 &&& 14 = 0
              · rw [if_pos h6, yresZ_1]
              · rw [if_neg h6, if_neg (fun hh : yokZ (yxZof u c) 0 ent e2 1 => hh.1 h7), yresZ_1]
            · rw [if_neg h7]
              have h6 : ¬ e2 &&& 14 = 0 := fun hh => h7 (ynotleaf _ _ _ _ hh)
              rw [if_neg h6, if_pos (show yokZ (yxZof u c) 0 ent e2 1 from ⟨h7, fun hh => absurd hh (by decide)⟩), ye_res1 e2 hA]
              rw [yz_inN u c 0 A ent (by have := ynRes_lt e2 1 (A := A) (Or.inr (by decide)); omega)]
          · rw [if_neg h5, if_neg h5, if_neg ym1_lt0, yresZ_3]
        · rw [if_neg h4, if_neg (fun hh => h4 ((ye_ptr e).mp hh).2), yz_sf, yresZ_1]
    · rw [if_neg h2]
      simp only [if_neg h2, show ¬ (1 : Int32) = 0 by decide, if_false, ye_i32]
      by_cases h7 : xf_Z_isAllowed (yxZof u c) 0 e ent = 0
      · rw [if_pos h7, if_neg (fun hh : yokZ (yxZof u c) 0 ent e 0 => hh.1 h7), yz_sf, yresZ_1]
      · rw [if_neg h7]
        by_cases h8 : e &&& 1047552 = 0
        · rw [if_pos ((ye_low e).mpr h8), if_pos (show yokZ (yxZof u c) 0 ent e 0 from ⟨h7, fun _ => h8⟩), ye_res0 e hA h8]
          rw [yz_inN u c 0 A ent (by have := ynRes_lt e 0 (A := A) (Or.inl h8); omega)]
        · rw [if_neg (fun hh => h8 ((ye_low e).mp hh)), if_neg (fun hh : yokZ (yxZof u c) 0 ent e 0 => h8 (hh.2 rfl)), yz_sf, yresZ_1]
  · rw [if_neg h1, if_neg h1, if_neg ym1_lt0, yresZ_3]
set_option maxHeartbeats 1000000 in
theorem yv_walk0 (u : XH) (c : XZ) {A R : Nat} (hA : A < 17179869184) (hR : R < 17179869184) (ent : Int32) : xv_Z_walk_0 (yxZof u c) (yll R) (yll A) ent := by
  unfold xv_Z_walk_0 XVc
  have hF : R + 4 * (A / 4194304) < 9223372036854775808 := by omega
  rw [ye_first R hA]
  refine ⟨⟨yv_entry0 u c hF, ?_⟩, trivial⟩
  rw [yxlt_d, yz_entry0 u c hF]
  by_cases h1 : R + 4 * (A / 4194304) < 262144
  · rw [if_pos h1]
    generalize yrdM u (R + 4 * (A / 4194304)) = e
    have hn := ynn_lt e
    rw [if_pos (yll_ge0 (by omega))]
    rw [ye_next e hA]
    simp only [yxlt_d, yv_sf, yv_allowed, yv_inMem, yv_entry0 u c (show ynNext e A < 9223372036854775808 by have := ynNext_lt e hA; omega), and_self, ite_self]
  · rw [if_neg h1, if_neg ym1_lt0]; trivial
theorem yz_entry2 (u : XH) (c : XZ) {n : Nat} (h : n < 9223372036854775808) : xf_Z_entryAt_2 (yxZof u c) (yll n) = if n < 262144 then (yll (ynn (yrdM u n)), yxZof u c) else (-1, yxZof u (ymf c)) := by
  unfold xf_Z_entryAt_2
  simp only [yxlt_d, yz_inMem u c h]
  by_cases h1 : n < 262144
  · simp only [if_pos h1, if_pos (yll_ge0 h), yz_word u c h1, yi64_lo]
  · simp only [if_neg h1, if_neg ym1_lt0]
theorem yv_entry2 (u : XH) (c : XZ) {n : Nat} (h : n < 9223372036854775808) : xv_Z_entryAt_2 (yxZof u c) (yll n) := by
  unfold xv_Z_entryAt_2
  refine ⟨⟨yv_inMem _ _, ?_⟩, trivial⟩
  simp only [yxlt_d, yz_inMem u c h]
  by_cases h1 : n < 262144
  · simp only [if_pos h1, if_pos (yll_ge0 h), yv_word _ h1, and_self]
  · simp only [if_neg h1, if_neg ym1_lt0, and_self]
set_option maxHeartbeats 1000000 in
theorem yz_walk2 (u : XH) (c : XZ) (atp : Int32) (h0 : atp < 0) {A R : Nat} (hA : A < 17179869184) (hR : R = ynn atp % 4194304 * 4096) (ent : Int32) [d : ∀ e l, Decidable (yokZ (yxZof u c) 2 ent e l)] : xf_Z_walk_2 (yxZof u c) (yll R) (yll A) ent = yresZ (ywk u atp A (yokZ (yxZof u c) 2 ent)) u c 2 A ent := by
  have hF : R + 4 * (A / 4194304) = ynFirst atp A := by rw [hR]; rfl
  unfold xf_Z_walk_2 ywk
  rw [yxlt_d, ye_first R hA, hF, yz_entry2 u c (ynFirst_lt atp hA), if_pos h0]
  by_cases h1 : ynFirst atp A < 262144
  · rw [if_pos h1, if_pos h1]
    generalize yrdM u (ynFirst atp A) = e
    have hn := ynn_lt e
    rw [if_pos (yll_ge0 (by omega))]
    simp only [yxlt_d, ye_14, ye_1, ye_208]
    by_cases h2 : e &&& 14 = 0
    · rw [if_pos h2]
      simp only [if_pos h2, if_true]
      by_cases h3 : e &&& 1 = 0
      · rw [if_pos h3, if_neg (fun hh => ((ye_ptr e).mp hh).1 h3), yz_sf, yresZ_1]
      · rw [if_neg h3]
        by_cases h4 : e &&& 208 = 0
        · rw [if_pos h4, if_pos ((ye_ptr e).mpr ⟨h3, h4⟩), ye_next e hA, yz_entry2 u c (by have := ynNext_lt e hA; omega)]
          by_cases h5 : ynNext e A < 262144
          · rw [if_pos h5, if_pos h5]
            generalize yrdM u (ynNext e A) = e2
            have hn2 := ynn_lt e2
            rw [if_pos (yll_ge0 (by omega)), ye_i32]
            by_cases h7 : xf_Z_isAllowed (yxZof u c) 2 e2 ent = 0
            · rw [if_pos h7, yz_sf]
              by_cases h6 : e2 &&& 14 = 0
              · rw [if_pos h6, yresZ_1]
              · rw [if_neg h6, if_neg (fun hh : yokZ (yxZof u c) 2 ent e2 1 => hh.1 h7), yresZ_1]
            · rw [if_neg h7]
              have h6 : ¬ e2 &&& 14 = 0 := fun hh => h7 (ynotleaf _ _ _ _ hh)
              rw [if_neg h6, if_pos (show yokZ (yxZof u c) 2 ent e2 1 from ⟨h7, fun hh => absurd hh (by decide)⟩), ye_res1 e2 hA]
              rw [yz_inN u c 2 A ent (by have := ynRes_lt e2 1 (A := A) (Or.inr (by decide)); omega)]
          · rw [if_neg h5, if_neg h5, if_neg ym1_lt0, yresZ_3]
        · rw [if_neg h4, if_neg (fun hh => h4 ((ye_ptr e).mp hh).2), yz_sf, yresZ_1]
    · rw [if_neg h2]
      simp only [if_neg h2, show ¬ (1 : Int32) = 0 by decide, if_false, ye_i32]
      by_cases h7 : xf_Z_isAllowed (yxZof u c) 2 e ent = 0
      · rw [if_pos h7, if_neg (fun hh : yokZ (yxZof u c) 2 ent e 0 => hh.1 h7), yz_sf, yresZ_1]
      · rw [if_neg h7]
        by_cases h8 : e &&& 1047552 = 0
        · rw [if_pos ((ye_low e).mpr h8), if_pos (show yokZ (yxZof u c) 2 ent e 0 from ⟨h7, fun _ => h8⟩), ye_res0 e hA h8]
          rw [yz_inN u c 2 A ent (by have := ynRes_lt e 0 (A := A) (Or.inl h8); omega)]
        · rw [if_neg (fun hh => h8 ((ye_low e).mp hh)), if_neg (fun hh : yokZ (yxZof u c) 2 ent e 0 => h8 (hh.2 rfl)), yz_sf, yresZ_1]
  · rw [if_neg h1, if_neg h1, if_neg ym1_lt0, yresZ_3]
set_option maxHeartbeats 1000000 in
theorem yv_walk2 (u : XH) (c : XZ) {A R : Nat} (hA : A < 17179869184) (hR : R < 17179869184) (ent : Int32) : xv_Z_walk_2 (yxZof u c) (yll R) (yll A) ent := by
  unfold xv_Z_walk_2 XVc
  have hF : R + 4 * (A / 4194304) < 9223372036854775808 := by omega
  rw [ye_first R hA]
  refine ⟨⟨yv_entry2 u c hF, ?_⟩, trivial⟩
  rw [yxlt_d, yz_entry2 u c hF]
  by_cases h1 : R + 4 * (A / 4194304) < 262144
  · rw [if_pos h1]
    generalize yrdM u (R + 4 * (A / 4194304)) = e
    have hn := ynn_lt e
    rw [if_pos (yll_ge0 (by omega))]
    rw [ye_next e hA]
    simp only [yxlt_d, yv_sf, yv_allowed, yv_inMem, yv_entry2 u c (show ynNext e A < 9223372036854775808 by have := ynNext_lt e hA; omega), and_self, ite_self]
  · rw [if_neg h1, if_neg ym1_lt0]; trivial
