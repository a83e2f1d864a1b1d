theorem ypw_le {m : Int32} {k : Nat} (h : ypw m k) (hm : 0 < m) (x : Int32) : x &&& m ≤ 0 ↔ ybt x k = false := by
  rw [← ypw_z h]
  constructor
  · intro hle
    cases hb : ybt x k
    · exact (ypw_z h x).mpr hb
    · have e : x &&& m = m := by
        apply ybt_ext; intro i hi; rw [ybt_and, ypw_bt h]
        by_cases e : i = k
        · subst e; simp [hb]
        · simp [e]
      rw [e] at hle
      exact absurd (Int32.le_iff_toInt_le.mp hle) (by have := Int32.lt_iff_toInt_lt.mp hm; omega)
  · intro e; rw [e]; decide
def yxsel (a b c d e f : Bool) : Int32 := if a then 9 else if b then 1 else if c then 5 else if d then 10 else if e then 2 else if f then 6 else -1
def yxsel3 (d e f : Bool) : Int32 := if d then 109 else if e then 101 else if f then 105 else -1
theorem yfirst_bt (r : Int32) : xf_K_first r = yxsel (ybt r 9) (ybt r 1) (ybt r 5) (ybt r 10) (ybt r 2) (ybt r 6) := by
  unfold xf_K_first
  rw [yxus1_bit r (s := 9) (k := 9) (by decide), yxus1_bit r (s := 1) (k := 1) (by decide), yxus1_bit r (s := 5) (k := 5) (by decide), yxus1_bit r (s := 10) (k := 10) (by decide), yxus1_bit r (s := 2) (k := 2) (by decide), yxus1_bit r (s := 6) (k := 6) (by decide)]
  simp only [yb1_0]
  generalize ybt r 9 = a; generalize ybt r 1 = b; generalize ybt r 5 = c; generalize ybt r 10 = d; generalize ybt r 2 = e; generalize ybt r 6 = f
  unfold yxsel
  cases a <;> cases b <;> cases c <;> cases d <;> cases e <;> cases f <;> rfl
theorem yselZ (o h : Int32) : (if (o &&& (512 : Int32)) ≤ 0 then (if (o &&& (2 : Int32)) ≤ 0 then (if (o &&& (32 : Int32)) ≤ 0 then (if (h &&& (1024 : Int32)) ≤ 0 then (if (h &&& (4 : Int32)) ≤ 0 then (if (h &&& (64 : Int32)) ≤ 0 then ((-1)) else (6)) else (2)) else (10)) else (5)) else (1)) else (9) : Int32) = yxsel (ybt o 9) (ybt o 1) (ybt o 5) (ybt h 10) (ybt h 2) (ybt h 6) := by
  simp only [ypw_le (m := 512) (k := 9) ⟨by decide, by decide⟩ (by decide), ypw_le (m := 2) (k := 1) ⟨by decide, by decide⟩ (by decide), ypw_le (m := 32) (k := 5) ⟨by decide, by decide⟩ (by decide), ypw_le (m := 1024) (k := 10) ⟨by decide, by decide⟩ (by decide), ypw_le (m := 4) (k := 2) ⟨by decide, by decide⟩ (by decide), ypw_le (m := 64) (k := 6) ⟨by decide, by decide⟩ (by decide)]
  generalize ybt o 9 = a; generalize ybt o 1 = b; generalize ybt o 5 = c; generalize ybt h 10 = d; generalize ybt h 2 = e; generalize ybt h 6 = f
  unfold yxsel
  cases a <;> cases b <;> cases c <;> cases d <;> cases e <;> cases f <;> rfl
theorem yselZ3 (h : Int32) : (if (h &&& (1024 : Int32)) ≤ 0 then (if (h &&& (4 : Int32)) ≤ 0 then (if (h &&& (64 : Int32)) ≤ 0 then ((-1)) else (105)) else (101)) else (109) : Int32) = yxsel3 (ybt h 10) (ybt h 2) (ybt h 6) := by
  simp only [ypw_le (m := 1024) (k := 10) ⟨by decide, by decide⟩ (by decide), ypw_le (m := 4) (k := 2) ⟨by decide, by decide⟩ (by decide), ypw_le (m := 64) (k := 6) ⟨by decide, by decide⟩ (by decide)]
  generalize ybt h 10 = d; generalize ybt h 2 = e; generalize ybt h 6 = f
  unfold yxsel3
  cases d <;> cases e <;> cases f <;> rfl
theorem ymsk_bt {x m : Int32} (h : x &&& m = x) (i : Nat) (hm : ybt m i = false) : ybt x i = false := by
  rw [← h, ybt_and, hm, Bool.and_false]
/-- what is due for S and for VS, by bits -/
noncomputable def yxdS (u : XH) : Int32 := yxsel (ybt (xf_K_pendingForS u &&& xg_S_ie u) 9) (ybt (xf_K_pendingForS u &&& xg_S_ie u) 1) (ybt (xf_K_pendingForS u &&& xg_S_ie u) 5) (ybt ((xg_K_hvip u &&& xg_K_hie u) &&& (xg_K_hideleg u ^^^ (-1))) 10) (ybt ((xg_K_hvip u &&& xg_K_hie u) &&& (xg_K_hideleg u ^^^ (-1))) 2) (ybt ((xg_K_hvip u &&& xg_K_hie u) &&& (xg_K_hideleg u ^^^ (-1))) 6)
theorem yselm {o h : Int32} (ho : o &&& 546 = o) (hh : h &&& 1092 = h) : xf_K_first (o ||| h) = yxsel (ybt o 9) (ybt o 1) (ybt o 5) (ybt h 10) (ybt h 2) (ybt h 6) := by
  rw [yfirst_bt]
  simp only [ybt_or]
  rw [ymsk_bt ho 10 (by decide), ymsk_bt ho 2 (by decide), ymsk_bt ho 6 (by decide), ymsk_bt hh 9 (by decide), ymsk_bt hh 1 (by decide), ymsk_bt hh 5 (by decide)]
  simp only [Bool.or_false, Bool.false_or]
theorem yselm3 {h : Int32} (hh : h &&& 1092 = h) : xf_K_first h = yxsel false false false (ybt h 10) (ybt h 2) (ybt h 6) := by
  rw [yfirst_bt, ymsk_bt hh 9 (by decide), ymsk_bt hh 1 (by decide), ymsk_bt hh 5 (by decide)]
theorem ymand {x m : Int32} (h : x &&& m = x) (y : Int32) : (x &&& y) &&& m = x &&& y := by
  rw [Int32.and_assoc, Int32.and_comm y m, ← Int32.and_assoc, h]
theorem ymand2 {x m : Int32} (h : x &&& m = x) (y : Int32) : (y &&& x) &&& m = y &&& x := by
  rw [Int32.and_assoc, h]
theorem ykdS {u : XH} (hi : yxInv u) (m : Int32) : xf_K_dueForS u m = if m = 1 ∧ ybt (xg_S_status u) 1 = false then -1 else yxdS u := by
  have e := yselm (o := xf_K_pendingForS u &&& xg_S_ie u) (h := (xg_K_hvip u &&& xg_K_hie u) &&& (xg_K_hideleg u ^^^ (-1))) (ymand2 hi.2.2.2.2.1 _) (ymand (ymand hi.2.2.2.2.2.2.2.1 _) _)
  unfold xf_K_dueForS
  simp only [yxlt_d, e]
  rw [show yxsel (ybt (xf_K_pendingForS u &&& xg_S_ie u) 9) (ybt (xf_K_pendingForS u &&& xg_S_ie u) 1) (ybt (xf_K_pendingForS u &&& xg_S_ie u) 5) (ybt ((xg_K_hvip u &&& xg_K_hie u) &&& (xg_K_hideleg u ^^^ (-1))) 10) (ybt ((xg_K_hvip u &&& xg_K_hie u) &&& (xg_K_hideleg u ^^^ (-1))) 2) (ybt ((xg_K_hvip u &&& xg_K_hie u) &&& (xg_K_hideleg u ^^^ (-1))) 6) = yxdS u from rfl]
  simp only [ypw_z (m := 2) (k := 1) ⟨by decide, by decide⟩]
  by_cases h1 : m = 1
  · cases ybt (xg_S_status u) 1 <;> simp [h1]
  · simp [h1]
def yxlow (u : XH) : Int32 := (xg_K_hvip u &&& xg_K_hie u) &&& xg_K_hideleg u
theorem ykdV {u : XH} (hi : yxInv u) (m : Int32) : xf_K_dueForVs u m = if (m = 2 ∨ m = 3 ∧ ybt (xg_V_status u) 1 = true) then yxsel false false false (ybt (yxlow u) 10) (ybt (yxlow u) 2) (ybt (yxlow u) 6) else -1 := by
  have e := yselm3 (h := yxlow u) (ymand (ymand hi.2.2.2.2.2.2.2.1 _) _)
  unfold xf_K_dueForVs
  simp only [yxlt_d]
  rw [show (xg_K_hvip u &&& xg_K_hie u) &&& xg_K_hideleg u = yxlow u from rfl, e]
  simp only [ypw_z (m := 2) (k := 1) ⟨by decide, by decide⟩]
  by_cases h2 : m = 2
  · simp [h2]
  · by_cases h3 : m = 3
    · cases ybt (xg_V_status u) 1 <;> simp [h3]
    · simp [h2, h3]
theorem yxsel_v (a b c d e f : Bool) : yxsel a b c d e f = -1 ∨ yxsel a b c d e f = 9 ∨ yxsel a b c d e f = 1 ∨ yxsel a b c d e f = 5 ∨ yxsel a b c d e f = 10 ∨ yxsel a b c d e f = 2 ∨ yxsel a b c d e f = 6 := by
  cases a <;> cases b <;> cases c <;> cases d <;> cases e <;> cases f <;> decide
theorem yxsel3_v (d e f : Bool) : yxsel3 d e f = (if yxsel false false false d e f = -1 then -1 else yxsel false false false d e f + 99) ∧ (yxsel false false false d e f = -1 ∨ yxsel false false false d e f = 10 ∨ yxsel false false false d e f = 2 ∨ yxsel false false false d e f = 6) := by
  cases d <;> cases e <;> cases f <;> decide
theorem yxsel3_0 : yxsel3 false false false = -1 := by decide
theorem ybt0 (i : Nat) : ybt 0 i = false := by simp [ybt]
/-- what the reference finds due, told by the class's two functions -/
theorem yz_due {u : XH} (hi : yxInv u) (c : XZ) : xf_Z_due (yxZof u c) = (if xf_K_dueForS u (xg_C_mode u) = -1 then (if xf_K_dueForVs u (xg_C_mode u) = -1 then -1 else xf_K_dueForVs u (xg_C_mode u) + 99) else xf_K_dueForS u (xg_C_mode u)) := by
  have ep : xf_K_tell u 324 = xf_K_pendingForS u := by
    unfold xf_K_tell; rw [yxlt_d, yks_324, if_neg (by decide), yxlt_d, if_pos rfl, yxlt_d]
  unfold xf_Z_due
  simp only [yxlt_d, yselZ, yselZ3, yzt_324, yzv_260, yzv_1605, yzv_1540, yzv_1539, yzg_mode, yzbit _ 256 1 1 (by decide) (by decide), yzbit _ 512 1 1 (by decide) (by decide), yzv_256, yzv_512, yxz_0, ep]
  rw [show yxsel (ybt (xf_K_pendingForS u &&& xg_S_ie u) 9) (ybt (xf_K_pendingForS u &&& xg_S_ie u) 1) (ybt (xf_K_pendingForS u &&& xg_S_ie u) 5) (ybt ((xg_K_hvip u &&& xg_K_hie u) &&& (xg_K_hideleg u ^^^ (-1))) 10) (ybt ((xg_K_hvip u &&& xg_K_hie u) &&& (xg_K_hideleg u ^^^ (-1))) 2) (ybt ((xg_K_hvip u &&& xg_K_hie u) &&& (xg_K_hideleg u ^^^ (-1))) 6) = yxdS u from rfl]
  rw [show (xg_K_hvip u &&& xg_K_hie u) &&& xg_K_hideleg u = yxlow u from rfl]
  rw [ykdS hi, ykdV hi]
  have hd : yxdS u = -1 ∨ yxdS u = 9 ∨ yxdS u = 1 ∨ yxdS u = 5 ∨ yxdS u = 10 ∨ yxdS u = 2 ∨ yxdS u = 6 := yxsel_v _ _ _ _ _ _
  obtain ⟨e3, hv3⟩ := yxsel3_v (ybt (yxlow u) 10) (ybt (yxlow u) 2) (ybt (yxlow u) 6)
  rcases hi.1 with hm | hm | hm | hm <;> rw [hm]
  · simp only [show ¬ (0 : Int32) = 1 by decide, show ¬ (0 : Int32) = 2 by decide, show ¬ (0 : Int32) = 3 by decide, if_false, false_and, or_self, if_true, ybt0, yxsel3_0]
    rcases hd with h | h | h | h | h | h | h <;> rw [h] <;> decide
  · cases hb : ybt (xg_S_status u) 1
    · simp only [show ¬ (1 : Int32) = 2 by decide, show ¬ (1 : Int32) = 3 by decide, if_true, if_false, and_self, false_and, or_self, ybt0, yxsel3_0]
    · simp only [show ¬ (1 : Int32) = 2 by decide, show ¬ (1 : Int32) = 3 by decide, show ¬ true = false by decide, if_true, if_false, and_false, false_and, or_self, ybt0, yxsel3_0]
      rcases hd with h | h | h | h | h | h | h <;> rw [h] <;> decide
  · simp only [show ¬ (2 : Int32) = 1 by decide, if_true, if_false, false_and, true_or]
    rw [e3]
    generalize yxsel false false false (ybt (yxlow u) 10) (ybt (yxlow u) 2) (ybt (yxlow u) 6) = z at *
    rcases hd with h | h | h | h | h | h | h <;> rw [h]
    · simp
    all_goals simp
  · cases hb : ybt (xg_V_status u) 1
    · simp [ybt0, yxsel3_0]
      rcases hd with h | h | h | h | h | h | h <;> simp [h]
    · simp [e3]
      rcases hd with h | h | h | h | h | h | h <;> simp [h]
theorem yvb_256 (v : XZ) (b : Int32) : xv_Z_bit v 256 b := yzvbit (yzvv_256 v)
theorem yvs_256 (v : XZ) (b y : Int32) : xv_Z_setBit v 256 b y := yzvset (yzvv_256 v) (fun w => yzvb_256 v w)
theorem yvb_260 (v : XZ) (b : Int32) : xv_Z_bit v 260 b := yzvbit (yzvv_260 v)
theorem yvs_260 (v : XZ) (b y : Int32) : xv_Z_setBit v 260 b y := yzvset (yzvv_260 v) (fun w => yzvb_260 v w)
theorem yvb_261 (v : XZ) (b : Int32) : xv_Z_bit v 261 b := yzvbit (yzvv_261 v)
theorem yvs_261 (v : XZ) (b y : Int32) : xv_Z_setBit v 261 b y := yzvset (yzvv_261 v) (fun w => yzvb_261 v w)
theorem yvb_320 (v : XZ) (b : Int32) : xv_Z_bit v 320 b := yzvbit (yzvv_320 v)
theorem yvs_320 (v : XZ) (b y : Int32) : xv_Z_setBit v 320 b y := yzvset (yzvv_320 v) (fun w => yzvb_320 v w)
theorem yvb_321 (v : XZ) (b : Int32) : xv_Z_bit v 321 b := yzvbit (yzvv_321 v)
theorem yvs_321 (v : XZ) (b y : Int32) : xv_Z_setBit v 321 b y := yzvset (yzvv_321 v) (fun w => yzvb_321 v w)
theorem yvb_322 (v : XZ) (b : Int32) : xv_Z_bit v 322 b := yzvbit (yzvv_322 v)
theorem yvs_322 (v : XZ) (b y : Int32) : xv_Z_setBit v 322 b y := yzvset (yzvv_322 v) (fun w => yzvb_322 v w)
theorem yvb_323 (v : XZ) (b : Int32) : xv_Z_bit v 323 b := yzvbit (yzvv_323 v)
theorem yvs_323 (v : XZ) (b y : Int32) : xv_Z_setBit v 323 b y := yzvset (yzvv_323 v) (fun w => yzvb_323 v w)
theorem yvb_324 (v : XZ) (b : Int32) : xv_Z_bit v 324 b := yzvbit (yzvv_324 v)
theorem yvs_324 (v : XZ) (b y : Int32) : xv_Z_setBit v 324 b y := yzvset (yzvv_324 v) (fun w => yzvb_324 v w)
theorem yvb_384 (v : XZ) (b : Int32) : xv_Z_bit v 384 b := yzvbit (yzvv_384 v)
theorem yvs_384 (v : XZ) (b y : Int32) : xv_Z_setBit v 384 b y := yzvset (yzvv_384 v) (fun w => yzvb_384 v w)
theorem yvb_512 (v : XZ) (b : Int32) : xv_Z_bit v 512 b := yzvbit (yzvv_512 v)
theorem yvs_512 (v : XZ) (b y : Int32) : xv_Z_setBit v 512 b y := yzvset (yzvv_512 v) (fun w => yzvb_512 v w)
theorem yvb_516 (v : XZ) (b : Int32) : xv_Z_bit v 516 b := yzvbit (yzvv_516 v)
theorem yvs_516 (v : XZ) (b y : Int32) : xv_Z_setBit v 516 b y := yzvset (yzvv_516 v) (fun w => yzvb_516 v w)
theorem yvb_517 (v : XZ) (b : Int32) : xv_Z_bit v 517 b := yzvbit (yzvv_517 v)
theorem yvs_517 (v : XZ) (b y : Int32) : xv_Z_setBit v 517 b y := yzvset (yzvv_517 v) (fun w => yzvb_517 v w)
theorem yvb_576 (v : XZ) (b : Int32) : xv_Z_bit v 576 b := yzvbit (yzvv_576 v)
theorem yvs_576 (v : XZ) (b y : Int32) : xv_Z_setBit v 576 b y := yzvset (yzvv_576 v) (fun w => yzvb_576 v w)
theorem yvb_577 (v : XZ) (b : Int32) : xv_Z_bit v 577 b := yzvbit (yzvv_577 v)
theorem yvs_577 (v : XZ) (b y : Int32) : xv_Z_setBit v 577 b y := yzvset (yzvv_577 v) (fun w => yzvb_577 v w)
theorem yvb_578 (v : XZ) (b : Int32) : xv_Z_bit v 578 b := yzvbit (yzvv_578 v)
theorem yvs_578 (v : XZ) (b y : Int32) : xv_Z_setBit v 578 b y := yzvset (yzvv_578 v) (fun w => yzvb_578 v w)
theorem yvb_579 (v : XZ) (b : Int32) : xv_Z_bit v 579 b := yzvbit (yzvv_579 v)
theorem yvs_579 (v : XZ) (b y : Int32) : xv_Z_setBit v 579 b y := yzvset (yzvv_579 v) (fun w => yzvb_579 v w)
theorem yvb_580 (v : XZ) (b : Int32) : xv_Z_bit v 580 b := yzvbit (yzvv_580 v)
theorem yvs_580 (v : XZ) (b y : Int32) : xv_Z_setBit v 580 b y := yzvset (yzvv_580 v) (fun w => yzvb_580 v w)
theorem yvb_640 (v : XZ) (b : Int32) : xv_Z_bit v 640 b := yzvbit (yzvv_640 v)
theorem yvs_640 (v : XZ) (b y : Int32) : xv_Z_setBit v 640 b y := yzvset (yzvv_640 v) (fun w => yzvb_640 v w)
theorem yvb_1536 (v : XZ) (b : Int32) : xv_Z_bit v 1536 b := yzvbit (yzvv_1536 v)
theorem yvs_1536 (v : XZ) (b y : Int32) : xv_Z_setBit v 1536 b y := yzvset (yzvv_1536 v) (fun w => yzvb_1536 v w)
theorem yvb_1538 (v : XZ) (b : Int32) : xv_Z_bit v 1538 b := yzvbit (yzvv_1538 v)
theorem yvs_1538 (v : XZ) (b y : Int32) : xv_Z_setBit v 1538 b y := yzvset (yzvv_1538 v) (fun w => yzvb_1538 v w)
theorem yvb_1539 (v : XZ) (b : Int32) : xv_Z_bit v 1539 b := yzvbit (yzvv_1539 v)
theorem yvs_1539 (v : XZ) (b y : Int32) : xv_Z_setBit v 1539 b y := yzvset (yzvv_1539 v) (fun w => yzvb_1539 v w)
theorem yvb_1540 (v : XZ) (b : Int32) : xv_Z_bit v 1540 b := yzvbit (yzvv_1540 v)
theorem yvs_1540 (v : XZ) (b y : Int32) : xv_Z_setBit v 1540 b y := yzvset (yzvv_1540 v) (fun w => yzvb_1540 v w)
theorem yvb_1603 (v : XZ) (b : Int32) : xv_Z_bit v 1603 b := yzvbit (yzvv_1603 v)
theorem yvs_1603 (v : XZ) (b y : Int32) : xv_Z_setBit v 1603 b y := yzvset (yzvv_1603 v) (fun w => yzvb_1603 v w)
theorem yvb_1604 (v : XZ) (b : Int32) : xv_Z_bit v 1604 b := yzvbit (yzvv_1604 v)
theorem yvs_1604 (v : XZ) (b y : Int32) : xv_Z_setBit v 1604 b y := yzvset (yzvv_1604 v) (fun w => yzvb_1604 v w)
theorem yvb_1605 (v : XZ) (b : Int32) : xv_Z_bit v 1605 b := yzvbit (yzvv_1605 v)
theorem yvs_1605 (v : XZ) (b y : Int32) : xv_Z_setBit v 1605 b y := yzvset (yzvv_1605 v) (fun w => yzvb_1605 v w)
theorem yvb_1610 (v : XZ) (b : Int32) : xv_Z_bit v 1610 b := yzvbit (yzvv_1610 v)
theorem yvs_1610 (v : XZ) (b y : Int32) : xv_Z_setBit v 1610 b y := yzvset (yzvv_1610 v) (fun w => yzvb_1610 v w)
theorem yvb_1664 (v : XZ) (b : Int32) : xv_Z_bit v 1664 b := yzvbit (yzvv_1664 v)
theorem yvs_1664 (v : XZ) (b y : Int32) : xv_Z_setBit v 1664 b y := yzvset (yzvv_1664 v) (fun w => yzvb_1664 v w)
theorem yvb_3073 (v : XZ) (b : Int32) : xv_Z_bit v 3073 b := yzvbit (yzvv_3073 v)
theorem yvs_3073 (v : XZ) (b y : Int32) : xv_Z_setBit v 3073 b y := yzvset (yzvv_3073 v) (fun w => yzvb_3073 v w)
theorem yvb_3201 (v : XZ) (b : Int32) : xv_Z_bit v 3201 b := yzvbit (yzvv_3201 v)
theorem yvs_3201 (v : XZ) (b y : Int32) : xv_Z_setBit v 3201 b y := yzvset (yzvv_3201 v) (fun w => yzvb_3201 v w)
theorem yv_due (v : XZ) : xv_Z_due v := by
  unfold xv_Z_due XVc
  simp only [yxlt_d, yztv_324, yzvv_260, yzvv_1605, yzvv_1540, yzvv_1539, yvb_256, yvb_512, true_and, and_true, ite_self]
theorem yn_256_65 : (256 : Int32) + 65 = 321 := by decide
theorem yn_256_66 : (256 : Int32) + 66 = 322 := by decide
theorem yn_256_67 : (256 : Int32) + 67 = 323 := by decide
theorem yn_256_5 : (256 : Int32) + 5 = 261 := by decide
theorem yn_512_65 : (512 : Int32) + 65 = 577 := by decide
theorem yn_512_66 : (512 : Int32) + 66 = 578 := by decide
theorem yn_512_67 : (512 : Int32) + 67 = 579 := by decide
theorem yn_512_5 : (512 : Int32) + 5 = 517 := by decide
theorem yv_ent256 (v : XZ) (p1 p2 p3 : Int32) : xv_Z_enter_256 v p1 p2 p3 := by
  unfold xv_Z_enter_256 XVc
  simp only [yxlt_d, yn_256_65, yn_256_66, yn_256_67, yn_256_5, yzvb_321, yzvb_322, yzvb_323, yvb_256, yvs_256, yzvv_261, true_and, and_true, ite_self]
theorem yv_ent512 (v : XZ) (p1 p2 p3 : Int32) : xv_Z_enter_512 v p1 p2 p3 := by
  unfold xv_Z_enter_512 XVc
  simp only [yxlt_d, yn_512_65, yn_512_66, yn_512_67, yn_512_5, yzvb_577, yzvb_578, yzvb_579, yvb_512, yvs_512, yzvv_517, true_and, and_true, ite_self]
theorem yv_enterS (v : XZ) (p0 p1 p2 : Int32) : xv_Z_enterS v p0 p1 p2 := by
  unfold xv_Z_enterS XVc
  simp only [yxlt_d, yvs_1536, yvb_1536, yv_ent256, yzvb_1603, yzvb_1610, true_and, and_true, ite_self]
theorem yv_trap (v : XZ) : xv_Z_trap v := by
  unfold xv_Z_trap XVc
  simp only [yxlt_d, yv_enterS, yv_ent512, yzvb_1603, yzvb_1610, yzvv_1538, true_and, and_true, ite_self]
/-- the bits of a status after a trap -/
def yxst (st : Int32) (sup : Bool) : Int32 := yxsb (yxsb (yxsb st 5 (ybt st 1)) 1 false) 8 sup
theorem yxst_eq (st : Int32) (sup : Bool) : ((st &&& (-291)) ||| (if st &&& 2 = 0 then 0 else 32)) ||| (if xz sup = 0 then 0 else 256) = yxst st sup := by
  apply ybt_ext
  intro i hi
  unfold yxst
  rw [ybtx (b := 8) 8 (by decide) (by decide) hi, ybtx (b := 1) 1 (by decide) (by decide) hi, ybtx (b := 5) 5 (by decide) (by decide) hi, ybt_or, ybt_or, ybt_and]
  simp only [ypw_z (m := 2) (k := 1) ⟨by decide, by decide⟩, yxz_0]
  have h32 : ∀ i, i < 32 → ybt 32 i = decide (i = 5) := by decide +kernel
  have h256 : ∀ i, i < 32 → ybt 256 i = decide (i = 8) := by decide +kernel
  have h291 : ∀ i, i < 32 → ybt (-291) i = (!decide (i = 5) && !decide (i = 8) && !decide (i = 1)) := by decide +kernel
  rw [h291 i hi]
  have e1 : ybt (if ybt st 1 = false then 0 else 32) i = (ybt st 1 && decide (i = 5)) := by
    cases ybt st 1
    · simp [ybt0]
    · simp [h32 i hi]
  have e2 : ybt (if sup = false then 0 else 256) i = (sup && decide (i = 8)) := by
    cases sup
    · simp [ybt0]
    · simp [h256 i hi]
  rw [e1, e2]
  by_cases h8 : i = 8
  · subst h8; cases sup <;> simp
  · by_cases h1 : i = 1
    · subst h1; simp
    · by_cases h5 : i = 5
      · subst h5; simp
      · simp [h8, h1, h5]
def yxvec (tv why : Int32) : Int32 := (tv &&& (-4)) + (if 0 ≤ why then 0 else if ybt tv 0 then 4 * (why &&& 31) else 0)
theorem ybenter (b : XB) (pc why of : Int32) (sup : Bool) (hw : why < 0 → why &&& 2147483647 = why &&& 31) : xf_B_enter b pc why of (xz sup) = (yxvec (xgB_tvec b) why, xsB_status (xsB_tval (xsB_cause (xsB_epc b pc) why) of) (yxst (xgB_status b) sup)) := by
  unfold xf_B_enter
  simp only [yxlt_d, yxst_eq]
  have e : ((xgB_tvec b &&& (-4)) + (if (if 0 ≤ why then (0 : Int32) else if xgB_tvec b &&& 1 = 0 then 0 else 1) = 0 then 0 else 4 * (why &&& 2147483647))) = yxvec (xgB_tvec b) why := by
    unfold yxvec
    congr 1
    by_cases h : 0 ≤ why
    · simp [h]
    · have h' : why < 0 := by rw [Int32.le_iff_toInt_le] at h; rw [Int32.lt_iff_toInt_lt]; omega
      rw [if_neg h, if_neg h, hw h', yand1_bit]
      cases ybt (xgB_tvec b) 0 <;> simp
  rw [e]
theorem yand1Z (x : Int32) : (x &&& 1 = 1) ↔ ybt x 0 = true := by rw [yand1_bit]; cases ybt x 0 <;> simp
def yxmS (m : Int32) : Bool := decide (m = 1) || decide (m = 3)
theorem yxmS_z (m : Int32) : (if m = 1 then (1 : Int32) else if m = 3 then 1 else 0) = xz (yxmS m) := by
  unfold yxmS; by_cases h : m = 1
  · simp [h, xz]
  · by_cases h3 : m = 3
    · simp [h3, xz]
    · simp [h, h3, xz]
def yxentS (u : XH) (why of : Int32) : XH := xs_C_pc (xs_C_mode (xs_S_status (xs_S_tval (xs_S_cause (xs_S_epc u (xg_C_pc u)) why) of) (yxst (xg_S_status u) (yxmS (xg_C_mode u)))) 1) (yxvec (xg_S_tvec u) why)
def yxentV (u : XH) (why of : Int32) : XH := xs_C_pc (xs_C_mode (xs_V_status (xs_V_tval (xs_V_cause (xs_V_epc u (xg_C_pc u)) why) of) (yxst (xg_V_status u) (yxmS (xg_C_mode u)))) 3) (yxvec (xg_V_tvec u) why)

theorem ygs1_S (u : XH) (a b d : Int32) : xg_S_status (xs_S_tval (xs_S_cause (xs_S_epc u a) b) d) = xg_S_status u := rfl
theorem ygs2_S (u : XH) (a b : Int32) : xs_S_status (xs_S_status u a) b = xs_S_status u b := rfl
theorem ygs3_S (u : XH) (a : Int32) : xg_S_status (xs_S_status u a) = a := rfl
theorem ygs4_S (u : XH) (a b d e : Int32) : xg_C_mode (xs_S_status (xs_S_tval (xs_S_cause (xs_S_epc u a) b) d) e) = xg_C_mode u := rfl
theorem ygs5_S (u : XH) (a b d e f : Int32) : xg_S_tvec (xs_C_mode (xs_S_status (xs_S_tval (xs_S_cause (xs_S_epc u a) b) d) e) f) = xg_S_tvec u := rfl
theorem yz_entS (u : XH) (c : XZ) (why of : Int32) : xf_Z_enter_256 (yxZof u c) why of 1 = yxZof (yxentS u why of) c := by
  unfold xf_Z_enter_256
  simp only [yxlt_d, yn_256_65, yn_256_66, yn_256_67, yn_256_5]
  simp only [yzg_pc, yzb_321, yzb_322, yzb_323]
  rw [yzbit _ 256 1 1 (by decide) (by decide), yzv_256, ygs1_S, yzsb, yzv_256, yzb_256, ygs1_S]
  rw [show (0 : Int32) = xz false from rfl, yzsb, yzv_256, yzb_256, ygs2_S, ygs3_S]
  rw [yzg_mode, ygs4_S]
  rw [show xz false = (0 : Int32) from rfl, yxmS_z, yzsb, yzv_256, yzb_256, ygs2_S, ygs3_S]
  rw [yzs_mode, yzv_261, ygs5_S, yzs_pc]
  simp only [yand1Z]
  rfl
theorem ygs1_V (u : XH) (a b d : Int32) : xg_V_status (xs_V_tval (xs_V_cause (xs_V_epc u a) b) d) = xg_V_status u := rfl
theorem ygs2_V (u : XH) (a b : Int32) : xs_V_status (xs_V_status u a) b = xs_V_status u b := rfl
theorem ygs3_V (u : XH) (a : Int32) : xg_V_status (xs_V_status u a) = a := rfl
theorem ygs4_V (u : XH) (a b d e : Int32) : xg_C_mode (xs_V_status (xs_V_tval (xs_V_cause (xs_V_epc u a) b) d) e) = xg_C_mode u := rfl
theorem ygs5_V (u : XH) (a b d e f : Int32) : xg_V_tvec (xs_C_mode (xs_V_status (xs_V_tval (xs_V_cause (xs_V_epc u a) b) d) e) f) = xg_V_tvec u := rfl
theorem yz_entV (u : XH) (c : XZ) (why of : Int32) : xf_Z_enter_512 (yxZof u c) why of 3 = yxZof (yxentV u why of) c := by
  unfold xf_Z_enter_512
  simp only [yxlt_d, yn_512_65, yn_512_66, yn_512_67, yn_512_5]
  simp only [yzg_pc, yzb_577, yzb_578, yzb_579]
  rw [yzbit _ 512 1 1 (by decide) (by decide), yzv_512, ygs1_V, yzsb, yzv_512, yzb_512, ygs1_V]
  rw [show (0 : Int32) = xz false from rfl, yzsb, yzv_512, yzb_512, ygs2_V, ygs3_V]
  rw [yzg_mode, ygs4_V]
  rw [show xz false = (0 : Int32) from rfl, yxmS_z, yzsb, yzv_512, yzb_512, ygs2_V, ygs3_V]
  rw [yzs_mode, yzv_517, ygs5_V, yzs_pc]
  simp only [yand1Z]
  rfl
def yxmV (m : Int32) : Bool := !decide (m ≤ 1)
theorem ylt2 (m : Int32) : m < 2 ↔ m ≤ 1 := by
  rw [Int32.lt_iff_toInt_lt, Int32.le_iff_toInt_le]
  have e1 : (2 : Int32).toInt = 2 := by decide
  have e2 : (1 : Int32).toInt = 1 := by decide
  omega
theorem yz_isV (v : XZ) : xf_Z_isVirtual v = xz (yxmV (xg_Z_mode v)) := by
  unfold xf_Z_isVirtual yxmV; rw [yxlt_d]; by_cases h : xg_Z_mode v ≤ 1 <;> simp [h, xz]
theorem yh_isV (m : Int32) : xf_H_isVirtual m = xz (yxmV m) := by
  unfold xf_H_isVirtual yxmV; rw [yxlt_d]; by_cases h : m ≤ 1 <;> simp [ylt2, h, xz]
def ym4 (m : Int32) : Prop := m = 0 ∨ m = 1 ∨ m = 2 ∨ m = 3
theorem yh_isS {m : Int32} (h : ym4 m) : xf_H_isSupervisor m = xz (yxmS m) := by
  unfold xf_H_isSupervisor
  rw [yxlt_d]
  rcases h with h | h | h | h <;> subst h <;> decide
theorem yxmS_3 {m : Int32} (h : ym4 m) (hv : yxmV m = true) : yxmS m = decide (m = 3) := by
  rcases h with h | h | h | h <;> subst h <;> revert hv <;> decide
/-- hstatus after a trap to S -/
def yxhs (h : Int32) (g : Bool) (m : Int32) : Int32 := yxsb (yxsb (yxsb h 6 g) 7 (yxmV m)) 8 (if yxmV m then decide (m = 3) else ybt h 8)
theorem ynote_a (h : Int32) (g : Bool) : (if xz g = 0 then (h &&& (-193)) else (h &&& (-193)) ||| 64) = yxsb (yxsb (yxsb h 6 g) 7 false) 8 (ybt h 8) := by
  apply ybt_ext
  intro i hi
  rw [ybtx (b := 8) 8 (by decide) (by decide) hi, ybtx (b := 7) 7 (by decide) (by decide) hi, ybtx (b := 6) 6 (by decide) (by decide) hi]
  have h64 : ∀ i, i < 32 → ybt 64 i = decide (i = 6) := by decide +kernel
  have h193 : ∀ i, i < 32 → ybt (-193) i = (!decide (i = 6) && !decide (i = 7)) := by decide +kernel
  have e : ybt (if xz g = 0 then (h &&& (-193)) else (h &&& (-193)) ||| 64) i = ((ybt h i && (!decide (i = 6) && !decide (i = 7))) || (g && decide (i = 6))) := by
    cases g
    · rw [if_pos (by decide), ybt_and, h193 i hi]; simp
    · rw [if_neg (by decide), ybt_or, ybt_and, h193 i hi, h64 i hi]; simp
  rw [e]
  by_cases h8 : i = 8
  · subst h8; simp
  · by_cases h7 : i = 7
    · subst h7; simp
    · by_cases h6 : i = 6
      · subst h6; simp
      · simp [h8, h7, h6]
theorem ynote_b (h : Int32) (g s : Bool) : (if xz g = 0 then ((((h &&& (-193)) &&& (-257)) ||| 128) ||| (if xz s = 0 then 0 else 256)) else ((((h &&& (-193)) &&& (-257)) ||| 128) ||| (if xz s = 0 then 0 else 256)) ||| 64) = yxsb (yxsb (yxsb h 6 g) 7 true) 8 s := by
  apply ybt_ext
  intro i hi
  rw [ybtx (b := 8) 8 (by decide) (by decide) hi, ybtx (b := 7) 7 (by decide) (by decide) hi, ybtx (b := 6) 6 (by decide) (by decide) hi]
  have h64 : ∀ i, i < 32 → ybt 64 i = decide (i = 6) := by decide +kernel
  have h128 : ∀ i, i < 32 → ybt 128 i = decide (i = 7) := by decide +kernel
  have h256 : ∀ i, i < 32 → ybt 256 i = decide (i = 8) := by decide +kernel
  have h193 : ∀ i, i < 32 → ybt (-193) i = (!decide (i = 6) && !decide (i = 7)) := by decide +kernel
  have h257 : ∀ i, i < 32 → ybt (-257) i = (!decide (i = 8)) := by decide +kernel
  have es : ybt (if xz s = 0 then 0 else 256) i = (s && decide (i = 8)) := by
    cases s
    · rw [if_pos (by decide)]; simp [ybt0]
    · rw [if_neg (by decide), h256 i hi]; simp
  have e : ybt (if xz g = 0 then ((((h &&& (-193)) &&& (-257)) ||| 128) ||| (if xz s = 0 then 0 else 256)) else ((((h &&& (-193)) &&& (-257)) ||| 128) ||| (if xz s = 0 then 0 else 256)) ||| 64) i = (((((ybt h i && (!decide (i = 6) && !decide (i = 7))) && !decide (i = 8)) || decide (i = 7)) || (s && decide (i = 8))) || (g && decide (i = 6))) := by
    cases g
    · rw [if_pos (by decide)]; simp only [ybt_or, ybt_and, h193 i hi, h257 i hi, h128 i hi, es]; simp
    · rw [if_neg (by decide)]; simp only [ybt_or, ybt_and, h193 i hi, h257 i hi, h128 i hi, h64 i hi, es]; simp
  rw [e]
  by_cases h8 : i = 8
  · subst h8; simp
  · by_cases h7 : i = 7
    · subst h7; simp
    · by_cases h6 : i = 6
      · subst h6; simp
      · simp [h8, h7, h6]
theorem yhs2 (u : XH) (a b : Int32) : xs_K_hstatus (xs_K_hstatus u a) b = xs_K_hstatus u b := (Eq.refl _).trans (Eq.refl _)
theorem yhsg (u : XH) (a : Int32) : xg_K_hstatus (xs_K_hstatus u a) = a := (Eq.refl _).trans (Eq.refl _)
theorem ytells_hs (u : XH) (a : Int32) : xf_P_tellsAddress (xs_K_hstatus u a) = xf_P_tellsAddress u := (Eq.refl _).trans (Eq.refl _)
noncomputable def yxtells (u : XH) : Bool := !decide (xf_P_tellsAddress u = 0)
noncomputable def yxgva (u : XH) (m : Int32) : Bool := yxtells u && (yxmV m || xg_P_asGuest u)
theorem yasg_hs (u : XH) (a : Int32) : xg_P_asGuest (xs_K_hstatus u a) = xg_P_asGuest u := (Eq.refl _).trans (Eq.refl _)
theorem ygst_hs (u : XH) (a : Int32) : xg_P_guest (xs_K_hstatus u a) = xg_P_guest u := (Eq.refl _).trans (Eq.refl _)
theorem yins_hs (u : XH) (a b : Int32) : xg_P_inst (xs_K_htval (xs_K_hstatus u a) b) = xg_P_inst u := (Eq.refl _).trans (Eq.refl _)
theorem yite_hs (p : Prop) [Decidable p] (u : XH) (a b : Int32) : (if p then xs_K_hstatus u a else xs_K_hstatus u b) = xs_K_hstatus u (if p then a else b) := by by_cases h : p <;> simp [h]
theorem yh_note (u : XH) {m : Int32} (hm : ym4 m) : xf_K_noteTrap u m = xs_K_htinst (xs_K_htval (xs_K_hstatus u (yxhs (xg_K_hstatus u) (yxgva u m) m)) (xg_P_guest u)) (xg_P_inst u) := by
  unfold xf_K_noteTrap
  simp only [yxlt_d, yh_isV, yh_isS hm, yhs2, yhsg, yite_hs, ytells_hs, yasg_hs]
  have key : (if xf_P_tellsAddress u = 0 then (if xz (yxmV m) = 0 then xg_K_hstatus u &&& -193 else xg_K_hstatus u &&& -193 &&& -257 ||| 128 ||| if xz (yxmS m) = 0 then 0 else 256) else if xz (yxmV m) = 0 then if xz (xg_P_asGuest u) = 0 then (if xz (yxmV m) = 0 then xg_K_hstatus u &&& -193 else xg_K_hstatus u &&& -193 &&& -257 ||| 128 ||| if xz (yxmS m) = 0 then 0 else 256) else (if xz (yxmV m) = 0 then xg_K_hstatus u &&& -193 else xg_K_hstatus u &&& -193 &&& -257 ||| 128 ||| if xz (yxmS m) = 0 then 0 else 256) ||| 64 else (if xz (yxmV m) = 0 then xg_K_hstatus u &&& -193 else xg_K_hstatus u &&& -193 &&& -257 ||| 128 ||| if xz (yxmS m) = 0 then 0 else 256) ||| 64) = yxhs (xg_K_hstatus u) (yxgva u m) m := by
    unfold yxhs yxgva yxtells
    cases hv : yxmV m
    · simp only [Bool.false_eq_true, if_false, Bool.false_or]
      rw [← ynote_a]
      by_cases ht : xf_P_tellsAddress u = 0
      · simp [ht, xz]
      · cases xg_P_asGuest u <;> simp [ht, xz]
    · simp only [if_true, Bool.true_or, Bool.and_true]
      rw [← ynote_b, yxmS_3 hm hv]
      by_cases ht : xf_P_tellsAddress u = 0
      · simp [ht, xz]
      · simp [ht, xz]
  rw [← key]
  simp only [ygst_hs, yins_hs, yite_hs]
theorem yz_enterS (u : XH) (c : XZ) (why of : Int32) (g : Bool) : xf_Z_enterS (yxZof u c) why of (xz g) = yxZof (xs_K_htinst (xs_K_htval (yxentS (xs_K_hstatus (xs_C_trapsToS u (xg_C_trapsToS u + 1)) (yxhs (xg_K_hstatus u) g (xg_C_mode u))) why of) 0) 0) c := by
  unfold xf_Z_enterS
  simp only [yxlt_d]
  rw [yzg_toS, yzs_toS, yzsb, yzv_1536, yzb_1536]
  rw [yz_isV, yzg_mode, yzsb, yzv_1536, yzb_1536, yhs2, yhsg]
  rw [yz_isV, yzg_mode, yzbit _ 1536 8 8 (by decide) (by decide), yzv_1536, yhsg]
  have e1 : xg_K_hstatus (xs_C_trapsToS u (xg_C_trapsToS u + 1)) = xg_K_hstatus u := rfl
  have e2 : ∀ a, xg_C_mode (xs_K_hstatus (xs_C_trapsToS u (xg_C_trapsToS u + 1)) a) = xg_C_mode u := fun _ => rfl
  rw [e1, e2, e2]
  have e3 : (if xz (yxmV (xg_C_mode u)) = 0 then xz (ybt (yxsb (yxsb (xg_K_hstatus u) 6 g) 7 (yxmV (xg_C_mode u))) 8) else if xg_C_mode u = 3 then (1 : Int32) else 0) = xz (if yxmV (xg_C_mode u) then decide (xg_C_mode u = 3) else ybt (xg_K_hstatus u) 8) := by
    rw [ybtx (b := 7) 7 (by decide) (by decide) (i := 8) (by decide), ybtx (b := 6) 6 (by decide) (by decide) (i := 8) (by decide)]
    cases yxmV (xg_C_mode u)
    · simp [xz]
    · by_cases h : xg_C_mode u = 3 <;> simp [h, xz]
  rw [e3, yzsb, yzv_1536, yzb_1536, yhs2, yhsg, yz_entS, yzb_1603, yzb_1610]
  rfl
theorem ysh_k (s : Int32) : ∃ k, k < 32 ∧ ((s &&& 31).toBitVec.smod 32).toNat = k ∧ ((s.toUInt32 &&& Int32.toUInt32 31).toBitVec % 32).toNat = k := by
  refine ⟨s.toBitVec.toNat % 32, Nat.mod_lt _ (by decide), ?_, ?_⟩
  · have e : (s &&& 31).toBitVec.toNat = s.toBitVec.toNat % 32 := yand_tn s 31 5 (by decide)
    have e2 : s &&& 31 = Int32.ofNat (s.toBitVec.toNat % 32) := by
      apply ytn_ext; rw [e]; exact (ynI_tn (by omega)).symm
    rw [e2]
    have : ∀ k, k < 32 → ((Int32.ofNat k).toBitVec.smod 32).toNat = k := by decide +kernel
    exact this _ (Nat.mod_lt _ (by decide))
  · have e : (s.toUInt32 &&& Int32.toUInt32 31).toBitVec.toNat = s.toBitVec.toNat % 32 := by
      rw [UInt32.toBitVec_and, BitVec.toNat_and]
      exact Nat.and_two_pow_sub_one_eq_mod s.toBitVec.toNat 5
    rw [BitVec.toNat_umod, e]
    show s.toBitVec.toNat % 32 % 32 = _
    omega
/-- a bit by a number that is not fixed -/
theorem yshv (x s : Int32) : (xus x s &&& 1 = 0) ↔ ¬ ((x >>> (s &&& 31)) &&& 1 = 1) := by
  obtain ⟨k, h1, h2, h3⟩ := ysh_k s
  rw [yxus1_bit x h3, ysar1_bit x h2 h1]
  cases ybt x k <;> decide
theorem yswap_mp (u : XH) (a b : Int32) : xs_C_mode (xs_C_pc u a) b = xs_C_pc (xs_C_mode u b) a := (Eq.refl _).trans (Eq.refl _)
theorem ybankS (u : XH) (a b d e : Int32) : xs_S u (xsB_status (xsB_tval (xsB_cause (xsB_epc (xg_S u) a) b) d) e) = xs_S_status (xs_S_tval (xs_S_cause (xs_S_epc u a) b) d) e := (Eq.refl _).trans (Eq.refl _)
theorem ybankV (u : XH) (a b d e : Int32) : xs_V u (xsB_status (xsB_tval (xsB_cause (xsB_epc (xg_V u) a) b) d) e) = xs_V_status (xs_V_tval (xs_V_cause (xs_V_epc u a) b) d) e := (Eq.refl _).trans (Eq.refl _)
theorem ybS_st (u : XH) : xgB_status (xg_S u) = xg_S_status u := (Eq.refl _).trans (Eq.refl _)
theorem ybS_tv (u : XH) : xgB_tvec (xg_S u) = xg_S_tvec u := (Eq.refl _).trans (Eq.refl _)
theorem ybV_st (u : XH) : xgB_status (xg_V u) = xg_V_status u := (Eq.refl _).trans (Eq.refl _)
theorem ybV_tv (u : XH) : xgB_tvec (xg_V u) = xg_V_tvec u := (Eq.refl _).trans (Eq.refl _)
def yxgoV (u : XH) : Prop := yxmV (xg_C_mode u) = true ∧ (xg_K_hedeleg u >>> (xg_P_cause u &&& 31)) &&& 1 = 1
theorem ygoes_e {u : XH} (h : 0 ≤ xg_P_cause u) : xf_P_goesToVs u (xg_C_mode u) (xg_K_hedeleg u) = 0 ↔ ¬ yxgoV u := by
  unfold xf_P_goesToVs yxgoV
  simp only [yxlt_d, if_pos h, yh_isV, yshv]
  cases yxmV (xg_C_mode u)
  · simp [xz]
  · by_cases e : xg_K_hedeleg u >>> (xg_P_cause u &&& 31) &&& 1 = 1
    · simp [xz, e]
    · simp [xz, e]
/-- the state to which a trap to S comes -/
noncomputable def yxnS (u : XH) : XH := xs_K_htinst (xs_K_htval (xs_K_hstatus (xs_C_trapsToS u (xg_C_trapsToS u + 1)) (yxhs (xg_K_hstatus u) (yxgva u (xg_C_mode u)) (xg_C_mode u))) (xg_P_guest u)) (xg_P_inst u)
theorem ynote_e (u : XH) (hm : ym4 (xg_C_mode u)) : xf_K_noteTrap (xs_C_trapsToS u (xg_C_trapsToS u + 1)) (xg_C_mode (xs_C_trapsToS u (xg_C_trapsToS u + 1))) = yxnS u := by
  have e : xg_C_mode (xs_C_trapsToS u (xg_C_trapsToS u + 1)) = xg_C_mode u := rfl
  rw [e, yh_note _ hm]
  rfl
theorem ynS_pc (u : XH) : xg_C_pc (yxnS u) = xg_C_pc u := (Eq.refl _).trans (Eq.refl _)
theorem ynS_c (u : XH) : xg_P_cause (yxnS u) = xg_P_cause u := (Eq.refl _).trans (Eq.refl _)
theorem ynS_t (u : XH) : xg_P_tval (yxnS u) = xg_P_tval u := (Eq.refl _).trans (Eq.refl _)
theorem ynS_m (u : XH) : xg_C_mode (yxnS u) = xg_C_mode u := (Eq.refl _).trans (Eq.refl _)
theorem ytV_pc (u : XH) (a : Int32) : xg_C_pc (xs_C_trapsToVs u a) = xg_C_pc u := (Eq.refl _).trans (Eq.refl _)
theorem ytV_c (u : XH) (a : Int32) : xg_P_cause (xs_C_trapsToVs u a) = xg_P_cause u := (Eq.refl _).trans (Eq.refl _)
theorem ytV_t (u : XH) (a : Int32) : xg_P_tval (xs_C_trapsToVs u a) = xg_P_tval u := (Eq.refl _).trans (Eq.refl _)
theorem ytV_m (u : XH) (a : Int32) : xg_C_mode (xs_C_trapsToVs u a) = xg_C_mode u := (Eq.refl _).trans (Eq.refl _)
def ycOk (why : Int32) : Prop := why < 0 → why &&& 2147483647 = why &&& 31
theorem ytoS_e (u : XH) (hm : ym4 (xg_C_mode u)) (hw : ycOk (xg_P_cause u)) : (xlt (xf_K_noteTrap (xs_C_trapsToS u ((xg_C_trapsToS u) + (1 : Int32))) (xg_C_mode (xs_C_trapsToS u ((xg_C_trapsToS u) + (1 : Int32)))) : XH) fun q7 => xlt (xf_B_enter (xg_S q7) (xg_C_pc q7) (xg_P_cause q7) (xg_P_tval q7) (xz (yxmS (xg_C_mode u))) : Int32 × XB) fun q8 => (xs_C_mode (xs_C_pc (xs_S q7 q8.2) q8.1) (1 : Int32))) = yxentS (yxnS u) (xg_P_cause u) (xg_P_tval u) := by
  simp only [yxlt_d, ynote_e u hm, ynS_pc, ynS_c, ynS_t]
  rw [ybenter _ _ _ _ _ hw]
  simp only [ybS_st, ybS_tv, ybankS, yswap_mp]
  unfold yxentS
  rw [ynS_pc, ynS_m]
theorem ytoV_e (u : XH) (hw : ycOk (xg_P_cause u)) : (xlt (xf_B_enter (xg_V (xs_C_trapsToVs u ((xg_C_trapsToVs u) + (1 : Int32)))) (xg_C_pc (xs_C_trapsToVs u ((xg_C_trapsToVs u) + (1 : Int32)))) (xg_P_cause (xs_C_trapsToVs u ((xg_C_trapsToVs u) + (1 : Int32)))) (xg_P_tval (xs_C_trapsToVs u ((xg_C_trapsToVs u) + (1 : Int32)))) (xz (yxmS (xg_C_mode u))) : Int32 × XB) fun q9 => (xs_C_mode (xs_C_pc (xs_V (xs_C_trapsToVs u ((xg_C_trapsToVs u) + (1 : Int32))) q9.2) q9.1) (3 : Int32))) = yxentV (xs_C_trapsToVs u (xg_C_trapsToVs u + 1)) (xg_P_cause u) (xg_P_tval u) := by
  simp only [yxlt_d, ytV_pc, ytV_c, ytV_t]
  rw [ybenter _ _ _ _ _ hw]
  simp only [ybV_st, ybV_tv, ybankV, yswap_mp]
  unfold yxentV
  rw [ytV_pc, ytV_m]
theorem ytake_x (u : XH) (hm : ym4 (xg_C_mode u)) (h : 0 ≤ xg_P_cause u) : xf_C_takeTrap u = if xf_P_goesToVs u (xg_C_mode u) (xg_K_hedeleg u) = 0 then yxentS (yxnS u) (xg_P_cause u) (xg_P_tval u) else yxentV (xs_C_trapsToVs u (xg_C_trapsToVs u + 1)) (xg_P_cause u) (xg_P_tval u) := by
  have hw : ycOk (xg_P_cause u) := fun h1 => absurd (Int32.lt_iff_toInt_lt.mp h1) (by have := Int32.le_iff_toInt_le.mp h; omega)
  unfold xf_C_takeTrap
  rw [yxlt_d, yh_isS hm, yxlt_d, if_pos h, yxlt_d, yxlt_d, ytoS_e u hm hw, ytoV_e u hw]
theorem yint_m (u : XH) (a : Int32) : xg_C_mode (xs_C_interrupts u a) = xg_C_mode u := (Eq.refl _).trans (Eq.refl _)
theorem yint_c (u : XH) (a : Int32) : xg_P_cause (xs_C_interrupts u a) = xg_P_cause u := (Eq.refl _).trans (Eq.refl _)
theorem yint_t (u : XH) (a : Int32) : xg_P_tval (xs_C_interrupts u a) = xg_P_tval u := (Eq.refl _).trans (Eq.refl _)
theorem yint_f (u : XH) (a : Int32) : xg_P_interruptForVs (xs_C_interrupts u a) = xg_P_interruptForVs u := (Eq.refl _).trans (Eq.refl _)
theorem ytake_i (u : XH) (hm : ym4 (xg_C_mode u)) (h : ¬ 0 ≤ xg_P_cause u) (hw : ycOk (xg_P_cause u)) : xf_C_takeTrap u = if xg_P_interruptForVs u = false then yxentS (yxnS (xs_C_interrupts u (xg_C_interrupts u + 1))) (xg_P_cause u) (xg_P_tval u) else yxentV (xs_C_trapsToVs (xs_C_interrupts u (xg_C_interrupts u + 1)) (xg_C_trapsToVs (xs_C_interrupts u (xg_C_interrupts u + 1)) + 1)) (xg_P_cause u) (xg_P_tval u) := by
  unfold xf_C_takeTrap
  rw [yxlt_d, yh_isS hm, yxlt_d, if_neg h, yxlt_d, yxlt_d]
  have e1 := ytoS_e (xs_C_interrupts u (xg_C_interrupts u + 1)) hm hw
  have e2 := ytoV_e (xs_C_interrupts u (xg_C_interrupts u + 1)) hw
  rw [yint_m] at e1 e2
  rw [e1, e2, yint_c, yint_t]
  have e3 : xf_P_goesToVs (xs_C_interrupts u (xg_C_interrupts u + 1)) (xg_C_mode (xs_C_interrupts u (xg_C_interrupts u + 1))) (xg_K_hedeleg (xs_C_interrupts u (xg_C_interrupts u + 1))) = xz (xg_P_interruptForVs u) := by
    unfold xf_P_goesToVs
    rw [yxlt_d, yint_c, if_neg h, yint_f]
  rw [e3]
  cases xg_P_interruptForVs u
  · rw [if_pos (by decide), if_pos rfl]
  · rw [if_neg (by decide), if_neg (by decide)]
/-- what a step that went wrong has in both -/
def yxBad (u : XH) (c : XZ) : Prop := 0 ≤ xg_P_cause u ∧ xg_Z_cause c = xg_P_cause u ∧ xg_Z_wrong c = xg_P_tval u ∧ Int64.toInt32 (xg_Z_far c / 4) = xg_P_guest u ∧ (if xz (xg_Z_ofEntry c) = 0 then (0 : Int32) else 8192) = xg_P_inst u ∧ xg_Z_ofGuest c = yxgva u (xg_C_mode u)
theorem yhth (u : XH) (a b w z : Int32) : xs_K_htinst (xs_K_htval (xs_K_htinst (xs_K_htval u a) b) w) z = xs_K_htinst (xs_K_htval u w) z := (Eq.refl _).trans (Eq.refl _)
theorem yent_ht (u : XH) (a b w z : Int32) : xs_K_htinst (xs_K_htval (yxentS u a b) w) z = yxentS (xs_K_htinst (xs_K_htval u w) z) a b := (Eq.refl _).trans (Eq.refl _)
theorem yz_trap {u : XH} {c : XZ} (hm : ym4 (xg_C_mode u)) (hb : yxBad u c) : xf_Z_trap (yxZof u c) = yxZof (xf_C_takeTrap u) c := by
  obtain ⟨h0, h1, h2, h3, h4, h5⟩ := hb
  have es : (xlt (xf_Z_enterS (yxZof u c) (xg_Z_cause (yxZof u c)) (xg_Z_wrong (yxZof u c)) (xz (xg_Z_ofGuest (yxZof u c))) : XZ) fun q3 => xlt (xf_Z_become q3 (1603 : Int32) (Int64.toInt32 ((xg_Z_far q3) / (4 : Int64))) : XZ) fun q5 => xlt (if (xz (xg_Z_ofEntry q5)) = 0 then (0) else (8192) : Int32) fun v8 => xlt (xf_Z_become q5 (1610 : Int32) v8 : XZ) fun q10 => q10) = yxZof (yxentS (yxnS u) (xg_P_cause u) (xg_P_tval u)) c := by
    simp only [yxlt_d]
    rw [yzg_cause, yzg_wrong, yzg_ofGuest, h1, h2, h5, yz_enterS, yzg_far, h3, yzb_1603, yzg_ofEntry, h4, yzb_1610, yhth, yent_ht]
    rfl
  unfold xf_Z_trap
  rw [yxlt_d, yz_isV, yzg_mode, ytake_x u hm h0]
  have hgo := ygoes_e h0
  cases hv : yxmV (xg_C_mode u)
  · rw [if_pos (by decide), es, if_pos (hgo.mpr (fun hh => by have := hh.1; rw [hv] at this; cases this))]
  · rw [if_neg (by decide), yxlt_d, yzv_1538, es, yzg_cause, yzg_wrong, h1, h2]
    by_cases e : xg_K_hedeleg u >>> (xg_P_cause u &&& 31) &&& 1 = 1
    · rw [if_pos e, if_neg (fun hh => hgo.mp hh ⟨hv, e⟩), yz_entV, yxlt_d, yzg_toVs, yzs_toVs]
      rfl
    · rw [if_neg e, if_pos (hgo.mpr (fun hh => e hh.2))]
theorem yadd4 (a b : Int32) : ((a &&& (-4)) + 4 * b) &&& 3 = 0 := by
  rw [yand3, Int32.toBitVec_add, Int32.toBitVec_mul, BitVec.toNat_add, BitVec.toNat_mul]
  have h : (a &&& (-4)).toBitVec.toNat % 4 = 0 := (yand3 _).mp (ymk3 a)
  have e4 : (4 : Int32).toBitVec.toNat = 4 := by decide
  rw [e4]
  generalize (a &&& (-4)).toBitVec.toNat = n at *
  generalize b.toBitVec.toNat = m at *
  omega
theorem yxvec3 (tv why : Int32) : yxvec tv why &&& 3 = 0 := by
  unfold yxvec
  by_cases h : 0 ≤ why
  · rw [if_pos h, Int32.add_zero]; exact ymk3 tv
  · rw [if_neg h]
    cases ybt tv 0
    · rw [if_neg (by decide), Int32.add_zero]; exact ymk3 tv
    · rw [if_pos rfl]; exact yadd4 _ _
theorem yg_entS {u : XH} {c : XZ} (h : yxG u c) (a b : Int32) : yxG (yxentS u a b) c := by
  unfold yxentS
  exact ygu_C_pc (ygu_C_mode (ygu_S_status (ygu_S_tval (ygu_S_cause (ygu_S_epc h h.1.2.1)))) (Or.inr (Or.inl rfl))) (yxvec3 _ _)
theorem yg_entV {u : XH} {c : XZ} (h : yxG u c) (a b : Int32) : yxG (yxentV u a b) c := by
  unfold yxentV
  exact ygu_C_pc (ygu_C_mode (ygu_V_status (ygu_V_tval (ygu_V_cause (ygu_V_epc h h.1.2.1)))) (Or.inr (Or.inr (Or.inr rfl)))) (yxvec3 _ _)
theorem yg_nS {u : XH} {c : XZ} (h : yxG u c) : yxG (yxnS u) c := by
  unfold yxnS
  exact ygu_K_htinst (ygu_K_htval (ygu_K_hstatus (ygu_C_trapsToS h)))
theorem yg_take {u : XH} {c : XZ} (h : yxG u c) (hw : ycOk (xg_P_cause u)) : yxG (xf_C_takeTrap u) c := by
  by_cases h0 : 0 ≤ xg_P_cause u
  · rw [ytake_x u h.1.1 h0]
    by_cases e : xf_P_goesToVs u (xg_C_mode u) (xg_K_hedeleg u) = 0
    · rw [if_pos e]; exact yg_entS (yg_nS h) _ _
    · rw [if_neg e]; exact yg_entV (ygu_C_trapsToVs h) _ _
  · rw [ytake_i u h.1.1 h0 hw]
    by_cases e : xg_P_interruptForVs u = false
    · rw [if_pos e]; exact yg_entS (yg_nS (ygu_C_interrupts h)) _ _
    · rw [if_neg e]; exact yg_entV (ygu_C_trapsToVs (ygu_C_interrupts h)) _ _
theorem ycOk_pos {w : Int32} (h : 0 ≤ w) : ycOk w := fun h1 => absurd (Int32.lt_iff_toInt_lt.mp h1) (by have := Int32.le_iff_toInt_le.mp h; omega)
theorem yg_clear {u : XH} {c : XZ} (h : yxG u c) : yxG (xf_P_clear u) c := by
  unfold xf_P_clear
  exact ygu_P_interruptForVs (ygu_P_asGuest (ygu_P_inst (ygu_P_guest (ygu_P_tval (ygu_P_cause h)))))
theorem yg_raise {u : XH} {c : XZ} (h : yxG u c) (a b : Int32) : yxG (xf_P_raise u a b) c := ygu_P_tval (ygu_P_cause h)

theorem yz_clear (u : XH) (c : XZ) : yxZof (xf_P_clear u) c = yxZof u c := by
  obtain ⟨⟨c1, c2, c3, c4, c5, c6, c7, c8, c9⟩, x, ⟨k1, k2, k3, k4, k5, k6, k7, k8, k9, k10, k11⟩, ⟨s1, s2, s3, s4, s5, s6, s7, s8, s9⟩, ⟨v1, v2, v3, v4, v5, v6, v7, v8, v9⟩, ⟨p1, p2, p3, p4, p5, p6⟩, ⟨⟨ym1, m2, m3⟩, ⟨n1, n2, n3⟩⟩⟩ := u
  simp only [xf_P_clear, xg_C_consoleSize, xg_C_pc, xg_C_mode, xg_C_off, xg_C_trapsToS, xg_C_trapsToVs, xg_C_interrupts, xg_C_next, xg_C_word, xg_x, xg_K_hstatus, xg_K_hedeleg, xg_K_hideleg, xg_K_hie, xg_K_htval, xg_K_hvip, xg_K_htinst, xg_K_hgatp, xg_K_time, xg_K_alarm, xg_K_lineOn, xg_S_status, xg_S_ie, xg_S_tvec, xg_S_scratch, xg_S_epc, xg_S_cause, xg_S_tval, xg_S_ip, xg_S_atp, xg_V_status, xg_V_ie, xg_V_tvec, xg_V_scratch, xg_V_epc, xg_V_cause, xg_V_tval, xg_V_ip, xg_V_atp, xg_P_cause, xg_P_tval, xg_P_guest, xg_P_inst, xg_P_asGuest, xg_P_interruptForVs, xs_C_consoleSize, xs_C_pc, xs_C_mode, xs_C_off, xs_C_trapsToS, xs_C_trapsToVs, xs_C_interrupts, xs_C_next, xs_C_word, xs_x, xs_K_hstatus, xs_K_hedeleg, xs_K_hideleg, xs_K_hie, xs_K_htval, xs_K_hvip, xs_K_htinst, xs_K_hgatp, xs_K_time, xs_K_alarm, xs_K_lineOn, xs_S_status, xs_S_ie, xs_S_tvec, xs_S_scratch, xs_S_epc, xs_S_cause, xs_S_tval, xs_S_ip, xs_S_atp, xs_V_status, xs_V_ie, xs_V_tvec, xs_V_scratch, xs_V_epc, xs_V_cause, xs_V_tval, xs_V_ip, xs_V_atp, xs_P_cause, xs_P_tval, xs_P_guest, xs_P_inst, xs_P_asGuest, xs_P_interruptForVs, xg_M, xg_S, xg_V, xg_P, xs_M1, xs_M2, xs_M, xs_S, xs_V, yxZof, yxctl]
theorem yz_raise (u : XH) (a b : Int32) (c : XZ) : yxZof (xf_P_raise u a b) c = yxZof u c := by
  obtain ⟨⟨c1, c2, c3, c4, c5, c6, c7, c8, c9⟩, x, ⟨k1, k2, k3, k4, k5, k6, k7, k8, k9, k10, k11⟩, ⟨s1, s2, s3, s4, s5, s6, s7, s8, s9⟩, ⟨v1, v2, v3, v4, v5, v6, v7, v8, v9⟩, ⟨p1, p2, p3, p4, p5, p6⟩, ⟨⟨ym1, m2, m3⟩, ⟨n1, n2, n3⟩⟩⟩ := u
  simp only [xf_P_raise, xg_C_consoleSize, xg_C_pc, xg_C_mode, xg_C_off, xg_C_trapsToS, xg_C_trapsToVs, xg_C_interrupts, xg_C_next, xg_C_word, xg_x, xg_K_hstatus, xg_K_hedeleg, xg_K_hideleg, xg_K_hie, xg_K_htval, xg_K_hvip, xg_K_htinst, xg_K_hgatp, xg_K_time, xg_K_alarm, xg_K_lineOn, xg_S_status, xg_S_ie, xg_S_tvec, xg_S_scratch, xg_S_epc, xg_S_cause, xg_S_tval, xg_S_ip, xg_S_atp, xg_V_status, xg_V_ie, xg_V_tvec, xg_V_scratch, xg_V_epc, xg_V_cause, xg_V_tval, xg_V_ip, xg_V_atp, xg_P_cause, xg_P_tval, xg_P_guest, xg_P_inst, xg_P_asGuest, xg_P_interruptForVs, xs_C_consoleSize, xs_C_pc, xs_C_mode, xs_C_off, xs_C_trapsToS, xs_C_trapsToVs, xs_C_interrupts, xs_C_next, xs_C_word, xs_x, xs_K_hstatus, xs_K_hedeleg, xs_K_hideleg, xs_K_hie, xs_K_htval, xs_K_hvip, xs_K_htinst, xs_K_hgatp, xs_K_time, xs_K_alarm, xs_K_lineOn, xs_S_status, xs_S_ie, xs_S_tvec, xs_S_scratch, xs_S_epc, xs_S_cause, xs_S_tval, xs_S_ip, xs_S_atp, xs_V_status, xs_V_ie, xs_V_tvec, xs_V_scratch, xs_V_epc, xs_V_cause, xs_V_tval, xs_V_ip, xs_V_atp, xs_P_cause, xs_P_tval, xs_P_guest, xs_P_inst, xs_P_asGuest, xs_P_interruptForVs, xg_M, xg_S, xg_V, xg_P, xs_M1, xs_M2, xs_M, xs_S, xs_V, yxZof, yxctl]
theorem yclear_e (u : XH) : xf_P_clear u = xs_P u (-1, 0, 0, 0, false, false) := by
  obtain ⟨⟨c1, c2, c3, c4, c5, c6, c7, c8, c9⟩, x, ⟨k1, k2, k3, k4, k5, k6, k7, k8, k9, k10, k11⟩, ⟨s1, s2, s3, s4, s5, s6, s7, s8, s9⟩, ⟨v1, v2, v3, v4, v5, v6, v7, v8, v9⟩, ⟨p1, p2, p3, p4, p5, p6⟩, ⟨⟨ym1, m2, m3⟩, ⟨n1, n2, n3⟩⟩⟩ := u
  simp only [xf_P_clear, xs_P, xg_C_consoleSize, xg_C_pc, xg_C_mode, xg_C_off, xg_C_trapsToS, xg_C_trapsToVs, xg_C_interrupts, xg_C_next, xg_C_word, xg_x, xg_K_hstatus, xg_K_hedeleg, xg_K_hideleg, xg_K_hie, xg_K_htval, xg_K_hvip, xg_K_htinst, xg_K_hgatp, xg_K_time, xg_K_alarm, xg_K_lineOn, xg_S_status, xg_S_ie, xg_S_tvec, xg_S_scratch, xg_S_epc, xg_S_cause, xg_S_tval, xg_S_ip, xg_S_atp, xg_V_status, xg_V_ie, xg_V_tvec, xg_V_scratch, xg_V_epc, xg_V_cause, xg_V_tval, xg_V_ip, xg_V_atp, xg_P_cause, xg_P_tval, xg_P_guest, xg_P_inst, xg_P_asGuest, xg_P_interruptForVs, xs_C_consoleSize, xs_C_pc, xs_C_mode, xs_C_off, xs_C_trapsToS, xs_C_trapsToVs, xs_C_interrupts, xs_C_next, xs_C_word, xs_x, xs_K_hstatus, xs_K_hedeleg, xs_K_hideleg, xs_K_hie, xs_K_htval, xs_K_hvip, xs_K_htinst, xs_K_hgatp, xs_K_time, xs_K_alarm, xs_K_lineOn, xs_S_status, xs_S_ie, xs_S_tvec, xs_S_scratch, xs_S_epc, xs_S_cause, xs_S_tval, xs_S_ip, xs_S_atp, xs_V_status, xs_V_ie, xs_V_tvec, xs_V_scratch, xs_V_epc, xs_V_cause, xs_V_tval, xs_V_ip, xs_V_atp, xs_P_cause, xs_P_tval, xs_P_guest, xs_P_inst, xs_P_asGuest, xs_P_interruptForVs, xg_M, xg_S, xg_V, xg_P, xs_M1, xs_M2, xs_M, xs_S, xs_V, yxZof, yxctl]
theorem yraise_e (u : XH) (p : XP) (a b : Int32) : xf_P_raise (xs_P u p) a b = xs_P u (a, b, p.2.2) := (Eq.refl _).trans (Eq.refl _)
theorem yforVs_e (u : XH) (a b d e : Int32) (f g w : Bool) : xs_P_interruptForVs (xs_P u (a, b, d, e, f, g)) w = xs_P u (a, b, d, e, f, w) := (Eq.refl _).trans (Eq.refl _)
theorem yz_P (u : XH) (p : XP) (c : XZ) : yxZof (xs_P u p) c = yxZof u c := (Eq.refl _).trans (Eq.refl _)
theorem ygu_P {u : XH} {c : XZ} (h : yxG u c) (p : XP) : yxG (xs_P u p) c := ⟨by obtain ⟨h1, h2, h3, h4, h5, h6, h7, h8, h9, h10, h11, h12, h13⟩ := h.1; exact ⟨h1, h2, h3, h4, h5, h6, h7, h8, h9, h10, h11, h12, h13⟩, h.2⟩
theorem yP_mode (u : XH) (p : XP) : xg_C_mode (xs_P u p) = xg_C_mode u := (Eq.refl _).trans (Eq.refl _)
theorem yP_pc (u : XH) (p : XP) : xg_C_pc (xs_P u p) = xg_C_pc u := (Eq.refl _).trans (Eq.refl _)
theorem yP_int (u : XH) (p : XP) : xg_C_interrupts (xs_P u p) = xg_C_interrupts u := (Eq.refl _).trans (Eq.refl _)
theorem yP_cause (u : XH) (p : XP) : xg_P_cause (xs_P u p) = p.1 := (Eq.refl _).trans (Eq.refl _)
theorem yP_tval (u : XH) (p : XP) : xg_P_tval (xs_P u p) = p.2.1 := (Eq.refl _).trans (Eq.refl _)
theorem yP_for (u : XH) (p : XP) : xg_P_interruptForVs (xs_P u p) = p.2.2.2.2.2 := (Eq.refl _).trans (Eq.refl _)
theorem yP_P (u : XH) (p q : XP) : xs_P (xs_P u p) q = xs_P u q := (Eq.refl _).trans (Eq.refl _)
theorem yint_S (u : XH) (why : Int32) (g : Bool) (c : XZ) : yxZof (yxentS (xs_K_htinst (xs_K_htval (xs_K_hstatus (xs_C_trapsToS (xs_C_interrupts (xs_P u (why, 0, 0, 0, false, false)) (xg_C_interrupts u + 1)) (xg_C_trapsToS (xs_C_interrupts (xs_P u (why, 0, 0, 0, false, false)) (xg_C_interrupts u + 1)) + 1)) (yxhs (xg_K_hstatus (xs_C_interrupts (xs_P u (why, 0, 0, 0, false, false)) (xg_C_interrupts u + 1))) g (xg_C_mode (xs_C_interrupts (xs_P u (why, 0, 0, 0, false, false)) (xg_C_interrupts u + 1))))) (xg_P_guest (xs_C_interrupts (xs_P u (why, 0, 0, 0, false, false)) (xg_C_interrupts u + 1)))) (xg_P_inst (xs_C_interrupts (xs_P u (why, 0, 0, 0, false, false)) (xg_C_interrupts u + 1)))) why 0) c = yxZof (xs_K_htinst (xs_K_htval (yxentS (xs_K_hstatus (xs_C_trapsToS (xs_C_interrupts u (xg_C_interrupts u + 1)) (xg_C_trapsToS (xs_C_interrupts u (xg_C_interrupts u + 1)) + 1)) (yxhs (xg_K_hstatus (xs_C_interrupts u (xg_C_interrupts u + 1))) g (xg_C_mode (xs_C_interrupts u (xg_C_interrupts u + 1))))) why 0) 0) 0) c := by
  obtain ⟨⟨c1, c2, c3, c4, c5, c6, c7, c8, c9⟩, x, ⟨k1, k2, k3, k4, k5, k6, k7, k8, k9, k10, k11⟩, ⟨s1, s2, s3, s4, s5, s6, s7, s8, s9⟩, ⟨v1, v2, v3, v4, v5, v6, v7, v8, v9⟩, ⟨p1, p2, p3, p4, p5, p6⟩, ⟨⟨ym1, m2, m3⟩, ⟨n1, n2, n3⟩⟩⟩ := u
  simp only [xs_P, yxentS, xg_C_consoleSize, xg_C_pc, xg_C_mode, xg_C_off, xg_C_trapsToS, xg_C_trapsToVs, xg_C_interrupts, xg_C_next, xg_C_word, xg_x, xg_K_hstatus, xg_K_hedeleg, xg_K_hideleg, xg_K_hie, xg_K_htval, xg_K_hvip, xg_K_htinst, xg_K_hgatp, xg_K_time, xg_K_alarm, xg_K_lineOn, xg_S_status, xg_S_ie, xg_S_tvec, xg_S_scratch, xg_S_epc, xg_S_cause, xg_S_tval, xg_S_ip, xg_S_atp, xg_V_status, xg_V_ie, xg_V_tvec, xg_V_scratch, xg_V_epc, xg_V_cause, xg_V_tval, xg_V_ip, xg_V_atp, xg_P_cause, xg_P_tval, xg_P_guest, xg_P_inst, xg_P_asGuest, xg_P_interruptForVs, xs_C_consoleSize, xs_C_pc, xs_C_mode, xs_C_off, xs_C_trapsToS, xs_C_trapsToVs, xs_C_interrupts, xs_C_next, xs_C_word, xs_x, xs_K_hstatus, xs_K_hedeleg, xs_K_hideleg, xs_K_hie, xs_K_htval, xs_K_hvip, xs_K_htinst, xs_K_hgatp, xs_K_time, xs_K_alarm, xs_K_lineOn, xs_S_status, xs_S_ie, xs_S_tvec, xs_S_scratch, xs_S_epc, xs_S_cause, xs_S_tval, xs_S_ip, xs_S_atp, xs_V_status, xs_V_ie, xs_V_tvec, xs_V_scratch, xs_V_epc, xs_V_cause, xs_V_tval, xs_V_ip, xs_V_atp, xs_P_cause, xs_P_tval, xs_P_guest, xs_P_inst, xs_P_asGuest, xs_P_interruptForVs, xg_M, xg_S, xg_V, xg_P, xs_M1, xs_M2, xs_M, xs_S, xs_V, yxZof, yxctl]
theorem yint_V (u : XH) (why : Int32) (c : XZ) : yxZof (yxentV (xs_C_trapsToVs (xs_C_interrupts (xs_P u (why, 0, 0, 0, false, true)) (xg_C_interrupts u + 1)) (xg_C_trapsToVs (xs_C_interrupts (xs_P u (why, 0, 0, 0, false, true)) (xg_C_interrupts u + 1)) + 1)) why 0) c = yxZof (xs_C_trapsToVs (yxentV (xs_C_interrupts u (xg_C_interrupts u + 1)) why 0) (xg_C_trapsToVs (yxentV (xs_C_interrupts u (xg_C_interrupts u + 1)) why 0) + 1)) c := by
  obtain ⟨⟨c1, c2, c3, c4, c5, c6, c7, c8, c9⟩, x, ⟨k1, k2, k3, k4, k5, k6, k7, k8, k9, k10, k11⟩, ⟨s1, s2, s3, s4, s5, s6, s7, s8, s9⟩, ⟨v1, v2, v3, v4, v5, v6, v7, v8, v9⟩, ⟨p1, p2, p3, p4, p5, p6⟩, ⟨⟨ym1, m2, m3⟩, ⟨n1, n2, n3⟩⟩⟩ := u
  simp only [xs_P, yxentV, xg_C_consoleSize, xg_C_pc, xg_C_mode, xg_C_off, xg_C_trapsToS, xg_C_trapsToVs, xg_C_interrupts, xg_C_next, xg_C_word, xg_x, xg_K_hstatus, xg_K_hedeleg, xg_K_hideleg, xg_K_hie, xg_K_htval, xg_K_hvip, xg_K_htinst, xg_K_hgatp, xg_K_time, xg_K_alarm, xg_K_lineOn, xg_S_status, xg_S_ie, xg_S_tvec, xg_S_scratch, xg_S_epc, xg_S_cause, xg_S_tval, xg_S_ip, xg_S_atp, xg_V_status, xg_V_ie, xg_V_tvec, xg_V_scratch, xg_V_epc, xg_V_cause, xg_V_tval, xg_V_ip, xg_V_atp, xg_P_cause, xg_P_tval, xg_P_guest, xg_P_inst, xg_P_asGuest, xg_P_interruptForVs, xs_C_consoleSize, xs_C_pc, xs_C_mode, xs_C_off, xs_C_trapsToS, xs_C_trapsToVs, xs_C_interrupts, xs_C_next, xs_C_word, xs_x, xs_K_hstatus, xs_K_hedeleg, xs_K_hideleg, xs_K_hie, xs_K_htval, xs_K_hvip, xs_K_htinst, xs_K_hgatp, xs_K_time, xs_K_alarm, xs_K_lineOn, xs_S_status, xs_S_ie, xs_S_tvec, xs_S_scratch, xs_S_epc, xs_S_cause, xs_S_tval, xs_S_ip, xs_S_atp, xs_V_status, xs_V_ie, xs_V_tvec, xs_V_scratch, xs_V_epc, xs_V_cause, xs_V_tval, xs_V_ip, xs_V_atp, xs_P_cause, xs_P_tval, xs_P_guest, xs_P_inst, xs_P_asGuest, xs_P_interruptForVs, xg_M, xg_S, xg_V, xg_P, xs_M1, xs_M2, xs_M, xs_S, xs_V, yxZof, yxctl]
theorem yP_dS (u : XH) (p : XP) (m : Int32) : xf_K_dueForS (xs_P u p) m = xf_K_dueForS u m := (Eq.refl _).trans (Eq.refl _)
theorem yP_dV (u : XH) (p : XP) (m : Int32) : xf_K_dueForVs (xs_P u p) m = xf_K_dueForVs u m := (Eq.refl _).trans (Eq.refl _)

theorem ydS_v {u : XH} (hi : yxInv u) (m : Int32) (h : ¬ xf_K_dueForS u m = -1) : xf_K_dueForS u m = 9 ∨ xf_K_dueForS u m = 1 ∨ xf_K_dueForS u m = 5 ∨ xf_K_dueForS u m = 10 ∨ xf_K_dueForS u m = 2 ∨ xf_K_dueForS u m = 6 := by
  rw [ykdS hi] at h ⊢
  by_cases e : m = 1 ∧ ybt (xg_S_status u) 1 = false
  · rw [if_pos e] at h; exact absurd rfl h
  · rw [if_neg e] at h ⊢
    rcases yxsel_v (ybt (xf_K_pendingForS u &&& xg_S_ie u) 9) (ybt (xf_K_pendingForS u &&& xg_S_ie u) 1) (ybt (xf_K_pendingForS u &&& xg_S_ie u) 5) (ybt ((xg_K_hvip u &&& xg_K_hie u) &&& (xg_K_hideleg u ^^^ (-1))) 10) (ybt ((xg_K_hvip u &&& xg_K_hie u) &&& (xg_K_hideleg u ^^^ (-1))) 2) (ybt ((xg_K_hvip u &&& xg_K_hie u) &&& (xg_K_hideleg u ^^^ (-1))) 6) with hh | hh
    · exact absurd hh h
    · exact hh
theorem ydV_v {u : XH} (hi : yxInv u) (m : Int32) (h : ¬ xf_K_dueForVs u m = -1) : xf_K_dueForVs u m = 10 ∨ xf_K_dueForVs u m = 2 ∨ xf_K_dueForVs u m = 6 := by
  rw [ykdV hi] at h ⊢
  by_cases e : (m = 2 ∨ m = 3 ∧ ybt (xg_V_status u) 1 = true)
  · rw [if_pos e] at h ⊢
    rcases (yxsel3_v (ybt (yxlow u) 10) (ybt (yxlow u) 2) (ybt (yxlow u) 6)).2 with hh | hh
    · exact absurd hh h
    · exact hh
  · rw [if_neg e] at h; exact absurd rfl h
theorem yendS (u : XH) (h : ¬ xg_P_cause u = -1) : xf_C_endStep u = xs_K_time (xf_C_takeTrap u) (xg_K_time (xf_C_takeTrap u) + 1) := by
  unfold xf_C_endStep
  simp only [yxlt_d, if_neg h]
theorem ytell_i {u : XH} {m : Int32} (h : xg_P_cause u < 0) : yxgva u m = false := by
  unfold yxgva yxtells xf_P_tellsAddress
  rw [yxlt_d, if_pos h]
  simp
theorem ystep_S {u : XH} {c : XZ} (hg : yxG u c) (h : ¬ xf_K_dueForS u (xg_C_mode u) = -1) : xf_Z_step (yxZof u c) = yxZof (xstepH u) c ∧ yxG (xstepH u) c ∧ xv_Z_step (yxZof u c) := by
  have hv := ydS_v hg.1 _ h
  have hd := yz_due hg.1 c
  rw [if_neg h] at hd
  generalize hq : xf_K_dueForS u (xg_C_mode u) = q at *
  have f1 : ¬ (-2147483648 ||| q) = -1 := by rcases hv with e | e | e | e | e | e <;> subst e <;> decide
  have f2 : ¬ 0 ≤ (-2147483648 ||| q) := by rcases hv with e | e | e | e | e | e <;> subst e <;> decide
  have f3 : ycOk (-2147483648 ||| q) := by rcases hv with e | e | e | e | e | e <;> subst e <;> (intro _; decide)
  have yf4 : (-2147483648 ||| q) < 0 := by rcases hv with e | e | e | e | e | e <;> subst e <;> decide
  have f5 : ¬ q < 0 := by rcases hv with e | e | e | e | e | e <;> subst e <;> decide
  have f6 : q ≤ 99 := by rcases hv with e | e | e | e | e | e <;> subst e <;> decide
  have es : xf_C_startStep u = (0, xs_P u (-2147483648 ||| q, 0, 0, 0, false, false)) := by
    unfold xf_C_startStep xf_C_interrupted
    simp only [yxlt_d, yclear_e, yP_mode, yP_dS, hq, if_neg h, yraise_e]
    rw [if_neg (by decide)]
  have et : xstepH u = xs_K_time (xf_C_takeTrap (xs_P u (-2147483648 ||| q, 0, 0, 0, false, false))) (xg_K_time (xf_C_takeTrap (xs_P u (-2147483648 ||| q, 0, 0, 0, false, false))) + 1) := by
    unfold xstepH
    rw [yxlt_d, es, if_pos rfl]
    exact yendS _ f1
  have eg : yxG (xf_C_takeTrap (xs_P u (-2147483648 ||| q, 0, 0, 0, false, false))) c := yg_take (ygu_P hg _) f3
  refine ⟨?_, ?_, ?_⟩
  · unfold xf_Z_step
    rw [yxlt_d, hd, if_neg f5, if_pos f6, yxlt_d, yxlt_d, et, yzg_interrupts, yzs_interrupts, show (0 : Int32) = xz false from rfl, yz_enterS]
    have ei := ytake_i (xs_P u (-2147483648 ||| q, 0, 0, 0, false, false)) hg.1.1 f2 f3
    rw [yP_for, if_pos rfl, yP_int, yP_cause, yP_tval] at ei
    have ek : yxZof (xf_C_takeTrap (xs_P u (-2147483648 ||| q, 0, 0, 0, false, false))) c = yxZof (xs_K_htinst (xs_K_htval (yxentS (xs_K_hstatus (xs_C_trapsToS (xs_C_interrupts u (xg_C_interrupts u + 1)) (xg_C_trapsToS (xs_C_interrupts u (xg_C_interrupts u + 1)) + 1)) (yxhs (xg_K_hstatus (xs_C_interrupts u (xg_C_interrupts u + 1))) false (xg_C_mode (xs_C_interrupts u (xg_C_interrupts u + 1))))) (-2147483648 ||| q) 0) 0) 0) c := by
      rw [← yint_S, ei]
      unfold yxnS
      have eg2 : ∀ m, yxgva (xs_C_interrupts (xs_P u (-2147483648 ||| q, 0, 0, 0, false, false)) (xg_C_interrupts u + 1)) m = false := fun m => ytell_i yf4
      rw [eg2]
    rw [show xz false = (0 : Int32) from rfl, ← ek, yzg_time, yzs_time]
  · rw [et]; exact ygu_K_time eg
  · unfold xv_Z_step
    rw [hd]
    refine ⟨⟨yv_due _, ?_, trivial⟩, trivial⟩
    rw [if_neg f5, if_pos f6]
    exact ⟨yv_enterS _ _ _ _, trivial⟩
theorem ystep_V {u : XH} {c : XZ} (hg : yxG u c) (h1 : xf_K_dueForS u (xg_C_mode u) = -1) (h : ¬ xf_K_dueForVs u (xg_C_mode u) = -1) : xf_Z_step (yxZof u c) = yxZof (xstepH u) c ∧ yxG (xstepH u) c ∧ xv_Z_step (yxZof u c) := by
  have hv := ydV_v hg.1 _ h
  have hd := yz_due hg.1 c
  rw [if_pos h1, if_neg h] at hd
  generalize hq : xf_K_dueForVs u (xg_C_mode u) = q at *
  have f1 : ¬ (-2147483648 ||| (q - 1)) = -1 := by rcases hv with e | e | e <;> subst e <;> decide
  have f2 : ¬ 0 ≤ (-2147483648 ||| (q - 1)) := by rcases hv with e | e | e <;> subst e <;> decide
  have f3 : ycOk (-2147483648 ||| (q - 1)) := by rcases hv with e | e | e <;> subst e <;> (intro _; decide)
  have f5 : ¬ q + 99 < 0 := by rcases hv with e | e | e <;> subst e <;> decide
  have f6 : ¬ q + 99 ≤ 99 := by rcases hv with e | e | e <;> subst e <;> decide
  have f7 : q + 99 - 100 = q - 1 := by rcases hv with e | e | e <;> subst e <;> decide
  have es : xf_C_startStep u = (0, xs_P u (-2147483648 ||| (q - 1), 0, 0, 0, false, true)) := by
    unfold xf_C_startStep xf_C_interrupted
    simp only [yxlt_d, yclear_e, yP_mode, yP_dS, yP_dV, h1, hq, if_true, if_neg h, yraise_e, yforVs_e]
    rw [if_neg (by decide)]
  have et : xstepH u = xs_K_time (xf_C_takeTrap (xs_P u (-2147483648 ||| (q - 1), 0, 0, 0, false, true))) (xg_K_time (xf_C_takeTrap (xs_P u (-2147483648 ||| (q - 1), 0, 0, 0, false, true))) + 1) := by
    unfold xstepH
    rw [yxlt_d, es, if_pos rfl]
    exact yendS _ f1
  have eg : yxG (xf_C_takeTrap (xs_P u (-2147483648 ||| (q - 1), 0, 0, 0, false, true))) c := yg_take (ygu_P hg _) f3
  refine ⟨?_, ?_, ?_⟩
  · unfold xf_Z_step
    rw [yxlt_d, hd, if_neg f5, if_neg f6, yxlt_d, yxlt_d, et, yzg_interrupts, yzs_interrupts, f7, yz_entV, yzg_toVs, yzs_toVs]
    have ei := ytake_i (xs_P u (-2147483648 ||| (q - 1), 0, 0, 0, false, true)) hg.1.1 f2 f3
    simp only [yP_for, yP_int, yP_cause, yP_tval, Bool.true_eq_false, if_false] at ei
    have ek : yxZof (xf_C_takeTrap (xs_P u (-2147483648 ||| (q - 1), 0, 0, 0, false, true))) c = yxZof (xs_C_trapsToVs (yxentV (xs_C_interrupts u (xg_C_interrupts u + 1)) (-2147483648 ||| (q - 1)) 0) (xg_C_trapsToVs (yxentV (xs_C_interrupts u (xg_C_interrupts u + 1)) (-2147483648 ||| (q - 1)) 0) + 1)) c := by
      rw [← yint_V, ei]
    rw [← ek, yzg_time, yzs_time]
  · rw [et]; exact ygu_K_time eg
  · unfold xv_Z_step
    rw [hd]
    refine ⟨⟨yv_due _, ?_, trivial⟩, trivial⟩
    rw [if_neg f5, if_neg f6]
    exact ⟨yv_ent512 _ _ _ _, trivial⟩
