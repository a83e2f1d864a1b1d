/-! the frames that are made, over the outer calls that are not in 11.host -/
theorem xcH_cl1 {u : XH} {q : XM1} (h : q = xf_M_clear (xg_M u).1) : xcH (xs_M1 u q) = xcH u := by subst h; rfl
theorem xcH_cl2 {u : XH} {q : XM1} (h : q = xf_M_clear (xg_M u).2) : xcH (xs_M2 u q) = xcH u := by subst h; rfl
theorem xcH_rd2 {u : XH} {q : Int32 × XM1} {n : Nat} {a b : Int32} (h : q = xf_M_read n (xg_M u).2 a b) : xcH (xs_M2 u q.2) = xcH u := by
  subst h
  show xcnt 64 (xg_M u).1.2.1 + xcnt 1 (xf_M_read n (xg_M u).2 a b).2.2.1 = _
  rw [xf_M_read_made]
  rfl
theorem xm_C_reset (u : XH) : XEs (xcH u) (xf_C_reset u) := by
  unfold xf_C_reset
  exact xlt_Es (fun q2 hq2 => xlt_Es (fun q4 hq4 => xlt_Es (fun q5 hq5 => xcH_C_interrupts.trans (xcH_C_trapsToVs.trans (xcH_C_trapsToS.trans (xcH_C_off.trans (xcH_C_mode.trans (xcH_C_pc.trans (xcH_C_consoleSize.trans ((XEs_of hq5 (xm_K_clear _)).trans ((xcH_cl1 hq4).trans ((xcH_cl2 hq2).trans xcH_x))))))))))))
theorem xm_H_begin (u : XH) : XEs (xcH u) (xf_H_begin u) := by
  unfold xf_H_begin
  exact xlt_Es (fun q1 hq1 => XEs_of hq1 (xm_C_reset u))
theorem xm_H_console (u : XH) (p0 : Int32) : XE (xcH u) (xf_H_console u p0) := by
  unfold xf_H_console
  exact xlt_E (fun v5 hv5 => xlt_E (fun v6 hv6 => XEs_of hv6 (xit_Es rfl (xit_Es (xlt_Es (fun q4 hq4 => xcH_rd2 hq4)) rfl))))
theorem xm_sumH : ∀ (d n : Nat) (a : Int32) (u : XH), XE (xcH u) (xsumH d n a u) := by
  intro d
  induction d with
  | zero => intro n a u; rfl
  | succ d ih =>
    intro n a u
    rw [xsumH]
    exact (ih _ _ _).trans (xcH_rd rfl)
theorem xm_H_sum (u : XH) (p0 p1 : Int32) : XE (xcH u) (xf_H_sum u p0 p1) := by
  unfold xf_H_sum
  exact xit_E rfl (xit_E rfl (xit_E rfl (xit_E (xm_sumH _ _ _ _) rfl)))
theorem xcH_max (u : XH) : xcH u ≤ 65 := by
  have h1 := xcnt_le 64 (xg_M u).1.2.1
  have h2 := xcnt_le 1 (xg_M u).2.2.1
  have h3 : xcH u = xcnt 64 (xg_M u).1.2.1 + xcnt 1 (xg_M u).2.2.1 := rfl
  omega
