noncomputable def xf_Z_asMode (u : XZ) (p0 : Int32) (p1 : Int32) (p2 : Int32) (p3 : Int32) : XZ :=
  (xs_Z_executes (xs_Z_user (xs_Z_virtual (xs_Z_kind u p0) (xb p1)) (xb p2)) (xb p3))
def xv_Z_asMode (u : XZ) (p0 : Int32) (p1 : Int32) (p2 : Int32) (p3 : Int32) : Prop := XVc (
  (X01 p1) ∧
  (X01 p2) ∧
  (X01 p3) ∧
  True)
set_option maxHeartbeats 4000000 in
set_option maxRecDepth 100000 in
theorem c_Z_asMode (l : Launch) (D : va_G) (z : (Nat → Nat) × (Nat → Nat)) (k : ClassId × ClassId) (b : Nat → Nat) (sz : Nat) (u : XZ) (p0 : Int32) (p1 : Int32) (p2 : Int32) (p3 : Int32) (hv : xv_Z_asMode u p0 p1 p2 p3) : Met l xy_Z_asMode (xk_Z_asMode :: lw_g) { frames := 0, cells := 0, slots := 0, locals := 0 } (va_Pc [.ref ((b 0)), .int p0, .int p1, .int p2, .int p3] (xB D (xTy k) z sz (xWZ k b u))) (va_Qv (fun q : XZ => q = xf_Z_asMode u p0 p1 p2 p3) (fun q t => xQ D (xTy k) (xWZ k b q) (va_A (xWZ k b u) sz) t) (va_A (xWZ k b u) sz)) 0 0 (va_A (xWZ k b u) sz) := by
  refine xopen_v (wf := fun q : XZ => xWZ k b q) (lv := [(0, .ref ((b 0))), (1, .int p0), (2, .int p1), (3, .int p2), (4, .int p3)]) (by decide) rfl (Nat.le_of_ble_eq_true rfl) ?_
  intro p e s m args below meth c Q ls A H locs hx hb hml htg hown hin hK hP hD hE hS hA hl hret
  unfold xv_Z_asMode at hv
  refine lv_aload_n hx hb xd_Z_asMode_0 rfl (lv_at hl 0 rfl) ?_
  refine lv_iload_n hx hb xd_Z_asMode_1 rfl (lv_at hl 1 rfl) ?_
  refine xput_Z_kind (v := p0) hx hb htg hown hK hP hD hS (htg _ xw_747) xd_Z_asMode_2 (fun H locs hP hD hS => ?_)
  refine lv_aload_n hx hb xd_Z_asMode_5 rfl (lv_at hl 0 rfl) ?_
  refine lv_iload_n hx hb xd_Z_asMode_6 rfl (lv_at hl 2 rfl) ?_
  obtain ⟨hn1, hv⟩ := xan_v hv
  refine xput_Z_virtual (v := p1) hx hb htg hown hK hP hD hS (htg _ xw_748) hn1 xd_Z_asMode_7 (fun H locs hP hD hS => ?_)
  refine lv_aload_n hx hb xd_Z_asMode_10 rfl (lv_at hl 0 rfl) ?_
  refine lv_iload_n hx hb xd_Z_asMode_11 rfl (lv_at hl 3 rfl) ?_
  obtain ⟨hn2, hv⟩ := xan_v hv
  refine xput_Z_user (v := p2) hx hb htg hown hK hP hD hS (htg _ xw_749) hn2 xd_Z_asMode_12 (fun H locs hP hD hS => ?_)
  refine lv_aload_n hx hb xd_Z_asMode_15 rfl (lv_at hl 0 rfl) ?_
  refine lv_iload hx hb xd_Z_asMode_16 (lv_at hl 4 rfl) ?_
  obtain ⟨hn3, hv⟩ := xan_v hv
  refine xput_Z_executes (v := p3) hx hb htg hown hK hP hD hS (htg _ xw_750) hn3 xd_Z_asMode_18 (fun H locs hP hD hS => ?_)
  exact hret (xs_Z_executes (xs_Z_user (xs_Z_virtual (xs_Z_kind u p0) (xb p1)) (xb p2)) (xb p3)) H locs ls _ (by unfold xf_Z_asMode; exact rfl) hP hD hS xd_Z_asMode_21

noncomputable def xf_Z_bytes (u : XZ) (p0 : Int64) (p1 : Int32) : Int32 :=
  xlt (xf_Z_word u p0 : Int32) fun q1 =>
  xlt (if p1 = 4 then ((xus q1 ((8 : Int32) * (Int64.toInt32 (p0 - p0 / (4 : Int64) * (4 : Int64)))))) else (if p1 = 2 then (((xus q1 ((8 : Int32) * (Int64.toInt32 (p0 - p0 / (4 : Int64) * (4 : Int64))))) &&& (65535 : Int32))) else (((xus q1 ((8 : Int32) * (Int64.toInt32 (p0 - p0 / (4 : Int64) * (4 : Int64))))) &&& (255 : Int32)))) : Int32) fun v5 =>
  v5
def xv_Z_bytes (u : XZ) (p0 : Int64) (p1 : Int32) : Prop := XVc (
  (xv_Z_word u p0) ∧
  xlt (xf_Z_word u p0 : Int32) fun q1 =>
  xlt (if p1 = 4 then ((xus q1 ((8 : Int32) * (Int64.toInt32 (p0 - p0 / (4 : Int64) * (4 : Int64)))))) else (if p1 = 2 then (((xus q1 ((8 : Int32) * (Int64.toInt32 (p0 - p0 / (4 : Int64) * (4 : Int64))))) &&& (65535 : Int32))) else (((xus q1 ((8 : Int32) * (Int64.toInt32 (p0 - p0 / (4 : Int64) * (4 : Int64))))) &&& (255 : Int32)))) : Int32) fun v5 =>
  True)
set_option maxHeartbeats 4000000 in
set_option maxRecDepth 100000 in
theorem c_Z_bytes (l : Launch) (D : va_G) (z : (Nat → Nat) × (Nat → Nat)) (k : ClassId × ClassId) (b : Nat → Nat) (sz : Nat) (u : XZ) (p0 : Int64) (p1 : Int32) (hv : xv_Z_bytes u p0 p1) : Met l xy_Z_bytes (xk_Z_bytes :: lw_g) { frames := 1, cells := 0, slots := 0, locals := 22 } (va_Pc [.ref ((b 0)), .long p0, .int p1] (xB D (xTy k) z sz (xWZ k b u))) (va_Qi (fun r (q : XZ) => r = xf_Z_bytes u p0 p1 ∧ q = u) (fun q t => xQ D (xTy k) (xWZ k b q) (va_A (xWZ k b u) sz) t) (va_A (xWZ k b u) sz)) 0 0 (va_A (xWZ k b u) sz) := by
  refine xopen_i (wf := fun q : XZ => xWZ k b q) (lv := [(0, .ref ((b 0))), (1, .long p0), (3, .int p1)]) (by decide) rfl (Nat.le_of_ble_eq_true rfl) ?_
  intro p e s m args below meth c Q ls A H locs hx hb hml htg hown hin hK hP hD hE hS hA hl hret
  unfold xv_Z_bytes at hv
  refine lv_bipush (v := 8) hx hb xd_Z_bytes_0 (by decide) ?_
  refine lv_lload_n hx hb xd_Z_bytes_2 rfl (lv_at hl 1 rfl) ?_
  refine lv_ldc2 (v := 4) hx hb hown (htg _ xw_944) xd_Z_bytes_3 ?_
  refine lv_lrem hx hb xd_Z_bytes_6 (by decide) ?_
  refine lv_l2i (v := (Int64.toInt32 (p0 - p0 / (4 : Int64) * (4 : Int64)))) hx hb xd_Z_bytes_7 rfl ?_
  refine lv_imul hx hb xd_Z_bytes_8 ?_
  refine lv_istore (lv' := [(4, .int (((8 : Int32) * (Int64.toInt32 (p0 - p0 / (4 : Int64) * (4 : Int64)))))), (0, .ref ((b 0))), (1, .long p0), (3, .int p1)]) hx hb xd_Z_bytes_9 hl (by decide) rfl (fun ls hl => ?_)
  refine lv_aload_n hx hb xd_Z_bytes_11 rfl (lv_at hl 1 rfl) ?_
  refine lv_lload_n hx hb xd_Z_bytes_12 rfl (lv_at hl 2 rfl) ?_
  obtain ⟨hn2, hv⟩ := xan_v hv
  refine xcW_i (va_runV (As := [.long p0]) (rest := []) ⟨hx, hb, hml, hown, htg⟩ (c_Z_word l D z k b H.size u p0 hn2) (cwV 1 htg (xg_V0 xkin_Z_word xw_959 xw_961 xsel_Z_word xw_9) rfl rfl rfl (by decide +kernel) ⟨Nat.le_of_ble_eq_true rfl, Nat.le_of_ble_eq_true rfl⟩) ⟨xB_blind, xrecv_Z hK hP, fun U hU hW => xB_mk hP hK hD hE hS (xsubW hD hA hS) hU hW⟩ rfl rfl hl.1 rfl (lv_room (Nat.le_of_ble_eq_true rfl)) xd_Z_bytes_13 ⟨Nat.le_of_ble_eq_true rfl, Nat.le_of_ble_eq_true rfl⟩) hD hA hS (fun r u1 H locs hw hP hD hS => ?_)
  obtain ⟨q1, hq1⟩ : ∃ q, q = xf_Z_word u p0 := ⟨_, rfl⟩
  obtain ⟨e1, e2⟩ := hw
  rw [← hq1] at e1
  obtain rfl : q1 = r := e1.symm
  obtain rfl : u = u1 := e2.symm
  have hP : va_P D xCl (xWZ k b u) H := hP
  have hD : va_D A (xWZ k b u) := hD
  have hv := xlt_v hq1 hv
  refine lv_iload hx hb xd_Z_bytes_16 (lv_at hl 0 rfl) ?_
  refine lv_iushr (v := (xus q1 ((8 : Int32) * (Int64.toInt32 (p0 - p0 / (4 : Int64) * (4 : Int64)))))) hx hb xd_Z_bytes_18 rfl ?_
  refine lv_istore (lv' := [(5, .int ((xus q1 ((8 : Int32) * (Int64.toInt32 (p0 - p0 / (4 : Int64) * (4 : Int64))))))), (4, .int (((8 : Int32) * (Int64.toInt32 (p0 - p0 / (4 : Int64) * (4 : Int64)))))), (0, .ref ((b 0))), (1, .long p0), (3, .int p1)]) hx hb xd_Z_bytes_19 hl (by decide) rfl (fun ls hl => ?_)
  refine lv_iload_n hx hb xd_Z_bytes_21 rfl (lv_at hl 4 rfl) ?_
  refine lv_iconst (v := 4) hx hb xd_Z_bytes_22 (by decide) ?_
  have hj6 : ∀ (H : Heap) (locs : List Loc) (ls : Array Slot) (v5 : Int32), v5 = (if p1 = 4 then ((xus q1 ((8 : Int32) * (Int64.toInt32 (p0 - p0 / (4 : Int64) * (4 : Int64)))))) else (if p1 = 2 then (((xus q1 ((8 : Int32) * (Int64.toInt32 (p0 - p0 / (4 : Int64) * (4 : Int64))))) &&& (65535 : Int32))) else (((xus q1 ((8 : Int32) * (Int64.toInt32 (p0 - p0 / (4 : Int64) * (4 : Int64))))) &&& (255 : Int32))))) → lv_has ls 6 [(5, .int ((xus q1 ((8 : Int32) * (Int64.toInt32 (p0 - p0 / (4 : Int64) * (4 : Int64))))))), (4, .int (((8 : Int32) * (Int64.toInt32 (p0 - p0 / (4 : Int64) * (4 : Int64)))))), (0, .ref ((b 0))), (1, .long p0), (3, .int p1)] → va_P D xCl (xWZ k b u) H → va_D A (xWZ k b u) → va_S A s.heap H locs → W p l e { frames := 1, cells := 0, slots := 0, locals := 22 } s m args below meth c H locs (0) (0) Q (F0 m 50 ls [.int v5]) := by
    intro H locs ls v5 hv5 hl hP hD hS
    have hv := xlt_v hv5 hv
    exact hret _ u H locs ls _ ⟨(by unfold xf_Z_bytes; exact (xlt_e hq1 (xlt_e hv5 rfl))), rfl⟩ hP hD hS xd_Z_bytes_50
  refine lv_icmp_ne (tgt := 31) hx hb xd_Z_bytes_23 rfl (fun h7 => ?_) (fun h7 => ?_)
  · refine lv_iload_n hx hb xd_Z_bytes_31 rfl (lv_at hl 4 rfl) ?_
    refine lv_iconst (v := 2) hx hb xd_Z_bytes_32 (by decide) ?_
    refine lv_icmp_ne (tgt := 44) hx hb xd_Z_bytes_33 rfl (fun h8 => ?_) (fun h8 => ?_)
    · refine lv_iload hx hb xd_Z_bytes_44 (lv_at hl 0 rfl) ?_
      refine lv_sipush (v := 255) hx hb xd_Z_bytes_46 (by decide) ?_
      refine lv_iand hx hb xd_Z_bytes_49 ?_
      exact hj6 H locs ls ((xus q1 ((8 : Int32) * (Int64.toInt32 (p0 - p0 / (4 : Int64) * (4 : Int64))))) &&& (255 : Int32)) (xif h7 (xif h8 rfl)) hl hP hD hS
    · refine lv_iload hx hb xd_Z_bytes_36 (lv_at hl 0 rfl) ?_
      refine lv_ldc (v := 65535) hx hb hown (htg _ xw_1013) xd_Z_bytes_38 ?_
      refine lv_iand hx hb xd_Z_bytes_40 ?_
      refine lv_goto (tgt := 50) hx hb xd_Z_bytes_41 rfl ?_
      exact hj6 H locs ls ((xus q1 ((8 : Int32) * (Int64.toInt32 (p0 - p0 / (4 : Int64) * (4 : Int64))))) &&& (65535 : Int32)) (xif h7 (xit h8 rfl)) hl hP hD hS
  · refine lv_iload hx hb xd_Z_bytes_26 (lv_at hl 0 rfl) ?_
    refine lv_goto (tgt := 50) hx hb xd_Z_bytes_28 rfl ?_
    exact hj6 H locs ls (xus q1 ((8 : Int32) * (Int64.toInt32 (p0 - p0 / (4 : Int64) * (4 : Int64))))) (xit h7 rfl) hl hP hD hS

noncomputable def xf_Z_putBytes (u : XZ) (p0 : Int64) (p1 : Int32) (p2 : Int32) : XZ :=
  xlt (if p1 = 4 then ((-1)) else (if p1 = 2 then (65535) else (255)) : Int32) fun v3 =>
  (xs_Z_memory u (upd (xg_Z_memory u) (Int64.toInt32 (p0 / (4 : Int64))).toNatClampNeg (((xg_Z_memory u (Int64.toInt32 (p0 / (4 : Int64))).toNatClampNeg) &&& ((v3 <<< (((8 : Int32) * (Int64.toInt32 (p0 - p0 / (4 : Int64) * (4 : Int64)))) &&& 31)) ^^^ (-1 : Int32))) ||| ((p2 <<< (((8 : Int32) * (Int64.toInt32 (p0 - p0 / (4 : Int64) * (4 : Int64)))) &&& 31)) &&& (v3 <<< (((8 : Int32) * (Int64.toInt32 (p0 - p0 / (4 : Int64) * (4 : Int64)))) &&& 31))))))
def xv_Z_putBytes (u : XZ) (p0 : Int64) (p1 : Int32) (p2 : Int32) : Prop := XVc (
  xlt (if p1 = 4 then ((-1)) else (if p1 = 2 then (65535) else (255)) : Int32) fun v3 =>
  (vp_in (Int64.toInt32 (p0 / (4 : Int64))) 65536) ∧
  (vp_in (Int64.toInt32 (p0 / (4 : Int64))) 65536) ∧
  True)
set_option maxHeartbeats 4000000 in
set_option maxRecDepth 100000 in
theorem c_Z_putBytes (l : Launch) (D : va_G) (z : (Nat → Nat) × (Nat → Nat)) (k : ClassId × ClassId) (b : Nat → Nat) (sz : Nat) (u : XZ) (p0 : Int64) (p1 : Int32) (p2 : Int32) (hv : xv_Z_putBytes u p0 p1 p2) : Met l xy_Z_putBytes (xk_Z_putBytes :: lw_g) { frames := 0, cells := 0, slots := 0, locals := 0 } (va_Pc [.ref ((b 0)), .long p0, .int p1, .int p2] (xB D (xTy k) z sz (xWZ k b u))) (va_Qv (fun q : XZ => q = xf_Z_putBytes u p0 p1 p2) (fun q t => xQ D (xTy k) (xWZ k b q) (va_A (xWZ k b u) sz) t) (va_A (xWZ k b u) sz)) 0 0 (va_A (xWZ k b u) sz) := by
  refine xopen_v (wf := fun q : XZ => xWZ k b q) (lv := [(0, .ref ((b 0))), (1, .long p0), (3, .int p1), (4, .int p2)]) (by decide) rfl (Nat.le_of_ble_eq_true rfl) ?_
  intro p e s m args below meth c Q ls A H locs hx hb hml htg hown hin hK hP hD hE hS hA hl hret
  unfold xv_Z_putBytes at hv
  refine lv_bipush (v := 8) hx hb xd_Z_putBytes_0 (by decide) ?_
  refine lv_lload_n hx hb xd_Z_putBytes_2 rfl (lv_at hl 1 rfl) ?_
  refine lv_ldc2 (v := 4) hx hb hown (htg _ xw_944) xd_Z_putBytes_3 ?_
  refine lv_lrem hx hb xd_Z_putBytes_6 (by decide) ?_
  refine lv_l2i (v := (Int64.toInt32 (p0 - p0 / (4 : Int64) * (4 : Int64)))) hx hb xd_Z_putBytes_7 rfl ?_
  refine lv_imul hx hb xd_Z_putBytes_8 ?_
  refine lv_istore (lv' := [(5, .int (((8 : Int32) * (Int64.toInt32 (p0 - p0 / (4 : Int64) * (4 : Int64)))))), (0, .ref ((b 0))), (1, .long p0), (3, .int p1), (4, .int p2)]) hx hb xd_Z_putBytes_9 hl (by decide) rfl (fun ls hl => ?_)
  refine lv_iload_n hx hb xd_Z_putBytes_11 rfl (lv_at hl 3 rfl) ?_
  refine lv_iconst (v := 4) hx hb xd_Z_putBytes_12 (by decide) ?_
  have hj4 : ∀ (H : Heap) (locs : List Loc) (ls : Array Slot) (v3 : Int32), v3 = (if p1 = 4 then ((-1)) else (if p1 = 2 then (65535) else (255))) → lv_has ls 8 [(5, .int (((8 : Int32) * (Int64.toInt32 (p0 - p0 / (4 : Int64) * (4 : Int64)))))), (0, .ref ((b 0))), (1, .long p0), (3, .int p1), (4, .int p2)] → va_P D xCl (xWZ k b u) H → va_D A (xWZ k b u) → va_S A s.heap H locs → W p l e { frames := 0, cells := 0, slots := 0, locals := 0 } s m args below meth c H locs (0) (0) Q (F0 m 33 ls [.int v3]) := by
    intro H locs ls v3 hv3 hl hP hD hS
    have hv := xlt_v hv3 hv
    refine lv_iload hx hb xd_Z_putBytes_33 (lv_at hl 0 rfl) ?_
    refine lv_ishl hx hb xd_Z_putBytes_35 ?_
    refine lv_istore (lv' := [(6, .int ((v3 <<< (((8 : Int32) * (Int64.toInt32 (p0 - p0 / (4 : Int64) * (4 : Int64)))) &&& 31)))), (5, .int (((8 : Int32) * (Int64.toInt32 (p0 - p0 / (4 : Int64) * (4 : Int64)))))), (0, .ref ((b 0))), (1, .long p0), (3, .int p1), (4, .int p2)]) hx hb xd_Z_putBytes_36 hl (by decide) rfl (fun ls hl => ?_)
    refine lv_lload_n hx hb xd_Z_putBytes_38 rfl (lv_at hl 3 rfl) ?_
    refine lv_ldc2 (v := 4) hx hb hown (htg _ xw_944) xd_Z_putBytes_39 ?_
    refine lv_ldiv hx hb xd_Z_putBytes_42 (by decide) ?_
    refine lv_l2i (v := (Int64.toInt32 (p0 / (4 : Int64)))) hx hb xd_Z_putBytes_43 rfl ?_
    refine lv_istore (lv' := [(7, .int ((Int64.toInt32 (p0 / (4 : Int64))))), (6, .int ((v3 <<< (((8 : Int32) * (Int64.toInt32 (p0 - p0 / (4 : Int64) * (4 : Int64)))) &&& 31)))), (5, .int (((8 : Int32) * (Int64.toInt32 (p0 - p0 / (4 : Int64) * (4 : Int64)))))), (0, .ref ((b 0))), (1, .long p0), (3, .int p1), (4, .int p2)]) hx hb xd_Z_putBytes_44 hl (by decide) rfl (fun ls hl => ?_)
    refine lv_aload_n hx hb xd_Z_putBytes_46 rfl (lv_at hl 3 rfl) ?_
    refine xget_Z_memory hx hb htg hown hK hP (htg _ xw_728) xd_Z_putBytes_47 ?_
    refine lv_iload hx hb xd_Z_putBytes_50 (lv_at hl 0 rfl) ?_
    refine lv_aload_n hx hb xd_Z_putBytes_52 rfl (lv_at hl 3 rfl) ?_
    refine xget_Z_memory hx hb htg hown hK hP (htg _ xw_728) xd_Z_putBytes_53 ?_
    refine lv_iload hx hb xd_Z_putBytes_56 (lv_at hl 0 rfl) ?_
    obtain ⟨hn5, hv⟩ := xan_v hv
    refine xald_Z_memory hx hb hK hP hn5 xd_Z_putBytes_58 ?_
    refine lv_iload hx hb xd_Z_putBytes_59 (lv_at hl 1 rfl) ?_
    refine lv_iconst (v := (-1)) hx hb xd_Z_putBytes_61 (by decide) ?_
    refine lv_ixor hx hb xd_Z_putBytes_62 ?_
    refine lv_iand hx hb xd_Z_putBytes_63 ?_
    refine lv_iload hx hb xd_Z_putBytes_64 (lv_at hl 6 rfl) ?_
    refine lv_iload hx hb xd_Z_putBytes_66 (lv_at hl 2 rfl) ?_
    refine lv_ishl hx hb xd_Z_putBytes_68 ?_
    refine lv_iload hx hb xd_Z_putBytes_69 (lv_at hl 1 rfl) ?_
    refine lv_iand hx hb xd_Z_putBytes_71 ?_
    refine lv_ior hx hb xd_Z_putBytes_72 ?_
    obtain ⟨hn6, hv⟩ := xan_v hv
    refine xast_Z_memory hx hb hK hP hD hS hn6 xd_Z_putBytes_73 (fun H locs hP hD hS => ?_)
    exact hret (xs_Z_memory u (upd (xg_Z_memory u) (Int64.toInt32 (p0 / (4 : Int64))).toNatClampNeg (((xg_Z_memory u (Int64.toInt32 (p0 / (4 : Int64))).toNatClampNeg) &&& ((v3 <<< (((8 : Int32) * (Int64.toInt32 (p0 - p0 / (4 : Int64) * (4 : Int64)))) &&& 31)) ^^^ (-1 : Int32))) ||| ((p2 <<< (((8 : Int32) * (Int64.toInt32 (p0 - p0 / (4 : Int64) * (4 : Int64)))) &&& 31)) &&& (v3 <<< (((8 : Int32) * (Int64.toInt32 (p0 - p0 / (4 : Int64) * (4 : Int64)))) &&& 31)))))) H locs ls _ (by unfold xf_Z_putBytes; exact (xlt_e hv3 rfl)) hP hD hS xd_Z_putBytes_74
  refine lv_icmp_ne (tgt := 20) hx hb xd_Z_putBytes_13 rfl (fun h7 => ?_) (fun h7 => ?_)
  · refine lv_iload_n hx hb xd_Z_putBytes_20 rfl (lv_at hl 3 rfl) ?_
    refine lv_iconst (v := 2) hx hb xd_Z_putBytes_21 (by decide) ?_
    refine lv_icmp_ne (tgt := 30) hx hb xd_Z_putBytes_22 rfl (fun h8 => ?_) (fun h8 => ?_)
    · refine lv_sipush (v := 255) hx hb xd_Z_putBytes_30 (by decide) ?_
      exact hj4 H locs ls (255 : Int32) (xif h7 (xif h8 rfl)) hl hP hD hS
    · refine lv_ldc (v := 65535) hx hb hown (htg _ xw_1013) xd_Z_putBytes_25 ?_
      refine lv_goto (tgt := 33) hx hb xd_Z_putBytes_27 rfl ?_
      exact hj4 H locs ls (65535 : Int32) (xif h7 (xit h8 rfl)) hl hP hD hS
  · refine lv_iconst (v := (-1)) hx hb xd_Z_putBytes_16 (by decide) ?_
    refine lv_goto (tgt := 33) hx hb xd_Z_putBytes_17 rfl ?_
    exact hj4 H locs ls (-1 : Int32) (xit h7 rfl) hl hP hD hS

noncomputable def xf_Z_illegal (u : XZ) (p0 : Int32) : Int32 × XZ :=
  xlt (xf_Z_fails u (2 : Int32) p0 (0 : Int32) : Int32 × XZ) fun q1 =>
  (q1.1, q1.2)
def xv_Z_illegal (u : XZ) (p0 : Int32) : Prop := XVc (
  (xv_Z_fails u (2 : Int32) p0 (0 : Int32)) ∧
  xlt (xf_Z_fails u (2 : Int32) p0 (0 : Int32) : Int32 × XZ) fun q1 =>
  True)
set_option maxHeartbeats 4000000 in
set_option maxRecDepth 100000 in
theorem c_Z_illegal (l : Launch) (D : va_G) (z : (Nat → Nat) × (Nat → Nat)) (k : ClassId × ClassId) (b : Nat → Nat) (sz : Nat) (u : XZ) (p0 : Int32) (hv : xv_Z_illegal u p0) : Met l xy_Z_illegal (xk_Z_illegal :: lw_g) { frames := 1, cells := 0, slots := 0, locals := 23 } (va_Pc [.ref ((b 0)), .int p0] (xB D (xTy k) z sz (xWZ k b u))) (va_Qi (fun r (q : XZ) => (r, q) = xf_Z_illegal u p0) (fun q t => xQ D (xTy k) (xWZ k b q) (va_A (xWZ k b u) sz) t) (va_A (xWZ k b u) sz)) 0 0 (va_A (xWZ k b u) sz) := by
  refine xopen_z (wf := fun q : XZ => xWZ k b q) (lv := [(0, .ref ((b 0))), (1, .int p0)]) (by decide) rfl (Nat.le_of_ble_eq_true rfl) ?_
  intro p e s m args below meth c Q ls A H locs hx hb hml htg hown hin hK hP hD hE hS hA hl hret
  unfold xv_Z_illegal at hv
  refine lv_aload_n hx hb xd_Z_illegal_0 rfl (lv_at hl 0 rfl) ?_
  refine lv_iconst (v := 2) hx hb xd_Z_illegal_1 (by decide) ?_
  refine lv_iload_n hx hb xd_Z_illegal_2 rfl (lv_at hl 1 rfl) ?_
  refine lv_iconst (v := 0) hx hb xd_Z_illegal_3 (by decide) ?_
  obtain ⟨hn2, hv⟩ := xan_v hv
  refine xcW_i (va_runV (As := [.int 2, .int p0, .int 0]) (rest := []) ⟨hx, hb, hml, hown, htg⟩ (c_Z_fails l D z k b H.size u (2 : Int32) p0 (0 : Int32) hn2) (cwV 3 htg (xg_V0 xkin_Z_fails xw_933 xw_935 xsel_Z_fails xw_9) rfl rfl rfl (by decide +kernel) ⟨Nat.le_of_ble_eq_true rfl, Nat.le_of_ble_eq_true rfl⟩) ⟨xB_blind, xrecv_Z hK hP, fun U hU hW => xB_mk hP hK hD hE hS (xsubW hD hA hS) hU hW⟩ rfl rfl hl.1 rfl (lv_room (Nat.le_of_ble_eq_true rfl)) xd_Z_illegal_4 ⟨Nat.le_of_ble_eq_true rfl, Nat.le_of_ble_eq_true rfl⟩) hD hA hS (fun r u1 H locs hw hP hD hS => ?_)
  obtain ⟨q1, hq1⟩ : ∃ q, q = xf_Z_fails u (2 : Int32) p0 (0 : Int32) := ⟨_, rfl⟩
  rw [← hq1] at hw
  obtain rfl : r = q1.1 := congrArg Prod.fst hw
  obtain rfl : u1 = q1.2 := congrArg Prod.snd hw
  have hP : va_P D xCl (xWZ k b q1.2) H := hP
  have hD : va_D A (xWZ k b q1.2) := hD
  have hv := xlt_v hq1 hv
  exact hret _ q1.2 H locs ls _ (xnar (X01_ofp hq1 (xt01_Z_fails u (2 : Int32) p0 (0 : Int32)))) (by unfold xf_Z_illegal; exact (xlt_e hq1 rfl)) hP hD hS xd_Z_illegal_7
theorem xt01_Z_illegal (u : XZ) (p0 : Int32) : X01p (xf_Z_illegal u p0) := by unfold xf_Z_illegal; exact (xlt_01p (fun q1 hq1 => (X01_ofp hq1 (xt01_Z_fails u (2 : Int32) p0 (0 : Int32)))))

noncomputable def xf_Z_notThere (u : XZ) (p0 : Int32) : Int32 × XZ :=
  xlt (xf_Z_isVirtual u : Int32) fun q1 =>
  xlt (if q1 = 0 then (2) else (22) : Int32) fun v3 =>
  xlt (xf_Z_fails u v3 p0 (0 : Int32) : Int32 × XZ) fun q5 =>
  (q5.1, q5.2)
def xv_Z_notThere (u : XZ) (p0 : Int32) : Prop := XVc (
  xlt (xf_Z_isVirtual u : Int32) fun q1 =>
  xlt (if q1 = 0 then (2) else (22) : Int32) fun v3 =>
  (xv_Z_fails u v3 p0 (0 : Int32)) ∧
  xlt (xf_Z_fails u v3 p0 (0 : Int32) : Int32 × XZ) fun q5 =>
  True)
set_option maxHeartbeats 4000000 in
set_option maxRecDepth 100000 in
theorem c_Z_notThere (l : Launch) (D : va_G) (z : (Nat → Nat) × (Nat → Nat)) (k : ClassId × ClassId) (b : Nat → Nat) (sz : Nat) (u : XZ) (p0 : Int32) (hv : xv_Z_notThere u p0) : Met l xy_Z_notThere (xk_Z_notThere :: lw_g) { frames := 1, cells := 0, slots := 0, locals := 23 } (va_Pc [.ref ((b 0)), .int p0] (xB D (xTy k) z sz (xWZ k b u))) (va_Qi (fun r (q : XZ) => (r, q) = xf_Z_notThere u p0) (fun q t => xQ D (xTy k) (xWZ k b q) (va_A (xWZ k b u) sz) t) (va_A (xWZ k b u) sz)) 0 0 (va_A (xWZ k b u) sz) := by
  refine xopen_z (wf := fun q : XZ => xWZ k b q) (lv := [(0, .ref ((b 0))), (1, .int p0)]) (by decide) rfl (Nat.le_of_ble_eq_true rfl) ?_
  intro p e s m args below meth c Q ls A H locs hx hb hml htg hown hin hK hP hD hE hS hA hl hret
  unfold xv_Z_notThere at hv
  refine lv_aload_n hx hb xd_Z_notThere_0 rfl (lv_at hl 0 rfl) ?_
  refine lv_aload_n hx hb xd_Z_notThere_1 rfl (lv_at hl 0 rfl) ?_
  refine xcW_i (va_runV (As := []) (rest := [.ref ((b 0))]) ⟨hx, hb, hml, hown, htg⟩ (c_Z_isVirtual l D z k b H.size u) (cwV 0 htg (xg_V0 xkin_Z_isVirtual xw_917 xw_919 xsel_Z_isVirtual xw_9) rfl rfl rfl (by decide +kernel) ⟨Nat.le_of_ble_eq_true rfl, Nat.le_of_ble_eq_true rfl⟩) ⟨xB_blind, xrecv_Z hK hP, fun U hU hW => xB_mk hP hK hD hE hS (xsubW hD hA hS) hU hW⟩ rfl rfl hl.1 rfl (lv_room (Nat.le_of_ble_eq_true rfl)) xd_Z_notThere_2 ⟨Nat.le_of_ble_eq_true rfl, Nat.le_of_ble_eq_true rfl⟩) hD hA hS (fun r u1 H locs hw hP hD hS => ?_)
  obtain ⟨q1, hq1⟩ : ∃ q, q = xf_Z_isVirtual u := ⟨_, rfl⟩
  obtain ⟨e1, e2⟩ := hw
  rw [← hq1] at e1
  obtain rfl : q1 = r := e1.symm
  obtain rfl : u = u1 := e2.symm
  have hP : va_P D xCl (xWZ k b u) H := hP
  have hD : va_D A (xWZ k b u) := hD
  have hv := xlt_v hq1 hv
  have hj4 : ∀ (H : Heap) (locs : List Loc) (ls : Array Slot) (v3 : Int32), v3 = (if q1 = 0 then (2) else (22)) → lv_has ls 2 [(0, .ref ((b 0))), (1, .int p0)] → va_P D xCl (xWZ k b u) H → va_D A (xWZ k b u) → va_S A s.heap H locs → W p l e { frames := 1, cells := 0, slots := 0, locals := 23 } s m args below meth c H locs (0) (0) Q (F0 m 14 ls [.int v3, .ref ((b 0))]) := by
    intro H locs ls v3 hv3 hl hP hD hS
    have hv := xlt_v hv3 hv
    refine lv_iload_n hx hb xd_Z_notThere_14 rfl (lv_at hl 1 rfl) ?_
    refine lv_iconst (v := 0) hx hb xd_Z_notThere_15 (by decide) ?_
    obtain ⟨hn6, hv⟩ := xan_v hv
    refine xcW_i (va_runV (As := [.int v3, .int p0, .int 0]) (rest := []) ⟨hx, hb, hml, hown, htg⟩ (c_Z_fails l D z k b H.size u v3 p0 (0 : Int32) hn6) (cwV 3 htg (xg_V0 xkin_Z_fails xw_933 xw_935 xsel_Z_fails xw_9) rfl rfl rfl (by decide +kernel) ⟨Nat.le_of_ble_eq_true rfl, Nat.le_of_ble_eq_true rfl⟩) ⟨xB_blind, xrecv_Z hK hP, fun U hU hW => xB_mk hP hK hD hE hS (xsubW hD hA hS) hU hW⟩ rfl rfl hl.1 rfl (lv_room (Nat.le_of_ble_eq_true rfl)) xd_Z_notThere_16 ⟨Nat.le_of_ble_eq_true rfl, Nat.le_of_ble_eq_true rfl⟩) hD hA hS (fun r u1 H locs hw hP hD hS => ?_)
    obtain ⟨q5, hq5⟩ : ∃ q, q = xf_Z_fails u v3 p0 (0 : Int32) := ⟨_, rfl⟩
    rw [← hq5] at hw
    obtain rfl : r = q5.1 := congrArg Prod.fst hw
    obtain rfl : u1 = q5.2 := congrArg Prod.snd hw
    have hP : va_P D xCl (xWZ k b q5.2) H := hP
    have hD : va_D A (xWZ k b q5.2) := hD
    have hv := xlt_v hq5 hv
    exact hret _ q5.2 H locs ls _ (xnar (X01_ofp hq5 (xt01_Z_fails u v3 p0 (0 : Int32)))) (by unfold xf_Z_notThere; exact (xlt_e hq1 (xlt_e hv3 (xlt_e hq5 rfl)))) hP hD hS xd_Z_notThere_19
  refine lv_if_eq (tgt := 13) hx hb xd_Z_notThere_5 rfl (fun h7 => ?_) (fun h7 => ?_)
  · refine lv_iconst (v := 2) hx hb xd_Z_notThere_13 (by decide) ?_
    exact hj4 H locs ls (2 : Int32) (xit h7 rfl) hl hP hD hS
  · refine lv_bipush (v := 22) hx hb xd_Z_notThere_8 (by decide) ?_
    refine lv_goto (tgt := 14) hx hb xd_Z_notThere_10 rfl ?_
    exact hj4 H locs ls (22 : Int32) (xif h7 rfl) hl hP hD hS
theorem xt01_Z_notThere (u : XZ) (p0 : Int32) : X01p (xf_Z_notThere u p0) := by unfold xf_Z_notThere; exact (xlt_01p (fun q1 hq1 => (xlt_01p (fun v3 hv3 => (xlt_01p (fun q5 hq5 => (X01_ofp hq5 (xt01_Z_fails u v3 p0 (0 : Int32)))))))))

noncomputable def xf_Z_put (u : XZ) (p0 : Int32) (p1 : Int32) : Int32 × XZ :=
  xlt (if p0 = 0 then (0) else (p1) : Int32) fun v2 =>
  (1, (xs_Z_x u (upd (xg_Z_x u) p0.toNatClampNeg v2)))
def xv_Z_put (u : XZ) (p0 : Int32) (p1 : Int32) : Prop := XVc (
  xlt (if p0 = 0 then (0) else (p1) : Int32) fun v2 =>
  (vp_in p0 32) ∧
  True)
set_option maxHeartbeats 4000000 in
set_option maxRecDepth 100000 in
theorem c_Z_put (l : Launch) (D : va_G) (z : (Nat → Nat) × (Nat → Nat)) (k : ClassId × ClassId) (b : Nat → Nat) (sz : Nat) (u : XZ) (p0 : Int32) (p1 : Int32) (hv : xv_Z_put u p0 p1) : Met l xy_Z_put (xk_Z_put :: lw_g) { frames := 0, cells := 0, slots := 0, locals := 0 } (va_Pc [.ref ((b 0)), .int p0, .int p1] (xB D (xTy k) z sz (xWZ k b u))) (va_Qi (fun r (q : XZ) => (r, q) = xf_Z_put u p0 p1) (fun q t => xQ D (xTy k) (xWZ k b q) (va_A (xWZ k b u) sz) t) (va_A (xWZ k b u) sz)) 0 0 (va_A (xWZ k b u) sz) := by
  refine xopen_z (wf := fun q : XZ => xWZ k b q) (lv := [(0, .ref ((b 0))), (1, .int p0), (2, .int p1)]) (by decide) rfl (Nat.le_of_ble_eq_true rfl) ?_
  intro p e s m args below meth c Q ls A H locs hx hb hml htg hown hin hK hP hD hE hS hA hl hret
  unfold xv_Z_put at hv
  refine lv_aload_n hx hb xd_Z_put_0 rfl (lv_at hl 0 rfl) ?_
  refine xget_Z_x hx hb htg hown hK hP (htg _ xw_729) xd_Z_put_1 ?_
  refine lv_iload_n hx hb xd_Z_put_4 rfl (lv_at hl 1 rfl) ?_
  refine lv_iload_n hx hb xd_Z_put_5 rfl (lv_at hl 1 rfl) ?_
  have hj3 : ∀ (H : Heap) (locs : List Loc) (ls : Array Slot) (v2 : Int32), v2 = (if p0 = 0 then (0) else (p1)) → lv_has ls 3 [(0, .ref ((b 0))), (1, .int p0), (2, .int p1)] → va_P D xCl (xWZ k b u) H → va_D A (xWZ k b u) → va_S A s.heap H locs → W p l e { frames := 0, cells := 0, slots := 0, locals := 0 } s m args below meth c H locs (0) (0) Q (F0 m 14 ls [.int v2, .int p0, .ref ((b 2))]) := by
    intro H locs ls v2 hv2 hl hP hD hS
    have hv := xlt_v hv2 hv
    obtain ⟨hn4, hv⟩ := xan_v hv
    refine xast_Z_x hx hb hK hP hD hS hn4 xd_Z_put_14 (fun H locs hP hD hS => ?_)
    refine lv_iconst (v := 1) hx hb xd_Z_put_15 (by decide) ?_
    exact hret _ (xs_Z_x u (upd (xg_Z_x u) p0.toNatClampNeg v2)) H locs ls _ rfl (by unfold xf_Z_put; exact (xlt_e hv2 rfl)) hP hD hS xd_Z_put_16
  refine lv_if_ne (tgt := 13) hx hb xd_Z_put_6 rfl (fun h5 => ?_) (fun h5 => ?_)
  · refine lv_iload_n hx hb xd_Z_put_13 rfl (lv_at hl 2 rfl) ?_
    exact hj3 H locs ls p1 (xif h5 rfl) hl hP hD hS
  · refine lv_iconst (v := 0) hx hb xd_Z_put_9 (by decide) ?_
    refine lv_goto (tgt := 14) hx hb xd_Z_put_10 rfl ?_
    exact hj3 H locs ls (0 : Int32) (xit h5 rfl) hl hP hD hS
theorem xt01_Z_put (u : XZ) (p0 : Int32) (p1 : Int32) : X01p (xf_Z_put u p0 p1) := by unfold xf_Z_put; exact (xlt_01p (fun v2 hv2 => (Or.inr rfl)))

noncomputable def xf_Z_go (u : XZ) (p0 : Int32) : Int32 × XZ :=
  if (p0 - p0 / (4 : Int32) * (4 : Int32)) = 0 then
    (1, (xs_Z_next u p0))
  else
    xlt (xf_Z_isVirtual u : Int32) fun q2 =>
    xlt (xf_Z_fails u (0 : Int32) p0 q2 : Int32 × XZ) fun q3 =>
    (q3.1, q3.2)
def xv_Z_go (u : XZ) (p0 : Int32) : Prop := XVc (
  if (p0 - p0 / (4 : Int32) * (4 : Int32)) = 0 then
    True
  else
    xlt (xf_Z_isVirtual u : Int32) fun q2 =>
    (xv_Z_fails u (0 : Int32) p0 q2) ∧
    xlt (xf_Z_fails u (0 : Int32) p0 q2 : Int32 × XZ) fun q3 =>
    True)
set_option maxHeartbeats 4000000 in
set_option maxRecDepth 100000 in
theorem c_Z_go (l : Launch) (D : va_G) (z : (Nat → Nat) × (Nat → Nat)) (k : ClassId × ClassId) (b : Nat → Nat) (sz : Nat) (u : XZ) (p0 : Int32) (hv : xv_Z_go u p0) : Met l xy_Z_go (xk_Z_go :: lw_g) { frames := 1, cells := 0, slots := 0, locals := 23 } (va_Pc [.ref ((b 0)), .int p0] (xB D (xTy k) z sz (xWZ k b u))) (va_Qi (fun r (q : XZ) => (r, q) = xf_Z_go u p0) (fun q t => xQ D (xTy k) (xWZ k b q) (va_A (xWZ k b u) sz) t) (va_A (xWZ k b u) sz)) 0 0 (va_A (xWZ k b u) sz) := by
  refine xopen_z (wf := fun q : XZ => xWZ k b q) (lv := [(0, .ref ((b 0))), (1, .int p0)]) (by decide) rfl (Nat.le_of_ble_eq_true rfl) ?_
  intro p e s m args below meth c Q ls A H locs hx hb hml htg hown hin hK hP hD hE hS hA hl hret
  unfold xv_Z_go at hv
  refine lv_iload_n hx hb xd_Z_go_0 rfl (lv_at hl 1 rfl) ?_
  refine lv_iconst (v := 4) hx hb xd_Z_go_1 (by decide) ?_
  refine lv_irem hx hb xd_Z_go_2 (by decide) ?_
  refine lv_if_eq (tgt := 17) hx hb xd_Z_go_3 rfl (fun h1 => ?_) (fun h1 => ?_)
  · have hv := xit_v h1 hv
    refine lv_aload_n hx hb xd_Z_go_17 rfl (lv_at hl 0 rfl) ?_
    refine lv_iload_n hx hb xd_Z_go_18 rfl (lv_at hl 1 rfl) ?_
    refine xput_Z_next (v := p0) hx hb htg hown hK hP hD hS (htg _ xw_753) xd_Z_go_19 (fun H locs hP hD hS => ?_)
    refine lv_iconst (v := 1) hx hb xd_Z_go_22 (by decide) ?_
    exact hret _ (xs_Z_next u p0) H locs ls _ rfl (by unfold xf_Z_go; exact (xit h1 rfl)) hP hD hS xd_Z_go_23
  · have hv := xif_v h1 hv
    refine lv_aload_n hx hb xd_Z_go_6 rfl (lv_at hl 0 rfl) ?_
    refine lv_iconst (v := 0) hx hb xd_Z_go_7 (by decide) ?_
    refine lv_iload_n hx hb xd_Z_go_8 rfl (lv_at hl 1 rfl) ?_
    refine lv_aload_n hx hb xd_Z_go_9 rfl (lv_at hl 0 rfl) ?_
    refine xcW_i (va_runV (As := []) (rest := [.int p0, .int 0, .ref ((b 0))]) ⟨hx, hb, hml, hown, htg⟩ (c_Z_isVirtual l D z k b H.size u) (cwV 0 htg (xg_V0 xkin_Z_isVirtual xw_917 xw_919 xsel_Z_isVirtual xw_9) rfl rfl rfl (by decide +kernel) ⟨Nat.le_of_ble_eq_true rfl, Nat.le_of_ble_eq_true rfl⟩) ⟨xB_blind, xrecv_Z hK hP, fun U hU hW => xB_mk hP hK hD hE hS (xsubW hD hA hS) hU hW⟩ rfl rfl hl.1 rfl (lv_room (Nat.le_of_ble_eq_true rfl)) xd_Z_go_10 ⟨Nat.le_of_ble_eq_true rfl, Nat.le_of_ble_eq_true rfl⟩) hD hA hS (fun r u1 H locs hw hP hD hS => ?_)
    obtain ⟨q2, hq2⟩ : ∃ q, q = xf_Z_isVirtual u := ⟨_, rfl⟩
    obtain ⟨e1, e2⟩ := hw
    rw [← hq2] at e1
    obtain rfl : q2 = r := e1.symm
    obtain rfl : u = u1 := e2.symm
    have hP : va_P D xCl (xWZ k b u) H := hP
    have hD : va_D A (xWZ k b u) := hD
    have hv := xlt_v hq2 hv
    obtain ⟨hn4, hv⟩ := xan_v hv
    refine xcW_i (va_runV (As := [.int 0, .int p0, .int q2]) (rest := []) ⟨hx, hb, hml, hown, htg⟩ (c_Z_fails l D z k b H.size u (0 : Int32) p0 q2 hn4) (cwV 3 htg (xg_V0 xkin_Z_fails xw_933 xw_935 xsel_Z_fails xw_9) rfl rfl rfl (by decide +kernel) ⟨Nat.le_of_ble_eq_true rfl, Nat.le_of_ble_eq_true rfl⟩) ⟨xB_blind, xrecv_Z hK hP, fun U hU hW => xB_mk hP hK hD hE hS (xsubW hD hA hS) hU hW⟩ rfl rfl hl.1 rfl (lv_room (Nat.le_of_ble_eq_true rfl)) xd_Z_go_13 ⟨Nat.le_of_ble_eq_true rfl, Nat.le_of_ble_eq_true rfl⟩) hD hA hS (fun r u1 H locs hw hP hD hS => ?_)
    obtain ⟨q3, hq3⟩ : ∃ q, q = xf_Z_fails u (0 : Int32) p0 q2 := ⟨_, rfl⟩
    rw [← hq3] at hw
    obtain rfl : r = q3.1 := congrArg Prod.fst hw
    obtain rfl : u1 = q3.2 := congrArg Prod.snd hw
    have hP : va_P D xCl (xWZ k b q3.2) H := hP
    have hD : va_D A (xWZ k b q3.2) := hD
    have hv := xlt_v hq3 hv
    exact hret _ q3.2 H locs ls _ (xnar (X01_ofp hq3 (xt01_Z_fails u (0 : Int32) p0 q2))) (by unfold xf_Z_go; exact (xif h1 (xlt_e hq2 (xlt_e hq3 rfl)))) hP hD hS xd_Z_go_16
theorem xt01_Z_go (u : XZ) (p0 : Int32) : X01p (xf_Z_go u p0) := by unfold xf_Z_go; exact (xit_01p (Or.inr rfl) (xlt_01p (fun q2 hq2 => (xlt_01p (fun q3 hq3 => (X01_ofp hq3 (xt01_Z_fails u (0 : Int32) p0 q2)))))))

noncomputable def xf_Z_branch (u : XZ) (p0 : Int32) (p1 : Int32) (p2 : Int32) (p3 : Int32) : Int32 × XZ :=
  if p1 = 2 then
    xlt (xf_Z_illegal u p0 : Int32 × XZ) fun q2 =>
    (q2.1, q2.2)
  else
    if p1 = 3 then
      xlt (xf_Z_illegal u p0 : Int32 × XZ) fun q43 =>
      (q43.1, q43.2)
    else
      xlt (if p1 = 0 then (if p2 = p3 then (1) else (0)) else (if p1 = 1 then (if p2 = p3 then (0) else (1)) else (if p1 = 4 then (if p3 ≤ p2 then (0) else (1)) else (if p1 = 5 then (if p2 < p3 then (0) else (1)) else (if p1 = 6 then (xlt (xf_Z_lessPlain p2 p3 : Int32) fun r12 => r12) else (xlt (xf_Z_lessPlain p2 p3 : Int32) fun r10 => if r10 = 0 then (1) else (0)))))) : Int32) fun v17 =>
      xlt (xf_Z_signed ((((((p0 >>> ((31 : Int32) &&& 31)) &&& (1 : Int32)) <<< ((12 : Int32) &&& 31)) ||| (((p0 >>> ((7 : Int32) &&& 31)) &&& (1 : Int32)) <<< ((11 : Int32) &&& 31))) ||| (((p0 >>> ((25 : Int32) &&& 31)) &&& (63 : Int32)) <<< ((5 : Int32) &&& 31))) ||| (((p0 >>> ((8 : Int32) &&& 31)) &&& (15 : Int32)) <<< ((1 : Int32) &&& 31))) (13 : Int32) : Int32) fun r19 =>
      xlt (if v17 = 0 then (1) else (xlt (xf_Z_go u ((xg_Z_pc u) + r19) : Int32 × XZ) fun q21 => if q21.1 = 0 then (0) else (1)) : Int32) fun v24 =>
      xlt (if v17 = 0 then (u) else (xlt (xf_Z_go u ((xg_Z_pc u) + r19) : Int32 × XZ) fun q21 => if q21.1 = 0 then (q21.2) else (q21.2)) : XZ) fun v25 =>
      (v24, v25)
def xv_Z_branch (u : XZ) (p0 : Int32) (p1 : Int32) (p2 : Int32) (p3 : Int32) : Prop := XVc (
  if p1 = 2 then
    (xv_Z_illegal u p0) ∧
    xlt (xf_Z_illegal u p0 : Int32 × XZ) fun q2 =>
    True
  else
    if p1 = 3 then
      (xv_Z_illegal u p0) ∧
      xlt (xf_Z_illegal u p0 : Int32 × XZ) fun q43 =>
      True
    else
      xlt (if p1 = 0 then (if p2 = p3 then (1) else (0)) else (if p1 = 1 then (if p2 = p3 then (0) else (1)) else (if p1 = 4 then (if p3 ≤ p2 then (0) else (1)) else (if p1 = 5 then (if p2 < p3 then (0) else (1)) else (if p1 = 6 then (xlt (xf_Z_lessPlain p2 p3 : Int32) fun r12 => r12) else (xlt (xf_Z_lessPlain p2 p3 : Int32) fun r10 => if r10 = 0 then (1) else (0)))))) : Int32) fun v17 =>
      xlt (xf_Z_signed ((((((p0 >>> ((31 : Int32) &&& 31)) &&& (1 : Int32)) <<< ((12 : Int32) &&& 31)) ||| (((p0 >>> ((7 : Int32) &&& 31)) &&& (1 : Int32)) <<< ((11 : Int32) &&& 31))) ||| (((p0 >>> ((25 : Int32) &&& 31)) &&& (63 : Int32)) <<< ((5 : Int32) &&& 31))) ||| (((p0 >>> ((8 : Int32) &&& 31)) &&& (15 : Int32)) <<< ((1 : Int32) &&& 31))) (13 : Int32) : Int32) fun r19 =>
      (if v17 = 0 then (True) else ((xv_Z_go u ((xg_Z_pc u) + r19)) ∧ (xlt (xf_Z_go u ((xg_Z_pc u) + r19) : Int32 × XZ) fun q21 => if q21.1 = 0 then (True) else (True)))) ∧
      xlt (if v17 = 0 then (1) else (xlt (xf_Z_go u ((xg_Z_pc u) + r19) : Int32 × XZ) fun q21 => if q21.1 = 0 then (0) else (1)) : Int32) fun v24 =>
      xlt (if v17 = 0 then (u) else (xlt (xf_Z_go u ((xg_Z_pc u) + r19) : Int32 × XZ) fun q21 => if q21.1 = 0 then (q21.2) else (q21.2)) : XZ) fun v25 =>
      True)
set_option maxHeartbeats 4000000 in
set_option maxRecDepth 100000 in
theorem c_Z_branch (l : Launch) (D : va_G) (z : (Nat → Nat) × (Nat → Nat)) (k : ClassId × ClassId) (b : Nat → Nat) (sz : Nat) (u : XZ) (p0 : Int32) (p1 : Int32) (p2 : Int32) (p3 : Int32) (hv : xv_Z_branch u p0 p1 p2 p3) : Met l xy_Z_branch (xk_Z_branch :: lw_g) { frames := 2, cells := 0, slots := 0, locals := 44 } (va_Pc [.ref ((b 0)), .int p0, .int p1, .int p2, .int p3] (xB D (xTy k) z sz (xWZ k b u))) (va_Qi (fun r (q : XZ) => (r, q) = xf_Z_branch u p0 p1 p2 p3) (fun q t => xQ D (xTy k) (xWZ k b q) (va_A (xWZ k b u) sz) t) (va_A (xWZ k b u) sz)) 0 0 (va_A (xWZ k b u) sz) := by
  refine xopen_z (wf := fun q : XZ => xWZ k b q) (lv := [(0, .ref ((b 0))), (1, .int p0), (2, .int p1), (3, .int p2), (4, .int p3)]) (by decide) rfl (Nat.le_of_ble_eq_true rfl) ?_
  intro p e s m args below meth c Q ls A H locs hx hb hml htg hown hin hK hP hD hE hS hA hl hret
  unfold xv_Z_branch at hv
  refine lv_iload_n hx hb xd_Z_branch_0 rfl (lv_at hl 2 rfl) ?_
  refine lv_iconst (v := 2) hx hb xd_Z_branch_1 (by decide) ?_
  refine lv_icmp_eq (tgt := 10) hx hb xd_Z_branch_2 rfl (fun h1 => ?_) (fun h1 => ?_)
  · have hv := xit_v h1 hv
    refine lv_aload_n hx hb xd_Z_branch_10 rfl (lv_at hl 0 rfl) ?_
    refine lv_iload_n hx hb xd_Z_branch_11 rfl (lv_at hl 1 rfl) ?_
    obtain ⟨hn3, hv⟩ := xan_v hv
    refine xcW_i (va_runV (As := [.int p0]) (rest := []) ⟨hx, hb, hml, hown, htg⟩ (c_Z_illegal l D z k b H.size u p0 hn3) (cwV 1 htg (xg_V0 xkin_Z_illegal xw_990 xw_992 xsel_Z_illegal xw_9) rfl rfl rfl (by decide +kernel) ⟨Nat.le_of_ble_eq_true rfl, Nat.le_of_ble_eq_true rfl⟩) ⟨xB_blind, xrecv_Z hK hP, fun U hU hW => xB_mk hP hK hD hE hS (xsubW hD hA hS) hU hW⟩ rfl rfl hl.1 rfl (lv_room (Nat.le_of_ble_eq_true rfl)) xd_Z_branch_12 ⟨Nat.le_of_ble_eq_true rfl, Nat.le_of_ble_eq_true rfl⟩) hD hA hS (fun r u1 H locs hw hP hD hS => ?_)
    obtain ⟨q2, hq2⟩ : ∃ q, q = xf_Z_illegal u p0 := ⟨_, rfl⟩
    rw [← hq2] at hw
    obtain rfl : r = q2.1 := congrArg Prod.fst hw
    obtain rfl : u1 = q2.2 := congrArg Prod.snd hw
    have hP : va_P D xCl (xWZ k b q2.2) H := hP
    have hD : va_D A (xWZ k b q2.2) := hD
    have hv := xlt_v hq2 hv
    exact hret _ q2.2 H locs ls _ (xnar (X01_ofp hq2 (xt01_Z_illegal u p0))) (by unfold xf_Z_branch; exact (xit h1 (xlt_e hq2 rfl))) hP hD hS xd_Z_branch_15
  · have hv := xif_v h1 hv
    refine lv_iload_n hx hb xd_Z_branch_5 rfl (lv_at hl 2 rfl) ?_
    refine lv_iconst (v := 3) hx hb xd_Z_branch_6 (by decide) ?_
    refine lv_icmp_ne (tgt := 16) hx hb xd_Z_branch_7 rfl (fun h4 => ?_) (fun h4 => ?_)
    · have hv := xif_v h4 hv
      refine lv_iload_n hx hb xd_Z_branch_16 rfl (lv_at hl 2 rfl) ?_
      have hj18 : ∀ (H : Heap) (locs : List Loc) (ls : Array Slot) (v17 : Int32), v17 = (if p1 = 0 then (if p2 = p3 then (1) else (0)) else (if p1 = 1 then (if p2 = p3 then (0) else (1)) else (if p1 = 4 then (if p3 ≤ p2 then (0) else (1)) else (if p1 = 5 then (if p2 < p3 then (0) else (1)) else (if p1 = 6 then (xlt (xf_Z_lessPlain p2 p3 : Int32) fun r12 => r12) else (xlt (xf_Z_lessPlain p2 p3 : Int32) fun r10 => if r10 = 0 then (1) else (0))))))) → lv_has ls 7 [(0, .ref ((b 0))), (1, .int p0), (2, .int p1), (3, .int p2), (4, .int p3)] → va_P D xCl (xWZ k b u) H → va_D A (xWZ k b u) → va_S A s.heap H locs → W p l e { frames := 2, cells := 0, slots := 0, locals := 44 } s m args below meth c H locs (0) (0) Q (F0 m 120 ls [.int v17]) := by
        intro H locs ls v17 hv17 hl hP hD hS
        have hv := xlt_v hv17 hv
        refine lv_istore (lv' := [(5, .int v17), (0, .ref ((b 0))), (1, .int p0), (2, .int p1), (3, .int p2), (4, .int p3)]) hx hb xd_Z_branch_120 hl (by decide) rfl (fun ls hl => ?_)
        refine lv_iload_n hx hb xd_Z_branch_122 rfl (lv_at hl 2 rfl) ?_
        refine lv_bipush (v := 31) hx hb xd_Z_branch_123 (by decide) ?_
        refine lv_ishr hx hb xd_Z_branch_125 ?_
        refine lv_iconst (v := 1) hx hb xd_Z_branch_126 (by decide) ?_
        refine lv_iand hx hb xd_Z_branch_127 ?_
        refine lv_bipush (v := 12) hx hb xd_Z_branch_128 (by decide) ?_
        refine lv_ishl hx hb xd_Z_branch_130 ?_
        refine lv_iload_n hx hb xd_Z_branch_131 rfl (lv_at hl 2 rfl) ?_
        refine lv_bipush (v := 7) hx hb xd_Z_branch_132 (by decide) ?_
        refine lv_ishr hx hb xd_Z_branch_134 ?_
        refine lv_iconst (v := 1) hx hb xd_Z_branch_135 (by decide) ?_
        refine lv_iand hx hb xd_Z_branch_136 ?_
        refine lv_bipush (v := 11) hx hb xd_Z_branch_137 (by decide) ?_
        refine lv_ishl hx hb xd_Z_branch_139 ?_
        refine lv_ior hx hb xd_Z_branch_140 ?_
        refine lv_iload_n hx hb xd_Z_branch_141 rfl (lv_at hl 2 rfl) ?_
        refine lv_bipush (v := 25) hx hb xd_Z_branch_142 (by decide) ?_
        refine lv_ishr hx hb xd_Z_branch_144 ?_
        refine lv_bipush (v := 63) hx hb xd_Z_branch_145 (by decide) ?_
        refine lv_iand hx hb xd_Z_branch_147 ?_
        refine lv_iconst (v := 5) hx hb xd_Z_branch_148 (by decide) ?_
        refine lv_ishl hx hb xd_Z_branch_149 ?_
        refine lv_ior hx hb xd_Z_branch_150 ?_
        refine lv_iload_n hx hb xd_Z_branch_151 rfl (lv_at hl 2 rfl) ?_
        refine lv_bipush (v := 8) hx hb xd_Z_branch_152 (by decide) ?_
        refine lv_ishr hx hb xd_Z_branch_154 ?_
        refine lv_bipush (v := 15) hx hb xd_Z_branch_155 (by decide) ?_
        refine lv_iand hx hb xd_Z_branch_157 ?_
        refine lv_iconst (v := 1) hx hb xd_Z_branch_158 (by decide) ?_
        refine lv_ishl hx hb xd_Z_branch_159 ?_
        refine lv_ior hx hb xd_Z_branch_160 ?_
        refine lv_bipush (v := 13) hx hb xd_Z_branch_161 (by decide) ?_
        refine xc0_i (va_runS (As := [.int (((((((p0 >>> ((31 : Int32) &&& 31)) &&& (1 : Int32)) <<< ((12 : Int32) &&& 31)) ||| (((p0 >>> ((7 : Int32) &&& 31)) &&& (1 : Int32)) <<< ((11 : Int32) &&& 31))) ||| (((p0 >>> ((25 : Int32) &&& 31)) &&& (63 : Int32)) <<< ((5 : Int32) &&& 31))) ||| (((p0 >>> ((8 : Int32) &&& 31)) &&& (15 : Int32)) <<< ((1 : Int32) &&& 31)))), .int 13]) (rest := []) ⟨hx, hb, hml, hown, htg⟩ (c_Z_signed l D (xTy k) z H.size ((((((p0 >>> ((31 : Int32) &&& 31)) &&& (1 : Int32)) <<< ((12 : Int32) &&& 31)) ||| (((p0 >>> ((7 : Int32) &&& 31)) &&& (1 : Int32)) <<< ((11 : Int32) &&& 31))) ||| (((p0 >>> ((25 : Int32) &&& 31)) &&& (63 : Int32)) <<< ((5 : Int32) &&& 31))) ||| (((p0 >>> ((8 : Int32) &&& 31)) &&& (15 : Int32)) <<< ((1 : Int32) &&& 31))) (13 : Int32)) (va_cwS 2 htg (xg_S0 xkin_Z_signed xw_983 xw_984 xw_9) rfl rfl rfl (by decide +kernel) ⟨Nat.le_of_ble_eq_true rfl, Nat.le_of_ble_eq_true rfl⟩) ⟨xB_blind, fun U hU hW => xB_mk va_P0 hK va_D0 hE hS (xsub0 hA hS) hU hW⟩ rfl rfl hl.1 rfl (lv_room (Nat.le_of_ble_eq_true rfl)) xd_Z_branch_163 ⟨Nat.le_of_ble_eq_true rfl, Nat.le_of_ble_eq_true rfl⟩) hP hA hS (fun r19 H locs hr19 hP hS => ?_)
        have hv := xlt_v hr19 hv
        refine lv_istore (lv' := [(6, .int r19), (5, .int v17), (0, .ref ((b 0))), (1, .int p0), (2, .int p1), (3, .int p2), (4, .int p3)]) hx hb xd_Z_branch_166 hl (by decide) rfl (fun ls hl => ?_)
        refine lv_iload hx hb xd_Z_branch_168 (lv_at hl 1 rfl) ?_
        obtain ⟨hva, hv⟩ := xan_v2 hv
        have hj26 : ∀ (H : Heap) (locs : List Loc) (ls : Array Slot) (v24 : Int32) (v25 : XZ), v24 = (if v17 = 0 then (1) else (xlt (xf_Z_go u ((xg_Z_pc u) + r19) : Int32 × XZ) fun q21 => if q21.1 = 0 then (0) else (1))) → v25 = (if v17 = 0 then (u) else (xlt (xf_Z_go u ((xg_Z_pc u) + r19) : Int32 × XZ) fun q21 => if q21.1 = 0 then (q21.2) else (q21.2))) → lv_has ls 7 [(6, .int r19), (5, .int v17), (0, .ref ((b 0))), (1, .int p0), (2, .int p1), (3, .int p2), (4, .int p3)] → va_P D xCl (xWZ k b v25) H → va_D A (xWZ k b v25) → va_S A s.heap H locs → W p l e { frames := 2, cells := 0, slots := 0, locals := 44 } s m args below meth c H locs (0) (0) Q (F0 m 192 ls [.int v24]) := by
          intro H locs ls v24 v25 hv24 hv25 hl hP hD hS
          have hv := xlt_v hv24 hv
          have hv := xlt_v hv25 hv
          exact hret _ v25 H locs ls _ (xnar (X01_of hv24 (xit_01 (Or.inr rfl) (xlt_01 (fun q21 hq21 => (xit_01 (Or.inl rfl) (Or.inr rfl))))))) (by unfold xf_Z_branch; exact (xif h1 (xif h4 (xlt_e hv17 (xlt_e hr19 (xlt_e hv24 (xlt_e hv25 rfl))))))) hP hD hS xd_Z_branch_192
        have hv := hva
        refine lv_if_eq (tgt := 187) hx hb xd_Z_branch_170 rfl (fun h27 => ?_) (fun h27 => ?_)
        · have hv := xit_v h27 hv
          refine lv_iconst (v := 1) hx hb xd_Z_branch_187 (by decide) ?_
          refine lv_goto (tgt := 192) hx hb xd_Z_branch_188 rfl ?_
          exact hj26 H locs ls (1 : Int32) u (xit h27 rfl) (xit h27 rfl) hl hP hD hS
        · have hv := xif_v h27 hv
          refine lv_aload_n hx hb xd_Z_branch_173 rfl (lv_at hl 2 rfl) ?_
          refine lv_aload_n hx hb xd_Z_branch_174 rfl (lv_at hl 2 rfl) ?_
          refine xget_Z_pc (v := (xg_Z_pc u)) hx hb htg hown hK hP (htg _ xw_730) rfl xd_Z_branch_175 ?_
          refine lv_iload hx hb xd_Z_branch_178 (lv_at hl 0 rfl) ?_
          refine lv_iadd hx hb xd_Z_branch_180 ?_
          obtain ⟨hn29, hv⟩ := xan_v hv
          refine xcW_i (va_runV (As := [.int (((xg_Z_pc u) + r19))]) (rest := []) ⟨hx, hb, hml, hown, htg⟩ (c_Z_go l D z k b H.size u ((xg_Z_pc u) + r19) hn29) (cwV 1 htg (xg_V0 xkin_Z_go xw_986 xw_988 xsel_Z_go xw_9) rfl rfl rfl (by decide +kernel) ⟨Nat.le_of_ble_eq_true rfl, Nat.le_of_ble_eq_true rfl⟩) ⟨xB_blind, xrecv_Z hK hP, fun U hU hW => xB_mk hP hK hD hE hS (xsubW hD hA hS) hU hW⟩ rfl rfl hl.1 rfl (lv_room (Nat.le_of_ble_eq_true rfl)) xd_Z_branch_181 ⟨Nat.le_of_ble_eq_true rfl, Nat.le_of_ble_eq_true rfl⟩) hD hA hS (fun r u1 H locs hw hP hD hS => ?_)
          obtain ⟨q28, hq28⟩ : ∃ q, q = xf_Z_go u ((xg_Z_pc u) + r19) := ⟨_, rfl⟩
          rw [← hq28] at hw
          obtain rfl : r = q28.1 := congrArg Prod.fst hw
          obtain rfl : u1 = q28.2 := congrArg Prod.snd hw
          have hP : va_P D xCl (xWZ k b q28.2) H := hP
          have hD : va_D A (xWZ k b q28.2) := hD
          have hv := xlt_v hq28 hv
          refine lv_if_eq (tgt := 191) hx hb xd_Z_branch_184 rfl (fun h30 => ?_) (fun h30 => ?_)
          · have hv := xit_v h30 hv
            refine lv_iconst (v := 0) hx hb xd_Z_branch_191 (by decide) ?_
            exact hj26 H locs ls (0 : Int32) q28.2 (xif h27 (xlt_e hq28 (xit h30 rfl))) (xif h27 (xlt_e hq28 (xit h30 rfl))) hl hP hD hS
          · have hv := xif_v h30 hv
            refine lv_iconst (v := 1) hx hb xd_Z_branch_187 (by decide) ?_
            refine lv_goto (tgt := 192) hx hb xd_Z_branch_188 rfl ?_
            exact hj26 H locs ls (1 : Int32) q28.2 (xif h27 (xlt_e hq28 (xif h30 rfl))) (xif h27 (xlt_e hq28 (xif h30 rfl))) hl hP hD hS
      refine lv_if_ne (tgt := 34) hx hb xd_Z_branch_17 rfl (fun h31 => ?_) (fun h31 => ?_)
      · refine lv_iload_n hx hb xd_Z_branch_34 rfl (lv_at hl 2 rfl) ?_
        refine lv_iconst (v := 1) hx hb xd_Z_branch_35 (by decide) ?_
        refine lv_icmp_ne (tgt := 53) hx hb xd_Z_branch_36 rfl (fun h32 => ?_) (fun h32 => ?_)
        · refine lv_iload_n hx hb xd_Z_branch_53 rfl (lv_at hl 2 rfl) ?_
          refine lv_iconst (v := 4) hx hb xd_Z_branch_54 (by decide) ?_
          refine lv_icmp_ne (tgt := 72) hx hb xd_Z_branch_55 rfl (fun h33 => ?_) (fun h33 => ?_)
          · refine lv_iload_n hx hb xd_Z_branch_72 rfl (lv_at hl 2 rfl) ?_
            refine lv_iconst (v := 5) hx hb xd_Z_branch_73 (by decide) ?_
            refine lv_icmp_ne (tgt := 91) hx hb xd_Z_branch_74 rfl (fun h34 => ?_) (fun h34 => ?_)
            · refine lv_iload_n hx hb xd_Z_branch_91 rfl (lv_at hl 2 rfl) ?_
              refine lv_bipush (v := 6) hx hb xd_Z_branch_92 (by decide) ?_
              refine lv_icmp_ne (tgt := 106) hx hb xd_Z_branch_94 rfl (fun h35 => ?_) (fun h35 => ?_)
              · refine lv_iload_n hx hb xd_Z_branch_106 rfl (lv_at hl 3 rfl) ?_
                refine lv_iload hx hb xd_Z_branch_107 (lv_at hl 4 rfl) ?_
                refine xc0_i (va_runS (As := [.int p2, .int p3]) (rest := []) ⟨hx, hb, hml, hown, htg⟩ (c_Z_lessPlain l D (xTy k) z H.size p2 p3) (va_cwS 2 htg (xg_S0 xkin_Z_lessPlain xw_998 xw_999 xw_9) rfl rfl rfl (by decide +kernel) ⟨Nat.le_of_ble_eq_true rfl, Nat.le_of_ble_eq_true rfl⟩) ⟨xB_blind, fun U hU hW => xB_mk va_P0 hK va_D0 hE hS (xsub0 hA hS) hU hW⟩ rfl rfl hl.1 rfl (lv_room (Nat.le_of_ble_eq_true rfl)) xd_Z_branch_109 ⟨Nat.le_of_ble_eq_true rfl, Nat.le_of_ble_eq_true rfl⟩) hP hA hS (fun r36 H locs hr36 hP hS => ?_)
                refine lv_if_ne (tgt := 119) hx hb xd_Z_branch_112 rfl (fun h37 => ?_) (fun h37 => ?_)
                · refine lv_iconst (v := 0) hx hb xd_Z_branch_119 (by decide) ?_
                  exact hj18 H locs ls (0 : Int32) (xif h31 (xif h32 (xif h33 (xif h34 (xif h35 (xlt_e hr36 (xif h37 rfl))))))) hl hP hD hS
                · refine lv_iconst (v := 1) hx hb xd_Z_branch_115 (by decide) ?_
                  refine lv_goto (tgt := 120) hx hb xd_Z_branch_116 rfl ?_
                  exact hj18 H locs ls (1 : Int32) (xif h31 (xif h32 (xif h33 (xif h34 (xif h35 (xlt_e hr36 (xit h37 rfl))))))) hl hP hD hS
              · refine lv_iload_n hx hb xd_Z_branch_97 rfl (lv_at hl 3 rfl) ?_
                refine lv_iload hx hb xd_Z_branch_98 (lv_at hl 4 rfl) ?_
                refine xc0_i (va_runS (As := [.int p2, .int p3]) (rest := []) ⟨hx, hb, hml, hown, htg⟩ (c_Z_lessPlain l D (xTy k) z H.size p2 p3) (va_cwS 2 htg (xg_S0 xkin_Z_lessPlain xw_998 xw_999 xw_9) rfl rfl rfl (by decide +kernel) ⟨Nat.le_of_ble_eq_true rfl, Nat.le_of_ble_eq_true rfl⟩) ⟨xB_blind, fun U hU hW => xB_mk va_P0 hK va_D0 hE hS (xsub0 hA hS) hU hW⟩ rfl rfl hl.1 rfl (lv_room (Nat.le_of_ble_eq_true rfl)) xd_Z_branch_100 ⟨Nat.le_of_ble_eq_true rfl, Nat.le_of_ble_eq_true rfl⟩) hP hA hS (fun r38 H locs hr38 hP hS => ?_)
                refine lv_goto (tgt := 120) hx hb xd_Z_branch_103 rfl ?_
                exact hj18 H locs ls r38 (xif h31 (xif h32 (xif h33 (xif h34 (xit h35 (xlt_e hr38 rfl)))))) hl hP hD hS
            · refine lv_iload_n hx hb xd_Z_branch_77 rfl (lv_at hl 3 rfl) ?_
              refine lv_iload hx hb xd_Z_branch_78 (lv_at hl 4 rfl) ?_
              refine lv_icmp_lt (tgt := 87) hx hb xd_Z_branch_80 rfl (fun h39 => ?_) (fun h39 => ?_)
              · refine lv_iconst (v := 0) hx hb xd_Z_branch_87 (by decide) ?_
                refine lv_goto (tgt := 120) hx hb xd_Z_branch_88 rfl ?_
                exact hj18 H locs ls (0 : Int32) (xif h31 (xif h32 (xif h33 (xit h34 (xit h39 rfl))))) hl hP hD hS
              · refine lv_iconst (v := 1) hx hb xd_Z_branch_83 (by decide) ?_
                refine lv_goto (tgt := 120) hx hb xd_Z_branch_84 rfl ?_
                exact hj18 H locs ls (1 : Int32) (xif h31 (xif h32 (xif h33 (xit h34 (xif h39 rfl))))) hl hP hD hS
          · refine lv_iload_n hx hb xd_Z_branch_58 rfl (lv_at hl 3 rfl) ?_
            refine lv_iload hx hb xd_Z_branch_59 (lv_at hl 4 rfl) ?_
            refine lv_icmp_ge (tgt := 68) hx hb xd_Z_branch_61 rfl (fun h40 => ?_) (fun h40 => ?_)
            · refine lv_iconst (v := 0) hx hb xd_Z_branch_68 (by decide) ?_
              refine lv_goto (tgt := 120) hx hb xd_Z_branch_69 rfl ?_
              exact hj18 H locs ls (0 : Int32) (xif h31 (xif h32 (xit h33 (xit h40 rfl)))) hl hP hD hS
            · refine lv_iconst (v := 1) hx hb xd_Z_branch_64 (by decide) ?_
              refine lv_goto (tgt := 120) hx hb xd_Z_branch_65 rfl ?_
              exact hj18 H locs ls (1 : Int32) (xif h31 (xif h32 (xit h33 (xif h40 rfl)))) hl hP hD hS
        · refine lv_iload_n hx hb xd_Z_branch_39 rfl (lv_at hl 3 rfl) ?_
          refine lv_iload hx hb xd_Z_branch_40 (lv_at hl 4 rfl) ?_
          refine lv_icmp_eq (tgt := 49) hx hb xd_Z_branch_42 rfl (fun h41 => ?_) (fun h41 => ?_)
          · refine lv_iconst (v := 0) hx hb xd_Z_branch_49 (by decide) ?_
            refine lv_goto (tgt := 120) hx hb xd_Z_branch_50 rfl ?_
            exact hj18 H locs ls (0 : Int32) (xif h31 (xit h32 (xit h41 rfl))) hl hP hD hS
          · refine lv_iconst (v := 1) hx hb xd_Z_branch_45 (by decide) ?_
            refine lv_goto (tgt := 120) hx hb xd_Z_branch_46 rfl ?_
            exact hj18 H locs ls (1 : Int32) (xif h31 (xit h32 (xif h41 rfl))) hl hP hD hS
      · refine lv_iload_n hx hb xd_Z_branch_20 rfl (lv_at hl 3 rfl) ?_
        refine lv_iload hx hb xd_Z_branch_21 (lv_at hl 4 rfl) ?_
        refine lv_icmp_ne (tgt := 30) hx hb xd_Z_branch_23 rfl (fun h42 => ?_) (fun h42 => ?_)
        · refine lv_iconst (v := 0) hx hb xd_Z_branch_30 (by decide) ?_
          refine lv_goto (tgt := 120) hx hb xd_Z_branch_31 rfl ?_
          exact hj18 H locs ls (0 : Int32) (xit h31 (xif h42 rfl)) hl hP hD hS
        · refine lv_iconst (v := 1) hx hb xd_Z_branch_26 (by decide) ?_
          refine lv_goto (tgt := 120) hx hb xd_Z_branch_27 rfl ?_
          exact hj18 H locs ls (1 : Int32) (xit h31 (xit h42 rfl)) hl hP hD hS
    · have hv := xit_v h4 hv
      refine lv_aload_n hx hb xd_Z_branch_10 rfl (lv_at hl 0 rfl) ?_
      refine lv_iload_n hx hb xd_Z_branch_11 rfl (lv_at hl 1 rfl) ?_
      obtain ⟨hn44, hv⟩ := xan_v hv
      refine xcW_i (va_runV (As := [.int p0]) (rest := []) ⟨hx, hb, hml, hown, htg⟩ (c_Z_illegal l D z k b H.size u p0 hn44) (cwV 1 htg (xg_V0 xkin_Z_illegal xw_990 xw_992 xsel_Z_illegal xw_9) rfl rfl rfl (by decide +kernel) ⟨Nat.le_of_ble_eq_true rfl, Nat.le_of_ble_eq_true rfl⟩) ⟨xB_blind, xrecv_Z hK hP, fun U hU hW => xB_mk hP hK hD hE hS (xsubW hD hA hS) hU hW⟩ rfl rfl hl.1 rfl (lv_room (Nat.le_of_ble_eq_true rfl)) xd_Z_branch_12 ⟨Nat.le_of_ble_eq_true rfl, Nat.le_of_ble_eq_true rfl⟩) hD hA hS (fun r u1 H locs hw hP hD hS => ?_)
      obtain ⟨q43, hq43⟩ : ∃ q, q = xf_Z_illegal u p0 := ⟨_, rfl⟩
      rw [← hq43] at hw
      obtain rfl : r = q43.1 := congrArg Prod.fst hw
      obtain rfl : u1 = q43.2 := congrArg Prod.snd hw
      have hP : va_P D xCl (xWZ k b q43.2) H := hP
      have hD : va_D A (xWZ k b q43.2) := hD
      have hv := xlt_v hq43 hv
      exact hret _ q43.2 H locs ls _ (xnar (X01_ofp hq43 (xt01_Z_illegal u p0))) (by unfold xf_Z_branch; exact (xif h1 (xit h4 (xlt_e hq43 rfl)))) hP hD hS xd_Z_branch_15
theorem xt01_Z_branch (u : XZ) (p0 : Int32) (p1 : Int32) (p2 : Int32) (p3 : Int32) : X01p (xf_Z_branch u p0 p1 p2 p3) := by unfold xf_Z_branch; exact (xit_01p (xlt_01p (fun q2 hq2 => (X01_ofp hq2 (xt01_Z_illegal u p0)))) (xit_01p (xlt_01p (fun q43 hq43 => (X01_ofp hq43 (xt01_Z_illegal u p0)))) (xlt_01p (fun v17 hv17 => (xlt_01p (fun r19 hr19 => (xlt_01p (fun v24 hv24 => (xlt_01p (fun v25 hv25 => (X01_of hv24 (xit_01 (Or.inr rfl) (xlt_01 (fun q21 hq21 => (xit_01 (Or.inl rfl) (Or.inr rfl))))))))))))))))

noncomputable def xf_Z_small (u : XZ) (p0 : Int32) (p1 : Int32) (p2 : Int32) (p3 : Int32) : Int32 × XZ :=
  if p2 = 0 then
    xlt (xf_Z_put u p1 (p3 + (p0 >>> ((20 : Int32) &&& 31))) : Int32 × XZ) fun q2 =>
    (q2.1, q2.2)
  else
    if p2 = 1 then
      xlt (if (xus p0 (25 : Int32)) = 0 then (xlt (xf_Z_put u p1 (p3 <<< ((p0 >>> ((20 : Int32) &&& 31)) &&& 31)) : Int32 × XZ) fun q8 => q8.1) else (xlt (xf_Z_illegal u p0 : Int32 × XZ) fun q6 => q6.1) : Int32) fun v10 =>
      xlt (if (xus p0 (25 : Int32)) = 0 then (xlt (xf_Z_put u p1 (p3 <<< ((p0 >>> ((20 : Int32) &&& 31)) &&& 31)) : Int32 × XZ) fun q8 => q8.2) else (xlt (xf_Z_illegal u p0 : Int32 × XZ) fun q6 => q6.2) : XZ) fun v11 =>
      (v10, v11)
    else
      if p2 = 2 then
        xlt (if (p0 >>> ((20 : Int32) &&& 31)) ≤ p3 then (0) else (1) : Int32) fun v20 =>
        xlt (xf_Z_put u p1 v20 : Int32 × XZ) fun q22 =>
        (q22.1, q22.2)
      else
        if p2 = 3 then
          xlt (xf_Z_lessPlain p3 (p0 >>> ((20 : Int32) &&& 31)) : Int32) fun r26 =>
          xlt (if r26 = 0 then (0) else (1) : Int32) fun v28 =>
          xlt (xf_Z_put u p1 v28 : Int32 × XZ) fun q30 =>
          (q30.1, q30.2)
        else
          if p2 = 4 then
            xlt (xf_Z_put u p1 (p3 ^^^ (p0 >>> ((20 : Int32) &&& 31))) : Int32 × XZ) fun q34 =>
            (q34.1, q34.2)
          else
            if p2 = 5 then
              xlt (if (xus p0 (25 : Int32)) = 0 then (xlt (xf_Z_put u p1 (xus p3 ((p0 >>> ((20 : Int32) &&& 31)) &&& (31 : Int32))) : Int32 × XZ) fun q43 => q43.1) else (if (xus p0 (25 : Int32)) = 32 then (xlt (xf_Z_put u p1 (p3 >>> (((p0 >>> ((20 : Int32) &&& 31)) &&& (31 : Int32)) &&& 31)) : Int32 × XZ) fun q41 => q41.1) else (xlt (xf_Z_illegal u p0 : Int32 × XZ) fun q39 => q39.1)) : Int32) fun v45 =>
              xlt (if (xus p0 (25 : Int32)) = 0 then (xlt (xf_Z_put u p1 (xus p3 ((p0 >>> ((20 : Int32) &&& 31)) &&& (31 : Int32))) : Int32 × XZ) fun q43 => q43.2) else (if (xus p0 (25 : Int32)) = 32 then (xlt (xf_Z_put u p1 (p3 >>> (((p0 >>> ((20 : Int32) &&& 31)) &&& (31 : Int32)) &&& 31)) : Int32 × XZ) fun q41 => q41.2) else (xlt (xf_Z_illegal u p0 : Int32 × XZ) fun q39 => q39.2)) : XZ) fun v46 =>
              (v45, v46)
            else
              if p2 = 6 then
                xlt (xf_Z_put u p1 (p3 ||| (p0 >>> ((20 : Int32) &&& 31))) : Int32 × XZ) fun q57 =>
                (q57.1, q57.2)
              else
                xlt (xf_Z_put u p1 (p3 &&& (p0 >>> ((20 : Int32) &&& 31))) : Int32 × XZ) fun q59 =>
                (q59.1, q59.2)
def xv_Z_small (u : XZ) (p0 : Int32) (p1 : Int32) (p2 : Int32) (p3 : Int32) : Prop := XVc (
  if p2 = 0 then
    (xv_Z_put u p1 (p3 + (p0 >>> ((20 : Int32) &&& 31)))) ∧
    xlt (xf_Z_put u p1 (p3 + (p0 >>> ((20 : Int32) &&& 31))) : Int32 × XZ) fun q2 =>
    True
  else
    if p2 = 1 then
      (if (xus p0 (25 : Int32)) = 0 then ((xv_Z_put u p1 (p3 <<< ((p0 >>> ((20 : Int32) &&& 31)) &&& 31))) ∧ (xlt (xf_Z_put u p1 (p3 <<< ((p0 >>> ((20 : Int32) &&& 31)) &&& 31)) : Int32 × XZ) fun q8 => True)) else ((xv_Z_illegal u p0) ∧ (xlt (xf_Z_illegal u p0 : Int32 × XZ) fun q6 => True))) ∧
      xlt (if (xus p0 (25 : Int32)) = 0 then (xlt (xf_Z_put u p1 (p3 <<< ((p0 >>> ((20 : Int32) &&& 31)) &&& 31)) : Int32 × XZ) fun q8 => q8.1) else (xlt (xf_Z_illegal u p0 : Int32 × XZ) fun q6 => q6.1) : Int32) fun v10 =>
      xlt (if (xus p0 (25 : Int32)) = 0 then (xlt (xf_Z_put u p1 (p3 <<< ((p0 >>> ((20 : Int32) &&& 31)) &&& 31)) : Int32 × XZ) fun q8 => q8.2) else (xlt (xf_Z_illegal u p0 : Int32 × XZ) fun q6 => q6.2) : XZ) fun v11 =>
      True
    else
      if p2 = 2 then
        xlt (if (p0 >>> ((20 : Int32) &&& 31)) ≤ p3 then (0) else (1) : Int32) fun v20 =>
        (xv_Z_put u p1 v20) ∧
        xlt (xf_Z_put u p1 v20 : Int32 × XZ) fun q22 =>
        True
      else
        if p2 = 3 then
          xlt (xf_Z_lessPlain p3 (p0 >>> ((20 : Int32) &&& 31)) : Int32) fun r26 =>
          xlt (if r26 = 0 then (0) else (1) : Int32) fun v28 =>
          (xv_Z_put u p1 v28) ∧
          xlt (xf_Z_put u p1 v28 : Int32 × XZ) fun q30 =>
          True
        else
          if p2 = 4 then
            (xv_Z_put u p1 (p3 ^^^ (p0 >>> ((20 : Int32) &&& 31)))) ∧
            xlt (xf_Z_put u p1 (p3 ^^^ (p0 >>> ((20 : Int32) &&& 31))) : Int32 × XZ) fun q34 =>
            True
          else
            if p2 = 5 then
              (if (xus p0 (25 : Int32)) = 0 then ((xv_Z_put u p1 (xus p3 ((p0 >>> ((20 : Int32) &&& 31)) &&& (31 : Int32)))) ∧ (xlt (xf_Z_put u p1 (xus p3 ((p0 >>> ((20 : Int32) &&& 31)) &&& (31 : Int32))) : Int32 × XZ) fun q43 => True)) else (if (xus p0 (25 : Int32)) = 32 then ((xv_Z_put u p1 (p3 >>> (((p0 >>> ((20 : Int32) &&& 31)) &&& (31 : Int32)) &&& 31))) ∧ (xlt (xf_Z_put u p1 (p3 >>> (((p0 >>> ((20 : Int32) &&& 31)) &&& (31 : Int32)) &&& 31)) : Int32 × XZ) fun q41 => True)) else ((xv_Z_illegal u p0) ∧ (xlt (xf_Z_illegal u p0 : Int32 × XZ) fun q39 => True)))) ∧
              xlt (if (xus p0 (25 : Int32)) = 0 then (xlt (xf_Z_put u p1 (xus p3 ((p0 >>> ((20 : Int32) &&& 31)) &&& (31 : Int32))) : Int32 × XZ) fun q43 => q43.1) else (if (xus p0 (25 : Int32)) = 32 then (xlt (xf_Z_put u p1 (p3 >>> (((p0 >>> ((20 : Int32) &&& 31)) &&& (31 : Int32)) &&& 31)) : Int32 × XZ) fun q41 => q41.1) else (xlt (xf_Z_illegal u p0 : Int32 × XZ) fun q39 => q39.1)) : Int32) fun v45 =>
              xlt (if (xus p0 (25 : Int32)) = 0 then (xlt (xf_Z_put u p1 (xus p3 ((p0 >>> ((20 : Int32) &&& 31)) &&& (31 : Int32))) : Int32 × XZ) fun q43 => q43.2) else (if (xus p0 (25 : Int32)) = 32 then (xlt (xf_Z_put u p1 (p3 >>> (((p0 >>> ((20 : Int32) &&& 31)) &&& (31 : Int32)) &&& 31)) : Int32 × XZ) fun q41 => q41.2) else (xlt (xf_Z_illegal u p0 : Int32 × XZ) fun q39 => q39.2)) : XZ) fun v46 =>
              True
            else
              if p2 = 6 then
                (xv_Z_put u p1 (p3 ||| (p0 >>> ((20 : Int32) &&& 31)))) ∧
                xlt (xf_Z_put u p1 (p3 ||| (p0 >>> ((20 : Int32) &&& 31))) : Int32 × XZ) fun q57 =>
                True
              else
                (xv_Z_put u p1 (p3 &&& (p0 >>> ((20 : Int32) &&& 31)))) ∧
                xlt (xf_Z_put u p1 (p3 &&& (p0 >>> ((20 : Int32) &&& 31))) : Int32 × XZ) fun q59 =>
                True)
set_option maxHeartbeats 4000000 in
set_option maxRecDepth 100000 in
theorem c_Z_small (l : Launch) (D : va_G) (z : (Nat → Nat) × (Nat → Nat)) (k : ClassId × ClassId) (b : Nat → Nat) (sz : Nat) (u : XZ) (p0 : Int32) (p1 : Int32) (p2 : Int32) (p3 : Int32) (hv : xv_Z_small u p0 p1 p2 p3) : Met l xy_Z_small (xk_Z_small :: lw_g) { frames := 2, cells := 0, slots := 0, locals := 44 } (va_Pc [.ref ((b 0)), .int p0, .int p1, .int p2, .int p3] (xB D (xTy k) z sz (xWZ k b u))) (va_Qi (fun r (q : XZ) => (r, q) = xf_Z_small u p0 p1 p2 p3) (fun q t => xQ D (xTy k) (xWZ k b q) (va_A (xWZ k b u) sz) t) (va_A (xWZ k b u) sz)) 0 0 (va_A (xWZ k b u) sz) := by
  refine xopen_z (wf := fun q : XZ => xWZ k b q) (lv := [(0, .ref ((b 0))), (1, .int p0), (2, .int p1), (3, .int p2), (4, .int p3)]) (by decide) rfl (Nat.le_of_ble_eq_true rfl) ?_
  intro p e s m args below meth c Q ls A H locs hx hb hml htg hown hin hK hP hD hE hS hA hl hret
  unfold xv_Z_small at hv
  refine lv_iload_n hx hb xd_Z_small_0 rfl (lv_at hl 1 rfl) ?_
  refine lv_bipush (v := 20) hx hb xd_Z_small_1 (by decide) ?_
  refine lv_ishr hx hb xd_Z_small_3 ?_
  refine lv_istore (lv' := [(5, .int ((p0 >>> ((20 : Int32) &&& 31)))), (0, .ref ((b 0))), (1, .int p0), (2, .int p1), (3, .int p2), (4, .int p3)]) hx hb xd_Z_small_4 hl (by decide) rfl (fun ls hl => ?_)
  refine lv_iload_n hx hb xd_Z_small_6 rfl (lv_at hl 2 rfl) ?_
  refine lv_bipush (v := 25) hx hb xd_Z_small_7 (by decide) ?_
  refine lv_iushr (v := (xus p0 (25 : Int32))) hx hb xd_Z_small_9 rfl ?_
  refine lv_istore (lv' := [(6, .int ((xus p0 (25 : Int32)))), (5, .int ((p0 >>> ((20 : Int32) &&& 31)))), (0, .ref ((b 0))), (1, .int p0), (2, .int p1), (3, .int p2), (4, .int p3)]) hx hb xd_Z_small_10 hl (by decide) rfl (fun ls hl => ?_)
  refine lv_iload_n hx hb xd_Z_small_12 rfl (lv_at hl 5 rfl) ?_
  refine (Decidable.em (p2 = 0)).elim (fun h1 => ?_) (fun h1 => ?_)
  · have hv := xit_v h1 hv
    refine lv_tableIn (tgt := 56) (off := 43) hx hb xd_Z_small_13 (by rw [h1]; decide) (by rw [h1]; decide) (by rw [h1]; decide +kernel) rfl ?_
    refine lv_aload_n hx hb xd_Z_small_56 rfl (lv_at hl 2 rfl) ?_
    refine lv_iload_n hx hb xd_Z_small_57 rfl (lv_at hl 4 rfl) ?_
    refine lv_iload hx hb xd_Z_small_58 (lv_at hl 6 rfl) ?_
    refine lv_iload hx hb xd_Z_small_60 (lv_at hl 1 rfl) ?_
    refine lv_iadd hx hb xd_Z_small_62 ?_
    obtain ⟨hn3, hv⟩ := xan_v hv
    refine xcW_i (va_runV (As := [.int p1, .int ((p3 + (p0 >>> ((20 : Int32) &&& 31))))]) (rest := []) ⟨hx, hb, hml, hown, htg⟩ (c_Z_put l D z k b H.size u p1 (p3 + (p0 >>> ((20 : Int32) &&& 31))) hn3) (cwV 2 htg (xg_V0 xkin_Z_put xw_834 xw_836 xsel_Z_put xw_9) rfl rfl rfl (by decide +kernel) ⟨Nat.le_of_ble_eq_true rfl, Nat.le_of_ble_eq_true rfl⟩) ⟨xB_blind, xrecv_Z hK hP, fun U hU hW => xB_mk hP hK hD hE hS (xsubW hD hA hS) hU hW⟩ rfl rfl hl.1 rfl (lv_room (Nat.le_of_ble_eq_true rfl)) xd_Z_small_63 ⟨Nat.le_of_ble_eq_true rfl, Nat.le_of_ble_eq_true rfl⟩) hD hA hS (fun r u1 H locs hw hP hD hS => ?_)
    obtain ⟨q2, hq2⟩ : ∃ q, q = xf_Z_put u p1 (p3 + (p0 >>> ((20 : Int32) &&& 31))) := ⟨_, rfl⟩
    rw [← hq2] at hw
    obtain rfl : r = q2.1 := congrArg Prod.fst hw
    obtain rfl : u1 = q2.2 := congrArg Prod.snd hw
    have hP : va_P D xCl (xWZ k b q2.2) H := hP
    have hD : va_D A (xWZ k b q2.2) := hD
    have hv := xlt_v hq2 hv
    exact hret _ q2.2 H locs ls _ (xnar (X01_ofp hq2 (xt01_Z_put u p1 (p3 + (p0 >>> ((20 : Int32) &&& 31)))))) (by unfold xf_Z_small; exact (xit h1 (xlt_e hq2 rfl))) hP hD hS xd_Z_small_66
  · have hv := xif_v h1 hv
    refine (Decidable.em (p2 = 1)).elim (fun h4 => ?_) (fun h4 => ?_)
    · have hv := xit_v h4 hv
      refine lv_tableIn (tgt := 67) (off := 54) hx hb xd_Z_small_13 (by rw [h4]; decide) (by rw [h4]; decide) (by rw [h4]; decide +kernel) rfl ?_
      refine lv_iload hx hb xd_Z_small_67 (lv_at hl 0 rfl) ?_
      obtain ⟨hva, hv⟩ := xan_v2 hv
      have hj12 : ∀ (H : Heap) (locs : List Loc) (ls : Array Slot) (v10 : Int32) (v11 : XZ), v10 = (if (xus p0 (25 : Int32)) = 0 then (xlt (xf_Z_put u p1 (p3 <<< ((p0 >>> ((20 : Int32) &&& 31)) &&& 31)) : Int32 × XZ) fun q8 => q8.1) else (xlt (xf_Z_illegal u p0 : Int32 × XZ) fun q6 => q6.1)) → v11 = (if (xus p0 (25 : Int32)) = 0 then (xlt (xf_Z_put u p1 (p3 <<< ((p0 >>> ((20 : Int32) &&& 31)) &&& 31)) : Int32 × XZ) fun q8 => q8.2) else (xlt (xf_Z_illegal u p0 : Int32 × XZ) fun q6 => q6.2)) → lv_has ls 7 [(6, .int ((xus p0 (25 : Int32)))), (5, .int ((p0 >>> ((20 : Int32) &&& 31)))), (0, .ref ((b 0))), (1, .int p0), (2, .int p1), (3, .int p2), (4, .int p3)] → va_P D xCl (xWZ k b v11) H → va_D A (xWZ k b v11) → va_S A s.heap H locs → W p l e { frames := 2, cells := 0, slots := 0, locals := 44 } s m args below meth c H locs (0) (0) Q (F0 m 90 ls [.int v10]) := by
        intro H locs ls v10 v11 hv10 hv11 hl hP hD hS
        have hv := xlt_v hv10 hv
        have hv := xlt_v hv11 hv
        exact hret _ v11 H locs ls _ (xnar (X01_of hv10 (xit_01 (xlt_01 (fun q8 hq8 => (X01_ofp hq8 (xt01_Z_put u p1 (p3 <<< ((p0 >>> ((20 : Int32) &&& 31)) &&& 31)))))) (xlt_01 (fun q6 hq6 => (X01_ofp hq6 (xt01_Z_illegal u p0))))))) (by unfold xf_Z_small; exact (xif h1 (xit h4 (xlt_e hv10 (xlt_e hv11 rfl))))) hP hD hS xd_Z_small_90
      have hv := hva
      refine lv_if_ne (tgt := 85) hx hb xd_Z_small_69 rfl (fun h13 => ?_) (fun h13 => ?_)
      · have hv := xif_v h13 hv
        refine lv_aload_n hx hb xd_Z_small_85 rfl (lv_at hl 2 rfl) ?_
        refine lv_iload_n hx hb xd_Z_small_86 rfl (lv_at hl 3 rfl) ?_
        obtain ⟨hn15, hv⟩ := xan_v hv
        refine xcW_i (va_runV (As := [.int p0]) (rest := []) ⟨hx, hb, hml, hown, htg⟩ (c_Z_illegal l D z k b H.size u p0 hn15) (cwV 1 htg (xg_V0 xkin_Z_illegal xw_990 xw_992 xsel_Z_illegal xw_9) rfl rfl rfl (by decide +kernel) ⟨Nat.le_of_ble_eq_true rfl, Nat.le_of_ble_eq_true rfl⟩) ⟨xB_blind, xrecv_Z hK hP, fun U hU hW => xB_mk hP hK hD hE hS (xsubW hD hA hS) hU hW⟩ rfl rfl hl.1 rfl (lv_room (Nat.le_of_ble_eq_true rfl)) xd_Z_small_87 ⟨Nat.le_of_ble_eq_true rfl, Nat.le_of_ble_eq_true rfl⟩) hD hA hS (fun r u1 H locs hw hP hD hS => ?_)
        obtain ⟨q14, hq14⟩ : ∃ q, q = xf_Z_illegal u p0 := ⟨_, rfl⟩
        rw [← hq14] at hw
        obtain rfl : r = q14.1 := congrArg Prod.fst hw
        obtain rfl : u1 = q14.2 := congrArg Prod.snd hw
        have hP : va_P D xCl (xWZ k b q14.2) H := hP
        have hD : va_D A (xWZ k b q14.2) := hD
        have hv := xlt_v hq14 hv
        exact hj12 H locs ls q14.1 q14.2 (xif h13 (xlt_e hq14 rfl)) (xif h13 (xlt_e hq14 rfl)) hl hP hD hS
      · have hv := xit_v h13 hv
        refine lv_aload_n hx hb xd_Z_small_72 rfl (lv_at hl 2 rfl) ?_
        refine lv_iload_n hx hb xd_Z_small_73 rfl (lv_at hl 4 rfl) ?_
        refine lv_iload hx hb xd_Z_small_74 (lv_at hl 6 rfl) ?_
        refine lv_iload hx hb xd_Z_small_76 (lv_at hl 1 rfl) ?_
        refine lv_ishl hx hb xd_Z_small_78 ?_
        obtain ⟨hn17, hv⟩ := xan_v hv
        refine xcW_i (va_runV (As := [.int p1, .int ((p3 <<< ((p0 >>> ((20 : Int32) &&& 31)) &&& 31)))]) (rest := []) ⟨hx, hb, hml, hown, htg⟩ (c_Z_put l D z k b H.size u p1 (p3 <<< ((p0 >>> ((20 : Int32) &&& 31)) &&& 31)) hn17) (cwV 2 htg (xg_V0 xkin_Z_put xw_834 xw_836 xsel_Z_put xw_9) rfl rfl rfl (by decide +kernel) ⟨Nat.le_of_ble_eq_true rfl, Nat.le_of_ble_eq_true rfl⟩) ⟨xB_blind, xrecv_Z hK hP, fun U hU hW => xB_mk hP hK hD hE hS (xsubW hD hA hS) hU hW⟩ rfl rfl hl.1 rfl (lv_room (Nat.le_of_ble_eq_true rfl)) xd_Z_small_79 ⟨Nat.le_of_ble_eq_true rfl, Nat.le_of_ble_eq_true rfl⟩) hD hA hS (fun r u1 H locs hw hP hD hS => ?_)
        obtain ⟨q16, hq16⟩ : ∃ q, q = xf_Z_put u p1 (p3 <<< ((p0 >>> ((20 : Int32) &&& 31)) &&& 31)) := ⟨_, rfl⟩
        rw [← hq16] at hw
        obtain rfl : r = q16.1 := congrArg Prod.fst hw
        obtain rfl : u1 = q16.2 := congrArg Prod.snd hw
        have hP : va_P D xCl (xWZ k b q16.2) H := hP
        have hD : va_D A (xWZ k b q16.2) := hD
        have hv := xlt_v hq16 hv
        refine lv_goto (tgt := 90) hx hb xd_Z_small_82 rfl ?_
        exact hj12 H locs ls q16.1 q16.2 (xit h13 (xlt_e hq16 rfl)) (xit h13 (xlt_e hq16 rfl)) hl hP hD hS
    · have hv := xif_v h4 hv
      refine (Decidable.em (p2 = 2)).elim (fun h18 => ?_) (fun h18 => ?_)
      · have hv := xit_v h18 hv
        refine lv_tableIn (tgt := 91) (off := 78) hx hb xd_Z_small_13 (by rw [h18]; decide) (by rw [h18]; decide) (by rw [h18]; decide +kernel) rfl ?_
        refine lv_aload_n hx hb xd_Z_small_91 rfl (lv_at hl 2 rfl) ?_
        refine lv_iload_n hx hb xd_Z_small_92 rfl (lv_at hl 4 rfl) ?_
        refine lv_iload hx hb xd_Z_small_93 (lv_at hl 6 rfl) ?_
        refine lv_iload hx hb xd_Z_small_95 (lv_at hl 1 rfl) ?_
        have hj21 : ∀ (H : Heap) (locs : List Loc) (ls : Array Slot) (v20 : Int32), v20 = (if (p0 >>> ((20 : Int32) &&& 31)) ≤ p3 then (0) else (1)) → lv_has ls 7 [(6, .int ((xus p0 (25 : Int32)))), (5, .int ((p0 >>> ((20 : Int32) &&& 31)))), (0, .ref ((b 0))), (1, .int p0), (2, .int p1), (3, .int p2), (4, .int p3)] → va_P D xCl (xWZ k b u) H → va_D A (xWZ k b u) → va_S A s.heap H locs → W p l e { frames := 2, cells := 0, slots := 0, locals := 44 } s m args below meth c H locs (0) (0) Q (F0 m 105 ls [.int v20, .int p1, .ref ((b 0))]) := by
          intro H locs ls v20 hv20 hl hP hD hS
          have hv := xlt_v hv20 hv
          obtain ⟨hn23, hv⟩ := xan_v hv
          refine xcW_i (va_runV (As := [.int p1, .int v20]) (rest := []) ⟨hx, hb, hml, hown, htg⟩ (c_Z_put l D z k b H.size u p1 v20 hn23) (cwV 2 htg (xg_V0 xkin_Z_put xw_834 xw_836 xsel_Z_put xw_9) rfl rfl rfl (by decide +kernel) ⟨Nat.le_of_ble_eq_true rfl, Nat.le_of_ble_eq_true rfl⟩) ⟨xB_blind, xrecv_Z hK hP, fun U hU hW => xB_mk hP hK hD hE hS (xsubW hD hA hS) hU hW⟩ rfl rfl hl.1 rfl (lv_room (Nat.le_of_ble_eq_true rfl)) xd_Z_small_105 ⟨Nat.le_of_ble_eq_true rfl, Nat.le_of_ble_eq_true rfl⟩) hD hA hS (fun r u1 H locs hw hP hD hS => ?_)
          obtain ⟨q22, hq22⟩ : ∃ q, q = xf_Z_put u p1 v20 := ⟨_, rfl⟩
          rw [← hq22] at hw
          obtain rfl : r = q22.1 := congrArg Prod.fst hw
          obtain rfl : u1 = q22.2 := congrArg Prod.snd hw
          have hP : va_P D xCl (xWZ k b q22.2) H := hP
          have hD : va_D A (xWZ k b q22.2) := hD
          have hv := xlt_v hq22 hv
          exact hret _ q22.2 H locs ls _ (xnar (X01_ofp hq22 (xt01_Z_put u p1 v20))) (by unfold xf_Z_small; exact (xif h1 (xif h4 (xit h18 (xlt_e hv20 (xlt_e hq22 rfl)))))) hP hD hS xd_Z_small_108
        refine lv_icmp_ge (tgt := 104) hx hb xd_Z_small_97 rfl (fun h24 => ?_) (fun h24 => ?_)
        · refine lv_iconst (v := 0) hx hb xd_Z_small_104 (by decide) ?_
          exact hj21 H locs ls (0 : Int32) (xit h24 rfl) hl hP hD hS
        · refine lv_iconst (v := 1) hx hb xd_Z_small_100 (by decide) ?_
          refine lv_goto (tgt := 105) hx hb xd_Z_small_101 rfl ?_
          exact hj21 H locs ls (1 : Int32) (xif h24 rfl) hl hP hD hS
      · have hv := xif_v h18 hv
        refine (Decidable.em (p2 = 3)).elim (fun h25 => ?_) (fun h25 => ?_)
        · have hv := xit_v h25 hv
          refine lv_tableIn (tgt := 109) (off := 96) hx hb xd_Z_small_13 (by rw [h25]; decide) (by rw [h25]; decide) (by rw [h25]; decide +kernel) rfl ?_
          refine lv_aload_n hx hb xd_Z_small_109 rfl (lv_at hl 2 rfl) ?_
          refine lv_iload_n hx hb xd_Z_small_110 rfl (lv_at hl 4 rfl) ?_
          refine lv_iload hx hb xd_Z_small_111 (lv_at hl 6 rfl) ?_
          refine lv_iload hx hb xd_Z_small_113 (lv_at hl 1 rfl) ?_
          refine xc0_i (va_runS (As := [.int p3, .int ((p0 >>> ((20 : Int32) &&& 31)))]) (rest := [.int p1, .ref ((b 0))]) ⟨hx, hb, hml, hown, htg⟩ (c_Z_lessPlain l D (xTy k) z H.size p3 (p0 >>> ((20 : Int32) &&& 31))) (va_cwS 2 htg (xg_S0 xkin_Z_lessPlain xw_998 xw_999 xw_9) rfl rfl rfl (by decide +kernel) ⟨Nat.le_of_ble_eq_true rfl, Nat.le_of_ble_eq_true rfl⟩) ⟨xB_blind, fun U hU hW => xB_mk va_P0 hK va_D0 hE hS (xsub0 hA hS) hU hW⟩ rfl rfl hl.1 rfl (lv_room (Nat.le_of_ble_eq_true rfl)) xd_Z_small_115 ⟨Nat.le_of_ble_eq_true rfl, Nat.le_of_ble_eq_true rfl⟩) hP hA hS (fun r26 H locs hr26 hP hS => ?_)
          have hv := xlt_v hr26 hv
          have hj29 : ∀ (H : Heap) (locs : List Loc) (ls : Array Slot) (v28 : Int32), v28 = (if r26 = 0 then (0) else (1)) → lv_has ls 7 [(6, .int ((xus p0 (25 : Int32)))), (5, .int ((p0 >>> ((20 : Int32) &&& 31)))), (0, .ref ((b 0))), (1, .int p0), (2, .int p1), (3, .int p2), (4, .int p3)] → va_P D xCl (xWZ k b u) H → va_D A (xWZ k b u) → va_S A s.heap H locs → W p l e { frames := 2, cells := 0, slots := 0, locals := 44 } s m args below meth c H locs (0) (0) Q (F0 m 126 ls [.int v28, .int p1, .ref ((b 0))]) := by
            intro H locs ls v28 hv28 hl hP hD hS
            have hv := xlt_v hv28 hv
            obtain ⟨hn31, hv⟩ := xan_v hv
            refine xcW_i (va_runV (As := [.int p1, .int v28]) (rest := []) ⟨hx, hb, hml, hown, htg⟩ (c_Z_put l D z k b H.size u p1 v28 hn31) (cwV 2 htg (xg_V0 xkin_Z_put xw_834 xw_836 xsel_Z_put xw_9) rfl rfl rfl (by decide +kernel) ⟨Nat.le_of_ble_eq_true rfl, Nat.le_of_ble_eq_true rfl⟩) ⟨xB_blind, xrecv_Z hK hP, fun U hU hW => xB_mk hP hK hD hE hS (xsubW hD hA hS) hU hW⟩ rfl rfl hl.1 rfl (lv_room (Nat.le_of_ble_eq_true rfl)) xd_Z_small_126 ⟨Nat.le_of_ble_eq_true rfl, Nat.le_of_ble_eq_true rfl⟩) hD hA hS (fun r u1 H locs hw hP hD hS => ?_)
            obtain ⟨q30, hq30⟩ : ∃ q, q = xf_Z_put u p1 v28 := ⟨_, rfl⟩
            rw [← hq30] at hw
            obtain rfl : r = q30.1 := congrArg Prod.fst hw
            obtain rfl : u1 = q30.2 := congrArg Prod.snd hw
            have hP : va_P D xCl (xWZ k b q30.2) H := hP
            have hD : va_D A (xWZ k b q30.2) := hD
            have hv := xlt_v hq30 hv
            exact hret _ q30.2 H locs ls _ (xnar (X01_ofp hq30 (xt01_Z_put u p1 v28))) (by unfold xf_Z_small; exact (xif h1 (xif h4 (xif h18 (xit h25 (xlt_e hr26 (xlt_e hv28 (xlt_e hq30 rfl)))))))) hP hD hS xd_Z_small_129
          refine lv_if_eq (tgt := 125) hx hb xd_Z_small_118 rfl (fun h32 => ?_) (fun h32 => ?_)
          · refine lv_iconst (v := 0) hx hb xd_Z_small_125 (by decide) ?_
            exact hj29 H locs ls (0 : Int32) (xit h32 rfl) hl hP hD hS
          · refine lv_iconst (v := 1) hx hb xd_Z_small_121 (by decide) ?_
            refine lv_goto (tgt := 126) hx hb xd_Z_small_122 rfl ?_
            exact hj29 H locs ls (1 : Int32) (xif h32 rfl) hl hP hD hS
        · have hv := xif_v h25 hv
          refine (Decidable.em (p2 = 4)).elim (fun h33 => ?_) (fun h33 => ?_)
          · have hv := xit_v h33 hv
            refine lv_tableIn (tgt := 130) (off := 117) hx hb xd_Z_small_13 (by rw [h33]; decide) (by rw [h33]; decide) (by rw [h33]; decide +kernel) rfl ?_
            refine lv_aload_n hx hb xd_Z_small_130 rfl (lv_at hl 2 rfl) ?_
            refine lv_iload_n hx hb xd_Z_small_131 rfl (lv_at hl 4 rfl) ?_
            refine lv_iload hx hb xd_Z_small_132 (lv_at hl 6 rfl) ?_
            refine lv_iload hx hb xd_Z_small_134 (lv_at hl 1 rfl) ?_
            refine lv_ixor hx hb xd_Z_small_136 ?_
            obtain ⟨hn35, hv⟩ := xan_v hv
            refine xcW_i (va_runV (As := [.int p1, .int ((p3 ^^^ (p0 >>> ((20 : Int32) &&& 31))))]) (rest := []) ⟨hx, hb, hml, hown, htg⟩ (c_Z_put l D z k b H.size u p1 (p3 ^^^ (p0 >>> ((20 : Int32) &&& 31))) hn35) (cwV 2 htg (xg_V0 xkin_Z_put xw_834 xw_836 xsel_Z_put xw_9) rfl rfl rfl (by decide +kernel) ⟨Nat.le_of_ble_eq_true rfl, Nat.le_of_ble_eq_true rfl⟩) ⟨xB_blind, xrecv_Z hK hP, fun U hU hW => xB_mk hP hK hD hE hS (xsubW hD hA hS) hU hW⟩ rfl rfl hl.1 rfl (lv_room (Nat.le_of_ble_eq_true rfl)) xd_Z_small_137 ⟨Nat.le_of_ble_eq_true rfl, Nat.le_of_ble_eq_true rfl⟩) hD hA hS (fun r u1 H locs hw hP hD hS => ?_)
            obtain ⟨q34, hq34⟩ : ∃ q, q = xf_Z_put u p1 (p3 ^^^ (p0 >>> ((20 : Int32) &&& 31))) := ⟨_, rfl⟩
            rw [← hq34] at hw
            obtain rfl : r = q34.1 := congrArg Prod.fst hw
            obtain rfl : u1 = q34.2 := congrArg Prod.snd hw
            have hP : va_P D xCl (xWZ k b q34.2) H := hP
            have hD : va_D A (xWZ k b q34.2) := hD
            have hv := xlt_v hq34 hv
            exact hret _ q34.2 H locs ls _ (xnar (X01_ofp hq34 (xt01_Z_put u p1 (p3 ^^^ (p0 >>> ((20 : Int32) &&& 31)))))) (by unfold xf_Z_small; exact (xif h1 (xif h4 (xif h18 (xif h25 (xit h33 (xlt_e hq34 rfl))))))) hP hD hS xd_Z_small_140
          · have hv := xif_v h33 hv
            refine (Decidable.em (p2 = 5)).elim (fun h36 => ?_) (fun h36 => ?_)
            · have hv := xit_v h36 hv
              refine lv_tableIn (tgt := 141) (off := 128) hx hb xd_Z_small_13 (by rw [h36]; decide) (by rw [h36]; decide) (by rw [h36]; decide +kernel) rfl ?_
              refine lv_iload hx hb xd_Z_small_141 (lv_at hl 0 rfl) ?_
              obtain ⟨hva, hv⟩ := xan_v2 hv
              have hj47 : ∀ (H : Heap) (locs : List Loc) (ls : Array Slot) (v45 : Int32) (v46 : XZ), v45 = (if (xus p0 (25 : Int32)) = 0 then (xlt (xf_Z_put u p1 (xus p3 ((p0 >>> ((20 : Int32) &&& 31)) &&& (31 : Int32))) : Int32 × XZ) fun q43 => q43.1) else (if (xus p0 (25 : Int32)) = 32 then (xlt (xf_Z_put u p1 (p3 >>> (((p0 >>> ((20 : Int32) &&& 31)) &&& (31 : Int32)) &&& 31)) : Int32 × XZ) fun q41 => q41.1) else (xlt (xf_Z_illegal u p0 : Int32 × XZ) fun q39 => q39.1))) → v46 = (if (xus p0 (25 : Int32)) = 0 then (xlt (xf_Z_put u p1 (xus p3 ((p0 >>> ((20 : Int32) &&& 31)) &&& (31 : Int32))) : Int32 × XZ) fun q43 => q43.2) else (if (xus p0 (25 : Int32)) = 32 then (xlt (xf_Z_put u p1 (p3 >>> (((p0 >>> ((20 : Int32) &&& 31)) &&& (31 : Int32)) &&& 31)) : Int32 × XZ) fun q41 => q41.2) else (xlt (xf_Z_illegal u p0 : Int32 × XZ) fun q39 => q39.2))) → lv_has ls 7 [(6, .int ((xus p0 (25 : Int32)))), (5, .int ((p0 >>> ((20 : Int32) &&& 31)))), (0, .ref ((b 0))), (1, .int p0), (2, .int p1), (3, .int p2), (4, .int p3)] → va_P D xCl (xWZ k b v46) H → va_D A (xWZ k b v46) → va_S A s.heap H locs → W p l e { frames := 2, cells := 0, slots := 0, locals := 44 } s m args below meth c H locs (0) (0) Q (F0 m 190 ls [.int v45]) := by
                intro H locs ls v45 v46 hv45 hv46 hl hP hD hS
                have hv := xlt_v hv45 hv
                have hv := xlt_v hv46 hv
                exact hret _ v46 H locs ls _ (xnar (X01_of hv45 (xit_01 (xlt_01 (fun q43 hq43 => (X01_ofp hq43 (xt01_Z_put u p1 (xus p3 ((p0 >>> ((20 : Int32) &&& 31)) &&& (31 : Int32))))))) (xit_01 (xlt_01 (fun q41 hq41 => (X01_ofp hq41 (xt01_Z_put u p1 (p3 >>> (((p0 >>> ((20 : Int32) &&& 31)) &&& (31 : Int32)) &&& 31)))))) (xlt_01 (fun q39 hq39 => (X01_ofp hq39 (xt01_Z_illegal u p0)))))))) (by unfold xf_Z_small; exact (xif h1 (xif h4 (xif h18 (xif h25 (xif h33 (xit h36 (xlt_e hv45 (xlt_e hv46 rfl))))))))) hP hD hS xd_Z_small_190
              have hv := hva
              refine lv_if_ne (tgt := 162) hx hb xd_Z_small_143 rfl (fun h48 => ?_) (fun h48 => ?_)
              · have hv := xif_v h48 hv
                refine lv_iload hx hb xd_Z_small_162 (lv_at hl 0 rfl) ?_
                refine lv_bipush (v := 32) hx hb xd_Z_small_164 (by decide) ?_
                refine lv_icmp_ne (tgt := 185) hx hb xd_Z_small_166 rfl (fun h49 => ?_) (fun h49 => ?_)
                · have hv := xif_v h49 hv
                  refine lv_aload_n hx hb xd_Z_small_185 rfl (lv_at hl 2 rfl) ?_
                  refine lv_iload_n hx hb xd_Z_small_186 rfl (lv_at hl 3 rfl) ?_
                  obtain ⟨hn51, hv⟩ := xan_v hv
                  refine xcW_i (va_runV (As := [.int p0]) (rest := []) ⟨hx, hb, hml, hown, htg⟩ (c_Z_illegal l D z k b H.size u p0 hn51) (cwV 1 htg (xg_V0 xkin_Z_illegal xw_990 xw_992 xsel_Z_illegal xw_9) rfl rfl rfl (by decide +kernel) ⟨Nat.le_of_ble_eq_true rfl, Nat.le_of_ble_eq_true rfl⟩) ⟨xB_blind, xrecv_Z hK hP, fun U hU hW => xB_mk hP hK hD hE hS (xsubW hD hA hS) hU hW⟩ rfl rfl hl.1 rfl (lv_room (Nat.le_of_ble_eq_true rfl)) xd_Z_small_187 ⟨Nat.le_of_ble_eq_true rfl, Nat.le_of_ble_eq_true rfl⟩) hD hA hS (fun r u1 H locs hw hP hD hS => ?_)
                  obtain ⟨q50, hq50⟩ : ∃ q, q = xf_Z_illegal u p0 := ⟨_, rfl⟩
                  rw [← hq50] at hw
                  obtain rfl : r = q50.1 := congrArg Prod.fst hw
                  obtain rfl : u1 = q50.2 := congrArg Prod.snd hw
                  have hP : va_P D xCl (xWZ k b q50.2) H := hP
                  have hD : va_D A (xWZ k b q50.2) := hD
                  have hv := xlt_v hq50 hv
                  exact hj47 H locs ls q50.1 q50.2 (xif h48 (xif h49 (xlt_e hq50 rfl))) (xif h48 (xif h49 (xlt_e hq50 rfl))) hl hP hD hS
                · have hv := xit_v h49 hv
                  refine lv_aload_n hx hb xd_Z_small_169 rfl (lv_at hl 2 rfl) ?_
                  refine lv_iload_n hx hb xd_Z_small_170 rfl (lv_at hl 4 rfl) ?_
                  refine lv_iload hx hb xd_Z_small_171 (lv_at hl 6 rfl) ?_
                  refine lv_iload hx hb xd_Z_small_173 (lv_at hl 1 rfl) ?_
                  refine lv_bipush (v := 31) hx hb xd_Z_small_175 (by decide) ?_
                  refine lv_iand hx hb xd_Z_small_177 ?_
                  refine lv_ishr hx hb xd_Z_small_178 ?_
                  obtain ⟨hn53, hv⟩ := xan_v hv
                  refine xcW_i (va_runV (As := [.int p1, .int ((p3 >>> (((p0 >>> ((20 : Int32) &&& 31)) &&& (31 : Int32)) &&& 31)))]) (rest := []) ⟨hx, hb, hml, hown, htg⟩ (c_Z_put l D z k b H.size u p1 (p3 >>> (((p0 >>> ((20 : Int32) &&& 31)) &&& (31 : Int32)) &&& 31)) hn53) (cwV 2 htg (xg_V0 xkin_Z_put xw_834 xw_836 xsel_Z_put xw_9) rfl rfl rfl (by decide +kernel) ⟨Nat.le_of_ble_eq_true rfl, Nat.le_of_ble_eq_true rfl⟩) ⟨xB_blind, xrecv_Z hK hP, fun U hU hW => xB_mk hP hK hD hE hS (xsubW hD hA hS) hU hW⟩ rfl rfl hl.1 rfl (lv_room (Nat.le_of_ble_eq_true rfl)) xd_Z_small_179 ⟨Nat.le_of_ble_eq_true rfl, Nat.le_of_ble_eq_true rfl⟩) hD hA hS (fun r u1 H locs hw hP hD hS => ?_)
                  obtain ⟨q52, hq52⟩ : ∃ q, q = xf_Z_put u p1 (p3 >>> (((p0 >>> ((20 : Int32) &&& 31)) &&& (31 : Int32)) &&& 31)) := ⟨_, rfl⟩
                  rw [← hq52] at hw
                  obtain rfl : r = q52.1 := congrArg Prod.fst hw
                  obtain rfl : u1 = q52.2 := congrArg Prod.snd hw
                  have hP : va_P D xCl (xWZ k b q52.2) H := hP
                  have hD : va_D A (xWZ k b q52.2) := hD
                  have hv := xlt_v hq52 hv
                  refine lv_goto (tgt := 190) hx hb xd_Z_small_182 rfl ?_
                  exact hj47 H locs ls q52.1 q52.2 (xif h48 (xit h49 (xlt_e hq52 rfl))) (xif h48 (xit h49 (xlt_e hq52 rfl))) hl hP hD hS
              · have hv := xit_v h48 hv
                refine lv_aload_n hx hb xd_Z_small_146 rfl (lv_at hl 2 rfl) ?_
                refine lv_iload_n hx hb xd_Z_small_147 rfl (lv_at hl 4 rfl) ?_
                refine lv_iload hx hb xd_Z_small_148 (lv_at hl 6 rfl) ?_
                refine lv_iload hx hb xd_Z_small_150 (lv_at hl 1 rfl) ?_
                refine lv_bipush (v := 31) hx hb xd_Z_small_152 (by decide) ?_
                refine lv_iand hx hb xd_Z_small_154 ?_
                refine lv_iushr (v := (xus p3 ((p0 >>> ((20 : Int32) &&& 31)) &&& (31 : Int32)))) hx hb xd_Z_small_155 rfl ?_
                obtain ⟨hn55, hv⟩ := xan_v hv
                refine xcW_i (va_runV (As := [.int p1, .int ((xus p3 ((p0 >>> ((20 : Int32) &&& 31)) &&& (31 : Int32))))]) (rest := []) ⟨hx, hb, hml, hown, htg⟩ (c_Z_put l D z k b H.size u p1 (xus p3 ((p0 >>> ((20 : Int32) &&& 31)) &&& (31 : Int32))) hn55) (cwV 2 htg (xg_V0 xkin_Z_put xw_834 xw_836 xsel_Z_put xw_9) rfl rfl rfl (by decide +kernel) ⟨Nat.le_of_ble_eq_true rfl, Nat.le_of_ble_eq_true rfl⟩) ⟨xB_blind, xrecv_Z hK hP, fun U hU hW => xB_mk hP hK hD hE hS (xsubW hD hA hS) hU hW⟩ rfl rfl hl.1 rfl (lv_room (Nat.le_of_ble_eq_true rfl)) xd_Z_small_156 ⟨Nat.le_of_ble_eq_true rfl, Nat.le_of_ble_eq_true rfl⟩) hD hA hS (fun r u1 H locs hw hP hD hS => ?_)
                obtain ⟨q54, hq54⟩ : ∃ q, q = xf_Z_put u p1 (xus p3 ((p0 >>> ((20 : Int32) &&& 31)) &&& (31 : Int32))) := ⟨_, rfl⟩
                rw [← hq54] at hw
                obtain rfl : r = q54.1 := congrArg Prod.fst hw
                obtain rfl : u1 = q54.2 := congrArg Prod.snd hw
                have hP : va_P D xCl (xWZ k b q54.2) H := hP
                have hD : va_D A (xWZ k b q54.2) := hD
                have hv := xlt_v hq54 hv
                refine lv_goto (tgt := 190) hx hb xd_Z_small_159 rfl ?_
                exact hj47 H locs ls q54.1 q54.2 (xit h48 (xlt_e hq54 rfl)) (xit h48 (xlt_e hq54 rfl)) hl hP hD hS
            · have hv := xif_v h36 hv
              refine (Decidable.em (p2 = 6)).elim (fun h56 => ?_) (fun h56 => ?_)
              · have hv := xit_v h56 hv
                refine lv_tableIn (tgt := 191) (off := 178) hx hb xd_Z_small_13 (by rw [h56]; decide) (by rw [h56]; decide) (by rw [h56]; decide +kernel) rfl ?_
                refine lv_aload_n hx hb xd_Z_small_191 rfl (lv_at hl 2 rfl) ?_
                refine lv_iload_n hx hb xd_Z_small_192 rfl (lv_at hl 4 rfl) ?_
                refine lv_iload hx hb xd_Z_small_193 (lv_at hl 6 rfl) ?_
                refine lv_iload hx hb xd_Z_small_195 (lv_at hl 1 rfl) ?_
                refine lv_ior hx hb xd_Z_small_197 ?_
                obtain ⟨hn58, hv⟩ := xan_v hv
                refine xcW_i (va_runV (As := [.int p1, .int ((p3 ||| (p0 >>> ((20 : Int32) &&& 31))))]) (rest := []) ⟨hx, hb, hml, hown, htg⟩ (c_Z_put l D z k b H.size u p1 (p3 ||| (p0 >>> ((20 : Int32) &&& 31))) hn58) (cwV 2 htg (xg_V0 xkin_Z_put xw_834 xw_836 xsel_Z_put xw_9) rfl rfl rfl (by decide +kernel) ⟨Nat.le_of_ble_eq_true rfl, Nat.le_of_ble_eq_true rfl⟩) ⟨xB_blind, xrecv_Z hK hP, fun U hU hW => xB_mk hP hK hD hE hS (xsubW hD hA hS) hU hW⟩ rfl rfl hl.1 rfl (lv_room (Nat.le_of_ble_eq_true rfl)) xd_Z_small_198 ⟨Nat.le_of_ble_eq_true rfl, Nat.le_of_ble_eq_true rfl⟩) hD hA hS (fun r u1 H locs hw hP hD hS => ?_)
                obtain ⟨q57, hq57⟩ : ∃ q, q = xf_Z_put u p1 (p3 ||| (p0 >>> ((20 : Int32) &&& 31))) := ⟨_, rfl⟩
                rw [← hq57] at hw
                obtain rfl : r = q57.1 := congrArg Prod.fst hw
                obtain rfl : u1 = q57.2 := congrArg Prod.snd hw
                have hP : va_P D xCl (xWZ k b q57.2) H := hP
                have hD : va_D A (xWZ k b q57.2) := hD
                have hv := xlt_v hq57 hv
                exact hret _ q57.2 H locs ls _ (xnar (X01_ofp hq57 (xt01_Z_put u p1 (p3 ||| (p0 >>> ((20 : Int32) &&& 31)))))) (by unfold xf_Z_small; exact (xif h1 (xif h4 (xif h18 (xif h25 (xif h33 (xif h36 (xit h56 (xlt_e hq57 rfl))))))))) hP hD hS xd_Z_small_201
              · have hv := xif_v h56 hv
                refine lv_tableOut (tgt := 202) hx hb xd_Z_small_13 (xsw_out [0, 1, 2, 3, 4, 5, 6] (by decide) (by simp only [List.forall_mem_cons, List.not_mem_nil, false_imp_iff, implies_true, and_true]; exact ⟨h1, h4, h18, h25, h33, h36, h56⟩)) rfl ?_
                refine lv_aload_n hx hb xd_Z_small_202 rfl (lv_at hl 2 rfl) ?_
                refine lv_iload_n hx hb xd_Z_small_203 rfl (lv_at hl 4 rfl) ?_
                refine lv_iload hx hb xd_Z_small_204 (lv_at hl 6 rfl) ?_
                refine lv_iload hx hb xd_Z_small_206 (lv_at hl 1 rfl) ?_
                refine lv_iand hx hb xd_Z_small_208 ?_
                obtain ⟨hn60, hv⟩ := xan_v hv
                refine xcW_i (va_runV (As := [.int p1, .int ((p3 &&& (p0 >>> ((20 : Int32) &&& 31))))]) (rest := []) ⟨hx, hb, hml, hown, htg⟩ (c_Z_put l D z k b H.size u p1 (p3 &&& (p0 >>> ((20 : Int32) &&& 31))) hn60) (cwV 2 htg (xg_V0 xkin_Z_put xw_834 xw_836 xsel_Z_put xw_9) rfl rfl rfl (by decide +kernel) ⟨Nat.le_of_ble_eq_true rfl, Nat.le_of_ble_eq_true rfl⟩) ⟨xB_blind, xrecv_Z hK hP, fun U hU hW => xB_mk hP hK hD hE hS (xsubW hD hA hS) hU hW⟩ rfl rfl hl.1 rfl (lv_room (Nat.le_of_ble_eq_true rfl)) xd_Z_small_209 ⟨Nat.le_of_ble_eq_true rfl, Nat.le_of_ble_eq_true rfl⟩) hD hA hS (fun r u1 H locs hw hP hD hS => ?_)
                obtain ⟨q59, hq59⟩ : ∃ q, q = xf_Z_put u p1 (p3 &&& (p0 >>> ((20 : Int32) &&& 31))) := ⟨_, rfl⟩
                rw [← hq59] at hw
                obtain rfl : r = q59.1 := congrArg Prod.fst hw
                obtain rfl : u1 = q59.2 := congrArg Prod.snd hw
                have hP : va_P D xCl (xWZ k b q59.2) H := hP
                have hD : va_D A (xWZ k b q59.2) := hD
                have hv := xlt_v hq59 hv
                exact hret _ q59.2 H locs ls _ (xnar (X01_ofp hq59 (xt01_Z_put u p1 (p3 &&& (p0 >>> ((20 : Int32) &&& 31)))))) (by unfold xf_Z_small; exact (xif h1 (xif h4 (xif h18 (xif h25 (xif h33 (xif h36 (xif h56 (xlt_e hq59 rfl))))))))) hP hD hS xd_Z_small_212
theorem xt01_Z_small (u : XZ) (p0 : Int32) (p1 : Int32) (p2 : Int32) (p3 : Int32) : X01p (xf_Z_small u p0 p1 p2 p3) := by unfold xf_Z_small; exact (xit_01p (xlt_01p (fun q2 hq2 => (X01_ofp hq2 (xt01_Z_put u p1 (p3 + (p0 >>> ((20 : Int32) &&& 31))))))) (xit_01p (xlt_01p (fun v10 hv10 => (xlt_01p (fun v11 hv11 => (X01_of hv10 (xit_01 (xlt_01 (fun q8 hq8 => (X01_ofp hq8 (xt01_Z_put u p1 (p3 <<< ((p0 >>> ((20 : Int32) &&& 31)) &&& 31)))))) (xlt_01 (fun q6 hq6 => (X01_ofp hq6 (xt01_Z_illegal u p0)))))))))) (xit_01p (xlt_01p (fun v20 hv20 => (xlt_01p (fun q22 hq22 => (X01_ofp hq22 (xt01_Z_put u p1 v20)))))) (xit_01p (xlt_01p (fun r26 hr26 => (xlt_01p (fun v28 hv28 => (xlt_01p (fun q30 hq30 => (X01_ofp hq30 (xt01_Z_put u p1 v28)))))))) (xit_01p (xlt_01p (fun q34 hq34 => (X01_ofp hq34 (xt01_Z_put u p1 (p3 ^^^ (p0 >>> ((20 : Int32) &&& 31))))))) (xit_01p (xlt_01p (fun v45 hv45 => (xlt_01p (fun v46 hv46 => (X01_of hv45 (xit_01 (xlt_01 (fun q43 hq43 => (X01_ofp hq43 (xt01_Z_put u p1 (xus p3 ((p0 >>> ((20 : Int32) &&& 31)) &&& (31 : Int32))))))) (xit_01 (xlt_01 (fun q41 hq41 => (X01_ofp hq41 (xt01_Z_put u p1 (p3 >>> (((p0 >>> ((20 : Int32) &&& 31)) &&& (31 : Int32)) &&& 31)))))) (xlt_01 (fun q39 hq39 => (X01_ofp hq39 (xt01_Z_illegal u p0))))))))))) (xit_01p (xlt_01p (fun q57 hq57 => (X01_ofp hq57 (xt01_Z_put u p1 (p3 ||| (p0 >>> ((20 : Int32) &&& 31))))))) (xlt_01p (fun q59 hq59 => (X01_ofp hq59 (xt01_Z_put u p1 (p3 &&& (p0 >>> ((20 : Int32) &&& 31))))))))))))))

noncomputable def xf_Z_pair (u : XZ) (p0 : Int32) (p1 : Int32) (p2 : Int32) (p3 : Int32) (p4 : Int32) : Int32 × XZ :=
  if (xus p0 (25 : Int32)) = 1 then
    xlt (xf_Z_product p2 p3 p4 : Int32) fun r57 =>
    xlt (xf_Z_put u p1 r57 : Int32 × XZ) fun q58 =>
    (q58.1, q58.2)
  else
    if (xus p0 (25 : Int32)) = 32 then
      xlt (if p2 = 0 then (xlt (xf_Z_put u p1 (p3 - p4) : Int32 × XZ) fun q44 => q44.1) else (if p2 = 5 then (xlt (xf_Z_put u p1 (p3 >>> ((p4 &&& (31 : Int32)) &&& 31)) : Int32 × XZ) fun q42 => q42.1) else (xlt (xf_Z_illegal u p0 : Int32 × XZ) fun q40 => q40.1)) : Int32) fun v46 =>
      xlt (if p2 = 0 then (xlt (xf_Z_put u p1 (p3 - p4) : Int32 × XZ) fun q44 => q44.2) else (if p2 = 5 then (xlt (xf_Z_put u p1 (p3 >>> ((p4 &&& (31 : Int32)) &&& 31)) : Int32 × XZ) fun q42 => q42.2) else (xlt (xf_Z_illegal u p0 : Int32 × XZ) fun q40 => q40.2)) : XZ) fun v47 =>
      (v46, v47)
    else
      if (xus p0 (25 : Int32)) = 0 then
        if p2 = 0 then
          xlt (xf_Z_put u p1 (p3 + p4) : Int32 × XZ) fun q5 =>
          (q5.1, q5.2)
        else
          if p2 = 1 then
            xlt (xf_Z_put u p1 (p3 <<< ((p4 &&& (31 : Int32)) &&& 31)) : Int32 × XZ) fun q8 =>
            (q8.1, q8.2)
          else
            if p2 = 2 then
              xlt (if p4 ≤ p3 then (0) else (1) : Int32) fun v12 =>
              xlt (xf_Z_put u p1 v12 : Int32 × XZ) fun q14 =>
              (q14.1, q14.2)
            else
              if p2 = 3 then
                xlt (xf_Z_lessPlain p3 p4 : Int32) fun r18 =>
                xlt (if r18 = 0 then (0) else (1) : Int32) fun v20 =>
                xlt (xf_Z_put u p1 v20 : Int32 × XZ) fun q22 =>
                (q22.1, q22.2)
              else
                if p2 = 4 then
                  xlt (xf_Z_put u p1 (p3 ^^^ p4) : Int32 × XZ) fun q26 =>
                  (q26.1, q26.2)
                else
                  if p2 = 5 then
                    xlt (xf_Z_put u p1 (xus p3 (p4 &&& (31 : Int32))) : Int32 × XZ) fun q29 =>
                    (q29.1, q29.2)
                  else
                    if p2 = 6 then
                      xlt (xf_Z_put u p1 (p3 ||| p4) : Int32 × XZ) fun q32 =>
                      (q32.1, q32.2)
                    else
                      xlt (xf_Z_put u p1 (p3 &&& p4) : Int32 × XZ) fun q34 =>
                      (q34.1, q34.2)
      else
        xlt (xf_Z_illegal u p0 : Int32 × XZ) fun q36 =>
        (q36.1, q36.2)
def xv_Z_pair (u : XZ) (p0 : Int32) (p1 : Int32) (p2 : Int32) (p3 : Int32) (p4 : Int32) : Prop := XVc (
  if (xus p0 (25 : Int32)) = 1 then
    xlt (xf_Z_product p2 p3 p4 : Int32) fun r57 =>
    (xv_Z_put u p1 r57) ∧
    xlt (xf_Z_put u p1 r57 : Int32 × XZ) fun q58 =>
    True
  else
    if (xus p0 (25 : Int32)) = 32 then
      (if p2 = 0 then ((xv_Z_put u p1 (p3 - p4)) ∧ (xlt (xf_Z_put u p1 (p3 - p4) : Int32 × XZ) fun q44 => True)) else (if p2 = 5 then ((xv_Z_put u p1 (p3 >>> ((p4 &&& (31 : Int32)) &&& 31))) ∧ (xlt (xf_Z_put u p1 (p3 >>> ((p4 &&& (31 : Int32)) &&& 31)) : Int32 × XZ) fun q42 => True)) else ((xv_Z_illegal u p0) ∧ (xlt (xf_Z_illegal u p0 : Int32 × XZ) fun q40 => True)))) ∧
      xlt (if p2 = 0 then (xlt (xf_Z_put u p1 (p3 - p4) : Int32 × XZ) fun q44 => q44.1) else (if p2 = 5 then (xlt (xf_Z_put u p1 (p3 >>> ((p4 &&& (31 : Int32)) &&& 31)) : Int32 × XZ) fun q42 => q42.1) else (xlt (xf_Z_illegal u p0 : Int32 × XZ) fun q40 => q40.1)) : Int32) fun v46 =>
      xlt (if p2 = 0 then (xlt (xf_Z_put u p1 (p3 - p4) : Int32 × XZ) fun q44 => q44.2) else (if p2 = 5 then (xlt (xf_Z_put u p1 (p3 >>> ((p4 &&& (31 : Int32)) &&& 31)) : Int32 × XZ) fun q42 => q42.2) else (xlt (xf_Z_illegal u p0 : Int32 × XZ) fun q40 => q40.2)) : XZ) fun v47 =>
      True
    else
      if (xus p0 (25 : Int32)) = 0 then
        if p2 = 0 then
          (xv_Z_put u p1 (p3 + p4)) ∧
          xlt (xf_Z_put u p1 (p3 + p4) : Int32 × XZ) fun q5 =>
          True
        else
          if p2 = 1 then
            (xv_Z_put u p1 (p3 <<< ((p4 &&& (31 : Int32)) &&& 31))) ∧
            xlt (xf_Z_put u p1 (p3 <<< ((p4 &&& (31 : Int32)) &&& 31)) : Int32 × XZ) fun q8 =>
            True
          else
            if p2 = 2 then
              xlt (if p4 ≤ p3 then (0) else (1) : Int32) fun v12 =>
              (xv_Z_put u p1 v12) ∧
              xlt (xf_Z_put u p1 v12 : Int32 × XZ) fun q14 =>
              True
            else
              if p2 = 3 then
                xlt (xf_Z_lessPlain p3 p4 : Int32) fun r18 =>
                xlt (if r18 = 0 then (0) else (1) : Int32) fun v20 =>
                (xv_Z_put u p1 v20) ∧
                xlt (xf_Z_put u p1 v20 : Int32 × XZ) fun q22 =>
                True
              else
                if p2 = 4 then
                  (xv_Z_put u p1 (p3 ^^^ p4)) ∧
                  xlt (xf_Z_put u p1 (p3 ^^^ p4) : Int32 × XZ) fun q26 =>
                  True
                else
                  if p2 = 5 then
                    (xv_Z_put u p1 (xus p3 (p4 &&& (31 : Int32)))) ∧
                    xlt (xf_Z_put u p1 (xus p3 (p4 &&& (31 : Int32))) : Int32 × XZ) fun q29 =>
                    True
                  else
                    if p2 = 6 then
                      (xv_Z_put u p1 (p3 ||| p4)) ∧
                      xlt (xf_Z_put u p1 (p3 ||| p4) : Int32 × XZ) fun q32 =>
                      True
                    else
                      (xv_Z_put u p1 (p3 &&& p4)) ∧
                      xlt (xf_Z_put u p1 (p3 &&& p4) : Int32 × XZ) fun q34 =>
                      True
      else
        (xv_Z_illegal u p0) ∧
        xlt (xf_Z_illegal u p0 : Int32 × XZ) fun q36 =>
        True)
set_option maxHeartbeats 4000000 in
set_option maxRecDepth 100000 in
theorem c_Z_pair (l : Launch) (D : va_G) (z : (Nat → Nat) × (Nat → Nat)) (k : ClassId × ClassId) (b : Nat → Nat) (sz : Nat) (u : XZ) (p0 : Int32) (p1 : Int32) (p2 : Int32) (p3 : Int32) (p4 : Int32) (hv : xv_Z_pair u p0 p1 p2 p3 p4) : Met l xy_Z_pair (xk_Z_pair :: lw_g) { frames := 2, cells := 0, slots := 0, locals := 44 } (va_Pc [.ref ((b 0)), .int p0, .int p1, .int p2, .int p3, .int p4] (xB D (xTy k) z sz (xWZ k b u))) (va_Qi (fun r (q : XZ) => (r, q) = xf_Z_pair u p0 p1 p2 p3 p4) (fun q t => xQ D (xTy k) (xWZ k b q) (va_A (xWZ k b u) sz) t) (va_A (xWZ k b u) sz)) 0 0 (va_A (xWZ k b u) sz) := by
  refine xopen_z (wf := fun q : XZ => xWZ k b q) (lv := [(0, .ref ((b 0))), (1, .int p0), (2, .int p1), (3, .int p2), (4, .int p3), (5, .int p4)]) (by decide) rfl (Nat.le_of_ble_eq_true rfl) ?_
  intro p e s m args below meth c Q ls A H locs hx hb hml htg hown hin hK hP hD hE hS hA hl hret
  unfold xv_Z_pair at hv
  refine lv_iload_n hx hb xd_Z_pair_0 rfl (lv_at hl 1 rfl) ?_
  refine lv_bipush (v := 25) hx hb xd_Z_pair_1 (by decide) ?_
  refine lv_iushr (v := (xus p0 (25 : Int32))) hx hb xd_Z_pair_3 rfl ?_
  refine lv_istore (lv' := [(6, .int ((xus p0 (25 : Int32)))), (0, .ref ((b 0))), (1, .int p0), (2, .int p1), (3, .int p2), (4, .int p3), (5, .int p4)]) hx hb xd_Z_pair_4 hl (by decide) rfl (fun ls hl => ?_)
  refine lv_iload hx hb xd_Z_pair_6 (lv_at hl 0 rfl) ?_
  refine lv_iconst (v := 1) hx hb xd_Z_pair_8 (by decide) ?_
  refine lv_icmp_ne (tgt := 26) hx hb xd_Z_pair_9 rfl (fun h1 => ?_) (fun h1 => ?_)
  · have hv := xif_v h1 hv
    refine lv_iload hx hb xd_Z_pair_26 (lv_at hl 0 rfl) ?_
    refine lv_bipush (v := 32) hx hb xd_Z_pair_28 (by decide) ?_
    refine lv_icmp_ne (tgt := 77) hx hb xd_Z_pair_30 rfl (fun h2 => ?_) (fun h2 => ?_)
    · have hv := xif_v h2 hv
      refine lv_iload hx hb xd_Z_pair_77 (lv_at hl 0 rfl) ?_
      refine lv_if_eq (tgt := 88) hx hb xd_Z_pair_79 rfl (fun h3 => ?_) (fun h3 => ?_)
      · have hv := xit_v h3 hv
        refine lv_iload_n hx hb xd_Z_pair_88 rfl (lv_at hl 4 rfl) ?_
        refine (Decidable.em (p2 = 0)).elim (fun h4 => ?_) (fun h4 => ?_)
        · have hv := xit_v h4 hv
          refine lv_tableIn (tgt := 132) (off := 43) hx hb xd_Z_pair_89 (by rw [h4]; decide) (by rw [h4]; decide) (by rw [h4]; decide +kernel) rfl ?_
          refine lv_aload_n hx hb xd_Z_pair_132 rfl (lv_at hl 1 rfl) ?_
          refine lv_iload_n hx hb xd_Z_pair_133 rfl (lv_at hl 3 rfl) ?_
          refine lv_iload hx hb xd_Z_pair_134 (lv_at hl 5 rfl) ?_
          refine lv_iload hx hb xd_Z_pair_136 (lv_at hl 6 rfl) ?_
          refine lv_iadd hx hb xd_Z_pair_138 ?_
          obtain ⟨hn6, hv⟩ := xan_v hv
          refine xcW_i (va_runV (As := [.int p1, .int ((p3 + p4))]) (rest := []) ⟨hx, hb, hml, hown, htg⟩ (c_Z_put l D z k b H.size u p1 (p3 + p4) hn6) (cwV 2 htg (xg_V0 xkin_Z_put xw_834 xw_836 xsel_Z_put xw_9) rfl rfl rfl (by decide +kernel) ⟨Nat.le_of_ble_eq_true rfl, Nat.le_of_ble_eq_true rfl⟩) ⟨xB_blind, xrecv_Z hK hP, fun U hU hW => xB_mk hP hK hD hE hS (xsubW hD hA hS) hU hW⟩ rfl rfl hl.1 rfl (lv_room (Nat.le_of_ble_eq_true rfl)) xd_Z_pair_139 ⟨Nat.le_of_ble_eq_true rfl, Nat.le_of_ble_eq_true rfl⟩) hD hA hS (fun r u1 H locs hw hP hD hS => ?_)
          obtain ⟨q5, hq5⟩ : ∃ q, q = xf_Z_put u p1 (p3 + p4) := ⟨_, rfl⟩
          rw [← hq5] at hw
          obtain rfl : r = q5.1 := congrArg Prod.fst hw
          obtain rfl : u1 = q5.2 := congrArg Prod.snd hw
          have hP : va_P D xCl (xWZ k b q5.2) H := hP
          have hD : va_D A (xWZ k b q5.2) := hD
          have hv := xlt_v hq5 hv
          exact hret _ q5.2 H locs ls _ (xnar (X01_ofp hq5 (xt01_Z_put u p1 (p3 + p4)))) (by unfold xf_Z_pair; exact (xif h1 (xif h2 (xit h3 (xit h4 (xlt_e hq5 rfl)))))) hP hD hS xd_Z_pair_142
        · have hv := xif_v h4 hv
          refine (Decidable.em (p2 = 1)).elim (fun h7 => ?_) (fun h7 => ?_)
          · have hv := xit_v h7 hv
            refine lv_tableIn (tgt := 143) (off := 54) hx hb xd_Z_pair_89 (by rw [h7]; decide) (by rw [h7]; decide) (by rw [h7]; decide +kernel) rfl ?_
            refine lv_aload_n hx hb xd_Z_pair_143 rfl (lv_at hl 1 rfl) ?_
            refine lv_iload_n hx hb xd_Z_pair_144 rfl (lv_at hl 3 rfl) ?_
            refine lv_iload hx hb xd_Z_pair_145 (lv_at hl 5 rfl) ?_
            refine lv_iload hx hb xd_Z_pair_147 (lv_at hl 6 rfl) ?_
            refine lv_bipush (v := 31) hx hb xd_Z_pair_149 (by decide) ?_
            refine lv_iand hx hb xd_Z_pair_151 ?_
            refine lv_ishl hx hb xd_Z_pair_152 ?_
            obtain ⟨hn9, hv⟩ := xan_v hv
            refine xcW_i (va_runV (As := [.int p1, .int ((p3 <<< ((p4 &&& (31 : Int32)) &&& 31)))]) (rest := []) ⟨hx, hb, hml, hown, htg⟩ (c_Z_put l D z k b H.size u p1 (p3 <<< ((p4 &&& (31 : Int32)) &&& 31)) hn9) (cwV 2 htg (xg_V0 xkin_Z_put xw_834 xw_836 xsel_Z_put xw_9) rfl rfl rfl (by decide +kernel) ⟨Nat.le_of_ble_eq_true rfl, Nat.le_of_ble_eq_true rfl⟩) ⟨xB_blind, xrecv_Z hK hP, fun U hU hW => xB_mk hP hK hD hE hS (xsubW hD hA hS) hU hW⟩ rfl rfl hl.1 rfl (lv_room (Nat.le_of_ble_eq_true rfl)) xd_Z_pair_153 ⟨Nat.le_of_ble_eq_true rfl, Nat.le_of_ble_eq_true rfl⟩) hD hA hS (fun r u1 H locs hw hP hD hS => ?_)
            obtain ⟨q8, hq8⟩ : ∃ q, q = xf_Z_put u p1 (p3 <<< ((p4 &&& (31 : Int32)) &&& 31)) := ⟨_, rfl⟩
            rw [← hq8] at hw
            obtain rfl : r = q8.1 := congrArg Prod.fst hw
            obtain rfl : u1 = q8.2 := congrArg Prod.snd hw
            have hP : va_P D xCl (xWZ k b q8.2) H := hP
            have hD : va_D A (xWZ k b q8.2) := hD
            have hv := xlt_v hq8 hv
            exact hret _ q8.2 H locs ls _ (xnar (X01_ofp hq8 (xt01_Z_put u p1 (p3 <<< ((p4 &&& (31 : Int32)) &&& 31))))) (by unfold xf_Z_pair; exact (xif h1 (xif h2 (xit h3 (xif h4 (xit h7 (xlt_e hq8 rfl))))))) hP hD hS xd_Z_pair_156
          · have hv := xif_v h7 hv
            refine (Decidable.em (p2 = 2)).elim (fun h10 => ?_) (fun h10 => ?_)
            · have hv := xit_v h10 hv
              refine lv_tableIn (tgt := 157) (off := 68) hx hb xd_Z_pair_89 (by rw [h10]; decide) (by rw [h10]; decide) (by rw [h10]; decide +kernel) rfl ?_
              refine lv_aload_n hx hb xd_Z_pair_157 rfl (lv_at hl 1 rfl) ?_
              refine lv_iload_n hx hb xd_Z_pair_158 rfl (lv_at hl 3 rfl) ?_
              refine lv_iload hx hb xd_Z_pair_159 (lv_at hl 5 rfl) ?_
              refine lv_iload hx hb xd_Z_pair_161 (lv_at hl 6 rfl) ?_
              have hj13 : ∀ (H : Heap) (locs : List Loc) (ls : Array Slot) (v12 : Int32), v12 = (if p4 ≤ p3 then (0) else (1)) → lv_has ls 7 [(6, .int ((xus p0 (25 : Int32)))), (0, .ref ((b 0))), (1, .int p0), (2, .int p1), (3, .int p2), (4, .int p3), (5, .int p4)] → va_P D xCl (xWZ k b u) H → va_D A (xWZ k b u) → va_S A s.heap H locs → W p l e { frames := 2, cells := 0, slots := 0, locals := 44 } s m args below meth c H locs (0) (0) Q (F0 m 171 ls [.int v12, .int p1, .ref ((b 0))]) := by
                intro H locs ls v12 hv12 hl hP hD hS
                have hv := xlt_v hv12 hv
                obtain ⟨hn15, hv⟩ := xan_v hv
                refine xcW_i (va_runV (As := [.int p1, .int v12]) (rest := []) ⟨hx, hb, hml, hown, htg⟩ (c_Z_put l D z k b H.size u p1 v12 hn15) (cwV 2 htg (xg_V0 xkin_Z_put xw_834 xw_836 xsel_Z_put xw_9) rfl rfl rfl (by decide +kernel) ⟨Nat.le_of_ble_eq_true rfl, Nat.le_of_ble_eq_true rfl⟩) ⟨xB_blind, xrecv_Z hK hP, fun U hU hW => xB_mk hP hK hD hE hS (xsubW hD hA hS) hU hW⟩ rfl rfl hl.1 rfl (lv_room (Nat.le_of_ble_eq_true rfl)) xd_Z_pair_171 ⟨Nat.le_of_ble_eq_true rfl, Nat.le_of_ble_eq_true rfl⟩) hD hA hS (fun r u1 H locs hw hP hD hS => ?_)
                obtain ⟨q14, hq14⟩ : ∃ q, q = xf_Z_put u p1 v12 := ⟨_, rfl⟩
                rw [← hq14] at hw
                obtain rfl : r = q14.1 := congrArg Prod.fst hw
                obtain rfl : u1 = q14.2 := congrArg Prod.snd hw
                have hP : va_P D xCl (xWZ k b q14.2) H := hP
                have hD : va_D A (xWZ k b q14.2) := hD
                have hv := xlt_v hq14 hv
                exact hret _ q14.2 H locs ls _ (xnar (X01_ofp hq14 (xt01_Z_put u p1 v12))) (by unfold xf_Z_pair; exact (xif h1 (xif h2 (xit h3 (xif h4 (xif h7 (xit h10 (xlt_e hv12 (xlt_e hq14 rfl))))))))) hP hD hS xd_Z_pair_174
              refine lv_icmp_ge (tgt := 170) hx hb xd_Z_pair_163 rfl (fun h16 => ?_) (fun h16 => ?_)
              · refine lv_iconst (v := 0) hx hb xd_Z_pair_170 (by decide) ?_
                exact hj13 H locs ls (0 : Int32) (xit h16 rfl) hl hP hD hS
              · refine lv_iconst (v := 1) hx hb xd_Z_pair_166 (by decide) ?_
                refine lv_goto (tgt := 171) hx hb xd_Z_pair_167 rfl ?_
                exact hj13 H locs ls (1 : Int32) (xif h16 rfl) hl hP hD hS
            · have hv := xif_v h10 hv
              refine (Decidable.em (p2 = 3)).elim (fun h17 => ?_) (fun h17 => ?_)
              · have hv := xit_v h17 hv
                refine lv_tableIn (tgt := 175) (off := 86) hx hb xd_Z_pair_89 (by rw [h17]; decide) (by rw [h17]; decide) (by rw [h17]; decide +kernel) rfl ?_
                refine lv_aload_n hx hb xd_Z_pair_175 rfl (lv_at hl 1 rfl) ?_
                refine lv_iload_n hx hb xd_Z_pair_176 rfl (lv_at hl 3 rfl) ?_
                refine lv_iload hx hb xd_Z_pair_177 (lv_at hl 5 rfl) ?_
                refine lv_iload hx hb xd_Z_pair_179 (lv_at hl 6 rfl) ?_
                refine xc0_i (va_runS (As := [.int p3, .int p4]) (rest := [.int p1, .ref ((b 0))]) ⟨hx, hb, hml, hown, htg⟩ (c_Z_lessPlain l D (xTy k) z H.size p3 p4) (va_cwS 2 htg (xg_S0 xkin_Z_lessPlain xw_998 xw_999 xw_9) rfl rfl rfl (by decide +kernel) ⟨Nat.le_of_ble_eq_true rfl, Nat.le_of_ble_eq_true rfl⟩) ⟨xB_blind, fun U hU hW => xB_mk va_P0 hK va_D0 hE hS (xsub0 hA hS) hU hW⟩ rfl rfl hl.1 rfl (lv_room (Nat.le_of_ble_eq_true rfl)) xd_Z_pair_181 ⟨Nat.le_of_ble_eq_true rfl, Nat.le_of_ble_eq_true rfl⟩) hP hA hS (fun r18 H locs hr18 hP hS => ?_)
                have hv := xlt_v hr18 hv
                have hj21 : ∀ (H : Heap) (locs : List Loc) (ls : Array Slot) (v20 : Int32), v20 = (if r18 = 0 then (0) else (1)) → lv_has ls 7 [(6, .int ((xus p0 (25 : Int32)))), (0, .ref ((b 0))), (1, .int p0), (2, .int p1), (3, .int p2), (4, .int p3), (5, .int p4)] → va_P D xCl (xWZ k b u) H → va_D A (xWZ k b u) → va_S A s.heap H locs → W p l e { frames := 2, cells := 0, slots := 0, locals := 44 } s m args below meth c H locs (0) (0) Q (F0 m 192 ls [.int v20, .int p1, .ref ((b 0))]) := by
                  intro H locs ls v20 hv20 hl hP hD hS
                  have hv := xlt_v hv20 hv
                  obtain ⟨hn23, hv⟩ := xan_v hv
                  refine xcW_i (va_runV (As := [.int p1, .int v20]) (rest := []) ⟨hx, hb, hml, hown, htg⟩ (c_Z_put l D z k b H.size u p1 v20 hn23) (cwV 2 htg (xg_V0 xkin_Z_put xw_834 xw_836 xsel_Z_put xw_9) rfl rfl rfl (by decide +kernel) ⟨Nat.le_of_ble_eq_true rfl, Nat.le_of_ble_eq_true rfl⟩) ⟨xB_blind, xrecv_Z hK hP, fun U hU hW => xB_mk hP hK hD hE hS (xsubW hD hA hS) hU hW⟩ rfl rfl hl.1 rfl (lv_room (Nat.le_of_ble_eq_true rfl)) xd_Z_pair_192 ⟨Nat.le_of_ble_eq_true rfl, Nat.le_of_ble_eq_true rfl⟩) hD hA hS (fun r u1 H locs hw hP hD hS => ?_)
                  obtain ⟨q22, hq22⟩ : ∃ q, q = xf_Z_put u p1 v20 := ⟨_, rfl⟩
                  rw [← hq22] at hw
                  obtain rfl : r = q22.1 := congrArg Prod.fst hw
                  obtain rfl : u1 = q22.2 := congrArg Prod.snd hw
                  have hP : va_P D xCl (xWZ k b q22.2) H := hP
                  have hD : va_D A (xWZ k b q22.2) := hD
                  have hv := xlt_v hq22 hv
                  exact hret _ q22.2 H locs ls _ (xnar (X01_ofp hq22 (xt01_Z_put u p1 v20))) (by unfold xf_Z_pair; exact (xif h1 (xif h2 (xit h3 (xif h4 (xif h7 (xif h10 (xit h17 (xlt_e hr18 (xlt_e hv20 (xlt_e hq22 rfl))))))))))) hP hD hS xd_Z_pair_195
                refine lv_if_eq (tgt := 191) hx hb xd_Z_pair_184 rfl (fun h24 => ?_) (fun h24 => ?_)
                · refine lv_iconst (v := 0) hx hb xd_Z_pair_191 (by decide) ?_
                  exact hj21 H locs ls (0 : Int32) (xit h24 rfl) hl hP hD hS
                · refine lv_iconst (v := 1) hx hb xd_Z_pair_187 (by decide) ?_
                  refine lv_goto (tgt := 192) hx hb xd_Z_pair_188 rfl ?_
                  exact hj21 H locs ls (1 : Int32) (xif h24 rfl) hl hP hD hS
              · have hv := xif_v h17 hv
                refine (Decidable.em (p2 = 4)).elim (fun h25 => ?_) (fun h25 => ?_)
                · have hv := xit_v h25 hv
                  refine lv_tableIn (tgt := 196) (off := 107) hx hb xd_Z_pair_89 (by rw [h25]; decide) (by rw [h25]; decide) (by rw [h25]; decide +kernel) rfl ?_
                  refine lv_aload_n hx hb xd_Z_pair_196 rfl (lv_at hl 1 rfl) ?_
                  refine lv_iload_n hx hb xd_Z_pair_197 rfl (lv_at hl 3 rfl) ?_
                  refine lv_iload hx hb xd_Z_pair_198 (lv_at hl 5 rfl) ?_
                  refine lv_iload hx hb xd_Z_pair_200 (lv_at hl 6 rfl) ?_
                  refine lv_ixor hx hb xd_Z_pair_202 ?_
                  obtain ⟨hn27, hv⟩ := xan_v hv
                  refine xcW_i (va_runV (As := [.int p1, .int ((p3 ^^^ p4))]) (rest := []) ⟨hx, hb, hml, hown, htg⟩ (c_Z_put l D z k b H.size u p1 (p3 ^^^ p4) hn27) (cwV 2 htg (xg_V0 xkin_Z_put xw_834 xw_836 xsel_Z_put xw_9) rfl rfl rfl (by decide +kernel) ⟨Nat.le_of_ble_eq_true rfl, Nat.le_of_ble_eq_true rfl⟩) ⟨xB_blind, xrecv_Z hK hP, fun U hU hW => xB_mk hP hK hD hE hS (xsubW hD hA hS) hU hW⟩ rfl rfl hl.1 rfl (lv_room (Nat.le_of_ble_eq_true rfl)) xd_Z_pair_203 ⟨Nat.le_of_ble_eq_true rfl, Nat.le_of_ble_eq_true rfl⟩) hD hA hS (fun r u1 H locs hw hP hD hS => ?_)
                  obtain ⟨q26, hq26⟩ : ∃ q, q = xf_Z_put u p1 (p3 ^^^ p4) := ⟨_, rfl⟩
                  rw [← hq26] at hw
                  obtain rfl : r = q26.1 := congrArg Prod.fst hw
                  obtain rfl : u1 = q26.2 := congrArg Prod.snd hw
                  have hP : va_P D xCl (xWZ k b q26.2) H := hP
                  have hD : va_D A (xWZ k b q26.2) := hD
                  have hv := xlt_v hq26 hv
                  exact hret _ q26.2 H locs ls _ (xnar (X01_ofp hq26 (xt01_Z_put u p1 (p3 ^^^ p4)))) (by unfold xf_Z_pair; exact (xif h1 (xif h2 (xit h3 (xif h4 (xif h7 (xif h10 (xif h17 (xit h25 (xlt_e hq26 rfl)))))))))) hP hD hS xd_Z_pair_206
                · have hv := xif_v h25 hv
                  refine (Decidable.em (p2 = 5)).elim (fun h28 => ?_) (fun h28 => ?_)
                  · have hv := xit_v h28 hv
                    refine lv_tableIn (tgt := 207) (off := 118) hx hb xd_Z_pair_89 (by rw [h28]; decide) (by rw [h28]; decide) (by rw [h28]; decide +kernel) rfl ?_
                    refine lv_aload_n hx hb xd_Z_pair_207 rfl (lv_at hl 1 rfl) ?_
                    refine lv_iload_n hx hb xd_Z_pair_208 rfl (lv_at hl 3 rfl) ?_
                    refine lv_iload hx hb xd_Z_pair_209 (lv_at hl 5 rfl) ?_
                    refine lv_iload hx hb xd_Z_pair_211 (lv_at hl 6 rfl) ?_
                    refine lv_bipush (v := 31) hx hb xd_Z_pair_213 (by decide) ?_
                    refine lv_iand hx hb xd_Z_pair_215 ?_
                    refine lv_iushr (v := (xus p3 (p4 &&& (31 : Int32)))) hx hb xd_Z_pair_216 rfl ?_
                    obtain ⟨hn30, hv⟩ := xan_v hv
                    refine xcW_i (va_runV (As := [.int p1, .int ((xus p3 (p4 &&& (31 : Int32))))]) (rest := []) ⟨hx, hb, hml, hown, htg⟩ (c_Z_put l D z k b H.size u p1 (xus p3 (p4 &&& (31 : Int32))) hn30) (cwV 2 htg (xg_V0 xkin_Z_put xw_834 xw_836 xsel_Z_put xw_9) rfl rfl rfl (by decide +kernel) ⟨Nat.le_of_ble_eq_true rfl, Nat.le_of_ble_eq_true rfl⟩) ⟨xB_blind, xrecv_Z hK hP, fun U hU hW => xB_mk hP hK hD hE hS (xsubW hD hA hS) hU hW⟩ rfl rfl hl.1 rfl (lv_room (Nat.le_of_ble_eq_true rfl)) xd_Z_pair_217 ⟨Nat.le_of_ble_eq_true rfl, Nat.le_of_ble_eq_true rfl⟩) hD hA hS (fun r u1 H locs hw hP hD hS => ?_)
                    obtain ⟨q29, hq29⟩ : ∃ q, q = xf_Z_put u p1 (xus p3 (p4 &&& (31 : Int32))) := ⟨_, rfl⟩
                    rw [← hq29] at hw
                    obtain rfl : r = q29.1 := congrArg Prod.fst hw
                    obtain rfl : u1 = q29.2 := congrArg Prod.snd hw
                    have hP : va_P D xCl (xWZ k b q29.2) H := hP
                    have hD : va_D A (xWZ k b q29.2) := hD
                    have hv := xlt_v hq29 hv
                    exact hret _ q29.2 H locs ls _ (xnar (X01_ofp hq29 (xt01_Z_put u p1 (xus p3 (p4 &&& (31 : Int32)))))) (by unfold xf_Z_pair; exact (xif h1 (xif h2 (xit h3 (xif h4 (xif h7 (xif h10 (xif h17 (xif h25 (xit h28 (xlt_e hq29 rfl))))))))))) hP hD hS xd_Z_pair_220
                  · have hv := xif_v h28 hv
                    refine (Decidable.em (p2 = 6)).elim (fun h31 => ?_) (fun h31 => ?_)
                    · have hv := xit_v h31 hv
                      refine lv_tableIn (tgt := 221) (off := 132) hx hb xd_Z_pair_89 (by rw [h31]; decide) (by rw [h31]; decide) (by rw [h31]; decide +kernel) rfl ?_
                      refine lv_aload_n hx hb xd_Z_pair_221 rfl (lv_at hl 1 rfl) ?_
                      refine lv_iload_n hx hb xd_Z_pair_222 rfl (lv_at hl 3 rfl) ?_
                      refine lv_iload hx hb xd_Z_pair_223 (lv_at hl 5 rfl) ?_
                      refine lv_iload hx hb xd_Z_pair_225 (lv_at hl 6 rfl) ?_
                      refine lv_ior hx hb xd_Z_pair_227 ?_
                      obtain ⟨hn33, hv⟩ := xan_v hv
                      refine xcW_i (va_runV (As := [.int p1, .int ((p3 ||| p4))]) (rest := []) ⟨hx, hb, hml, hown, htg⟩ (c_Z_put l D z k b H.size u p1 (p3 ||| p4) hn33) (cwV 2 htg (xg_V0 xkin_Z_put xw_834 xw_836 xsel_Z_put xw_9) rfl rfl rfl (by decide +kernel) ⟨Nat.le_of_ble_eq_true rfl, Nat.le_of_ble_eq_true rfl⟩) ⟨xB_blind, xrecv_Z hK hP, fun U hU hW => xB_mk hP hK hD hE hS (xsubW hD hA hS) hU hW⟩ rfl rfl hl.1 rfl (lv_room (Nat.le_of_ble_eq_true rfl)) xd_Z_pair_228 ⟨Nat.le_of_ble_eq_true rfl, Nat.le_of_ble_eq_true rfl⟩) hD hA hS (fun r u1 H locs hw hP hD hS => ?_)
                      obtain ⟨q32, hq32⟩ : ∃ q, q = xf_Z_put u p1 (p3 ||| p4) := ⟨_, rfl⟩
                      rw [← hq32] at hw
                      obtain rfl : r = q32.1 := congrArg Prod.fst hw
                      obtain rfl : u1 = q32.2 := congrArg Prod.snd hw
                      have hP : va_P D xCl (xWZ k b q32.2) H := hP
                      have hD : va_D A (xWZ k b q32.2) := hD
                      have hv := xlt_v hq32 hv
                      exact hret _ q32.2 H locs ls _ (xnar (X01_ofp hq32 (xt01_Z_put u p1 (p3 ||| p4)))) (by unfold xf_Z_pair; exact (xif h1 (xif h2 (xit h3 (xif h4 (xif h7 (xif h10 (xif h17 (xif h25 (xif h28 (xit h31 (xlt_e hq32 rfl)))))))))))) hP hD hS xd_Z_pair_231
                    · have hv := xif_v h31 hv
                      refine lv_tableOut (tgt := 232) hx hb xd_Z_pair_89 (xsw_out [0, 1, 2, 3, 4, 5, 6] (by decide) (by simp only [List.forall_mem_cons, List.not_mem_nil, false_imp_iff, implies_true, and_true]; exact ⟨h4, h7, h10, h17, h25, h28, h31⟩)) rfl ?_
                      refine lv_aload_n hx hb xd_Z_pair_232 rfl (lv_at hl 1 rfl) ?_
                      refine lv_iload_n hx hb xd_Z_pair_233 rfl (lv_at hl 3 rfl) ?_
                      refine lv_iload hx hb xd_Z_pair_234 (lv_at hl 5 rfl) ?_
                      refine lv_iload hx hb xd_Z_pair_236 (lv_at hl 6 rfl) ?_
                      refine lv_iand hx hb xd_Z_pair_238 ?_
                      obtain ⟨hn35, hv⟩ := xan_v hv
                      refine xcW_i (va_runV (As := [.int p1, .int ((p3 &&& p4))]) (rest := []) ⟨hx, hb, hml, hown, htg⟩ (c_Z_put l D z k b H.size u p1 (p3 &&& p4) hn35) (cwV 2 htg (xg_V0 xkin_Z_put xw_834 xw_836 xsel_Z_put xw_9) rfl rfl rfl (by decide +kernel) ⟨Nat.le_of_ble_eq_true rfl, Nat.le_of_ble_eq_true rfl⟩) ⟨xB_blind, xrecv_Z hK hP, fun U hU hW => xB_mk hP hK hD hE hS (xsubW hD hA hS) hU hW⟩ rfl rfl hl.1 rfl (lv_room (Nat.le_of_ble_eq_true rfl)) xd_Z_pair_239 ⟨Nat.le_of_ble_eq_true rfl, Nat.le_of_ble_eq_true rfl⟩) hD hA hS (fun r u1 H locs hw hP hD hS => ?_)
                      obtain ⟨q34, hq34⟩ : ∃ q, q = xf_Z_put u p1 (p3 &&& p4) := ⟨_, rfl⟩
                      rw [← hq34] at hw
                      obtain rfl : r = q34.1 := congrArg Prod.fst hw
                      obtain rfl : u1 = q34.2 := congrArg Prod.snd hw
                      have hP : va_P D xCl (xWZ k b q34.2) H := hP
                      have hD : va_D A (xWZ k b q34.2) := hD
                      have hv := xlt_v hq34 hv
                      exact hret _ q34.2 H locs ls _ (xnar (X01_ofp hq34 (xt01_Z_put u p1 (p3 &&& p4)))) (by unfold xf_Z_pair; exact (xif h1 (xif h2 (xit h3 (xif h4 (xif h7 (xif h10 (xif h17 (xif h25 (xif h28 (xif h31 (xlt_e hq34 rfl)))))))))))) hP hD hS xd_Z_pair_242
      · have hv := xif_v h3 hv
        refine lv_aload_n hx hb xd_Z_pair_82 rfl (lv_at hl 1 rfl) ?_
        refine lv_iload_n hx hb xd_Z_pair_83 rfl (lv_at hl 2 rfl) ?_
        obtain ⟨hn37, hv⟩ := xan_v hv
        refine xcW_i (va_runV (As := [.int p0]) (rest := []) ⟨hx, hb, hml, hown, htg⟩ (c_Z_illegal l D z k b H.size u p0 hn37) (cwV 1 htg (xg_V0 xkin_Z_illegal xw_990 xw_992 xsel_Z_illegal xw_9) rfl rfl rfl (by decide +kernel) ⟨Nat.le_of_ble_eq_true rfl, Nat.le_of_ble_eq_true rfl⟩) ⟨xB_blind, xrecv_Z hK hP, fun U hU hW => xB_mk hP hK hD hE hS (xsubW hD hA hS) hU hW⟩ rfl rfl hl.1 rfl (lv_room (Nat.le_of_ble_eq_true rfl)) xd_Z_pair_84 ⟨Nat.le_of_ble_eq_true rfl, Nat.le_of_ble_eq_true rfl⟩) hD hA hS (fun r u1 H locs hw hP hD hS => ?_)
        obtain ⟨q36, hq36⟩ : ∃ q, q = xf_Z_illegal u p0 := ⟨_, rfl⟩
        rw [← hq36] at hw
        obtain rfl : r = q36.1 := congrArg Prod.fst hw
        obtain rfl : u1 = q36.2 := congrArg Prod.snd hw
        have hP : va_P D xCl (xWZ k b q36.2) H := hP
        have hD : va_D A (xWZ k b q36.2) := hD
        have hv := xlt_v hq36 hv
        exact hret _ q36.2 H locs ls _ (xnar (X01_ofp hq36 (xt01_Z_illegal u p0))) (by unfold xf_Z_pair; exact (xif h1 (xif h2 (xif h3 (xlt_e hq36 rfl))))) hP hD hS xd_Z_pair_87
    · have hv := xit_v h2 hv
      refine lv_iload_n hx hb xd_Z_pair_33 rfl (lv_at hl 4 rfl) ?_
      obtain ⟨hva, hv⟩ := xan_v2 hv
      have hj48 : ∀ (H : Heap) (locs : List Loc) (ls : Array Slot) (v46 : Int32) (v47 : XZ), v46 = (if p2 = 0 then (xlt (xf_Z_put u p1 (p3 - p4) : Int32 × XZ) fun q44 => q44.1) else (if p2 = 5 then (xlt (xf_Z_put u p1 (p3 >>> ((p4 &&& (31 : Int32)) &&& 31)) : Int32 × XZ) fun q42 => q42.1) else (xlt (xf_Z_illegal u p0 : Int32 × XZ) fun q40 => q40.1))) → v47 = (if p2 = 0 then (xlt (xf_Z_put u p1 (p3 - p4) : Int32 × XZ) fun q44 => q44.2) else (if p2 = 5 then (xlt (xf_Z_put u p1 (p3 >>> ((p4 &&& (31 : Int32)) &&& 31)) : Int32 × XZ) fun q42 => q42.2) else (xlt (xf_Z_illegal u p0 : Int32 × XZ) fun q40 => q40.2))) → lv_has ls 7 [(6, .int ((xus p0 (25 : Int32)))), (0, .ref ((b 0))), (1, .int p0), (2, .int p1), (3, .int p2), (4, .int p3), (5, .int p4)] → va_P D xCl (xWZ k b v47) H → va_D A (xWZ k b v47) → va_S A s.heap H locs → W p l e { frames := 2, cells := 0, slots := 0, locals := 44 } s m args below meth c H locs (0) (0) Q (F0 m 76 ls [.int v46]) := by
        intro H locs ls v46 v47 hv46 hv47 hl hP hD hS
        have hv := xlt_v hv46 hv
        have hv := xlt_v hv47 hv
        exact hret _ v47 H locs ls _ (xnar (X01_of hv46 (xit_01 (xlt_01 (fun q44 hq44 => (X01_ofp hq44 (xt01_Z_put u p1 (p3 - p4))))) (xit_01 (xlt_01 (fun q42 hq42 => (X01_ofp hq42 (xt01_Z_put u p1 (p3 >>> ((p4 &&& (31 : Int32)) &&& 31)))))) (xlt_01 (fun q40 hq40 => (X01_ofp hq40 (xt01_Z_illegal u p0)))))))) (by unfold xf_Z_pair; exact (xif h1 (xit h2 (xlt_e hv46 (xlt_e hv47 rfl))))) hP hD hS xd_Z_pair_76
      have hv := hva
      refine lv_if_ne (tgt := 50) hx hb xd_Z_pair_34 rfl (fun h49 => ?_) (fun h49 => ?_)
      · have hv := xif_v h49 hv
        refine lv_iload_n hx hb xd_Z_pair_50 rfl (lv_at hl 4 rfl) ?_
        refine lv_iconst (v := 5) hx hb xd_Z_pair_51 (by decide) ?_
        refine lv_icmp_ne (tgt := 71) hx hb xd_Z_pair_52 rfl (fun h50 => ?_) (fun h50 => ?_)
        · have hv := xif_v h50 hv
          refine lv_aload_n hx hb xd_Z_pair_71 rfl (lv_at hl 1 rfl) ?_
          refine lv_iload_n hx hb xd_Z_pair_72 rfl (lv_at hl 2 rfl) ?_
          obtain ⟨hn52, hv⟩ := xan_v hv
          refine xcW_i (va_runV (As := [.int p0]) (rest := []) ⟨hx, hb, hml, hown, htg⟩ (c_Z_illegal l D z k b H.size u p0 hn52) (cwV 1 htg (xg_V0 xkin_Z_illegal xw_990 xw_992 xsel_Z_illegal xw_9) rfl rfl rfl (by decide +kernel) ⟨Nat.le_of_ble_eq_true rfl, Nat.le_of_ble_eq_true rfl⟩) ⟨xB_blind, xrecv_Z hK hP, fun U hU hW => xB_mk hP hK hD hE hS (xsubW hD hA hS) hU hW⟩ rfl rfl hl.1 rfl (lv_room (Nat.le_of_ble_eq_true rfl)) xd_Z_pair_73 ⟨Nat.le_of_ble_eq_true rfl, Nat.le_of_ble_eq_true rfl⟩) hD hA hS (fun r u1 H locs hw hP hD hS => ?_)
          obtain ⟨q51, hq51⟩ : ∃ q, q = xf_Z_illegal u p0 := ⟨_, rfl⟩
          rw [← hq51] at hw
          obtain rfl : r = q51.1 := congrArg Prod.fst hw
          obtain rfl : u1 = q51.2 := congrArg Prod.snd hw
          have hP : va_P D xCl (xWZ k b q51.2) H := hP
          have hD : va_D A (xWZ k b q51.2) := hD
          have hv := xlt_v hq51 hv
          exact hj48 H locs ls q51.1 q51.2 (xif h49 (xif h50 (xlt_e hq51 rfl))) (xif h49 (xif h50 (xlt_e hq51 rfl))) hl hP hD hS
        · have hv := xit_v h50 hv
          refine lv_aload_n hx hb xd_Z_pair_55 rfl (lv_at hl 1 rfl) ?_
          refine lv_iload_n hx hb xd_Z_pair_56 rfl (lv_at hl 3 rfl) ?_
          refine lv_iload hx hb xd_Z_pair_57 (lv_at hl 5 rfl) ?_
          refine lv_iload hx hb xd_Z_pair_59 (lv_at hl 6 rfl) ?_
          refine lv_bipush (v := 31) hx hb xd_Z_pair_61 (by decide) ?_
          refine lv_iand hx hb xd_Z_pair_63 ?_
          refine lv_ishr hx hb xd_Z_pair_64 ?_
          obtain ⟨hn54, hv⟩ := xan_v hv
          refine xcW_i (va_runV (As := [.int p1, .int ((p3 >>> ((p4 &&& (31 : Int32)) &&& 31)))]) (rest := []) ⟨hx, hb, hml, hown, htg⟩ (c_Z_put l D z k b H.size u p1 (p3 >>> ((p4 &&& (31 : Int32)) &&& 31)) hn54) (cwV 2 htg (xg_V0 xkin_Z_put xw_834 xw_836 xsel_Z_put xw_9) rfl rfl rfl (by decide +kernel) ⟨Nat.le_of_ble_eq_true rfl, Nat.le_of_ble_eq_true rfl⟩) ⟨xB_blind, xrecv_Z hK hP, fun U hU hW => xB_mk hP hK hD hE hS (xsubW hD hA hS) hU hW⟩ rfl rfl hl.1 rfl (lv_room (Nat.le_of_ble_eq_true rfl)) xd_Z_pair_65 ⟨Nat.le_of_ble_eq_true rfl, Nat.le_of_ble_eq_true rfl⟩) hD hA hS (fun r u1 H locs hw hP hD hS => ?_)
          obtain ⟨q53, hq53⟩ : ∃ q, q = xf_Z_put u p1 (p3 >>> ((p4 &&& (31 : Int32)) &&& 31)) := ⟨_, rfl⟩
          rw [← hq53] at hw
          obtain rfl : r = q53.1 := congrArg Prod.fst hw
          obtain rfl : u1 = q53.2 := congrArg Prod.snd hw
          have hP : va_P D xCl (xWZ k b q53.2) H := hP
          have hD : va_D A (xWZ k b q53.2) := hD
          have hv := xlt_v hq53 hv
          refine lv_goto (tgt := 76) hx hb xd_Z_pair_68 rfl ?_
          exact hj48 H locs ls q53.1 q53.2 (xif h49 (xit h50 (xlt_e hq53 rfl))) (xif h49 (xit h50 (xlt_e hq53 rfl))) hl hP hD hS
      · have hv := xit_v h49 hv
        refine lv_aload_n hx hb xd_Z_pair_37 rfl (lv_at hl 1 rfl) ?_
        refine lv_iload_n hx hb xd_Z_pair_38 rfl (lv_at hl 3 rfl) ?_
        refine lv_iload hx hb xd_Z_pair_39 (lv_at hl 5 rfl) ?_
        refine lv_iload hx hb xd_Z_pair_41 (lv_at hl 6 rfl) ?_
        refine lv_isub hx hb xd_Z_pair_43 ?_
        obtain ⟨hn56, hv⟩ := xan_v hv
        refine xcW_i (va_runV (As := [.int p1, .int ((p3 - p4))]) (rest := []) ⟨hx, hb, hml, hown, htg⟩ (c_Z_put l D z k b H.size u p1 (p3 - p4) hn56) (cwV 2 htg (xg_V0 xkin_Z_put xw_834 xw_836 xsel_Z_put xw_9) rfl rfl rfl (by decide +kernel) ⟨Nat.le_of_ble_eq_true rfl, Nat.le_of_ble_eq_true rfl⟩) ⟨xB_blind, xrecv_Z hK hP, fun U hU hW => xB_mk hP hK hD hE hS (xsubW hD hA hS) hU hW⟩ rfl rfl hl.1 rfl (lv_room (Nat.le_of_ble_eq_true rfl)) xd_Z_pair_44 ⟨Nat.le_of_ble_eq_true rfl, Nat.le_of_ble_eq_true rfl⟩) hD hA hS (fun r u1 H locs hw hP hD hS => ?_)
        obtain ⟨q55, hq55⟩ : ∃ q, q = xf_Z_put u p1 (p3 - p4) := ⟨_, rfl⟩
        rw [← hq55] at hw
        obtain rfl : r = q55.1 := congrArg Prod.fst hw
        obtain rfl : u1 = q55.2 := congrArg Prod.snd hw
        have hP : va_P D xCl (xWZ k b q55.2) H := hP
        have hD : va_D A (xWZ k b q55.2) := hD
        have hv := xlt_v hq55 hv
        refine lv_goto (tgt := 76) hx hb xd_Z_pair_47 rfl ?_
        exact hj48 H locs ls q55.1 q55.2 (xit h49 (xlt_e hq55 rfl)) (xit h49 (xlt_e hq55 rfl)) hl hP hD hS
  · have hv := xit_v h1 hv
    refine lv_aload_n hx hb xd_Z_pair_12 rfl (lv_at hl 1 rfl) ?_
    refine lv_iload_n hx hb xd_Z_pair_13 rfl (lv_at hl 3 rfl) ?_
    refine lv_iload_n hx hb xd_Z_pair_14 rfl (lv_at hl 4 rfl) ?_
    refine lv_iload hx hb xd_Z_pair_15 (lv_at hl 5 rfl) ?_
    refine lv_iload hx hb xd_Z_pair_17 (lv_at hl 6 rfl) ?_
    refine xc0_i (va_runS (As := [.int p2, .int p3, .int p4]) (rest := [.int p1, .ref ((b 0))]) ⟨hx, hb, hml, hown, htg⟩ (c_Z_product l D (xTy k) z H.size p2 p3 p4) (va_cwS 3 htg (xg_S0 xkin_Z_product xw_1034 xw_1035 xw_9) rfl rfl rfl (by decide +kernel) ⟨Nat.le_of_ble_eq_true rfl, Nat.le_of_ble_eq_true rfl⟩) ⟨xB_blind, fun U hU hW => xB_mk va_P0 hK va_D0 hE hS (xsub0 hA hS) hU hW⟩ rfl rfl hl.1 rfl (lv_room (Nat.le_of_ble_eq_true rfl)) xd_Z_pair_19 ⟨Nat.le_of_ble_eq_true rfl, Nat.le_of_ble_eq_true rfl⟩) hP hA hS (fun r57 H locs hr57 hP hS => ?_)
    have hv := xlt_v hr57 hv
    obtain ⟨hn59, hv⟩ := xan_v hv
    refine xcW_i (va_runV (As := [.int p1, .int r57]) (rest := []) ⟨hx, hb, hml, hown, htg⟩ (c_Z_put l D z k b H.size u p1 r57 hn59) (cwV 2 htg (xg_V0 xkin_Z_put xw_834 xw_836 xsel_Z_put xw_9) rfl rfl rfl (by decide +kernel) ⟨Nat.le_of_ble_eq_true rfl, Nat.le_of_ble_eq_true rfl⟩) ⟨xB_blind, xrecv_Z hK hP, fun U hU hW => xB_mk hP hK hD hE hS (xsubW hD hA hS) hU hW⟩ rfl rfl hl.1 rfl (lv_room (Nat.le_of_ble_eq_true rfl)) xd_Z_pair_22 ⟨Nat.le_of_ble_eq_true rfl, Nat.le_of_ble_eq_true rfl⟩) hD hA hS (fun r u1 H locs hw hP hD hS => ?_)
    obtain ⟨q58, hq58⟩ : ∃ q, q = xf_Z_put u p1 r57 := ⟨_, rfl⟩
    rw [← hq58] at hw
    obtain rfl : r = q58.1 := congrArg Prod.fst hw
    obtain rfl : u1 = q58.2 := congrArg Prod.snd hw
    have hP : va_P D xCl (xWZ k b q58.2) H := hP
    have hD : va_D A (xWZ k b q58.2) := hD
    have hv := xlt_v hq58 hv
    exact hret _ q58.2 H locs ls _ (xnar (X01_ofp hq58 (xt01_Z_put u p1 r57))) (by unfold xf_Z_pair; exact (xit h1 (xlt_e hr57 (xlt_e hq58 rfl)))) hP hD hS xd_Z_pair_25
theorem xt01_Z_pair (u : XZ) (p0 : Int32) (p1 : Int32) (p2 : Int32) (p3 : Int32) (p4 : Int32) : X01p (xf_Z_pair u p0 p1 p2 p3 p4) := by unfold xf_Z_pair; exact (xit_01p (xlt_01p (fun r57 hr57 => (xlt_01p (fun q58 hq58 => (X01_ofp hq58 (xt01_Z_put u p1 r57)))))) (xit_01p (xlt_01p (fun v46 hv46 => (xlt_01p (fun v47 hv47 => (X01_of hv46 (xit_01 (xlt_01 (fun q44 hq44 => (X01_ofp hq44 (xt01_Z_put u p1 (p3 - p4))))) (xit_01 (xlt_01 (fun q42 hq42 => (X01_ofp hq42 (xt01_Z_put u p1 (p3 >>> ((p4 &&& (31 : Int32)) &&& 31)))))) (xlt_01 (fun q40 hq40 => (X01_ofp hq40 (xt01_Z_illegal u p0))))))))))) (xit_01p (xit_01p (xlt_01p (fun q5 hq5 => (X01_ofp hq5 (xt01_Z_put u p1 (p3 + p4))))) (xit_01p (xlt_01p (fun q8 hq8 => (X01_ofp hq8 (xt01_Z_put u p1 (p3 <<< ((p4 &&& (31 : Int32)) &&& 31)))))) (xit_01p (xlt_01p (fun v12 hv12 => (xlt_01p (fun q14 hq14 => (X01_ofp hq14 (xt01_Z_put u p1 v12)))))) (xit_01p (xlt_01p (fun r18 hr18 => (xlt_01p (fun v20 hv20 => (xlt_01p (fun q22 hq22 => (X01_ofp hq22 (xt01_Z_put u p1 v20)))))))) (xit_01p (xlt_01p (fun q26 hq26 => (X01_ofp hq26 (xt01_Z_put u p1 (p3 ^^^ p4))))) (xit_01p (xlt_01p (fun q29 hq29 => (X01_ofp hq29 (xt01_Z_put u p1 (xus p3 (p4 &&& (31 : Int32))))))) (xit_01p (xlt_01p (fun q32 hq32 => (X01_ofp hq32 (xt01_Z_put u p1 (p3 ||| p4))))) (xlt_01p (fun q34 hq34 => (X01_ofp hq34 (xt01_Z_put u p1 (p3 &&& p4)))))))))))) (xlt_01p (fun q36 hq36 => (X01_ofp hq36 (xt01_Z_illegal u p0)))))))

noncomputable def xf_Z_call (u : XZ) : Int32 × XZ :=
  if (xg_Z_mode u) = 1 then
    xlt (if (xg_Z_x u (17 : Int32).toNatClampNeg) = 0 then (xlt (if 0 ≤ (lg_cmp (xg_Z_alarm (xs_Z_alarm u (((Int32.toInt64 (xg_Z_x u (11 : Int32).toNatClampNeg)) <<< (Int32.toInt64 (32 : Int32) &&& 63)) ||| ((Int32.toInt64 (xg_Z_x u (10 : Int32).toNatClampNeg)) &&& (4294967295 : Int64))))) (0 : Int64)) then ((xg_Z_alarm (xs_Z_alarm u (((Int32.toInt64 (xg_Z_x u (11 : Int32).toNatClampNeg)) <<< (Int32.toInt64 (32 : Int32) &&& 63)) ||| ((Int32.toInt64 (xg_Z_x u (10 : Int32).toNatClampNeg)) &&& (4294967295 : Int64)))))) else (9223372036854775807) : Int64) fun v8 => 0) else (if (xg_Z_x u (17 : Int32).toNatClampNeg) = 1 then (if 4096 ≤ (xg_Z_printed u) then (0) else (0)) else (if (xg_Z_x u (17 : Int32).toNatClampNeg) = 8 then (0) else ((-2)))) : Int32) fun v11 =>
    xlt (if (xg_Z_x u (17 : Int32).toNatClampNeg) = 0 then (xlt (if 0 ≤ (lg_cmp (xg_Z_alarm (xs_Z_alarm u (((Int32.toInt64 (xg_Z_x u (11 : Int32).toNatClampNeg)) <<< (Int32.toInt64 (32 : Int32) &&& 63)) ||| ((Int32.toInt64 (xg_Z_x u (10 : Int32).toNatClampNeg)) &&& (4294967295 : Int64))))) (0 : Int64)) then ((xg_Z_alarm (xs_Z_alarm u (((Int32.toInt64 (xg_Z_x u (11 : Int32).toNatClampNeg)) <<< (Int32.toInt64 (32 : Int32) &&& 63)) ||| ((Int32.toInt64 (xg_Z_x u (10 : Int32).toNatClampNeg)) &&& (4294967295 : Int64)))))) else (9223372036854775807) : Int64) fun v8 => (xs_Z_alarm (xs_Z_alarm u (((Int32.toInt64 (xg_Z_x u (11 : Int32).toNatClampNeg)) <<< (Int32.toInt64 (32 : Int32) &&& 63)) ||| ((Int32.toInt64 (xg_Z_x u (10 : Int32).toNatClampNeg)) &&& (4294967295 : Int64)))) v8)) else (if (xg_Z_x u (17 : Int32).toNatClampNeg) = 1 then (if 4096 ≤ (xg_Z_printed u) then (u) else ((xs_Z_printed (xs_Z_console u (upd (xg_Z_console u) (xg_Z_printed u).toNatClampNeg ((xg_Z_x u (10 : Int32).toNatClampNeg) &&& (255 : Int32)))) ((xg_Z_printed (xs_Z_console u (upd (xg_Z_console u) (xg_Z_printed u).toNatClampNeg ((xg_Z_x u (10 : Int32).toNatClampNeg) &&& (255 : Int32))))) + (1 : Int32))))) else (if (xg_Z_x u (17 : Int32).toNatClampNeg) = 8 then ((xs_Z_off u (xb (1 : Int32)))) else (u))) : XZ) fun v12 =>
    xlt (xf_Z_put v12 (10 : Int32) v11 : Int32 × XZ) fun q14 =>
    (q14.1, q14.2)
  else
    xlt (if (xg_Z_mode u) = 3 then (10) else (8) : Int32) fun v26 =>
    xlt (xf_Z_fails u v26 (0 : Int32) (0 : Int32) : Int32 × XZ) fun q28 =>
    (q28.1, q28.2)
def xv_Z_call (u : XZ) : Prop := XVc (
  if (xg_Z_mode u) = 1 then
    (if (xg_Z_x u (17 : Int32).toNatClampNeg) = 0 then (xlt (if 0 ≤ (lg_cmp (xg_Z_alarm (xs_Z_alarm u (((Int32.toInt64 (xg_Z_x u (11 : Int32).toNatClampNeg)) <<< (Int32.toInt64 (32 : Int32) &&& 63)) ||| ((Int32.toInt64 (xg_Z_x u (10 : Int32).toNatClampNeg)) &&& (4294967295 : Int64))))) (0 : Int64)) then ((xg_Z_alarm (xs_Z_alarm u (((Int32.toInt64 (xg_Z_x u (11 : Int32).toNatClampNeg)) <<< (Int32.toInt64 (32 : Int32) &&& 63)) ||| ((Int32.toInt64 (xg_Z_x u (10 : Int32).toNatClampNeg)) &&& (4294967295 : Int64)))))) else (9223372036854775807) : Int64) fun v8 => True) else (if (xg_Z_x u (17 : Int32).toNatClampNeg) = 1 then (if 4096 ≤ (xg_Z_printed u) then (True) else ((vp_in (xg_Z_printed u) 4096) ∧ (True))) else (if (xg_Z_x u (17 : Int32).toNatClampNeg) = 8 then (True) else (True)))) ∧
    xlt (if (xg_Z_x u (17 : Int32).toNatClampNeg) = 0 then (xlt (if 0 ≤ (lg_cmp (xg_Z_alarm (xs_Z_alarm u (((Int32.toInt64 (xg_Z_x u (11 : Int32).toNatClampNeg)) <<< (Int32.toInt64 (32 : Int32) &&& 63)) ||| ((Int32.toInt64 (xg_Z_x u (10 : Int32).toNatClampNeg)) &&& (4294967295 : Int64))))) (0 : Int64)) then ((xg_Z_alarm (xs_Z_alarm u (((Int32.toInt64 (xg_Z_x u (11 : Int32).toNatClampNeg)) <<< (Int32.toInt64 (32 : Int32) &&& 63)) ||| ((Int32.toInt64 (xg_Z_x u (10 : Int32).toNatClampNeg)) &&& (4294967295 : Int64)))))) else (9223372036854775807) : Int64) fun v8 => 0) else (if (xg_Z_x u (17 : Int32).toNatClampNeg) = 1 then (if 4096 ≤ (xg_Z_printed u) then (0) else (0)) else (if (xg_Z_x u (17 : Int32).toNatClampNeg) = 8 then (0) else ((-2)))) : Int32) fun v11 =>
    xlt (if (xg_Z_x u (17 : Int32).toNatClampNeg) = 0 then (xlt (if 0 ≤ (lg_cmp (xg_Z_alarm (xs_Z_alarm u (((Int32.toInt64 (xg_Z_x u (11 : Int32).toNatClampNeg)) <<< (Int32.toInt64 (32 : Int32) &&& 63)) ||| ((Int32.toInt64 (xg_Z_x u (10 : Int32).toNatClampNeg)) &&& (4294967295 : Int64))))) (0 : Int64)) then ((xg_Z_alarm (xs_Z_alarm u (((Int32.toInt64 (xg_Z_x u (11 : Int32).toNatClampNeg)) <<< (Int32.toInt64 (32 : Int32) &&& 63)) ||| ((Int32.toInt64 (xg_Z_x u (10 : Int32).toNatClampNeg)) &&& (4294967295 : Int64)))))) else (9223372036854775807) : Int64) fun v8 => (xs_Z_alarm (xs_Z_alarm u (((Int32.toInt64 (xg_Z_x u (11 : Int32).toNatClampNeg)) <<< (Int32.toInt64 (32 : Int32) &&& 63)) ||| ((Int32.toInt64 (xg_Z_x u (10 : Int32).toNatClampNeg)) &&& (4294967295 : Int64)))) v8)) else (if (xg_Z_x u (17 : Int32).toNatClampNeg) = 1 then (if 4096 ≤ (xg_Z_printed u) then (u) else ((xs_Z_printed (xs_Z_console u (upd (xg_Z_console u) (xg_Z_printed u).toNatClampNeg ((xg_Z_x u (10 : Int32).toNatClampNeg) &&& (255 : Int32)))) ((xg_Z_printed (xs_Z_console u (upd (xg_Z_console u) (xg_Z_printed u).toNatClampNeg ((xg_Z_x u (10 : Int32).toNatClampNeg) &&& (255 : Int32))))) + (1 : Int32))))) else (if (xg_Z_x u (17 : Int32).toNatClampNeg) = 8 then ((xs_Z_off u (xb (1 : Int32)))) else (u))) : XZ) fun v12 =>
    (xv_Z_put v12 (10 : Int32) v11) ∧
    xlt (xf_Z_put v12 (10 : Int32) v11 : Int32 × XZ) fun q14 =>
    True
  else
    xlt (if (xg_Z_mode u) = 3 then (10) else (8) : Int32) fun v26 =>
    (xv_Z_fails u v26 (0 : Int32) (0 : Int32)) ∧
    xlt (xf_Z_fails u v26 (0 : Int32) (0 : Int32) : Int32 × XZ) fun q28 =>
    True)
set_option maxHeartbeats 4000000 in
set_option maxRecDepth 100000 in
theorem c_Z_call (l : Launch) (D : va_G) (z : (Nat → Nat) × (Nat → Nat)) (k : ClassId × ClassId) (b : Nat → Nat) (sz : Nat) (u : XZ) (hv : xv_Z_call u) : Met l xy_Z_call (xk_Z_call :: lw_g) { frames := 1, cells := 0, slots := 0, locals := 23 } (va_Pc [.ref ((b 0))] (xB D (xTy k) z sz (xWZ k b u))) (va_Qi (fun r (q : XZ) => (r, q) = xf_Z_call u) (fun q t => xQ D (xTy k) (xWZ k b q) (va_A (xWZ k b u) sz) t) (va_A (xWZ k b u) sz)) 0 0 (va_A (xWZ k b u) sz) := by
  refine xopen_z (wf := fun q : XZ => xWZ k b q) (lv := [(0, .ref ((b 0)))]) (by decide) rfl (Nat.le_of_ble_eq_true rfl) ?_
  intro p e s m args below meth c Q ls A H locs hx hb hml htg hown hin hK hP hD hE hS hA hl hret
  unfold xv_Z_call at hv
  refine lv_aload_n hx hb xd_Z_call_0 rfl (lv_at hl 0 rfl) ?_
  refine xget_Z_mode (v := (xg_Z_mode u)) hx hb htg hown hK hP (htg _ xw_731) rfl xd_Z_call_1 ?_
  refine lv_iconst (v := 1) hx hb xd_Z_call_4 (by decide) ?_
  refine lv_icmp_eq (tgt := 30) hx hb xd_Z_call_5 rfl (fun h1 => ?_) (fun h1 => ?_)
  · have hv := xit_v h1 hv
    refine lv_aload_n hx hb xd_Z_call_30 rfl (lv_at hl 0 rfl) ?_
    refine xget_Z_x hx hb htg hown hK hP (htg _ xw_729) xd_Z_call_31 ?_
    refine lv_bipush (v := 17) hx hb xd_Z_call_34 (by decide) ?_
    refine xald_Z_x hx hb hK hP (vp_in_iff.mpr (by decide)) xd_Z_call_36 ?_
    refine lv_istore_n (lv' := [(1, .int ((xg_Z_x u (17 : Int32).toNatClampNeg))), (0, .ref ((b 0)))]) hx hb xd_Z_call_37 rfl hl (by decide) rfl (fun ls hl => ?_)
    refine lv_iconst (v := 0) hx hb xd_Z_call_38 (by decide) ?_
    refine lv_istore_n (lv' := [(2, .int 0), (1, .int ((xg_Z_x u (17 : Int32).toNatClampNeg))), (0, .ref ((b 0)))]) hx hb xd_Z_call_39 rfl hl (by decide) rfl (fun ls hl => ?_)
    refine lv_iload_n hx hb xd_Z_call_40 rfl (lv_at hl 1 rfl) ?_
    obtain ⟨hva, hv⟩ := xan_v2 hv
    have hj13 : ∀ (H : Heap) (locs : List Loc) (ls : Array Slot) (v11 : Int32) (v12 : XZ), v11 = (if (xg_Z_x u (17 : Int32).toNatClampNeg) = 0 then (xlt (if 0 ≤ (lg_cmp (xg_Z_alarm (xs_Z_alarm u (((Int32.toInt64 (xg_Z_x u (11 : Int32).toNatClampNeg)) <<< (Int32.toInt64 (32 : Int32) &&& 63)) ||| ((Int32.toInt64 (xg_Z_x u (10 : Int32).toNatClampNeg)) &&& (4294967295 : Int64))))) (0 : Int64)) then ((xg_Z_alarm (xs_Z_alarm u (((Int32.toInt64 (xg_Z_x u (11 : Int32).toNatClampNeg)) <<< (Int32.toInt64 (32 : Int32) &&& 63)) ||| ((Int32.toInt64 (xg_Z_x u (10 : Int32).toNatClampNeg)) &&& (4294967295 : Int64)))))) else (9223372036854775807) : Int64) fun v8 => 0) else (if (xg_Z_x u (17 : Int32).toNatClampNeg) = 1 then (if 4096 ≤ (xg_Z_printed u) then (0) else (0)) else (if (xg_Z_x u (17 : Int32).toNatClampNeg) = 8 then (0) else ((-2))))) → v12 = (if (xg_Z_x u (17 : Int32).toNatClampNeg) = 0 then (xlt (if 0 ≤ (lg_cmp (xg_Z_alarm (xs_Z_alarm u (((Int32.toInt64 (xg_Z_x u (11 : Int32).toNatClampNeg)) <<< (Int32.toInt64 (32 : Int32) &&& 63)) ||| ((Int32.toInt64 (xg_Z_x u (10 : Int32).toNatClampNeg)) &&& (4294967295 : Int64))))) (0 : Int64)) then ((xg_Z_alarm (xs_Z_alarm u (((Int32.toInt64 (xg_Z_x u (11 : Int32).toNatClampNeg)) <<< (Int32.toInt64 (32 : Int32) &&& 63)) ||| ((Int32.toInt64 (xg_Z_x u (10 : Int32).toNatClampNeg)) &&& (4294967295 : Int64)))))) else (9223372036854775807) : Int64) fun v8 => (xs_Z_alarm (xs_Z_alarm u (((Int32.toInt64 (xg_Z_x u (11 : Int32).toNatClampNeg)) <<< (Int32.toInt64 (32 : Int32) &&& 63)) ||| ((Int32.toInt64 (xg_Z_x u (10 : Int32).toNatClampNeg)) &&& (4294967295 : Int64)))) v8)) else (if (xg_Z_x u (17 : Int32).toNatClampNeg) = 1 then (if 4096 ≤ (xg_Z_printed u) then (u) else ((xs_Z_printed (xs_Z_console u (upd (xg_Z_console u) (xg_Z_printed u).toNatClampNeg ((xg_Z_x u (10 : Int32).toNatClampNeg) &&& (255 : Int32)))) ((xg_Z_printed (xs_Z_console u (upd (xg_Z_console u) (xg_Z_printed u).toNatClampNeg ((xg_Z_x u (10 : Int32).toNatClampNeg) &&& (255 : Int32))))) + (1 : Int32))))) else (if (xg_Z_x u (17 : Int32).toNatClampNeg) = 8 then ((xs_Z_off u (xb (1 : Int32)))) else (u)))) → lv_has ls 3 [(2, .int v11), (1, .int ((xg_Z_x u (17 : Int32).toNatClampNeg))), (0, .ref ((b 0)))] → va_P D xCl (xWZ k b v12) H → va_D A (xWZ k b v12) → va_S A s.heap H locs → W p l e { frames := 1, cells := 0, slots := 0, locals := 23 } s m args below meth c H locs (0) (0) Q (F0 m 163 ls []) := by
      intro H locs ls v11 v12 hv11 hv12 hl hP hD hS
      have hv := xlt_v hv11 hv
      have hv := xlt_v hv12 hv
      refine lv_aload_n hx hb xd_Z_call_163 rfl (lv_at hl 2 rfl) ?_
      refine lv_bipush (v := 10) hx hb xd_Z_call_164 (by decide) ?_
      refine lv_iload_n hx hb xd_Z_call_166 rfl (lv_at hl 0 rfl) ?_
      obtain ⟨hn15, hv⟩ := xan_v hv
      refine xcW_i (va_runV (As := [.int 10, .int v11]) (rest := []) ⟨hx, hb, hml, hown, htg⟩ (c_Z_put l D z k b H.size v12 (10 : Int32) v11 hn15) (cwV 2 htg (xg_V0 xkin_Z_put xw_834 xw_836 xsel_Z_put xw_9) rfl rfl rfl (by decide +kernel) ⟨Nat.le_of_ble_eq_true rfl, Nat.le_of_ble_eq_true rfl⟩) ⟨xB_blind, xrecv_Z hK hP, fun U hU hW => xB_mk hP hK hD hE hS (xsubW hD hA hS) hU hW⟩ rfl rfl hl.1 rfl (lv_room (Nat.le_of_ble_eq_true rfl)) xd_Z_call_167 ⟨Nat.le_of_ble_eq_true rfl, Nat.le_of_ble_eq_true rfl⟩) hD hA hS (fun r u1 H locs hw hP hD hS => ?_)
      obtain ⟨q14, hq14⟩ : ∃ q, q = xf_Z_put v12 (10 : Int32) v11 := ⟨_, rfl⟩
      rw [← hq14] at hw
      obtain rfl : r = q14.1 := congrArg Prod.fst hw
      obtain rfl : u1 = q14.2 := congrArg Prod.snd hw
      have hP : va_P D xCl (xWZ k b q14.2) H := hP
      have hD : va_D A (xWZ k b q14.2) := hD
      have hv := xlt_v hq14 hv
      exact hret _ q14.2 H locs ls _ (xnar (X01_ofp hq14 (xt01_Z_put v12 (10 : Int32) v11))) (by unfold xf_Z_call; exact (xit h1 (xlt_e hv11 (xlt_e hv12 (xlt_e hq14 rfl))))) hP hD hS xd_Z_call_170
    have hv := hva
    refine lv_if_ne (tgt := 98) hx hb xd_Z_call_41 rfl (fun h16 => ?_) (fun h16 => ?_)
    · have hv := xif_v h16 hv
      refine lv_iload_n hx hb xd_Z_call_98 rfl (lv_at hl 1 rfl) ?_
      refine lv_iconst (v := 1) hx hb xd_Z_call_99 (by decide) ?_
      refine lv_icmp_ne (tgt := 146) hx hb xd_Z_call_100 rfl (fun h17 => ?_) (fun h17 => ?_)
      · have hv := xif_v h17 hv
        refine lv_iload_n hx hb xd_Z_call_146 rfl (lv_at hl 1 rfl) ?_
        refine lv_bipush (v := 8) hx hb xd_Z_call_147 (by decide) ?_
        refine lv_icmp_ne (tgt := 160) hx hb xd_Z_call_149 rfl (fun h18 => ?_) (fun h18 => ?_)
        · have hv := xif_v h18 hv
          refine lv_bipush (v := (-2)) hx hb xd_Z_call_160 (by decide) ?_
          refine lv_istore_n (lv' := [(2, .int (-2)), (1, .int ((xg_Z_x u (17 : Int32).toNatClampNeg))), (0, .ref ((b 0)))]) hx hb xd_Z_call_162 rfl hl (by decide) rfl (fun ls hl => ?_)
          exact hj13 H locs ls (-2 : Int32) u (xif h16 (xif h17 (xif h18 rfl))) (xif h16 (xif h17 (xif h18 rfl))) hl hP hD hS
        · have hv := xit_v h18 hv
          refine lv_aload_n hx hb xd_Z_call_152 rfl (lv_at hl 2 rfl) ?_
          refine lv_iconst (v := 1) hx hb xd_Z_call_153 (by decide) ?_
          refine xput_Z_off (v := (1 : Int32)) hx hb htg hown hK hP hD hS (htg _ xw_735) (Or.inr rfl) xd_Z_call_154 (fun H locs hP hD hS => ?_)
          refine lv_goto (tgt := 163) hx hb xd_Z_call_157 rfl ?_
          exact hj13 H locs ls (0 : Int32) (xs_Z_off u (xb (1 : Int32))) (xif h16 (xif h17 (xit h18 rfl))) (xif h16 (xif h17 (xit h18 rfl))) hl hP hD hS
      · have hv := xit_v h17 hv
        refine lv_aload_n hx hb xd_Z_call_103 rfl (lv_at hl 2 rfl) ?_
        refine xget_Z_printed (v := (xg_Z_printed u)) hx hb htg hown hK hP (htg _ xw_738) rfl xd_Z_call_104 ?_
        refine lv_sipush (v := 4096) hx hb xd_Z_call_107 (by decide) ?_
        refine lv_icmp_ge (tgt := 163) hx hb xd_Z_call_110 rfl (fun h19 => ?_) (fun h19 => ?_)
        · have hv := xit_v h19 hv
          exact hj13 H locs ls (0 : Int32) u (xif h16 (xit h17 (xit h19 rfl))) (xif h16 (xit h17 (xit h19 rfl))) hl hP hD hS
        · have hv := xif_v h19 hv
          refine lv_aload_n hx hb xd_Z_call_113 rfl (lv_at hl 2 rfl) ?_
          refine xget_Z_console hx hb htg hown hK hP (htg _ xw_737) xd_Z_call_114 ?_
          refine lv_aload_n hx hb xd_Z_call_117 rfl (lv_at hl 2 rfl) ?_
          refine xget_Z_printed (v := (xg_Z_printed u)) hx hb htg hown hK hP (htg _ xw_738) rfl xd_Z_call_118 ?_
          refine lv_aload_n hx hb xd_Z_call_121 rfl (lv_at hl 2 rfl) ?_
          refine xget_Z_x hx hb htg hown hK hP (htg _ xw_729) xd_Z_call_122 ?_
          refine lv_bipush (v := 10) hx hb xd_Z_call_125 (by decide) ?_
          refine xald_Z_x hx hb hK hP (vp_in_iff.mpr (by decide)) xd_Z_call_127 ?_
          refine lv_sipush (v := 255) hx hb xd_Z_call_128 (by decide) ?_
          refine lv_iand hx hb xd_Z_call_131 ?_
          obtain ⟨hn20, hv⟩ := xan_v hv
          refine xast_Z_console hx hb hK hP hD hS hn20 xd_Z_call_132 (fun H locs hP hD hS => ?_)
          refine lv_aload_n hx hb xd_Z_call_133 rfl (lv_at hl 2 rfl) ?_
          refine lv_dup hx hb xd_Z_call_134 rfl ?_
          refine xget_Z_printed (v := (xg_Z_printed (xs_Z_console u (upd (xg_Z_console u) (xg_Z_printed u).toNatClampNeg ((xg_Z_x u (10 : Int32).toNatClampNeg) &&& (255 : Int32)))))) hx hb htg hown hK hP (htg _ xw_738) rfl xd_Z_call_135 ?_
          refine lv_iconst (v := 1) hx hb xd_Z_call_138 (by decide) ?_
          refine lv_iadd hx hb xd_Z_call_139 ?_
          refine xput_Z_printed (v := ((xg_Z_printed (xs_Z_console u (upd (xg_Z_console u) (xg_Z_printed u).toNatClampNeg ((xg_Z_x u (10 : Int32).toNatClampNeg) &&& (255 : Int32))))) + (1 : Int32))) hx hb htg hown hK hP hD hS (htg _ xw_738) xd_Z_call_140 (fun H locs hP hD hS => ?_)
          refine lv_goto (tgt := 163) hx hb xd_Z_call_143 rfl ?_
          exact hj13 H locs ls (0 : Int32) (xs_Z_printed (xs_Z_console u (upd (xg_Z_console u) (xg_Z_printed u).toNatClampNeg ((xg_Z_x u (10 : Int32).toNatClampNeg) &&& (255 : Int32)))) ((xg_Z_printed (xs_Z_console u (upd (xg_Z_console u) (xg_Z_printed u).toNatClampNeg ((xg_Z_x u (10 : Int32).toNatClampNeg) &&& (255 : Int32))))) + (1 : Int32))) (xif h16 (xit h17 (xif h19 rfl))) (xif h16 (xit h17 (xif h19 rfl))) hl hP hD hS
    · have hv := xit_v h16 hv
      refine lv_aload_n hx hb xd_Z_call_44 rfl (lv_at hl 2 rfl) ?_
      refine lv_aload_n hx hb xd_Z_call_45 rfl (lv_at hl 2 rfl) ?_
      refine xget_Z_x hx hb htg hown hK hP (htg _ xw_729) xd_Z_call_46 ?_
      refine lv_bipush (v := 11) hx hb xd_Z_call_49 (by decide) ?_
      refine xald_Z_x hx hb hK hP (vp_in_iff.mpr (by decide)) xd_Z_call_51 ?_
      refine lv_i2l (v := (Int32.toInt64 (xg_Z_x u (11 : Int32).toNatClampNeg))) hx hb xd_Z_call_52 rfl ?_
      refine lv_bipush (v := 32) hx hb xd_Z_call_53 (by decide) ?_
      refine lv_lshl (v := ((Int32.toInt64 (xg_Z_x u (11 : Int32).toNatClampNeg)) <<< (Int32.toInt64 (32 : Int32) &&& 63))) hx hb xd_Z_call_55 rfl ?_
      refine lv_aload_n hx hb xd_Z_call_56 rfl (lv_at hl 2 rfl) ?_
      refine xget_Z_x hx hb htg hown hK hP (htg _ xw_729) xd_Z_call_57 ?_
      refine lv_bipush (v := 10) hx hb xd_Z_call_60 (by decide) ?_
      refine xald_Z_x hx hb hK hP (vp_in_iff.mpr (by decide)) xd_Z_call_62 ?_
      refine lv_i2l (v := (Int32.toInt64 (xg_Z_x u (10 : Int32).toNatClampNeg))) hx hb xd_Z_call_63 rfl ?_
      refine lv_ldc2 (v := 4294967295) hx hb hown (htg _ xw_887) xd_Z_call_64 ?_
      refine lv_land hx hb xd_Z_call_67 ?_
      refine lv_lor hx hb xd_Z_call_68 ?_
      refine xput_Z_alarm (v := (((Int32.toInt64 (xg_Z_x u (11 : Int32).toNatClampNeg)) <<< (Int32.toInt64 (32 : Int32) &&& 63)) ||| ((Int32.toInt64 (xg_Z_x u (10 : Int32).toNatClampNeg)) &&& (4294967295 : Int64)))) hx hb htg hown hK hP hD hS (htg _ xw_733) xd_Z_call_69 (fun H locs hP hD hS => ?_)
      refine lv_aload_n hx hb xd_Z_call_72 rfl (lv_at hl 2 rfl) ?_
      refine lv_aload_n hx hb xd_Z_call_73 rfl (lv_at hl 2 rfl) ?_
      refine xget_Z_alarm (v := (xg_Z_alarm (xs_Z_alarm u (((Int32.toInt64 (xg_Z_x u (11 : Int32).toNatClampNeg)) <<< (Int32.toInt64 (32 : Int32) &&& 63)) ||| ((Int32.toInt64 (xg_Z_x u (10 : Int32).toNatClampNeg)) &&& (4294967295 : Int64)))))) hx hb htg hown hK hP (htg _ xw_733) rfl xd_Z_call_74 ?_
      refine lv_lconst (v := 0) hx hb xd_Z_call_77 (by decide) ?_
      refine W.lcmp hx hb xd_Z_call_78 ?_
      have hj23 : ∀ (H : Heap) (locs : List Loc) (ls : Array Slot) (v22 : Int64), v22 = (if 0 ≤ (lg_cmp (xg_Z_alarm (xs_Z_alarm u (((Int32.toInt64 (xg_Z_x u (11 : Int32).toNatClampNeg)) <<< (Int32.toInt64 (32 : Int32) &&& 63)) ||| ((Int32.toInt64 (xg_Z_x u (10 : Int32).toNatClampNeg)) &&& (4294967295 : Int64))))) (0 : Int64)) then ((xg_Z_alarm (xs_Z_alarm u (((Int32.toInt64 (xg_Z_x u (11 : Int32).toNatClampNeg)) <<< (Int32.toInt64 (32 : Int32) &&& 63)) ||| ((Int32.toInt64 (xg_Z_x u (10 : Int32).toNatClampNeg)) &&& (4294967295 : Int64)))))) else (9223372036854775807)) → lv_has ls 3 [(2, .int 0), (1, .int ((xg_Z_x u (17 : Int32).toNatClampNeg))), (0, .ref ((b 0)))] → va_P D xCl (xWZ k b (xs_Z_alarm u (((Int32.toInt64 (xg_Z_x u (11 : Int32).toNatClampNeg)) <<< (Int32.toInt64 (32 : Int32) &&& 63)) ||| ((Int32.toInt64 (xg_Z_x u (10 : Int32).toNatClampNeg)) &&& (4294967295 : Int64))))) H → va_D A (xWZ k b (xs_Z_alarm u (((Int32.toInt64 (xg_Z_x u (11 : Int32).toNatClampNeg)) <<< (Int32.toInt64 (32 : Int32) &&& 63)) ||| ((Int32.toInt64 (xg_Z_x u (10 : Int32).toNatClampNeg)) &&& (4294967295 : Int64))))) → va_S A s.heap H locs → W p l e { frames := 1, cells := 0, slots := 0, locals := 23 } s m args below meth c H locs (0) (0) Q (F0 m 92 ls [.long v22, .ref ((b 0))]) := by
        intro H locs ls v22 hv22 hl hP hD hS
        have hv := xlt_v hv22 hv
        refine xput_Z_alarm (v := v22) hx hb htg hown hK hP hD hS (htg _ xw_733) xd_Z_call_92 (fun H locs hP hD hS => ?_)
        refine lv_goto (tgt := 163) hx hb xd_Z_call_95 rfl ?_
        exact hj13 H locs ls (0 : Int32) (xs_Z_alarm (xs_Z_alarm u (((Int32.toInt64 (xg_Z_x u (11 : Int32).toNatClampNeg)) <<< (Int32.toInt64 (32 : Int32) &&& 63)) ||| ((Int32.toInt64 (xg_Z_x u (10 : Int32).toNatClampNeg)) &&& (4294967295 : Int64)))) v22) (xit h16 (xlt_e hv22 rfl)) (xit h16 (xlt_e hv22 rfl)) hl hP hD hS
      refine lv_if_ge (tgt := 88) hx hb xd_Z_call_79 rfl (fun h24 => ?_) (fun h24 => ?_)
      · refine lv_aload_n hx hb xd_Z_call_88 rfl (lv_at hl 2 rfl) ?_
        refine xget_Z_alarm (v := (xg_Z_alarm (xs_Z_alarm u (((Int32.toInt64 (xg_Z_x u (11 : Int32).toNatClampNeg)) <<< (Int32.toInt64 (32 : Int32) &&& 63)) ||| ((Int32.toInt64 (xg_Z_x u (10 : Int32).toNatClampNeg)) &&& (4294967295 : Int64)))))) hx hb htg hown hK hP (htg _ xw_733) rfl xd_Z_call_89 ?_
        exact hj23 H locs ls (xg_Z_alarm (xs_Z_alarm u (((Int32.toInt64 (xg_Z_x u (11 : Int32).toNatClampNeg)) <<< (Int32.toInt64 (32 : Int32) &&& 63)) ||| ((Int32.toInt64 (xg_Z_x u (10 : Int32).toNatClampNeg)) &&& (4294967295 : Int64))))) (xit h24 rfl) hl hP hD hS
      · refine lv_ldc2 (v := 9223372036854775807) hx hb hown (htg _ xw_727) xd_Z_call_82 ?_
        refine lv_goto (tgt := 92) hx hb xd_Z_call_85 rfl ?_
        exact hj23 H locs ls (9223372036854775807 : Int64) (xif h24 rfl) hl hP hD hS
  · have hv := xif_v h1 hv
    refine lv_aload_n hx hb xd_Z_call_8 rfl (lv_at hl 0 rfl) ?_
    refine lv_aload_n hx hb xd_Z_call_9 rfl (lv_at hl 0 rfl) ?_
    refine xget_Z_mode (v := (xg_Z_mode u)) hx hb htg hown hK hP (htg _ xw_731) rfl xd_Z_call_10 ?_
    refine lv_iconst (v := 3) hx hb xd_Z_call_13 (by decide) ?_
    have hj27 : ∀ (H : Heap) (locs : List Loc) (ls : Array Slot) (v26 : Int32), v26 = (if (xg_Z_mode u) = 3 then (10) else (8)) → lv_has ls 3 [(0, .ref ((b 0)))] → va_P D xCl (xWZ k b u) H → va_D A (xWZ k b u) → va_S A s.heap H locs → W p l e { frames := 1, cells := 0, slots := 0, locals := 23 } s m args below meth c H locs (0) (0) Q (F0 m 24 ls [.int v26, .ref ((b 0))]) := by
      intro H locs ls v26 hv26 hl hP hD hS
      have hv := xlt_v hv26 hv
      refine lv_iconst (v := 0) hx hb xd_Z_call_24 (by decide) ?_
      refine lv_iconst (v := 0) hx hb xd_Z_call_25 (by decide) ?_
      obtain ⟨hn29, hv⟩ := xan_v hv
      refine xcW_i (va_runV (As := [.int v26, .int 0, .int 0]) (rest := []) ⟨hx, hb, hml, hown, htg⟩ (c_Z_fails l D z k b H.size u v26 (0 : Int32) (0 : Int32) hn29) (cwV 3 htg (xg_V0 xkin_Z_fails xw_933 xw_935 xsel_Z_fails xw_9) rfl rfl rfl (by decide +kernel) ⟨Nat.le_of_ble_eq_true rfl, Nat.le_of_ble_eq_true rfl⟩) ⟨xB_blind, xrecv_Z hK hP, fun U hU hW => xB_mk hP hK hD hE hS (xsubW hD hA hS) hU hW⟩ rfl rfl hl.1 rfl (lv_room (Nat.le_of_ble_eq_true rfl)) xd_Z_call_26 ⟨Nat.le_of_ble_eq_true rfl, Nat.le_of_ble_eq_true rfl⟩) hD hA hS (fun r u1 H locs hw hP hD hS => ?_)
      obtain ⟨q28, hq28⟩ : ∃ q, q = xf_Z_fails u v26 (0 : Int32) (0 : Int32) := ⟨_, rfl⟩
      rw [← hq28] at hw
      obtain rfl : r = q28.1 := congrArg Prod.fst hw
      obtain rfl : u1 = q28.2 := congrArg Prod.snd hw
      have hP : va_P D xCl (xWZ k b q28.2) H := hP
      have hD : va_D A (xWZ k b q28.2) := hD
      have hv := xlt_v hq28 hv
      exact hret _ q28.2 H locs ls _ (xnar (X01_ofp hq28 (xt01_Z_fails u v26 (0 : Int32) (0 : Int32)))) (by unfold xf_Z_call; exact (xif h1 (xlt_e hv26 (xlt_e hq28 rfl)))) hP hD hS xd_Z_call_29
    refine lv_icmp_ne (tgt := 22) hx hb xd_Z_call_14 rfl (fun h30 => ?_) (fun h30 => ?_)
    · refine lv_bipush (v := 8) hx hb xd_Z_call_22 (by decide) ?_
      exact hj27 H locs ls (8 : Int32) (xif h30 rfl) hl hP hD hS
    · refine lv_bipush (v := 10) hx hb xd_Z_call_17 (by decide) ?_
      refine lv_goto (tgt := 24) hx hb xd_Z_call_19 rfl ?_
      exact hj27 H locs ls (10 : Int32) (xit h30 rfl) hl hP hD hS
theorem xt01_Z_call (u : XZ) : X01p (xf_Z_call u) := by unfold xf_Z_call; exact (xit_01p (xlt_01p (fun v11 hv11 => (xlt_01p (fun v12 hv12 => (xlt_01p (fun q14 hq14 => (X01_ofp hq14 (xt01_Z_put v12 (10 : Int32) v11)))))))) (xlt_01p (fun v26 hv26 => (xlt_01p (fun q28 hq28 => (X01_ofp hq28 (xt01_Z_fails u v26 (0 : Int32) (0 : Int32))))))))

noncomputable def xf_Z_control (u : XZ) (p0 : Int32) (p1 : Int32) (p2 : Int32) (p3 : Int32) : Int32 × XZ :=
  xlt (if p2 ≤ 4 then (p3) else (((p0 >>> ((15 : Int32) &&& 31)) &&& (31 : Int32))) : Int32) fun v2 =>
  xlt (if (p2 - p2 / (4 : Int32) * (4 : Int32)) = 1 then (1) else (if ((p0 >>> ((15 : Int32) &&& 31)) &&& (31 : Int32)) = 0 then (0) else (1)) : Int32) fun v6 =>
  xlt (xf_Z_refusal u (xus p0 (20 : Int32)) v6 : Int32) fun q8 =>
  if q8 ≤ 0 then
    xlt (if (xg_Z_mode u) = 3 then (if 512 ≤ (xus p0 (20 : Int32)) then ((xus p0 (20 : Int32))) else (((xus p0 (20 : Int32)) + (256 : Int32)))) else ((xus p0 (20 : Int32))) : Int32) fun v13 =>
    xlt (xf_Z_tells u v13 : Int32) fun q15 =>
    xlt (if v6 = 0 then (u) else (xlt (if (p2 - p2 / (4 : Int32) * (4 : Int32)) = 1 then (v2) else (if (p2 - p2 / (4 : Int32) * (4 : Int32)) = 2 then ((q15 ||| v2)) else ((q15 &&& (v2 ^^^ (-1 : Int32))))) : Int32) fun v20 => xlt (xf_Z_write u v13 v20 : XZ) fun q22 => q22) : XZ) fun v26 =>
    xlt (xf_Z_put v26 p1 q15 : Int32 × XZ) fun q28 =>
    (q28.1, q28.2)
  else
    xlt (xf_Z_fails u q8 p0 (0 : Int32) : Int32 × XZ) fun q41 =>
    (q41.1, q41.2)
def xv_Z_control (u : XZ) (p0 : Int32) (p1 : Int32) (p2 : Int32) (p3 : Int32) : Prop := XVc (
  xlt (if p2 ≤ 4 then (p3) else (((p0 >>> ((15 : Int32) &&& 31)) &&& (31 : Int32))) : Int32) fun v2 =>
  xlt (if (p2 - p2 / (4 : Int32) * (4 : Int32)) = 1 then (1) else (if ((p0 >>> ((15 : Int32) &&& 31)) &&& (31 : Int32)) = 0 then (0) else (1)) : Int32) fun v6 =>
  (xv_Z_refusal u (xus p0 (20 : Int32)) v6) ∧
  xlt (xf_Z_refusal u (xus p0 (20 : Int32)) v6 : Int32) fun q8 =>
  if q8 ≤ 0 then
    xlt (if (xg_Z_mode u) = 3 then (if 512 ≤ (xus p0 (20 : Int32)) then ((xus p0 (20 : Int32))) else (((xus p0 (20 : Int32)) + (256 : Int32)))) else ((xus p0 (20 : Int32))) : Int32) fun v13 =>
    (xv_Z_tells u v13) ∧
    xlt (xf_Z_tells u v13 : Int32) fun q15 =>
    (if v6 = 0 then (True) else (xlt (if (p2 - p2 / (4 : Int32) * (4 : Int32)) = 1 then (v2) else (if (p2 - p2 / (4 : Int32) * (4 : Int32)) = 2 then ((q15 ||| v2)) else ((q15 &&& (v2 ^^^ (-1 : Int32))))) : Int32) fun v20 => (xv_Z_write u v13 v20) ∧ (xlt (xf_Z_write u v13 v20 : XZ) fun q22 => True))) ∧
    xlt (if v6 = 0 then (u) else (xlt (if (p2 - p2 / (4 : Int32) * (4 : Int32)) = 1 then (v2) else (if (p2 - p2 / (4 : Int32) * (4 : Int32)) = 2 then ((q15 ||| v2)) else ((q15 &&& (v2 ^^^ (-1 : Int32))))) : Int32) fun v20 => xlt (xf_Z_write u v13 v20 : XZ) fun q22 => q22) : XZ) fun v26 =>
    (xv_Z_put v26 p1 q15) ∧
    xlt (xf_Z_put v26 p1 q15 : Int32 × XZ) fun q28 =>
    True
  else
    (xv_Z_fails u q8 p0 (0 : Int32)) ∧
    xlt (xf_Z_fails u q8 p0 (0 : Int32) : Int32 × XZ) fun q41 =>
    True)
set_option maxHeartbeats 4000000 in
set_option maxRecDepth 100000 in
theorem c_Z_control (l : Launch) (D : va_G) (z : (Nat → Nat) × (Nat → Nat)) (k : ClassId × ClassId) (b : Nat → Nat) (sz : Nat) (u : XZ) (p0 : Int32) (p1 : Int32) (p2 : Int32) (p3 : Int32) (hv : xv_Z_control u p0 p1 p2 p3) : Met l xy_Z_control (xk_Z_control :: lw_g) { frames := 4, cells := 0, slots := 0, locals := 89 } (va_Pc [.ref ((b 0)), .int p0, .int p1, .int p2, .int p3] (xB D (xTy k) z sz (xWZ k b u))) (va_Qi (fun r (q : XZ) => (r, q) = xf_Z_control u p0 p1 p2 p3) (fun q t => xQ D (xTy k) (xWZ k b q) (va_A (xWZ k b u) sz) t) (va_A (xWZ k b u) sz)) 0 0 (va_A (xWZ k b u) sz) := by
  refine xopen_z (wf := fun q : XZ => xWZ k b q) (lv := [(0, .ref ((b 0))), (1, .int p0), (2, .int p1), (3, .int p2), (4, .int p3)]) (by decide) rfl (Nat.le_of_ble_eq_true rfl) ?_
  intro p e s m args below meth c Q ls A H locs hx hb hml htg hown hin hK hP hD hE hS hA hl hret
  unfold xv_Z_control at hv
  refine lv_iload_n hx hb xd_Z_control_0 rfl (lv_at hl 1 rfl) ?_
  refine lv_bipush (v := 20) hx hb xd_Z_control_1 (by decide) ?_
  refine lv_iushr (v := (xus p0 (20 : Int32))) hx hb xd_Z_control_3 rfl ?_
  refine lv_istore (lv' := [(5, .int ((xus p0 (20 : Int32)))), (0, .ref ((b 0))), (1, .int p0), (2, .int p1), (3, .int p2), (4, .int p3)]) hx hb xd_Z_control_4 hl (by decide) rfl (fun ls hl => ?_)
  refine lv_iload_n hx hb xd_Z_control_6 rfl (lv_at hl 2 rfl) ?_
  refine lv_bipush (v := 15) hx hb xd_Z_control_7 (by decide) ?_
  refine lv_ishr hx hb xd_Z_control_9 ?_
  refine lv_bipush (v := 31) hx hb xd_Z_control_10 (by decide) ?_
  refine lv_iand hx hb xd_Z_control_12 ?_
  refine lv_istore (lv' := [(6, .int (((p0 >>> ((15 : Int32) &&& 31)) &&& (31 : Int32)))), (5, .int ((xus p0 (20 : Int32)))), (0, .ref ((b 0))), (1, .int p0), (2, .int p1), (3, .int p2), (4, .int p3)]) hx hb xd_Z_control_13 hl (by decide) rfl (fun ls hl => ?_)
  refine lv_iload_n hx hb xd_Z_control_15 rfl (lv_at hl 5 rfl) ?_
  refine lv_iconst (v := 4) hx hb xd_Z_control_16 (by decide) ?_
  have hj3 : ∀ (H : Heap) (locs : List Loc) (ls : Array Slot) (v2 : Int32), v2 = (if p2 ≤ 4 then (p3) else (((p0 >>> ((15 : Int32) &&& 31)) &&& (31 : Int32)))) → lv_has ls 12 [(6, .int (((p0 >>> ((15 : Int32) &&& 31)) &&& (31 : Int32)))), (5, .int ((xus p0 (20 : Int32)))), (0, .ref ((b 0))), (1, .int p0), (2, .int p1), (3, .int p2), (4, .int p3)] → va_P D xCl (xWZ k b u) H → va_D A (xWZ k b u) → va_S A s.heap H locs → W p l e { frames := 4, cells := 0, slots := 0, locals := 89 } s m args below meth c H locs (0) (0) Q (F0 m 27 ls [.int v2]) := by
    intro H locs ls v2 hv2 hl hP hD hS
    have hv := xlt_v hv2 hv
    refine lv_istore (lv' := [(7, .int v2), (6, .int (((p0 >>> ((15 : Int32) &&& 31)) &&& (31 : Int32)))), (5, .int ((xus p0 (20 : Int32)))), (0, .ref ((b 0))), (1, .int p0), (2, .int p1), (3, .int p2), (4, .int p3)]) hx hb xd_Z_control_27 hl (by decide) rfl (fun ls hl => ?_)
    refine lv_iload_n hx hb xd_Z_control_29 rfl (lv_at hl 6 rfl) ?_
    refine lv_iconst (v := 4) hx hb xd_Z_control_30 (by decide) ?_
    refine lv_irem hx hb xd_Z_control_31 (by decide) ?_
    refine lv_iconst (v := 1) hx hb xd_Z_control_32 (by decide) ?_
    have hj7 : ∀ (H : Heap) (locs : List Loc) (ls : Array Slot) (v6 : Int32), v6 = (if (p2 - p2 / (4 : Int32) * (4 : Int32)) = 1 then (1) else (if ((p0 >>> ((15 : Int32) &&& 31)) &&& (31 : Int32)) = 0 then (0) else (1))) → lv_has ls 12 [(7, .int v2), (6, .int (((p0 >>> ((15 : Int32) &&& 31)) &&& (31 : Int32)))), (5, .int ((xus p0 (20 : Int32)))), (0, .ref ((b 0))), (1, .int p0), (2, .int p1), (3, .int p2), (4, .int p3)] → va_P D xCl (xWZ k b u) H → va_D A (xWZ k b u) → va_S A s.heap H locs → W p l e { frames := 4, cells := 0, slots := 0, locals := 89 } s m args below meth c H locs (0) (0) Q (F0 m 46 ls [.int v6]) := by
      intro H locs ls v6 hv6 hl hP hD hS
      have hv := xlt_v hv6 hv
      refine lv_istore (lv' := [(8, .int v6), (7, .int v2), (6, .int (((p0 >>> ((15 : Int32) &&& 31)) &&& (31 : Int32)))), (5, .int ((xus p0 (20 : Int32)))), (0, .ref ((b 0))), (1, .int p0), (2, .int p1), (3, .int p2), (4, .int p3)]) hx hb xd_Z_control_46 hl (by decide) rfl (fun ls hl => ?_)
      refine lv_aload_n hx hb xd_Z_control_48 rfl (lv_at hl 4 rfl) ?_
      refine lv_iload hx hb xd_Z_control_49 (lv_at hl 3 rfl) ?_
      refine lv_iload hx hb xd_Z_control_51 (lv_at hl 0 rfl) ?_
      obtain ⟨hn9, hv⟩ := xan_v hv
      refine xcW_i (va_runV (As := [.int ((xus p0 (20 : Int32))), .int v6]) (rest := []) ⟨hx, hb, hml, hown, htg⟩ (c_Z_refusal l D z k b H.size u (xus p0 (20 : Int32)) v6 hn9) (cwV 2 htg (xg_V0 xkin_Z_refusal xw_1053 xw_1055 xsel_Z_refusal xw_9) rfl rfl rfl (by decide +kernel) ⟨Nat.le_of_ble_eq_true rfl, Nat.le_of_ble_eq_true rfl⟩) ⟨xB_blind, xrecv_Z hK hP, fun U hU hW => xB_mk hP hK hD hE hS (xsubW hD hA hS) hU hW⟩ rfl rfl hl.1 rfl (lv_room (Nat.le_of_ble_eq_true rfl)) xd_Z_control_53 ⟨Nat.le_of_ble_eq_true rfl, Nat.le_of_ble_eq_true rfl⟩) hD hA hS (fun r u1 H locs hw hP hD hS => ?_)
      obtain ⟨q8, hq8⟩ : ∃ q, q = xf_Z_refusal u (xus p0 (20 : Int32)) v6 := ⟨_, rfl⟩
      obtain ⟨e1, e2⟩ := hw
      rw [← hq8] at e1
      obtain rfl : q8 = r := e1.symm
      obtain rfl : u = u1 := e2.symm
      have hP : va_P D xCl (xWZ k b u) H := hP
      have hD : va_D A (xWZ k b u) := hD
      have hv := xlt_v hq8 hv
      refine lv_istore (lv' := [(9, .int q8), (8, .int v6), (7, .int v2), (6, .int (((p0 >>> ((15 : Int32) &&& 31)) &&& (31 : Int32)))), (5, .int ((xus p0 (20 : Int32)))), (0, .ref ((b 0))), (1, .int p0), (2, .int p1), (3, .int p2), (4, .int p3)]) hx hb xd_Z_control_56 hl (by decide) rfl (fun ls hl => ?_)
      refine lv_iload hx hb xd_Z_control_58 (lv_at hl 0 rfl) ?_
      refine lv_if_le (tgt := 72) hx hb xd_Z_control_60 rfl (fun h10 => ?_) (fun h10 => ?_)
      · have hv := xit_v h10 hv
        refine lv_aload_n hx hb xd_Z_control_72 rfl (lv_at hl 5 rfl) ?_
        refine xget_Z_mode (v := (xg_Z_mode u)) hx hb htg hown hK hP (htg _ xw_731) rfl xd_Z_control_73 ?_
        refine lv_iconst (v := 3) hx hb xd_Z_control_76 (by decide) ?_
        have hj14 : ∀ (H : Heap) (locs : List Loc) (ls : Array Slot) (v13 : Int32), v13 = (if (xg_Z_mode u) = 3 then (if 512 ≤ (xus p0 (20 : Int32)) then ((xus p0 (20 : Int32))) else (((xus p0 (20 : Int32)) + (256 : Int32)))) else ((xus p0 (20 : Int32)))) → lv_has ls 12 [(9, .int q8), (8, .int v6), (7, .int v2), (6, .int (((p0 >>> ((15 : Int32) &&& 31)) &&& (31 : Int32)))), (5, .int ((xus p0 (20 : Int32)))), (0, .ref ((b 0))), (1, .int p0), (2, .int p1), (3, .int p2), (4, .int p3)] → va_P D xCl (xWZ k b u) H → va_D A (xWZ k b u) → va_S A s.heap H locs → W p l e { frames := 4, cells := 0, slots := 0, locals := 89 } s m args below meth c H locs (0) (0) Q (F0 m 99 ls [.int v13]) := by
          intro H locs ls v13 hv13 hl hP hD hS
          have hv := xlt_v hv13 hv
          refine lv_istore (lv' := [(10, .int v13), (9, .int q8), (8, .int v6), (7, .int v2), (6, .int (((p0 >>> ((15 : Int32) &&& 31)) &&& (31 : Int32)))), (5, .int ((xus p0 (20 : Int32)))), (0, .ref ((b 0))), (1, .int p0), (2, .int p1), (3, .int p2), (4, .int p3)]) hx hb xd_Z_control_99 hl (by decide) rfl (fun ls hl => ?_)
          refine lv_aload_n hx hb xd_Z_control_101 rfl (lv_at hl 6 rfl) ?_
          refine lv_iload hx hb xd_Z_control_102 (lv_at hl 0 rfl) ?_
          obtain ⟨hn16, hv⟩ := xan_v hv
          refine xcW_i (va_runV (As := [.int v13]) (rest := []) ⟨hx, hb, hml, hown, htg⟩ (c_Z_tells l D z k b H.size u v13 hn16) (cwV 1 htg (xg_V0 xkin_Z_tells xw_883 xw_885 xsel_Z_tells xw_9) rfl rfl rfl (by decide +kernel) ⟨Nat.le_of_ble_eq_true rfl, Nat.le_of_ble_eq_true rfl⟩) ⟨xB_blind, xrecv_Z hK hP, fun U hU hW => xB_mk hP hK hD hE hS (xsubW hD hA hS) hU hW⟩ rfl rfl hl.1 rfl (lv_room (Nat.le_of_ble_eq_true rfl)) xd_Z_control_104 ⟨Nat.le_of_ble_eq_true rfl, Nat.le_of_ble_eq_true rfl⟩) hD hA hS (fun r u1 H locs hw hP hD hS => ?_)
          obtain ⟨q15, hq15⟩ : ∃ q, q = xf_Z_tells u v13 := ⟨_, rfl⟩
          obtain ⟨e1, e2⟩ := hw
          rw [← hq15] at e1
          obtain rfl : q15 = r := e1.symm
          obtain rfl : u = u1 := e2.symm
          have hP : va_P D xCl (xWZ k b u) H := hP
          have hD : va_D A (xWZ k b u) := hD
          have hv := xlt_v hq15 hv
          refine lv_istore (lv' := [(11, .int q15), (10, .int v13), (9, .int q8), (8, .int v6), (7, .int v2), (6, .int (((p0 >>> ((15 : Int32) &&& 31)) &&& (31 : Int32)))), (5, .int ((xus p0 (20 : Int32)))), (0, .ref ((b 0))), (1, .int p0), (2, .int p1), (3, .int p2), (4, .int p3)]) hx hb xd_Z_control_107 hl (by decide) rfl (fun ls hl => ?_)
          refine lv_iload hx hb xd_Z_control_109 (lv_at hl 3 rfl) ?_
          obtain ⟨hva, hv⟩ := xan_v2 hv
          have hj27 : ∀ (H : Heap) (locs : List Loc) (ls : Array Slot) (v26 : XZ), v26 = (if v6 = 0 then (u) else (xlt (if (p2 - p2 / (4 : Int32) * (4 : Int32)) = 1 then (v2) else (if (p2 - p2 / (4 : Int32) * (4 : Int32)) = 2 then ((q15 ||| v2)) else ((q15 &&& (v2 ^^^ (-1 : Int32))))) : Int32) fun v20 => xlt (xf_Z_write u v13 v20 : XZ) fun q22 => q22)) → lv_has ls 12 [(11, .int q15), (10, .int v13), (9, .int q8), (8, .int v6), (7, .int v2), (6, .int (((p0 >>> ((15 : Int32) &&& 31)) &&& (31 : Int32)))), (5, .int ((xus p0 (20 : Int32)))), (0, .ref ((b 0))), (1, .int p0), (2, .int p1), (3, .int p2), (4, .int p3)] → va_P D xCl (xWZ k b v26) H → va_D A (xWZ k b v26) → va_S A s.heap H locs → W p l e { frames := 4, cells := 0, slots := 0, locals := 89 } s m args below meth c H locs (0) (0) Q (F0 m 154 ls []) := by
            intro H locs ls v26 hv26 hl hP hD hS
            have hv := xlt_v hv26 hv
            refine lv_aload_n hx hb xd_Z_control_154 rfl (lv_at hl 7 rfl) ?_
            refine lv_iload_n hx hb xd_Z_control_155 rfl (lv_at hl 9 rfl) ?_
            refine lv_iload hx hb xd_Z_control_156 (lv_at hl 0 rfl) ?_
            obtain ⟨hn29, hv⟩ := xan_v hv
            refine xcW_i (va_runV (As := [.int p1, .int q15]) (rest := []) ⟨hx, hb, hml, hown, htg⟩ (c_Z_put l D z k b H.size v26 p1 q15 hn29) (cwV 2 htg (xg_V0 xkin_Z_put xw_834 xw_836 xsel_Z_put xw_9) rfl rfl rfl (by decide +kernel) ⟨Nat.le_of_ble_eq_true rfl, Nat.le_of_ble_eq_true rfl⟩) ⟨xB_blind, xrecv_Z hK hP, fun U hU hW => xB_mk hP hK hD hE hS (xsubW hD hA hS) hU hW⟩ rfl rfl hl.1 rfl (lv_room (Nat.le_of_ble_eq_true rfl)) xd_Z_control_158 ⟨Nat.le_of_ble_eq_true rfl, Nat.le_of_ble_eq_true rfl⟩) hD hA hS (fun r u1 H locs hw hP hD hS => ?_)
            obtain ⟨q28, hq28⟩ : ∃ q, q = xf_Z_put v26 p1 q15 := ⟨_, rfl⟩
            rw [← hq28] at hw
            obtain rfl : r = q28.1 := congrArg Prod.fst hw
            obtain rfl : u1 = q28.2 := congrArg Prod.snd hw
            have hP : va_P D xCl (xWZ k b q28.2) H := hP
            have hD : va_D A (xWZ k b q28.2) := hD
            have hv := xlt_v hq28 hv
            exact hret _ q28.2 H locs ls _ (xnar (X01_ofp hq28 (xt01_Z_put v26 p1 q15))) (by unfold xf_Z_control; exact (xlt_e hv2 (xlt_e hv6 (xlt_e hq8 (xit h10 (xlt_e hv13 (xlt_e hq15 (xlt_e hv26 (xlt_e hq28 rfl))))))))) hP hD hS xd_Z_control_161
          have hv := hva
          refine lv_if_eq (tgt := 154) hx hb xd_Z_control_111 rfl (fun h30 => ?_) (fun h30 => ?_)
          · have hv := xit_v h30 hv
            exact hj27 H locs ls u (xit h30 rfl) hl hP hD hS
          · have hv := xif_v h30 hv
            refine lv_aload_n hx hb xd_Z_control_114 rfl (lv_at hl 7 rfl) ?_
            refine lv_iload hx hb xd_Z_control_115 (lv_at hl 1 rfl) ?_
            refine lv_iload_n hx hb xd_Z_control_117 rfl (lv_at hl 10 rfl) ?_
            refine lv_iconst (v := 4) hx hb xd_Z_control_118 (by decide) ?_
            refine lv_irem hx hb xd_Z_control_119 (by decide) ?_
            refine lv_iconst (v := 1) hx hb xd_Z_control_120 (by decide) ?_
            have hj34 : ∀ (H : Heap) (locs : List Loc) (ls : Array Slot) (v33 : Int32), v33 = (if (p2 - p2 / (4 : Int32) * (4 : Int32)) = 1 then (v2) else (if (p2 - p2 / (4 : Int32) * (4 : Int32)) = 2 then ((q15 ||| v2)) else ((q15 &&& (v2 ^^^ (-1 : Int32)))))) → lv_has ls 12 [(11, .int q15), (10, .int v13), (9, .int q8), (8, .int v6), (7, .int v2), (6, .int (((p0 >>> ((15 : Int32) &&& 31)) &&& (31 : Int32)))), (5, .int ((xus p0 (20 : Int32)))), (0, .ref ((b 0))), (1, .int p0), (2, .int p1), (3, .int p2), (4, .int p3)] → va_P D xCl (xWZ k b u) H → va_D A (xWZ k b u) → va_S A s.heap H locs → W p l e { frames := 4, cells := 0, slots := 0, locals := 89 } s m args below meth c H locs (0) (0) Q (F0 m 151 ls [.int v33, .int v13, .ref ((b 0))]) := by
              intro H locs ls v33 hv33 hl hP hD hS
              have hv := xlt_v hv33 hv
              obtain ⟨hn36, hv⟩ := xan_v hv
              refine xcW_v (va_runV (As := [.int v13, .int v33]) (rest := []) ⟨hx, hb, hml, hown, htg⟩ (c_Z_write l D z k b H.size u v13 v33 hn36) (cwV 2 htg (xg_V0 xkin_Z_write xw_851 xw_853 xsel_Z_write xw_9) rfl rfl rfl (by decide +kernel) ⟨Nat.le_of_ble_eq_true rfl, Nat.le_of_ble_eq_true rfl⟩) ⟨xB_blind, xrecv_Z hK hP, fun U hU hW => xB_mk hP hK hD hE hS (xsubW hD hA hS) hU hW⟩ rfl rfl hl.1 rfl (lv_room (Nat.le_of_ble_eq_true rfl)) xd_Z_control_151 ⟨Nat.le_of_ble_eq_true rfl, Nat.le_of_ble_eq_true rfl⟩) hD hA hS (fun u1 H locs hw hP hD hS => ?_)
              obtain ⟨q35, hq35⟩ : ∃ q, q = xf_Z_write u v13 v33 := ⟨_, rfl⟩
              rw [← hq35] at hw
              obtain rfl : q35 = u1 := hw.symm
              have hP : va_P D xCl (xWZ k b q35) H := hP
              have hD : va_D A (xWZ k b q35) := hD
              have hv := xlt_v hq35 hv
              exact hj27 H locs ls q35 (xif h30 (xlt_e hv33 (xlt_e hq35 rfl))) hl hP hD hS
            refine lv_icmp_ne (tgt := 129) hx hb xd_Z_control_121 rfl (fun h37 => ?_) (fun h37 => ?_)
            · refine lv_iload_n hx hb xd_Z_control_129 rfl (lv_at hl 10 rfl) ?_
              refine lv_iconst (v := 4) hx hb xd_Z_control_130 (by decide) ?_
              refine lv_irem hx hb xd_Z_control_131 (by decide) ?_
              refine lv_iconst (v := 2) hx hb xd_Z_control_132 (by decide) ?_
              refine lv_icmp_ne (tgt := 144) hx hb xd_Z_control_133 rfl (fun h38 => ?_) (fun h38 => ?_)
              · refine lv_iload hx hb xd_Z_control_144 (lv_at hl 0 rfl) ?_
                refine lv_iload hx hb xd_Z_control_146 (lv_at hl 4 rfl) ?_
                refine lv_iconst (v := (-1)) hx hb xd_Z_control_148 (by decide) ?_
                refine lv_ixor hx hb xd_Z_control_149 ?_
                refine lv_iand hx hb xd_Z_control_150 ?_
                exact hj34 H locs ls (q15 &&& (v2 ^^^ (-1 : Int32))) (xif h37 (xif h38 rfl)) hl hP hD hS
              · refine lv_iload hx hb xd_Z_control_136 (lv_at hl 0 rfl) ?_
                refine lv_iload hx hb xd_Z_control_138 (lv_at hl 4 rfl) ?_
                refine lv_ior hx hb xd_Z_control_140 ?_
                refine lv_goto (tgt := 151) hx hb xd_Z_control_141 rfl ?_
                exact hj34 H locs ls (q15 ||| v2) (xif h37 (xit h38 rfl)) hl hP hD hS
            · refine lv_iload hx hb xd_Z_control_124 (lv_at hl 4 rfl) ?_
              refine lv_goto (tgt := 151) hx hb xd_Z_control_126 rfl ?_
              exact hj34 H locs ls v2 (xit h37 rfl) hl hP hD hS
        refine lv_icmp_ne (tgt := 97) hx hb xd_Z_control_77 rfl (fun h39 => ?_) (fun h39 => ?_)
        · refine lv_iload hx hb xd_Z_control_97 (lv_at hl 4 rfl) ?_
          exact hj14 H locs ls (xus p0 (20 : Int32)) (xif h39 rfl) hl hP hD hS
        · refine lv_iload hx hb xd_Z_control_80 (lv_at hl 4 rfl) ?_
          refine lv_sipush (v := 512) hx hb xd_Z_control_82 (by decide) ?_
          refine lv_icmp_ge (tgt := 97) hx hb xd_Z_control_85 rfl (fun h40 => ?_) (fun h40 => ?_)
          · refine lv_iload hx hb xd_Z_control_97 (lv_at hl 4 rfl) ?_
            exact hj14 H locs ls (xus p0 (20 : Int32)) (xit h39 (xit h40 rfl)) hl hP hD hS
          · refine lv_iload hx hb xd_Z_control_88 (lv_at hl 4 rfl) ?_
            refine lv_sipush (v := 256) hx hb xd_Z_control_90 (by decide) ?_
            refine lv_iadd hx hb xd_Z_control_93 ?_
            refine lv_goto (tgt := 99) hx hb xd_Z_control_94 rfl ?_
            exact hj14 H locs ls ((xus p0 (20 : Int32)) + (256 : Int32)) (xit h39 (xif h40 rfl)) hl hP hD hS
      · have hv := xif_v h10 hv
        refine lv_aload_n hx hb xd_Z_control_63 rfl (lv_at hl 5 rfl) ?_
        refine lv_iload hx hb xd_Z_control_64 (lv_at hl 0 rfl) ?_
        refine lv_iload_n hx hb xd_Z_control_66 rfl (lv_at hl 6 rfl) ?_
        refine lv_iconst (v := 0) hx hb xd_Z_control_67 (by decide) ?_
        obtain ⟨hn42, hv⟩ := xan_v hv
        refine xcW_i (va_runV (As := [.int q8, .int p0, .int 0]) (rest := []) ⟨hx, hb, hml, hown, htg⟩ (c_Z_fails l D z k b H.size u q8 p0 (0 : Int32) hn42) (cwV 3 htg (xg_V0 xkin_Z_fails xw_933 xw_935 xsel_Z_fails xw_9) rfl rfl rfl (by decide +kernel) ⟨Nat.le_of_ble_eq_true rfl, Nat.le_of_ble_eq_true rfl⟩) ⟨xB_blind, xrecv_Z hK hP, fun U hU hW => xB_mk hP hK hD hE hS (xsubW hD hA hS) hU hW⟩ rfl rfl hl.1 rfl (lv_room (Nat.le_of_ble_eq_true rfl)) xd_Z_control_68 ⟨Nat.le_of_ble_eq_true rfl, Nat.le_of_ble_eq_true rfl⟩) hD hA hS (fun r u1 H locs hw hP hD hS => ?_)
        obtain ⟨q41, hq41⟩ : ∃ q, q = xf_Z_fails u q8 p0 (0 : Int32) := ⟨_, rfl⟩
        rw [← hq41] at hw
        obtain rfl : r = q41.1 := congrArg Prod.fst hw
        obtain rfl : u1 = q41.2 := congrArg Prod.snd hw
        have hP : va_P D xCl (xWZ k b q41.2) H := hP
        have hD : va_D A (xWZ k b q41.2) := hD
        have hv := xlt_v hq41 hv
        exact hret _ q41.2 H locs ls _ (xnar (X01_ofp hq41 (xt01_Z_fails u q8 p0 (0 : Int32)))) (by unfold xf_Z_control; exact (xlt_e hv2 (xlt_e hv6 (xlt_e hq8 (xif h10 (xlt_e hq41 rfl)))))) hP hD hS xd_Z_control_71
    refine lv_icmp_eq (tgt := 41) hx hb xd_Z_control_33 rfl (fun h43 => ?_) (fun h43 => ?_)
    · refine lv_iconst (v := 1) hx hb xd_Z_control_41 (by decide) ?_
      refine lv_goto (tgt := 46) hx hb xd_Z_control_42 rfl ?_
      exact hj7 H locs ls (1 : Int32) (xit h43 rfl) hl hP hD hS
    · refine lv_iload hx hb xd_Z_control_36 (lv_at hl 1 rfl) ?_
      refine lv_if_eq (tgt := 45) hx hb xd_Z_control_38 rfl (fun h44 => ?_) (fun h44 => ?_)
      · refine lv_iconst (v := 0) hx hb xd_Z_control_45 (by decide) ?_
        exact hj7 H locs ls (0 : Int32) (xif h43 (xit h44 rfl)) hl hP hD hS
      · refine lv_iconst (v := 1) hx hb xd_Z_control_41 (by decide) ?_
        refine lv_goto (tgt := 46) hx hb xd_Z_control_42 rfl ?_
        exact hj7 H locs ls (1 : Int32) (xif h43 (xif h44 rfl)) hl hP hD hS
  refine lv_icmp_le (tgt := 25) hx hb xd_Z_control_17 rfl (fun h45 => ?_) (fun h45 => ?_)
  · refine lv_iload hx hb xd_Z_control_25 (lv_at hl 6 rfl) ?_
    exact hj3 H locs ls p3 (xit h45 rfl) hl hP hD hS
  · refine lv_iload hx hb xd_Z_control_20 (lv_at hl 0 rfl) ?_
    refine lv_goto (tgt := 27) hx hb xd_Z_control_22 rfl ?_
    exact hj3 H locs ls ((p0 >>> ((15 : Int32) &&& 31)) &&& (31 : Int32)) (xif h45 rfl) hl hP hD hS
theorem xt01_Z_control (u : XZ) (p0 : Int32) (p1 : Int32) (p2 : Int32) (p3 : Int32) : X01p (xf_Z_control u p0 p1 p2 p3) := by unfold xf_Z_control; exact (xlt_01p (fun v2 hv2 => (xlt_01p (fun v6 hv6 => (xlt_01p (fun q8 hq8 => (xit_01p (xlt_01p (fun v13 hv13 => (xlt_01p (fun q15 hq15 => (xlt_01p (fun v26 hv26 => (xlt_01p (fun q28 hq28 => (X01_ofp hq28 (xt01_Z_put v26 p1 q15)))))))))) (xlt_01p (fun q41 hq41 => (X01_ofp hq41 (xt01_Z_fails u q8 p0 (0 : Int32))))))))))))

noncomputable def xf_Z_poke (u : XZ) (p0 : Int32) (p1 : Int32) (p2 : Int32) (p3 : Int32) (p4 : Int32) (p5 : Int32) : Int32 × XZ :=
  if p0 < 0 then
    ((-1), u)
  else
    if (p0 - p0 / (4 : Int32) * (4 : Int32)) = 0 then
      if p0 ≤ 262124 then
        (0, (xs_Z_memory (xs_Z_memory (xs_Z_memory (xs_Z_memory (xs_Z_memory u (upd (xg_Z_memory u) (p0 / (4 : Int32)).toNatClampNeg p1)) (upd (xg_Z_memory (xs_Z_memory u (upd (xg_Z_memory u) (p0 / (4 : Int32)).toNatClampNeg p1))) ((p0 / (4 : Int32)) + (1 : Int32)).toNatClampNeg p2)) (upd (xg_Z_memory (xs_Z_memory (xs_Z_memory u (upd (xg_Z_memory u) (p0 / (4 : Int32)).toNatClampNeg p1)) (upd (xg_Z_memory (xs_Z_memory u (upd (xg_Z_memory u) (p0 / (4 : Int32)).toNatClampNeg p1))) ((p0 / (4 : Int32)) + (1 : Int32)).toNatClampNeg p2))) ((p0 / (4 : Int32)) + (2 : Int32)).toNatClampNeg p3)) (upd (xg_Z_memory (xs_Z_memory (xs_Z_memory (xs_Z_memory u (upd (xg_Z_memory u) (p0 / (4 : Int32)).toNatClampNeg p1)) (upd (xg_Z_memory (xs_Z_memory u (upd (xg_Z_memory u) (p0 / (4 : Int32)).toNatClampNeg p1))) ((p0 / (4 : Int32)) + (1 : Int32)).toNatClampNeg p2)) (upd (xg_Z_memory (xs_Z_memory (xs_Z_memory u (upd (xg_Z_memory u) (p0 / (4 : Int32)).toNatClampNeg p1)) (upd (xg_Z_memory (xs_Z_memory u (upd (xg_Z_memory u) (p0 / (4 : Int32)).toNatClampNeg p1))) ((p0 / (4 : Int32)) + (1 : Int32)).toNatClampNeg p2))) ((p0 / (4 : Int32)) + (2 : Int32)).toNatClampNeg p3))) ((p0 / (4 : Int32)) + (3 : Int32)).toNatClampNeg p4)) (upd (xg_Z_memory (xs_Z_memory (xs_Z_memory (xs_Z_memory (xs_Z_memory u (upd (xg_Z_memory u) (p0 / (4 : Int32)).toNatClampNeg p1)) (upd (xg_Z_memory (xs_Z_memory u (upd (xg_Z_memory u) (p0 / (4 : Int32)).toNatClampNeg p1))) ((p0 / (4 : Int32)) + (1 : Int32)).toNatClampNeg p2)) (upd (xg_Z_memory (xs_Z_memory (xs_Z_memory u (upd (xg_Z_memory u) (p0 / (4 : Int32)).toNatClampNeg p1)) (upd (xg_Z_memory (xs_Z_memory u (upd (xg_Z_memory u) (p0 / (4 : Int32)).toNatClampNeg p1))) ((p0 / (4 : Int32)) + (1 : Int32)).toNatClampNeg p2))) ((p0 / (4 : Int32)) + (2 : Int32)).toNatClampNeg p3)) (upd (xg_Z_memory (xs_Z_memory (xs_Z_memory (xs_Z_memory u (upd (xg_Z_memory u) (p0 / (4 : Int32)).toNatClampNeg p1)) (upd (xg_Z_memory (xs_Z_memory u (upd (xg_Z_memory u) (p0 / (4 : Int32)).toNatClampNeg p1))) ((p0 / (4 : Int32)) + (1 : Int32)).toNatClampNeg p2)) (upd (xg_Z_memory (xs_Z_memory (xs_Z_memory u (upd (xg_Z_memory u) (p0 / (4 : Int32)).toNatClampNeg p1)) (upd (xg_Z_memory (xs_Z_memory u (upd (xg_Z_memory u) (p0 / (4 : Int32)).toNatClampNeg p1))) ((p0 / (4 : Int32)) + (1 : Int32)).toNatClampNeg p2))) ((p0 / (4 : Int32)) + (2 : Int32)).toNatClampNeg p3))) ((p0 / (4 : Int32)) + (3 : Int32)).toNatClampNeg p4))) ((p0 / (4 : Int32)) + (4 : Int32)).toNatClampNeg p5)))
      else
        ((-1), u)
    else
      ((-1), u)
def xv_Z_poke (u : XZ) (p0 : Int32) (p1 : Int32) (p2 : Int32) (p3 : Int32) (p4 : Int32) (p5 : Int32) : Prop := XVc (
  if p0 < 0 then
    True
  else
    if (p0 - p0 / (4 : Int32) * (4 : Int32)) = 0 then
      if p0 ≤ 262124 then
        (vp_in (p0 / (4 : Int32)) 65536) ∧
        (vp_in ((p0 / (4 : Int32)) + (1 : Int32)) 65536) ∧
        (vp_in ((p0 / (4 : Int32)) + (2 : Int32)) 65536) ∧
        (vp_in ((p0 / (4 : Int32)) + (3 : Int32)) 65536) ∧
        (vp_in ((p0 / (4 : Int32)) + (4 : Int32)) 65536) ∧
        True
      else
        True
    else
      True)
set_option maxHeartbeats 4000000 in
set_option maxRecDepth 100000 in
theorem c_Z_poke (l : Launch) (D : va_G) (z : (Nat → Nat) × (Nat → Nat)) (k : ClassId × ClassId) (b : Nat → Nat) (sz : Nat) (u : XZ) (p0 : Int32) (p1 : Int32) (p2 : Int32) (p3 : Int32) (p4 : Int32) (p5 : Int32) (hv : xv_Z_poke u p0 p1 p2 p3 p4 p5) : Met l xy_Z_poke (xk_Z_poke :: lw_g) { frames := 0, cells := 0, slots := 0, locals := 0 } (va_Pc [.ref ((b 0)), .int p0, .int p1, .int p2, .int p3, .int p4, .int p5] (xB D (xTy k) z sz (xWZ k b u))) (va_Qi (fun r (q : XZ) => (r, q) = xf_Z_poke u p0 p1 p2 p3 p4 p5) (fun q t => xQ D (xTy k) (xWZ k b q) (va_A (xWZ k b u) sz) t) (va_A (xWZ k b u) sz)) 0 0 (va_A (xWZ k b u) sz) := by
  refine xopen_i (wf := fun q : XZ => xWZ k b q) (lv := [(0, .ref ((b 0))), (1, .int p0), (2, .int p1), (3, .int p2), (4, .int p3), (5, .int p4), (6, .int p5)]) (by decide) rfl (Nat.le_of_ble_eq_true rfl) ?_
  intro p e s m args below meth c Q ls A H locs hx hb hml htg hown hin hK hP hD hE hS hA hl hret
  unfold xv_Z_poke at hv
  refine lv_iload_n hx hb xd_Z_poke_0 rfl (lv_at hl 1 rfl) ?_
  refine lv_if_lt (tgt := 17) hx hb xd_Z_poke_1 rfl (fun h1 => ?_) (fun h1 => ?_)
  · have hv := xit_v h1 hv
    refine lv_iconst (v := (-1)) hx hb xd_Z_poke_17 (by decide) ?_
    exact hret _ u H locs ls _ (by unfold xf_Z_poke; exact (xit h1 rfl)) hP hD hS xd_Z_poke_18
  · have hv := xif_v h1 hv
    refine lv_iload_n hx hb xd_Z_poke_4 rfl (lv_at hl 1 rfl) ?_
    refine lv_iconst (v := 4) hx hb xd_Z_poke_5 (by decide) ?_
    refine lv_irem hx hb xd_Z_poke_6 (by decide) ?_
    refine lv_if_ne (tgt := 17) hx hb xd_Z_poke_7 rfl (fun h2 => ?_) (fun h2 => ?_)
    · have hv := xif_v h2 hv
      refine lv_iconst (v := (-1)) hx hb xd_Z_poke_17 (by decide) ?_
      exact hret _ u H locs ls _ (by unfold xf_Z_poke; exact (xif h1 (xif h2 rfl))) hP hD hS xd_Z_poke_18
    · have hv := xit_v h2 hv
      refine lv_iload_n hx hb xd_Z_poke_10 rfl (lv_at hl 1 rfl) ?_
      refine lv_ldcw (v := 262124) hx hb hown (htg _ xw_817) xd_Z_poke_11 ?_
      refine lv_icmp_le (tgt := 19) hx hb xd_Z_poke_14 rfl (fun h3 => ?_) (fun h3 => ?_)
      · have hv := xit_v h3 hv
        refine lv_aload_n hx hb xd_Z_poke_19 rfl (lv_at hl 0 rfl) ?_
        refine xget_Z_memory hx hb htg hown hK hP (htg _ xw_728) xd_Z_poke_20 ?_
        refine lv_iload_n hx hb xd_Z_poke_23 rfl (lv_at hl 1 rfl) ?_
        refine lv_iconst (v := 4) hx hb xd_Z_poke_24 (by decide) ?_
        refine lv_idiv hx hb xd_Z_poke_25 (by decide) ?_
        refine lv_iload_n hx hb xd_Z_poke_26 rfl (lv_at hl 2 rfl) ?_
        obtain ⟨hn4, hv⟩ := xan_v hv
        refine xast_Z_memory hx hb hK hP hD hS hn4 xd_Z_poke_27 (fun H locs hP hD hS => ?_)
        refine lv_aload_n hx hb xd_Z_poke_28 rfl (lv_at hl 0 rfl) ?_
        refine xget_Z_memory hx hb htg hown hK hP (htg _ xw_728) xd_Z_poke_29 ?_
        refine lv_iload_n hx hb xd_Z_poke_32 rfl (lv_at hl 1 rfl) ?_
        refine lv_iconst (v := 4) hx hb xd_Z_poke_33 (by decide) ?_
        refine lv_idiv hx hb xd_Z_poke_34 (by decide) ?_
        refine lv_iconst (v := 1) hx hb xd_Z_poke_35 (by decide) ?_
        refine lv_iadd hx hb xd_Z_poke_36 ?_
        refine lv_iload_n hx hb xd_Z_poke_37 rfl (lv_at hl 3 rfl) ?_
        obtain ⟨hn5, hv⟩ := xan_v hv
        refine xast_Z_memory hx hb hK hP hD hS hn5 xd_Z_poke_38 (fun H locs hP hD hS => ?_)
        refine lv_aload_n hx hb xd_Z_poke_39 rfl (lv_at hl 0 rfl) ?_
        refine xget_Z_memory hx hb htg hown hK hP (htg _ xw_728) xd_Z_poke_40 ?_
        refine lv_iload_n hx hb xd_Z_poke_43 rfl (lv_at hl 1 rfl) ?_
        refine lv_iconst (v := 4) hx hb xd_Z_poke_44 (by decide) ?_
        refine lv_idiv hx hb xd_Z_poke_45 (by decide) ?_
        refine lv_iconst (v := 2) hx hb xd_Z_poke_46 (by decide) ?_
        refine lv_iadd hx hb xd_Z_poke_47 ?_
        refine lv_iload hx hb xd_Z_poke_48 (lv_at hl 4 rfl) ?_
        obtain ⟨hn6, hv⟩ := xan_v hv
        refine xast_Z_memory hx hb hK hP hD hS hn6 xd_Z_poke_50 (fun H locs hP hD hS => ?_)
        refine lv_aload_n hx hb xd_Z_poke_51 rfl (lv_at hl 0 rfl) ?_
        refine xget_Z_memory hx hb htg hown hK hP (htg _ xw_728) xd_Z_poke_52 ?_
        refine lv_iload_n hx hb xd_Z_poke_55 rfl (lv_at hl 1 rfl) ?_
        refine lv_iconst (v := 4) hx hb xd_Z_poke_56 (by decide) ?_
        refine lv_idiv hx hb xd_Z_poke_57 (by decide) ?_
        refine lv_iconst (v := 3) hx hb xd_Z_poke_58 (by decide) ?_
        refine lv_iadd hx hb xd_Z_poke_59 ?_
        refine lv_iload hx hb xd_Z_poke_60 (lv_at hl 5 rfl) ?_
        obtain ⟨hn7, hv⟩ := xan_v hv
        refine xast_Z_memory hx hb hK hP hD hS hn7 xd_Z_poke_62 (fun H locs hP hD hS => ?_)
        refine lv_aload_n hx hb xd_Z_poke_63 rfl (lv_at hl 0 rfl) ?_
        refine xget_Z_memory hx hb htg hown hK hP (htg _ xw_728) xd_Z_poke_64 ?_
        refine lv_iload_n hx hb xd_Z_poke_67 rfl (lv_at hl 1 rfl) ?_
        refine lv_iconst (v := 4) hx hb xd_Z_poke_68 (by decide) ?_
        refine lv_idiv hx hb xd_Z_poke_69 (by decide) ?_
        refine lv_iconst (v := 4) hx hb xd_Z_poke_70 (by decide) ?_
        refine lv_iadd hx hb xd_Z_poke_71 ?_
        refine lv_iload hx hb xd_Z_poke_72 (lv_at hl 6 rfl) ?_
        obtain ⟨hn8, hv⟩ := xan_v hv
        refine xast_Z_memory hx hb hK hP hD hS hn8 xd_Z_poke_74 (fun H locs hP hD hS => ?_)
        refine lv_iconst (v := 0) hx hb xd_Z_poke_75 (by decide) ?_
        exact hret _ (xs_Z_memory (xs_Z_memory (xs_Z_memory (xs_Z_memory (xs_Z_memory u (upd (xg_Z_memory u) (p0 / (4 : Int32)).toNatClampNeg p1)) (upd (xg_Z_memory (xs_Z_memory u (upd (xg_Z_memory u) (p0 / (4 : Int32)).toNatClampNeg p1))) ((p0 / (4 : Int32)) + (1 : Int32)).toNatClampNeg p2)) (upd (xg_Z_memory (xs_Z_memory (xs_Z_memory u (upd (xg_Z_memory u) (p0 / (4 : Int32)).toNatClampNeg p1)) (upd (xg_Z_memory (xs_Z_memory u (upd (xg_Z_memory u) (p0 / (4 : Int32)).toNatClampNeg p1))) ((p0 / (4 : Int32)) + (1 : Int32)).toNatClampNeg p2))) ((p0 / (4 : Int32)) + (2 : Int32)).toNatClampNeg p3)) (upd (xg_Z_memory (xs_Z_memory (xs_Z_memory (xs_Z_memory u (upd (xg_Z_memory u) (p0 / (4 : Int32)).toNatClampNeg p1)) (upd (xg_Z_memory (xs_Z_memory u (upd (xg_Z_memory u) (p0 / (4 : Int32)).toNatClampNeg p1))) ((p0 / (4 : Int32)) + (1 : Int32)).toNatClampNeg p2)) (upd (xg_Z_memory (xs_Z_memory (xs_Z_memory u (upd (xg_Z_memory u) (p0 / (4 : Int32)).toNatClampNeg p1)) (upd (xg_Z_memory (xs_Z_memory u (upd (xg_Z_memory u) (p0 / (4 : Int32)).toNatClampNeg p1))) ((p0 / (4 : Int32)) + (1 : Int32)).toNatClampNeg p2))) ((p0 / (4 : Int32)) + (2 : Int32)).toNatClampNeg p3))) ((p0 / (4 : Int32)) + (3 : Int32)).toNatClampNeg p4)) (upd (xg_Z_memory (xs_Z_memory (xs_Z_memory (xs_Z_memory (xs_Z_memory u (upd (xg_Z_memory u) (p0 / (4 : Int32)).toNatClampNeg p1)) (upd (xg_Z_memory (xs_Z_memory u (upd (xg_Z_memory u) (p0 / (4 : Int32)).toNatClampNeg p1))) ((p0 / (4 : Int32)) + (1 : Int32)).toNatClampNeg p2)) (upd (xg_Z_memory (xs_Z_memory (xs_Z_memory u (upd (xg_Z_memory u) (p0 / (4 : Int32)).toNatClampNeg p1)) (upd (xg_Z_memory (xs_Z_memory u (upd (xg_Z_memory u) (p0 / (4 : Int32)).toNatClampNeg p1))) ((p0 / (4 : Int32)) + (1 : Int32)).toNatClampNeg p2))) ((p0 / (4 : Int32)) + (2 : Int32)).toNatClampNeg p3)) (upd (xg_Z_memory (xs_Z_memory (xs_Z_memory (xs_Z_memory u (upd (xg_Z_memory u) (p0 / (4 : Int32)).toNatClampNeg p1)) (upd (xg_Z_memory (xs_Z_memory u (upd (xg_Z_memory u) (p0 / (4 : Int32)).toNatClampNeg p1))) ((p0 / (4 : Int32)) + (1 : Int32)).toNatClampNeg p2)) (upd (xg_Z_memory (xs_Z_memory (xs_Z_memory u (upd (xg_Z_memory u) (p0 / (4 : Int32)).toNatClampNeg p1)) (upd (xg_Z_memory (xs_Z_memory u (upd (xg_Z_memory u) (p0 / (4 : Int32)).toNatClampNeg p1))) ((p0 / (4 : Int32)) + (1 : Int32)).toNatClampNeg p2))) ((p0 / (4 : Int32)) + (2 : Int32)).toNatClampNeg p3))) ((p0 / (4 : Int32)) + (3 : Int32)).toNatClampNeg p4))) ((p0 / (4 : Int32)) + (4 : Int32)).toNatClampNeg p5)) H locs ls _ (by unfold xf_Z_poke; exact (xif h1 (xit h2 (xit h3 rfl)))) hP hD hS xd_Z_poke_76
      · have hv := xif_v h3 hv
        refine lv_iconst (v := (-1)) hx hb xd_Z_poke_17 (by decide) ?_
        exact hret _ u H locs ls _ (by unfold xf_Z_poke; exact (xif h1 (xit h2 (xif h3 rfl)))) hP hD hS xd_Z_poke_18

noncomputable def xf_Z_word2 (u : XZ) (p0 : Int32) : Int32 :=
  xlt (if p0 < 0 then (0) else (if 262144 ≤ p0 then (0) else (if (p0 - p0 / (4 : Int32) * (4 : Int32)) = 0 then ((xg_Z_memory u (p0 / (4 : Int32)).toNatClampNeg)) else (0))) : Int32) fun v5 =>
  v5
def xv_Z_word2 (u : XZ) (p0 : Int32) : Prop := XVc (
  (if p0 < 0 then (True) else (if 262144 ≤ p0 then (True) else (if (p0 - p0 / (4 : Int32) * (4 : Int32)) = 0 then ((vp_in (p0 / (4 : Int32)) 65536) ∧ (True)) else (True)))) ∧
  xlt (if p0 < 0 then (0) else (if 262144 ≤ p0 then (0) else (if (p0 - p0 / (4 : Int32) * (4 : Int32)) = 0 then ((xg_Z_memory u (p0 / (4 : Int32)).toNatClampNeg)) else (0))) : Int32) fun v5 =>
  True)
set_option maxHeartbeats 4000000 in
set_option maxRecDepth 100000 in
theorem c_Z_word2 (l : Launch) (D : va_G) (z : (Nat → Nat) × (Nat → Nat)) (k : ClassId × ClassId) (b : Nat → Nat) (sz : Nat) (u : XZ) (p0 : Int32) (hv : xv_Z_word2 u p0) : Met l xy_Z_word2 (xk_Z_word2 :: lw_g) { frames := 0, cells := 0, slots := 0, locals := 0 } (va_Pc [.ref ((b 0)), .int p0] (xB D (xTy k) z sz (xWZ k b u))) (va_Qi (fun r (q : XZ) => r = xf_Z_word2 u p0 ∧ q = u) (fun q t => xQ D (xTy k) (xWZ k b q) (va_A (xWZ k b u) sz) t) (va_A (xWZ k b u) sz)) 0 0 (va_A (xWZ k b u) sz) := by
  refine xopen_i (wf := fun q : XZ => xWZ k b q) (lv := [(0, .ref ((b 0))), (1, .int p0)]) (by decide) rfl (Nat.le_of_ble_eq_true rfl) ?_
  intro p e s m args below meth c Q ls A H locs hx hb hml htg hown hin hK hP hD hE hS hA hl hret
  unfold xv_Z_word2 at hv
  refine lv_iload_n hx hb xd_Z_word2_0 rfl (lv_at hl 1 rfl) ?_
  obtain ⟨hva, hv⟩ := xan_v2 hv
  have hj6 : ∀ (H : Heap) (locs : List Loc) (ls : Array Slot) (v5 : Int32), v5 = (if p0 < 0 then (0) else (if 262144 ≤ p0 then (0) else (if (p0 - p0 / (4 : Int32) * (4 : Int32)) = 0 then ((xg_Z_memory u (p0 / (4 : Int32)).toNatClampNeg)) else (0)))) → lv_has ls 2 [(0, .ref ((b 0))), (1, .int p0)] → va_P D xCl (xWZ k b u) H → va_D A (xWZ k b u) → va_S A s.heap H locs → W p l e { frames := 0, cells := 0, slots := 0, locals := 0 } s m args below meth c H locs (0) (0) Q (F0 m 29 ls [.int v5]) := by
    intro H locs ls v5 hv5 hl hP hD hS
    have hv := xlt_v hv5 hv
    exact hret _ u H locs ls _ ⟨(by unfold xf_Z_word2; exact (xlt_e hv5 rfl)), rfl⟩ hP hD hS xd_Z_word2_29
  have hv := hva
  refine lv_if_lt (tgt := 17) hx hb xd_Z_word2_1 rfl (fun h7 => ?_) (fun h7 => ?_)
  · have hv := xit_v h7 hv
    refine lv_iconst (v := 0) hx hb xd_Z_word2_17 (by decide) ?_
    refine lv_goto (tgt := 29) hx hb xd_Z_word2_18 rfl ?_
    exact hj6 H locs ls (0 : Int32) (xit h7 rfl) hl hP hD hS
  · have hv := xif_v h7 hv
    refine lv_iload_n hx hb xd_Z_word2_4 rfl (lv_at hl 1 rfl) ?_
    refine lv_ldcw (v := 262144) hx hb hown (htg _ xw_822) xd_Z_word2_5 ?_
    refine lv_icmp_ge (tgt := 17) hx hb xd_Z_word2_8 rfl (fun h8 => ?_) (fun h8 => ?_)
    · have hv := xit_v h8 hv
      refine lv_iconst (v := 0) hx hb xd_Z_word2_17 (by decide) ?_
      refine lv_goto (tgt := 29) hx hb xd_Z_word2_18 rfl ?_
      exact hj6 H locs ls (0 : Int32) (xif h7 (xit h8 rfl)) hl hP hD hS
    · have hv := xif_v h8 hv
      refine lv_iload_n hx hb xd_Z_word2_11 rfl (lv_at hl 1 rfl) ?_
      refine lv_iconst (v := 4) hx hb xd_Z_word2_12 (by decide) ?_
      refine lv_irem hx hb xd_Z_word2_13 (by decide) ?_
      refine lv_if_eq (tgt := 21) hx hb xd_Z_word2_14 rfl (fun h9 => ?_) (fun h9 => ?_)
      · have hv := xit_v h9 hv
        refine lv_aload_n hx hb xd_Z_word2_21 rfl (lv_at hl 0 rfl) ?_
        refine xget_Z_memory hx hb htg hown hK hP (htg _ xw_728) xd_Z_word2_22 ?_
        refine lv_iload_n hx hb xd_Z_word2_25 rfl (lv_at hl 1 rfl) ?_
        refine lv_iconst (v := 4) hx hb xd_Z_word2_26 (by decide) ?_
        refine lv_idiv hx hb xd_Z_word2_27 (by decide) ?_
        obtain ⟨hn10, hv⟩ := xan_v hv
        refine xald_Z_memory hx hb hK hP hn10 xd_Z_word2_28 ?_
        exact hj6 H locs ls (xg_Z_memory u (p0 / (4 : Int32)).toNatClampNeg) (xif h7 (xif h8 (xit h9 rfl))) hl hP hD hS
      · have hv := xif_v h9 hv
        refine lv_iconst (v := 0) hx hb xd_Z_word2_17 (by decide) ?_
        refine lv_goto (tgt := 29) hx hb xd_Z_word2_18 rfl ?_
        exact hj6 H locs ls (0 : Int32) (xif h7 (xif h8 (xif h9 rfl))) hl hP hD hS
