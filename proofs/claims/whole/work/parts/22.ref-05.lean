noncomputable def xf_Z_system (u : XZ) (p0 : Int32) (p1 : Int32) (p2 : Int32) (p3 : Int32) (p4 : Int32) : Int32 × XZ :=
  if p2 = 4 then
    xlt (xf_Z_asIfVirtual u p0 p1 p3 p4 : Int32 × XZ) fun q126 =>
    (q126.1, q126.2)
  else
    if p2 = 0 then
      if p1 = 0 then
        if (xus p0 (25 : Int32)) = 9 then
          xlt (if (xg_Z_mode u) = 1 then (1) else (if (xg_Z_mode u) = 3 then (xlt (xf_Z_bit u (1536 : Int32) (20 : Int32) : Int32) fun q102 => if q102 = 0 then (1) else (xlt (xf_Z_notThere u p0 : Int32 × XZ) fun q105 => if q105.1 = 0 then (0) else (1))) else (xlt (xf_Z_notThere u p0 : Int32 × XZ) fun q99 => if q99.1 = 0 then (0) else (1))) : Int32) fun v108 =>
          xlt (if (xg_Z_mode u) = 1 then (u) else (if (xg_Z_mode u) = 3 then (xlt (xf_Z_bit u (1536 : Int32) (20 : Int32) : Int32) fun q102 => if q102 = 0 then (u) else (xlt (xf_Z_notThere u p0 : Int32 × XZ) fun q105 => if q105.1 = 0 then (q105.2) else (q105.2))) else (xlt (xf_Z_notThere u p0 : Int32 × XZ) fun q99 => if q99.1 = 0 then (q99.2) else (q99.2))) : XZ) fun v109 =>
          (v108, v109)
        else
          if (xus p0 (25 : Int32)) = 17 then
            xlt (if (xg_Z_mode u) = 1 then (1) else (xlt (xf_Z_notThere u p0 : Int32 × XZ) fun q7 => if q7.1 = 0 then (0) else (1)) : Int32) fun v10 =>
            xlt (if (xg_Z_mode u) = 1 then (u) else (xlt (xf_Z_notThere u p0 : Int32 × XZ) fun q7 => if q7.1 = 0 then (q7.2) else (q7.2)) : XZ) fun v11 =>
            (v10, v11)
          else
            if (xus p0 (25 : Int32)) = 49 then
              xlt (if (xg_Z_mode u) = 1 then (1) else (xlt (xf_Z_notThere u p0 : Int32 × XZ) fun q87 => if q87.1 = 0 then (0) else (1)) : Int32) fun v90 =>
              xlt (if (xg_Z_mode u) = 1 then (u) else (xlt (xf_Z_notThere u p0 : Int32 × XZ) fun q87 => if q87.1 = 0 then (q87.2) else (q87.2)) : XZ) fun v91 =>
              (v90, v91)
            else
              if ((p0 >>> ((15 : Int32) &&& 31)) &&& (31 : Int32)) = 0 then
                if (xus p0 (20 : Int32)) = 0 then
                  xlt (xf_Z_call u : Int32 × XZ) fun q82 =>
                  (q82.1, q82.2)
                else
                  if (xus p0 (20 : Int32)) = 1 then
                    xlt (xf_Z_isVirtual u : Int32) fun q79 =>
                    xlt (xf_Z_fails u (3 : Int32) (xg_Z_pc u) q79 : Int32 × XZ) fun q80 =>
                    (q80.1, q80.2)
                  else
                    if (xus p0 (20 : Int32)) = 258 then
                      xlt (if (xg_Z_mode u) = 1 then (xlt (xf_Z_back_256 u : Int32 × XZ) fun q61 => q61.1) else (if (xg_Z_mode u) = 3 then (xlt (xf_Z_bit u (1536 : Int32) (22 : Int32) : Int32) fun q54 => if q54 = 0 then (xlt (xf_Z_back_512 u : Int32 × XZ) fun q59 => q59.1) else (xlt (xf_Z_notThere u p0 : Int32 × XZ) fun q57 => q57.1)) else (xlt (xf_Z_notThere u p0 : Int32 × XZ) fun q52 => q52.1)) : Int32) fun v63 =>
                      xlt (if (xg_Z_mode u) = 1 then (xlt (xf_Z_back_256 u : Int32 × XZ) fun q61 => q61.2) else (if (xg_Z_mode u) = 3 then (xlt (xf_Z_bit u (1536 : Int32) (22 : Int32) : Int32) fun q54 => if q54 = 0 then (xlt (xf_Z_back_512 u : Int32 × XZ) fun q59 => q59.2) else (xlt (xf_Z_notThere u p0 : Int32 × XZ) fun q57 => q57.2)) else (xlt (xf_Z_notThere u p0 : Int32 × XZ) fun q52 => q52.2)) : XZ) fun v64 =>
                      (v63, v64)
                    else
                      if (xus p0 (20 : Int32)) = 261 then
                        xlt (if (xg_Z_mode u) = 1 then (1) else (if (xg_Z_mode u) = 3 then (xlt (xf_Z_bit u (1536 : Int32) (21 : Int32) : Int32) fun q30 => if q30 = 0 then (1) else (xlt (xf_Z_notThere u p0 : Int32 × XZ) fun q33 => if q33.1 = 0 then (0) else (1))) else (xlt (xf_Z_notThere u p0 : Int32 × XZ) fun q27 => if q27.1 = 0 then (0) else (1))) : Int32) fun v36 =>
                        xlt (if (xg_Z_mode u) = 1 then (u) else (if (xg_Z_mode u) = 3 then (xlt (xf_Z_bit u (1536 : Int32) (21 : Int32) : Int32) fun q30 => if q30 = 0 then (u) else (xlt (xf_Z_notThere u p0 : Int32 × XZ) fun q33 => if q33.1 = 0 then (q33.2) else (q33.2))) else (xlt (xf_Z_notThere u p0 : Int32 × XZ) fun q27 => if q27.1 = 0 then (q27.2) else (q27.2))) : XZ) fun v37 =>
                        (v36, v37)
                      else
                        xlt (xf_Z_illegal u p0 : Int32 × XZ) fun q23 =>
                        (q23.1, q23.2)
              else
                xlt (xf_Z_illegal u p0 : Int32 × XZ) fun q84 =>
                (q84.1, q84.2)
      else
        xlt (xf_Z_illegal u p0 : Int32 × XZ) fun q122 =>
        (q122.1, q122.2)
    else
      xlt (xf_Z_control u p0 p1 p2 p3 : Int32 × XZ) fun q124 =>
      (q124.1, q124.2)
def xv_Z_system (u : XZ) (p0 : Int32) (p1 : Int32) (p2 : Int32) (p3 : Int32) (p4 : Int32) : Prop := XVc (
  if p2 = 4 then
    (xv_Z_asIfVirtual u p0 p1 p3 p4) ∧
    xlt (xf_Z_asIfVirtual u p0 p1 p3 p4 : Int32 × XZ) fun q126 =>
    True
  else
    if p2 = 0 then
      if p1 = 0 then
        if (xus p0 (25 : Int32)) = 9 then
          (if (xg_Z_mode u) = 1 then (True) else (if (xg_Z_mode u) = 3 then ((xv_Z_bit u (1536 : Int32) (20 : Int32)) ∧ (xlt (xf_Z_bit u (1536 : Int32) (20 : Int32) : Int32) fun q102 => if q102 = 0 then (True) else ((xv_Z_notThere u p0) ∧ (xlt (xf_Z_notThere u p0 : Int32 × XZ) fun q105 => if q105.1 = 0 then (True) else (True))))) else ((xv_Z_notThere u p0) ∧ (xlt (xf_Z_notThere u p0 : Int32 × XZ) fun q99 => if q99.1 = 0 then (True) else (True))))) ∧
          xlt (if (xg_Z_mode u) = 1 then (1) else (if (xg_Z_mode u) = 3 then (xlt (xf_Z_bit u (1536 : Int32) (20 : Int32) : Int32) fun q102 => if q102 = 0 then (1) else (xlt (xf_Z_notThere u p0 : Int32 × XZ) fun q105 => if q105.1 = 0 then (0) else (1))) else (xlt (xf_Z_notThere u p0 : Int32 × XZ) fun q99 => if q99.1 = 0 then (0) else (1))) : Int32) fun v108 =>
          xlt (if (xg_Z_mode u) = 1 then (u) else (if (xg_Z_mode u) = 3 then (xlt (xf_Z_bit u (1536 : Int32) (20 : Int32) : Int32) fun q102 => if q102 = 0 then (u) else (xlt (xf_Z_notThere u p0 : Int32 × XZ) fun q105 => if q105.1 = 0 then (q105.2) else (q105.2))) else (xlt (xf_Z_notThere u p0 : Int32 × XZ) fun q99 => if q99.1 = 0 then (q99.2) else (q99.2))) : XZ) fun v109 =>
          True
        else
          if (xus p0 (25 : Int32)) = 17 then
            (if (xg_Z_mode u) = 1 then (True) else ((xv_Z_notThere u p0) ∧ (xlt (xf_Z_notThere u p0 : Int32 × XZ) fun q7 => if q7.1 = 0 then (True) else (True)))) ∧
            xlt (if (xg_Z_mode u) = 1 then (1) else (xlt (xf_Z_notThere u p0 : Int32 × XZ) fun q7 => if q7.1 = 0 then (0) else (1)) : Int32) fun v10 =>
            xlt (if (xg_Z_mode u) = 1 then (u) else (xlt (xf_Z_notThere u p0 : Int32 × XZ) fun q7 => if q7.1 = 0 then (q7.2) else (q7.2)) : XZ) fun v11 =>
            True
          else
            if (xus p0 (25 : Int32)) = 49 then
              (if (xg_Z_mode u) = 1 then (True) else ((xv_Z_notThere u p0) ∧ (xlt (xf_Z_notThere u p0 : Int32 × XZ) fun q87 => if q87.1 = 0 then (True) else (True)))) ∧
              xlt (if (xg_Z_mode u) = 1 then (1) else (xlt (xf_Z_notThere u p0 : Int32 × XZ) fun q87 => if q87.1 = 0 then (0) else (1)) : Int32) fun v90 =>
              xlt (if (xg_Z_mode u) = 1 then (u) else (xlt (xf_Z_notThere u p0 : Int32 × XZ) fun q87 => if q87.1 = 0 then (q87.2) else (q87.2)) : XZ) fun v91 =>
              True
            else
              if ((p0 >>> ((15 : Int32) &&& 31)) &&& (31 : Int32)) = 0 then
                if (xus p0 (20 : Int32)) = 0 then
                  (xv_Z_call u) ∧
                  xlt (xf_Z_call u : Int32 × XZ) fun q82 =>
                  True
                else
                  if (xus p0 (20 : Int32)) = 1 then
                    xlt (xf_Z_isVirtual u : Int32) fun q79 =>
                    (xv_Z_fails u (3 : Int32) (xg_Z_pc u) q79) ∧
                    xlt (xf_Z_fails u (3 : Int32) (xg_Z_pc u) q79 : Int32 × XZ) fun q80 =>
                    True
                  else
                    if (xus p0 (20 : Int32)) = 258 then
                      (if (xg_Z_mode u) = 1 then ((xv_Z_back_256 u) ∧ (xlt (xf_Z_back_256 u : Int32 × XZ) fun q61 => True)) else (if (xg_Z_mode u) = 3 then ((xv_Z_bit u (1536 : Int32) (22 : Int32)) ∧ (xlt (xf_Z_bit u (1536 : Int32) (22 : Int32) : Int32) fun q54 => if q54 = 0 then ((xv_Z_back_512 u) ∧ (xlt (xf_Z_back_512 u : Int32 × XZ) fun q59 => True)) else ((xv_Z_notThere u p0) ∧ (xlt (xf_Z_notThere u p0 : Int32 × XZ) fun q57 => True)))) else ((xv_Z_notThere u p0) ∧ (xlt (xf_Z_notThere u p0 : Int32 × XZ) fun q52 => True)))) ∧
                      xlt (if (xg_Z_mode u) = 1 then (xlt (xf_Z_back_256 u : Int32 × XZ) fun q61 => q61.1) else (if (xg_Z_mode u) = 3 then (xlt (xf_Z_bit u (1536 : Int32) (22 : Int32) : Int32) fun q54 => if q54 = 0 then (xlt (xf_Z_back_512 u : Int32 × XZ) fun q59 => q59.1) else (xlt (xf_Z_notThere u p0 : Int32 × XZ) fun q57 => q57.1)) else (xlt (xf_Z_notThere u p0 : Int32 × XZ) fun q52 => q52.1)) : Int32) fun v63 =>
                      xlt (if (xg_Z_mode u) = 1 then (xlt (xf_Z_back_256 u : Int32 × XZ) fun q61 => q61.2) else (if (xg_Z_mode u) = 3 then (xlt (xf_Z_bit u (1536 : Int32) (22 : Int32) : Int32) fun q54 => if q54 = 0 then (xlt (xf_Z_back_512 u : Int32 × XZ) fun q59 => q59.2) else (xlt (xf_Z_notThere u p0 : Int32 × XZ) fun q57 => q57.2)) else (xlt (xf_Z_notThere u p0 : Int32 × XZ) fun q52 => q52.2)) : XZ) fun v64 =>
                      True
                    else
                      if (xus p0 (20 : Int32)) = 261 then
                        (if (xg_Z_mode u) = 1 then (True) else (if (xg_Z_mode u) = 3 then ((xv_Z_bit u (1536 : Int32) (21 : Int32)) ∧ (xlt (xf_Z_bit u (1536 : Int32) (21 : Int32) : Int32) fun q30 => if q30 = 0 then (True) else ((xv_Z_notThere u p0) ∧ (xlt (xf_Z_notThere u p0 : Int32 × XZ) fun q33 => if q33.1 = 0 then (True) else (True))))) else ((xv_Z_notThere u p0) ∧ (xlt (xf_Z_notThere u p0 : Int32 × XZ) fun q27 => if q27.1 = 0 then (True) else (True))))) ∧
                        xlt (if (xg_Z_mode u) = 1 then (1) else (if (xg_Z_mode u) = 3 then (xlt (xf_Z_bit u (1536 : Int32) (21 : Int32) : Int32) fun q30 => if q30 = 0 then (1) else (xlt (xf_Z_notThere u p0 : Int32 × XZ) fun q33 => if q33.1 = 0 then (0) else (1))) else (xlt (xf_Z_notThere u p0 : Int32 × XZ) fun q27 => if q27.1 = 0 then (0) else (1))) : Int32) fun v36 =>
                        xlt (if (xg_Z_mode u) = 1 then (u) else (if (xg_Z_mode u) = 3 then (xlt (xf_Z_bit u (1536 : Int32) (21 : Int32) : Int32) fun q30 => if q30 = 0 then (u) else (xlt (xf_Z_notThere u p0 : Int32 × XZ) fun q33 => if q33.1 = 0 then (q33.2) else (q33.2))) else (xlt (xf_Z_notThere u p0 : Int32 × XZ) fun q27 => if q27.1 = 0 then (q27.2) else (q27.2))) : XZ) fun v37 =>
                        True
                      else
                        (xv_Z_illegal u p0) ∧
                        xlt (xf_Z_illegal u p0 : Int32 × XZ) fun q23 =>
                        True
              else
                (xv_Z_illegal u p0) ∧
                xlt (xf_Z_illegal u p0 : Int32 × XZ) fun q84 =>
                True
      else
        (xv_Z_illegal u p0) ∧
        xlt (xf_Z_illegal u p0 : Int32 × XZ) fun q122 =>
        True
    else
      (xv_Z_control u p0 p1 p2 p3) ∧
      xlt (xf_Z_control u p0 p1 p2 p3 : Int32 × XZ) fun q124 =>
      True)
set_option maxHeartbeats 4000000 in
set_option maxRecDepth 100000 in
theorem c_Z_system (l : Launch) (D : va_G) (z : (Nat → Nat) × (Nat → Nat)) (k : ClassId × ClassId) (b : Nat → Nat) (sz : Nat) (u : XZ) (p0 : Int32) (p1 : Int32) (p2 : Int32) (p3 : Int32) (p4 : Int32) (hv : xv_Z_system u p0 p1 p2 p3 p4) : Met l xy_Z_system (xk_Z_system :: lw_g) { frames := 11, cells := 0, slots := 0, locals := 299 } (va_Pc [.ref ((b 0)), .int p0, .int p1, .int p2, .int p3, .int p4] (xB D (xTy k) z sz (xWZ k b u))) (va_Qi (fun r (q : XZ) => (r, q) = xf_Z_system u p0 p1 p2 p3 p4) (fun q t => xQ D (xTy k) (xWZ k b q) (va_A (xWZ k b u) sz) t) (va_A (xWZ k b u) sz)) 0 0 (va_A (xWZ k b u) sz) := by
  refine xopen_z (wf := fun q : XZ => xWZ k b q) (lv := [(0, .ref ((b 0))), (1, .int p0), (2, .int p1), (3, .int p2), (4, .int p3), (5, .int p4)]) (by decide) rfl (Nat.le_of_ble_eq_true rfl) ?_
  intro p e s m args below meth c Q ls A H locs hx hb hml htg hown hin hK hP hD hE hS hA hl hret
  unfold xv_Z_system at hv
  refine lv_iload_n hx hb xd_Z_system_0 rfl (lv_at hl 3 rfl) ?_
  refine lv_iconst (v := 4) hx hb xd_Z_system_1 (by decide) ?_
  refine lv_icmp_ne (tgt := 16) hx hb xd_Z_system_2 rfl (fun h1 => ?_) (fun h1 => ?_)
  · have hv := xif_v h1 hv
    refine lv_iload_n hx hb xd_Z_system_16 rfl (lv_at hl 3 rfl) ?_
    refine lv_if_eq (tgt := 30) hx hb xd_Z_system_17 rfl (fun h2 => ?_) (fun h2 => ?_)
    · have hv := xit_v h2 hv
      refine lv_iload_n hx hb xd_Z_system_30 rfl (lv_at hl 1 rfl) ?_
      refine lv_bipush (v := 25) hx hb xd_Z_system_31 (by decide) ?_
      refine lv_iushr (v := (xus p0 (25 : Int32))) hx hb xd_Z_system_33 rfl ?_
      refine lv_istore (lv' := [(6, .int ((xus p0 (25 : Int32)))), (0, .ref ((b 0))), (1, .int p0), (2, .int p1), (3, .int p2), (4, .int p3), (5, .int p4)]) hx hb xd_Z_system_34 hl (by decide) rfl (fun ls hl => ?_)
      refine lv_iload_n hx hb xd_Z_system_36 rfl (lv_at hl 2 rfl) ?_
      refine lv_bipush (v := 20) hx hb xd_Z_system_37 (by decide) ?_
      refine lv_iushr (v := (xus p0 (20 : Int32))) hx hb xd_Z_system_39 rfl ?_
      refine lv_istore (lv' := [(7, .int ((xus p0 (20 : Int32)))), (6, .int ((xus p0 (25 : Int32)))), (0, .ref ((b 0))), (1, .int p0), (2, .int p1), (3, .int p2), (4, .int p3), (5, .int p4)]) hx hb xd_Z_system_40 hl (by decide) rfl (fun ls hl => ?_)
      refine lv_iload_n hx hb xd_Z_system_42 rfl (lv_at hl 4 rfl) ?_
      refine lv_if_eq (tgt := 52) hx hb xd_Z_system_43 rfl (fun h3 => ?_) (fun h3 => ?_)
      · have hv := xit_v h3 hv
        refine lv_iload hx hb xd_Z_system_52 (lv_at hl 1 rfl) ?_
        refine lv_bipush (v := 9) hx hb xd_Z_system_54 (by decide) ?_
        refine lv_icmp_ne (tgt := 101) hx hb xd_Z_system_56 rfl (fun h4 => ?_) (fun h4 => ?_)
        · have hv := xif_v h4 hv
          refine lv_iload hx hb xd_Z_system_101 (lv_at hl 1 rfl) ?_
          refine lv_bipush (v := 17) hx hb xd_Z_system_103 (by decide) ?_
          refine lv_icmp_eq (tgt := 115) hx hb xd_Z_system_105 rfl (fun h5 => ?_) (fun h5 => ?_)
          · have hv := xit_v h5 hv
            refine lv_aload_n hx hb xd_Z_system_115 rfl (lv_at hl 2 rfl) ?_
            refine xget_Z_mode (v := (xg_Z_mode u)) hx hb htg hown hK hP (htg _ xw_731) rfl xd_Z_system_116 ?_
            refine lv_iconst (v := 1) hx hb xd_Z_system_119 (by decide) ?_
            obtain ⟨hva, hv⟩ := xan_v2 hv
            have hj12 : ∀ (H : Heap) (locs : List Loc) (ls : Array Slot) (v10 : Int32) (v11 : XZ), v10 = (if (xg_Z_mode u) = 1 then (1) else (xlt (xf_Z_notThere u p0 : Int32 × XZ) fun q7 => if q7.1 = 0 then (0) else (1))) → v11 = (if (xg_Z_mode u) = 1 then (u) else (xlt (xf_Z_notThere u p0 : Int32 × XZ) fun q7 => if q7.1 = 0 then (q7.2) else (q7.2))) → lv_has ls 8 [(7, .int ((xus p0 (20 : Int32)))), (6, .int ((xus p0 (25 : Int32)))), (0, .ref ((b 0))), (1, .int p0), (2, .int p1), (3, .int p2), (4, .int p3), (5, .int p4)] → va_P D xCl (xWZ k b v11) H → va_D A (xWZ k b v11) → va_S A s.heap H locs → W p l e { frames := 11, cells := 0, slots := 0, locals := 299 } s m args below meth c H locs (0) (0) Q (F0 m 136 ls [.int v10]) := by
              intro H locs ls v10 v11 hv10 hv11 hl hP hD hS
              have hv := xlt_v hv10 hv
              have hv := xlt_v hv11 hv
              exact hret _ v11 H locs ls _ (xnar (X01_of hv10 (xit_01 (Or.inr rfl) (xlt_01 (fun q7 hq7 => (xit_01 (Or.inl rfl) (Or.inr rfl))))))) (by unfold xf_Z_system; exact (xif h1 (xit h2 (xit h3 (xif h4 (xit h5 (xlt_e hv10 (xlt_e hv11 rfl)))))))) hP hD hS xd_Z_system_136
            have hv := hva
            refine lv_icmp_eq (tgt := 131) hx hb xd_Z_system_120 rfl (fun h13 => ?_) (fun h13 => ?_)
            · have hv := xit_v h13 hv
              refine lv_iconst (v := 1) hx hb xd_Z_system_131 (by decide) ?_
              refine lv_goto (tgt := 136) hx hb xd_Z_system_132 rfl ?_
              exact hj12 H locs ls (1 : Int32) u (xit h13 rfl) (xit h13 rfl) hl hP hD hS
            · have hv := xif_v h13 hv
              refine lv_aload_n hx hb xd_Z_system_123 rfl (lv_at hl 2 rfl) ?_
              refine lv_iload_n hx hb xd_Z_system_124 rfl (lv_at hl 3 rfl) ?_
              obtain ⟨hn15, hv⟩ := xan_v hv
              refine xcW_i (va_runV (As := [.int p0]) (rest := []) ⟨hx, hb, hml, hown, htg⟩ (c_Z_notThere l D z k b H.size u p0 hn15) (cwV 1 htg (xg_V0 xkin_Z_notThere xw_1045 xw_1047 xsel_Z_notThere xw_9) rfl rfl rfl (by decide +kernel) ⟨Nat.le_of_ble_eq_true rfl, Nat.le_of_ble_eq_true rfl⟩) ⟨xB_blind, xrecv_Z hK hP, fun U hU hW => xB_mk hP hK hD hE hS (xsubW hD hA hS) hU hW⟩ rfl rfl hl.1 rfl (lv_room (Nat.le_of_ble_eq_true rfl)) xd_Z_system_125 ⟨Nat.le_of_ble_eq_true rfl, Nat.le_of_ble_eq_true rfl⟩) hD hA hS (fun r u1 H locs hw hP hD hS => ?_)
              obtain ⟨q14, hq14⟩ : ∃ q, q = xf_Z_notThere u p0 := ⟨_, rfl⟩
              rw [← hq14] at hw
              obtain rfl : r = q14.1 := congrArg Prod.fst hw
              obtain rfl : u1 = q14.2 := congrArg Prod.snd hw
              have hP : va_P D xCl (xWZ k b q14.2) H := hP
              have hD : va_D A (xWZ k b q14.2) := hD
              have hv := xlt_v hq14 hv
              refine lv_if_eq (tgt := 135) hx hb xd_Z_system_128 rfl (fun h16 => ?_) (fun h16 => ?_)
              · have hv := xit_v h16 hv
                refine lv_iconst (v := 0) hx hb xd_Z_system_135 (by decide) ?_
                exact hj12 H locs ls (0 : Int32) q14.2 (xif h13 (xlt_e hq14 (xit h16 rfl))) (xif h13 (xlt_e hq14 (xit h16 rfl))) hl hP hD hS
              · have hv := xif_v h16 hv
                refine lv_iconst (v := 1) hx hb xd_Z_system_131 (by decide) ?_
                refine lv_goto (tgt := 136) hx hb xd_Z_system_132 rfl ?_
                exact hj12 H locs ls (1 : Int32) q14.2 (xif h13 (xlt_e hq14 (xif h16 rfl))) (xif h13 (xlt_e hq14 (xif h16 rfl))) hl hP hD hS
          · have hv := xif_v h5 hv
            refine lv_iload hx hb xd_Z_system_108 (lv_at hl 1 rfl) ?_
            refine lv_bipush (v := 49) hx hb xd_Z_system_110 (by decide) ?_
            refine lv_icmp_ne (tgt := 137) hx hb xd_Z_system_112 rfl (fun h17 => ?_) (fun h17 => ?_)
            · have hv := xif_v h17 hv
              refine lv_iload_n hx hb xd_Z_system_137 rfl (lv_at hl 3 rfl) ?_
              refine lv_bipush (v := 15) hx hb xd_Z_system_138 (by decide) ?_
              refine lv_ishr hx hb xd_Z_system_140 ?_
              refine lv_bipush (v := 31) hx hb xd_Z_system_141 (by decide) ?_
              refine lv_iand hx hb xd_Z_system_143 ?_
              refine lv_if_eq (tgt := 153) hx hb xd_Z_system_144 rfl (fun h18 => ?_) (fun h18 => ?_)
              · have hv := xit_v h18 hv
                refine lv_iload hx hb xd_Z_system_153 (lv_at hl 0 rfl) ?_
                refine lv_if_ne (tgt := 163) hx hb xd_Z_system_155 rfl (fun h19 => ?_) (fun h19 => ?_)
                · have hv := xif_v h19 hv
                  refine lv_iload hx hb xd_Z_system_163 (lv_at hl 0 rfl) ?_
                  refine lv_iconst (v := 1) hx hb xd_Z_system_165 (by decide) ?_
                  refine lv_icmp_ne (tgt := 183) hx hb xd_Z_system_166 rfl (fun h20 => ?_) (fun h20 => ?_)
                  · have hv := xif_v h20 hv
                    refine lv_iload hx hb xd_Z_system_183 (lv_at hl 0 rfl) ?_
                    refine lv_sipush (v := 258) hx hb xd_Z_system_185 (by decide) ?_
                    refine lv_icmp_ne (tgt := 245) hx hb xd_Z_system_188 rfl (fun h21 => ?_) (fun h21 => ?_)
                    · have hv := xif_v h21 hv
                      refine lv_iload hx hb xd_Z_system_245 (lv_at hl 0 rfl) ?_
                      refine lv_sipush (v := 261) hx hb xd_Z_system_247 (by decide) ?_
                      refine lv_icmp_ne (tgt := 295) hx hb xd_Z_system_250 rfl (fun h22 => ?_) (fun h22 => ?_)
                      · have hv := xif_v h22 hv
                        refine lv_aload_n hx hb xd_Z_system_295 rfl (lv_at hl 2 rfl) ?_
                        refine lv_iload_n hx hb xd_Z_system_296 rfl (lv_at hl 3 rfl) ?_
                        obtain ⟨hn24, hv⟩ := xan_v hv
                        refine xcW_i (va_runV (As := [.int p0]) (rest := []) ⟨hx, hb, hml, hown, htg⟩ (c_Z_illegal l D z k b H.size u p0 hn24) (cwV 1 htg (xg_V0 xkin_Z_illegal xw_990 xw_992 xsel_Z_illegal xw_9) rfl rfl rfl (by decide +kernel) ⟨Nat.le_of_ble_eq_true rfl, Nat.le_of_ble_eq_true rfl⟩) ⟨xB_blind, xrecv_Z hK hP, fun U hU hW => xB_mk hP hK hD hE hS (xsubW hD hA hS) hU hW⟩ rfl rfl hl.1 rfl (lv_room (Nat.le_of_ble_eq_true rfl)) xd_Z_system_297 ⟨Nat.le_of_ble_eq_true rfl, Nat.le_of_ble_eq_true rfl⟩) hD hA hS (fun r u1 H locs hw hP hD hS => ?_)
                        obtain ⟨q23, hq23⟩ : ∃ q, q = xf_Z_illegal u p0 := ⟨_, rfl⟩
                        rw [← hq23] at hw
                        obtain rfl : r = q23.1 := congrArg Prod.fst hw
                        obtain rfl : u1 = q23.2 := congrArg Prod.snd hw
                        have hP : va_P D xCl (xWZ k b q23.2) H := hP
                        have hD : va_D A (xWZ k b q23.2) := hD
                        have hv := xlt_v hq23 hv
                        exact hret _ q23.2 H locs ls _ (xnar (X01_ofp hq23 (xt01_Z_illegal u p0))) (by unfold xf_Z_system; exact (xif h1 (xit h2 (xit h3 (xif h4 (xif h5 (xif h17 (xit h18 (xif h19 (xif h20 (xif h21 (xif h22 (xlt_e hq23 rfl))))))))))))) hP hD hS xd_Z_system_300
                      · have hv := xit_v h22 hv
                        refine lv_aload_n hx hb xd_Z_system_253 rfl (lv_at hl 2 rfl) ?_
                        refine xget_Z_mode (v := (xg_Z_mode u)) hx hb htg hown hK hP (htg _ xw_731) rfl xd_Z_system_254 ?_
                        refine lv_iconst (v := 1) hx hb xd_Z_system_257 (by decide) ?_
                        obtain ⟨hva, hv⟩ := xan_v2 hv
                        have hj38 : ∀ (H : Heap) (locs : List Loc) (ls : Array Slot) (v36 : Int32) (v37 : XZ), v36 = (if (xg_Z_mode u) = 1 then (1) else (if (xg_Z_mode u) = 3 then (xlt (xf_Z_bit u (1536 : Int32) (21 : Int32) : Int32) fun q30 => if q30 = 0 then (1) else (xlt (xf_Z_notThere u p0 : Int32 × XZ) fun q33 => if q33.1 = 0 then (0) else (1))) else (xlt (xf_Z_notThere u p0 : Int32 × XZ) fun q27 => if q27.1 = 0 then (0) else (1)))) → v37 = (if (xg_Z_mode u) = 1 then (u) else (if (xg_Z_mode u) = 3 then (xlt (xf_Z_bit u (1536 : Int32) (21 : Int32) : Int32) fun q30 => if q30 = 0 then (u) else (xlt (xf_Z_notThere u p0 : Int32 × XZ) fun q33 => if q33.1 = 0 then (q33.2) else (q33.2))) else (xlt (xf_Z_notThere u p0 : Int32 × XZ) fun q27 => if q27.1 = 0 then (q27.2) else (q27.2)))) → lv_has ls 8 [(7, .int ((xus p0 (20 : Int32)))), (6, .int ((xus p0 (25 : Int32)))), (0, .ref ((b 0))), (1, .int p0), (2, .int p1), (3, .int p2), (4, .int p3), (5, .int p4)] → va_P D xCl (xWZ k b v37) H → va_D A (xWZ k b v37) → va_S A s.heap H locs → W p l e { frames := 11, cells := 0, slots := 0, locals := 299 } s m args below meth c H locs (0) (0) Q (F0 m 294 ls [.int v36]) := by
                          intro H locs ls v36 v37 hv36 hv37 hl hP hD hS
                          have hv := xlt_v hv36 hv
                          have hv := xlt_v hv37 hv
                          exact hret _ v37 H locs ls _ (xnar (X01_of hv36 (xit_01 (Or.inr rfl) (xit_01 (xlt_01 (fun q30 hq30 => (xit_01 (Or.inr rfl) (xlt_01 (fun q33 hq33 => (xit_01 (Or.inl rfl) (Or.inr rfl))))))) (xlt_01 (fun q27 hq27 => (xit_01 (Or.inl rfl) (Or.inr rfl)))))))) (by unfold xf_Z_system; exact (xif h1 (xit h2 (xit h3 (xif h4 (xif h5 (xif h17 (xit h18 (xif h19 (xif h20 (xif h21 (xit h22 (xlt_e hv36 (xlt_e hv37 rfl)))))))))))))) hP hD hS xd_Z_system_294
                        have hv := hva
                        refine lv_icmp_eq (tgt := 289) hx hb xd_Z_system_258 rfl (fun h39 => ?_) (fun h39 => ?_)
                        · have hv := xit_v h39 hv
                          refine lv_iconst (v := 1) hx hb xd_Z_system_289 (by decide) ?_
                          refine lv_goto (tgt := 294) hx hb xd_Z_system_290 rfl ?_
                          exact hj38 H locs ls (1 : Int32) u (xit h39 rfl) (xit h39 rfl) hl hP hD hS
                        · have hv := xif_v h39 hv
                          refine lv_aload_n hx hb xd_Z_system_261 rfl (lv_at hl 2 rfl) ?_
                          refine xget_Z_mode (v := (xg_Z_mode u)) hx hb htg hown hK hP (htg _ xw_731) rfl xd_Z_system_262 ?_
                          refine lv_iconst (v := 3) hx hb xd_Z_system_265 (by decide) ?_
                          refine lv_icmp_ne (tgt := 281) hx hb xd_Z_system_266 rfl (fun h40 => ?_) (fun h40 => ?_)
                          · have hv := xif_v h40 hv
                            refine lv_aload_n hx hb xd_Z_system_281 rfl (lv_at hl 2 rfl) ?_
                            refine lv_iload_n hx hb xd_Z_system_282 rfl (lv_at hl 3 rfl) ?_
                            obtain ⟨hn42, hv⟩ := xan_v hv
                            refine xcW_i (va_runV (As := [.int p0]) (rest := []) ⟨hx, hb, hml, hown, htg⟩ (c_Z_notThere l D z k b H.size u p0 hn42) (cwV 1 htg (xg_V0 xkin_Z_notThere xw_1045 xw_1047 xsel_Z_notThere xw_9) rfl rfl rfl (by decide +kernel) ⟨Nat.le_of_ble_eq_true rfl, Nat.le_of_ble_eq_true rfl⟩) ⟨xB_blind, xrecv_Z hK hP, fun U hU hW => xB_mk hP hK hD hE hS (xsubW hD hA hS) hU hW⟩ rfl rfl hl.1 rfl (lv_room (Nat.le_of_ble_eq_true rfl)) xd_Z_system_283 ⟨Nat.le_of_ble_eq_true rfl, Nat.le_of_ble_eq_true rfl⟩) hD hA hS (fun r u1 H locs hw hP hD hS => ?_)
                            obtain ⟨q41, hq41⟩ : ∃ q, q = xf_Z_notThere u p0 := ⟨_, rfl⟩
                            rw [← hq41] at hw
                            obtain rfl : r = q41.1 := congrArg Prod.fst hw
                            obtain rfl : u1 = q41.2 := congrArg Prod.snd hw
                            have hP : va_P D xCl (xWZ k b q41.2) H := hP
                            have hD : va_D A (xWZ k b q41.2) := hD
                            have hv := xlt_v hq41 hv
                            refine lv_if_eq (tgt := 293) hx hb xd_Z_system_286 rfl (fun h43 => ?_) (fun h43 => ?_)
                            · have hv := xit_v h43 hv
                              refine lv_iconst (v := 0) hx hb xd_Z_system_293 (by decide) ?_
                              exact hj38 H locs ls (0 : Int32) q41.2 (xif h39 (xif h40 (xlt_e hq41 (xit h43 rfl)))) (xif h39 (xif h40 (xlt_e hq41 (xit h43 rfl)))) hl hP hD hS
                            · have hv := xif_v h43 hv
                              refine lv_iconst (v := 1) hx hb xd_Z_system_289 (by decide) ?_
                              refine lv_goto (tgt := 294) hx hb xd_Z_system_290 rfl ?_
                              exact hj38 H locs ls (1 : Int32) q41.2 (xif h39 (xif h40 (xlt_e hq41 (xif h43 rfl)))) (xif h39 (xif h40 (xlt_e hq41 (xif h43 rfl)))) hl hP hD hS
                          · have hv := xit_v h40 hv
                            refine lv_aload_n hx hb xd_Z_system_269 rfl (lv_at hl 2 rfl) ?_
                            refine lv_sipush (v := 1536) hx hb xd_Z_system_270 (by decide) ?_
                            refine lv_bipush (v := 21) hx hb xd_Z_system_273 (by decide) ?_
                            obtain ⟨hn45, hv⟩ := xan_v hv
                            refine xcW_i (va_runV (As := [.int 1536, .int 21]) (rest := []) ⟨hx, hb, hml, hown, htg⟩ (c_Z_bit l D z k b H.size u (1536 : Int32) (21 : Int32) hn45) (cwV 2 htg (xg_V0 xkin_Z_bit xw_867 xw_869 xsel_Z_bit xw_9) rfl rfl rfl (by decide +kernel) ⟨Nat.le_of_ble_eq_true rfl, Nat.le_of_ble_eq_true rfl⟩) ⟨xB_blind, xrecv_Z hK hP, fun U hU hW => xB_mk hP hK hD hE hS (xsubW hD hA hS) hU hW⟩ rfl rfl hl.1 rfl (lv_room (Nat.le_of_ble_eq_true rfl)) xd_Z_system_275 ⟨Nat.le_of_ble_eq_true rfl, Nat.le_of_ble_eq_true rfl⟩) hD hA hS (fun r u1 H locs hw hP hD hS => ?_)
                            obtain ⟨q44, hq44⟩ : ∃ q, q = xf_Z_bit u (1536 : Int32) (21 : Int32) := ⟨_, rfl⟩
                            obtain ⟨e1, e2⟩ := hw
                            rw [← hq44] at e1
                            obtain rfl : q44 = r := e1.symm
                            obtain rfl : u = u1 := e2.symm
                            have hP : va_P D xCl (xWZ k b u) H := hP
                            have hD : va_D A (xWZ k b u) := hD
                            have hv := xlt_v hq44 hv
                            refine lv_if_eq (tgt := 289) hx hb xd_Z_system_278 rfl (fun h46 => ?_) (fun h46 => ?_)
                            · have hv := xit_v h46 hv
                              refine lv_iconst (v := 1) hx hb xd_Z_system_289 (by decide) ?_
                              refine lv_goto (tgt := 294) hx hb xd_Z_system_290 rfl ?_
                              exact hj38 H locs ls (1 : Int32) u (xif h39 (xit h40 (xlt_e hq44 (xit h46 rfl)))) (xif h39 (xit h40 (xlt_e hq44 (xit h46 rfl)))) hl hP hD hS
                            · have hv := xif_v h46 hv
                              refine lv_aload_n hx hb xd_Z_system_281 rfl (lv_at hl 2 rfl) ?_
                              refine lv_iload_n hx hb xd_Z_system_282 rfl (lv_at hl 3 rfl) ?_
                              obtain ⟨hn48, hv⟩ := xan_v hv
                              refine xcW_i (va_runV (As := [.int p0]) (rest := []) ⟨hx, hb, hml, hown, htg⟩ (c_Z_notThere l D z k b H.size u p0 hn48) (cwV 1 htg (xg_V0 xkin_Z_notThere xw_1045 xw_1047 xsel_Z_notThere xw_9) rfl rfl rfl (by decide +kernel) ⟨Nat.le_of_ble_eq_true rfl, Nat.le_of_ble_eq_true rfl⟩) ⟨xB_blind, xrecv_Z hK hP, fun U hU hW => xB_mk hP hK hD hE hS (xsubW hD hA hS) hU hW⟩ rfl rfl hl.1 rfl (lv_room (Nat.le_of_ble_eq_true rfl)) xd_Z_system_283 ⟨Nat.le_of_ble_eq_true rfl, Nat.le_of_ble_eq_true rfl⟩) hD hA hS (fun r u1 H locs hw hP hD hS => ?_)
                              obtain ⟨q47, hq47⟩ : ∃ q, q = xf_Z_notThere u p0 := ⟨_, rfl⟩
                              rw [← hq47] at hw
                              obtain rfl : r = q47.1 := congrArg Prod.fst hw
                              obtain rfl : u1 = q47.2 := congrArg Prod.snd hw
                              have hP : va_P D xCl (xWZ k b q47.2) H := hP
                              have hD : va_D A (xWZ k b q47.2) := hD
                              have hv := xlt_v hq47 hv
                              refine lv_if_eq (tgt := 293) hx hb xd_Z_system_286 rfl (fun h49 => ?_) (fun h49 => ?_)
                              · have hv := xit_v h49 hv
                                refine lv_iconst (v := 0) hx hb xd_Z_system_293 (by decide) ?_
                                exact hj38 H locs ls (0 : Int32) q47.2 (xif h39 (xit h40 (xlt_e hq44 (xif h46 (xlt_e hq47 (xit h49 rfl)))))) (xif h39 (xit h40 (xlt_e hq44 (xif h46 (xlt_e hq47 (xit h49 rfl)))))) hl hP hD hS
                              · have hv := xif_v h49 hv
                                refine lv_iconst (v := 1) hx hb xd_Z_system_289 (by decide) ?_
                                refine lv_goto (tgt := 294) hx hb xd_Z_system_290 rfl ?_
                                exact hj38 H locs ls (1 : Int32) q47.2 (xif h39 (xit h40 (xlt_e hq44 (xif h46 (xlt_e hq47 (xif h49 rfl)))))) (xif h39 (xit h40 (xlt_e hq44 (xif h46 (xlt_e hq47 (xif h49 rfl)))))) hl hP hD hS
                    · have hv := xit_v h21 hv
                      refine lv_aload_n hx hb xd_Z_system_191 rfl (lv_at hl 2 rfl) ?_
                      refine xget_Z_mode (v := (xg_Z_mode u)) hx hb htg hown hK hP (htg _ xw_731) rfl xd_Z_system_192 ?_
                      refine lv_iconst (v := 1) hx hb xd_Z_system_195 (by decide) ?_
                      obtain ⟨hva, hv⟩ := xan_v2 hv
                      have hj65 : ∀ (H : Heap) (locs : List Loc) (ls : Array Slot) (v63 : Int32) (v64 : XZ), v63 = (if (xg_Z_mode u) = 1 then (xlt (xf_Z_back_256 u : Int32 × XZ) fun q61 => q61.1) else (if (xg_Z_mode u) = 3 then (xlt (xf_Z_bit u (1536 : Int32) (22 : Int32) : Int32) fun q54 => if q54 = 0 then (xlt (xf_Z_back_512 u : Int32 × XZ) fun q59 => q59.1) else (xlt (xf_Z_notThere u p0 : Int32 × XZ) fun q57 => q57.1)) else (xlt (xf_Z_notThere u p0 : Int32 × XZ) fun q52 => q52.1))) → v64 = (if (xg_Z_mode u) = 1 then (xlt (xf_Z_back_256 u : Int32 × XZ) fun q61 => q61.2) else (if (xg_Z_mode u) = 3 then (xlt (xf_Z_bit u (1536 : Int32) (22 : Int32) : Int32) fun q54 => if q54 = 0 then (xlt (xf_Z_back_512 u : Int32 × XZ) fun q59 => q59.2) else (xlt (xf_Z_notThere u p0 : Int32 × XZ) fun q57 => q57.2)) else (xlt (xf_Z_notThere u p0 : Int32 × XZ) fun q52 => q52.2))) → lv_has ls 8 [(7, .int ((xus p0 (20 : Int32)))), (6, .int ((xus p0 (25 : Int32)))), (0, .ref ((b 0))), (1, .int p0), (2, .int p1), (3, .int p2), (4, .int p3), (5, .int p4)] → va_P D xCl (xWZ k b v64) H → va_D A (xWZ k b v64) → va_S A s.heap H locs → W p l e { frames := 11, cells := 0, slots := 0, locals := 299 } s m args below meth c H locs (0) (0) Q (F0 m 244 ls [.int v63]) := by
                        intro H locs ls v63 v64 hv63 hv64 hl hP hD hS
                        have hv := xlt_v hv63 hv
                        have hv := xlt_v hv64 hv
                        exact hret _ v64 H locs ls _ (xnar (X01_of hv63 (xit_01 (xlt_01 (fun q61 hq61 => (X01_ofp hq61 (xt01_Z_back_256 u)))) (xit_01 (xlt_01 (fun q54 hq54 => (xit_01 (xlt_01 (fun q59 hq59 => (X01_ofp hq59 (xt01_Z_back_512 u)))) (xlt_01 (fun q57 hq57 => (X01_ofp hq57 (xt01_Z_notThere u p0))))))) (xlt_01 (fun q52 hq52 => (X01_ofp hq52 (xt01_Z_notThere u p0)))))))) (by unfold xf_Z_system; exact (xif h1 (xit h2 (xit h3 (xif h4 (xif h5 (xif h17 (xit h18 (xif h19 (xif h20 (xit h21 (xlt_e hv63 (xlt_e hv64 rfl))))))))))))) hP hD hS xd_Z_system_244
                      have hv := hva
                      refine lv_icmp_ne (tgt := 209) hx hb xd_Z_system_196 rfl (fun h66 => ?_) (fun h66 => ?_)
                      · have hv := xif_v h66 hv
                        refine lv_aload_n hx hb xd_Z_system_209 rfl (lv_at hl 2 rfl) ?_
                        refine xget_Z_mode (v := (xg_Z_mode u)) hx hb htg hown hK hP (htg _ xw_731) rfl xd_Z_system_210 ?_
                        refine lv_iconst (v := 3) hx hb xd_Z_system_213 (by decide) ?_
                        refine lv_icmp_ne (tgt := 239) hx hb xd_Z_system_214 rfl (fun h67 => ?_) (fun h67 => ?_)
                        · have hv := xif_v h67 hv
                          refine lv_aload_n hx hb xd_Z_system_239 rfl (lv_at hl 2 rfl) ?_
                          refine lv_iload_n hx hb xd_Z_system_240 rfl (lv_at hl 3 rfl) ?_
                          obtain ⟨hn69, hv⟩ := xan_v hv
                          refine xcW_i (va_runV (As := [.int p0]) (rest := []) ⟨hx, hb, hml, hown, htg⟩ (c_Z_notThere l D z k b H.size u p0 hn69) (cwV 1 htg (xg_V0 xkin_Z_notThere xw_1045 xw_1047 xsel_Z_notThere xw_9) rfl rfl rfl (by decide +kernel) ⟨Nat.le_of_ble_eq_true rfl, Nat.le_of_ble_eq_true rfl⟩) ⟨xB_blind, xrecv_Z hK hP, fun U hU hW => xB_mk hP hK hD hE hS (xsubW hD hA hS) hU hW⟩ rfl rfl hl.1 rfl (lv_room (Nat.le_of_ble_eq_true rfl)) xd_Z_system_241 ⟨Nat.le_of_ble_eq_true rfl, Nat.le_of_ble_eq_true rfl⟩) hD hA hS (fun r u1 H locs hw hP hD hS => ?_)
                          obtain ⟨q68, hq68⟩ : ∃ q, q = xf_Z_notThere u p0 := ⟨_, rfl⟩
                          rw [← hq68] at hw
                          obtain rfl : r = q68.1 := congrArg Prod.fst hw
                          obtain rfl : u1 = q68.2 := congrArg Prod.snd hw
                          have hP : va_P D xCl (xWZ k b q68.2) H := hP
                          have hD : va_D A (xWZ k b q68.2) := hD
                          have hv := xlt_v hq68 hv
                          exact hj65 H locs ls q68.1 q68.2 (xif h66 (xif h67 (xlt_e hq68 rfl))) (xif h66 (xif h67 (xlt_e hq68 rfl))) hl hP hD hS
                        · have hv := xit_v h67 hv
                          refine lv_aload_n hx hb xd_Z_system_217 rfl (lv_at hl 2 rfl) ?_
                          refine lv_sipush (v := 1536) hx hb xd_Z_system_218 (by decide) ?_
                          refine lv_bipush (v := 22) hx hb xd_Z_system_221 (by decide) ?_
                          obtain ⟨hn71, hv⟩ := xan_v hv
                          refine xcW_i (va_runV (As := [.int 1536, .int 22]) (rest := []) ⟨hx, hb, hml, hown, htg⟩ (c_Z_bit l D z k b H.size u (1536 : Int32) (22 : Int32) hn71) (cwV 2 htg (xg_V0 xkin_Z_bit xw_867 xw_869 xsel_Z_bit xw_9) rfl rfl rfl (by decide +kernel) ⟨Nat.le_of_ble_eq_true rfl, Nat.le_of_ble_eq_true rfl⟩) ⟨xB_blind, xrecv_Z hK hP, fun U hU hW => xB_mk hP hK hD hE hS (xsubW hD hA hS) hU hW⟩ rfl rfl hl.1 rfl (lv_room (Nat.le_of_ble_eq_true rfl)) xd_Z_system_223 ⟨Nat.le_of_ble_eq_true rfl, Nat.le_of_ble_eq_true rfl⟩) hD hA hS (fun r u1 H locs hw hP hD hS => ?_)
                          obtain ⟨q70, hq70⟩ : ∃ q, q = xf_Z_bit u (1536 : Int32) (22 : Int32) := ⟨_, rfl⟩
                          obtain ⟨e1, e2⟩ := hw
                          rw [← hq70] at e1
                          obtain rfl : q70 = r := e1.symm
                          obtain rfl : u = u1 := e2.symm
                          have hP : va_P D xCl (xWZ k b u) H := hP
                          have hD : va_D A (xWZ k b u) := hD
                          have hv := xlt_v hq70 hv
                          refine lv_if_ne (tgt := 239) hx hb xd_Z_system_226 rfl (fun h72 => ?_) (fun h72 => ?_)
                          · have hv := xif_v h72 hv
                            refine lv_aload_n hx hb xd_Z_system_239 rfl (lv_at hl 2 rfl) ?_
                            refine lv_iload_n hx hb xd_Z_system_240 rfl (lv_at hl 3 rfl) ?_
                            obtain ⟨hn74, hv⟩ := xan_v hv
                            refine xcW_i (va_runV (As := [.int p0]) (rest := []) ⟨hx, hb, hml, hown, htg⟩ (c_Z_notThere l D z k b H.size u p0 hn74) (cwV 1 htg (xg_V0 xkin_Z_notThere xw_1045 xw_1047 xsel_Z_notThere xw_9) rfl rfl rfl (by decide +kernel) ⟨Nat.le_of_ble_eq_true rfl, Nat.le_of_ble_eq_true rfl⟩) ⟨xB_blind, xrecv_Z hK hP, fun U hU hW => xB_mk hP hK hD hE hS (xsubW hD hA hS) hU hW⟩ rfl rfl hl.1 rfl (lv_room (Nat.le_of_ble_eq_true rfl)) xd_Z_system_241 ⟨Nat.le_of_ble_eq_true rfl, Nat.le_of_ble_eq_true rfl⟩) hD hA hS (fun r u1 H locs hw hP hD hS => ?_)
                            obtain ⟨q73, hq73⟩ : ∃ q, q = xf_Z_notThere u p0 := ⟨_, rfl⟩
                            rw [← hq73] at hw
                            obtain rfl : r = q73.1 := congrArg Prod.fst hw
                            obtain rfl : u1 = q73.2 := congrArg Prod.snd hw
                            have hP : va_P D xCl (xWZ k b q73.2) H := hP
                            have hD : va_D A (xWZ k b q73.2) := hD
                            have hv := xlt_v hq73 hv
                            exact hj65 H locs ls q73.1 q73.2 (xif h66 (xit h67 (xlt_e hq70 (xif h72 (xlt_e hq73 rfl))))) (xif h66 (xit h67 (xlt_e hq70 (xif h72 (xlt_e hq73 rfl))))) hl hP hD hS
                          · have hv := xit_v h72 hv
                            refine lv_aload_n hx hb xd_Z_system_229 rfl (lv_at hl 2 rfl) ?_
                            refine lv_sipush (v := 512) hx hb xd_Z_system_230 (by decide) ?_
                            obtain ⟨hn76, hv⟩ := xan_v hv
                            refine xcW_i (va_runV (As := [.int 512]) (rest := []) ⟨hx, hb, hml, hown, htg⟩ (c_Z_back_512 l D z k b H.size u hn76) (cwV 1 htg (xg_V0 xkin_Z_back xw_1061 xw_1063 xsel_Z_back xw_9) rfl rfl rfl (by decide +kernel) ⟨Nat.le_of_ble_eq_true rfl, Nat.le_of_ble_eq_true rfl⟩) ⟨xB_blind, xrecv_Z hK hP, fun U hU hW => xB_mk hP hK hD hE hS (xsubW hD hA hS) hU hW⟩ rfl rfl hl.1 rfl (lv_room (Nat.le_of_ble_eq_true rfl)) xd_Z_system_233 ⟨Nat.le_of_ble_eq_true rfl, Nat.le_of_ble_eq_true rfl⟩) hD hA hS (fun r u1 H locs hw hP hD hS => ?_)
                            obtain ⟨q75, hq75⟩ : ∃ q, q = xf_Z_back_512 u := ⟨_, rfl⟩
                            rw [← hq75] at hw
                            obtain rfl : r = q75.1 := congrArg Prod.fst hw
                            obtain rfl : u1 = q75.2 := congrArg Prod.snd hw
                            have hP : va_P D xCl (xWZ k b q75.2) H := hP
                            have hD : va_D A (xWZ k b q75.2) := hD
                            have hv := xlt_v hq75 hv
                            refine lv_goto (tgt := 244) hx hb xd_Z_system_236 rfl ?_
                            exact hj65 H locs ls q75.1 q75.2 (xif h66 (xit h67 (xlt_e hq70 (xit h72 (xlt_e hq75 rfl))))) (xif h66 (xit h67 (xlt_e hq70 (xit h72 (xlt_e hq75 rfl))))) hl hP hD hS
                      · have hv := xit_v h66 hv
                        refine lv_aload_n hx hb xd_Z_system_199 rfl (lv_at hl 2 rfl) ?_
                        refine lv_sipush (v := 256) hx hb xd_Z_system_200 (by decide) ?_
                        obtain ⟨hn78, hv⟩ := xan_v hv
                        refine xcW_i (va_runV (As := [.int 256]) (rest := []) ⟨hx, hb, hml, hown, htg⟩ (c_Z_back_256 l D z k b H.size u hn78) (cwV 1 htg (xg_V0 xkin_Z_back xw_1061 xw_1063 xsel_Z_back xw_9) rfl rfl rfl (by decide +kernel) ⟨Nat.le_of_ble_eq_true rfl, Nat.le_of_ble_eq_true rfl⟩) ⟨xB_blind, xrecv_Z hK hP, fun U hU hW => xB_mk hP hK hD hE hS (xsubW hD hA hS) hU hW⟩ rfl rfl hl.1 rfl (lv_room (Nat.le_of_ble_eq_true rfl)) xd_Z_system_203 ⟨Nat.le_of_ble_eq_true rfl, Nat.le_of_ble_eq_true rfl⟩) hD hA hS (fun r u1 H locs hw hP hD hS => ?_)
                        obtain ⟨q77, hq77⟩ : ∃ q, q = xf_Z_back_256 u := ⟨_, rfl⟩
                        rw [← hq77] at hw
                        obtain rfl : r = q77.1 := congrArg Prod.fst hw
                        obtain rfl : u1 = q77.2 := congrArg Prod.snd hw
                        have hP : va_P D xCl (xWZ k b q77.2) H := hP
                        have hD : va_D A (xWZ k b q77.2) := hD
                        have hv := xlt_v hq77 hv
                        refine lv_goto (tgt := 244) hx hb xd_Z_system_206 rfl ?_
                        exact hj65 H locs ls q77.1 q77.2 (xit h66 (xlt_e hq77 rfl)) (xit h66 (xlt_e hq77 rfl)) hl hP hD hS
                  · have hv := xit_v h20 hv
                    refine lv_aload_n hx hb xd_Z_system_169 rfl (lv_at hl 2 rfl) ?_
                    refine lv_iconst (v := 3) hx hb xd_Z_system_170 (by decide) ?_
                    refine lv_aload_n hx hb xd_Z_system_171 rfl (lv_at hl 2 rfl) ?_
                    refine xget_Z_pc (v := (xg_Z_pc u)) hx hb htg hown hK hP (htg _ xw_730) rfl xd_Z_system_172 ?_
                    refine lv_aload_n hx hb xd_Z_system_175 rfl (lv_at hl 2 rfl) ?_
                    refine xcW_i (va_runV (As := []) (rest := [.int ((xg_Z_pc u)), .int 3, .ref ((b 0))]) ⟨hx, hb, hml, hown, htg⟩ (c_Z_isVirtual l D z k b H.size u) (cwV 0 htg (xg_V0 xkin_Z_isVirtual xw_917 xw_919 xsel_Z_isVirtual xw_9) rfl rfl rfl (by decide +kernel) ⟨Nat.le_of_ble_eq_true rfl, Nat.le_of_ble_eq_true rfl⟩) ⟨xB_blind, xrecv_Z hK hP, fun U hU hW => xB_mk hP hK hD hE hS (xsubW hD hA hS) hU hW⟩ rfl rfl hl.1 rfl (lv_room (Nat.le_of_ble_eq_true rfl)) xd_Z_system_176 ⟨Nat.le_of_ble_eq_true rfl, Nat.le_of_ble_eq_true rfl⟩) hD hA hS (fun r u1 H locs hw hP hD hS => ?_)
                    obtain ⟨q79, hq79⟩ : ∃ q, q = xf_Z_isVirtual u := ⟨_, rfl⟩
                    obtain ⟨e1, e2⟩ := hw
                    rw [← hq79] at e1
                    obtain rfl : q79 = r := e1.symm
                    obtain rfl : u = u1 := e2.symm
                    have hP : va_P D xCl (xWZ k b u) H := hP
                    have hD : va_D A (xWZ k b u) := hD
                    have hv := xlt_v hq79 hv
                    obtain ⟨hn81, hv⟩ := xan_v hv
                    refine xcW_i (va_runV (As := [.int 3, .int ((xg_Z_pc u)), .int q79]) (rest := []) ⟨hx, hb, hml, hown, htg⟩ (c_Z_fails l D z k b H.size u (3 : Int32) (xg_Z_pc u) q79 hn81) (cwV 3 htg (xg_V0 xkin_Z_fails xw_933 xw_935 xsel_Z_fails xw_9) rfl rfl rfl (by decide +kernel) ⟨Nat.le_of_ble_eq_true rfl, Nat.le_of_ble_eq_true rfl⟩) ⟨xB_blind, xrecv_Z hK hP, fun U hU hW => xB_mk hP hK hD hE hS (xsubW hD hA hS) hU hW⟩ rfl rfl hl.1 rfl (lv_room (Nat.le_of_ble_eq_true rfl)) xd_Z_system_179 ⟨Nat.le_of_ble_eq_true rfl, Nat.le_of_ble_eq_true rfl⟩) hD hA hS (fun r u1 H locs hw hP hD hS => ?_)
                    obtain ⟨q80, hq80⟩ : ∃ q, q = xf_Z_fails u (3 : Int32) (xg_Z_pc u) q79 := ⟨_, rfl⟩
                    rw [← hq80] at hw
                    obtain rfl : r = q80.1 := congrArg Prod.fst hw
                    obtain rfl : u1 = q80.2 := congrArg Prod.snd hw
                    have hP : va_P D xCl (xWZ k b q80.2) H := hP
                    have hD : va_D A (xWZ k b q80.2) := hD
                    have hv := xlt_v hq80 hv
                    exact hret _ q80.2 H locs ls _ (xnar (X01_ofp hq80 (xt01_Z_fails u (3 : Int32) (xg_Z_pc u) q79))) (by unfold xf_Z_system; exact (xif h1 (xit h2 (xit h3 (xif h4 (xif h5 (xif h17 (xit h18 (xif h19 (xit h20 (xlt_e hq79 (xlt_e hq80 rfl)))))))))))) hP hD hS xd_Z_system_182
                · have hv := xit_v h19 hv
                  refine lv_aload_n hx hb xd_Z_system_158 rfl (lv_at hl 2 rfl) ?_
                  obtain ⟨hn83, hv⟩ := xan_v hv
                  refine xcW_i (va_runV (As := []) (rest := []) ⟨hx, hb, hml, hown, htg⟩ (c_Z_call l D z k b H.size u hn83) (cwV 0 htg (xg_V0 xkin_Z_call xw_1057 xw_1059 xsel_Z_call xw_9) rfl rfl rfl (by decide +kernel) ⟨Nat.le_of_ble_eq_true rfl, Nat.le_of_ble_eq_true rfl⟩) ⟨xB_blind, xrecv_Z hK hP, fun U hU hW => xB_mk hP hK hD hE hS (xsubW hD hA hS) hU hW⟩ rfl rfl hl.1 rfl (lv_room (Nat.le_of_ble_eq_true rfl)) xd_Z_system_159 ⟨Nat.le_of_ble_eq_true rfl, Nat.le_of_ble_eq_true rfl⟩) hD hA hS (fun r u1 H locs hw hP hD hS => ?_)
                  obtain ⟨q82, hq82⟩ : ∃ q, q = xf_Z_call u := ⟨_, rfl⟩
                  rw [← hq82] at hw
                  obtain rfl : r = q82.1 := congrArg Prod.fst hw
                  obtain rfl : u1 = q82.2 := congrArg Prod.snd hw
                  have hP : va_P D xCl (xWZ k b q82.2) H := hP
                  have hD : va_D A (xWZ k b q82.2) := hD
                  have hv := xlt_v hq82 hv
                  exact hret _ q82.2 H locs ls _ (xnar (X01_ofp hq82 (xt01_Z_call u))) (by unfold xf_Z_system; exact (xif h1 (xit h2 (xit h3 (xif h4 (xif h5 (xif h17 (xit h18 (xit h19 (xlt_e hq82 rfl)))))))))) hP hD hS xd_Z_system_162
              · have hv := xif_v h18 hv
                refine lv_aload_n hx hb xd_Z_system_147 rfl (lv_at hl 2 rfl) ?_
                refine lv_iload_n hx hb xd_Z_system_148 rfl (lv_at hl 3 rfl) ?_
                obtain ⟨hn85, hv⟩ := xan_v hv
                refine xcW_i (va_runV (As := [.int p0]) (rest := []) ⟨hx, hb, hml, hown, htg⟩ (c_Z_illegal l D z k b H.size u p0 hn85) (cwV 1 htg (xg_V0 xkin_Z_illegal xw_990 xw_992 xsel_Z_illegal xw_9) rfl rfl rfl (by decide +kernel) ⟨Nat.le_of_ble_eq_true rfl, Nat.le_of_ble_eq_true rfl⟩) ⟨xB_blind, xrecv_Z hK hP, fun U hU hW => xB_mk hP hK hD hE hS (xsubW hD hA hS) hU hW⟩ rfl rfl hl.1 rfl (lv_room (Nat.le_of_ble_eq_true rfl)) xd_Z_system_149 ⟨Nat.le_of_ble_eq_true rfl, Nat.le_of_ble_eq_true rfl⟩) hD hA hS (fun r u1 H locs hw hP hD hS => ?_)
                obtain ⟨q84, hq84⟩ : ∃ q, q = xf_Z_illegal u p0 := ⟨_, rfl⟩
                rw [← hq84] at hw
                obtain rfl : r = q84.1 := congrArg Prod.fst hw
                obtain rfl : u1 = q84.2 := congrArg Prod.snd hw
                have hP : va_P D xCl (xWZ k b q84.2) H := hP
                have hD : va_D A (xWZ k b q84.2) := hD
                have hv := xlt_v hq84 hv
                exact hret _ q84.2 H locs ls _ (xnar (X01_ofp hq84 (xt01_Z_illegal u p0))) (by unfold xf_Z_system; exact (xif h1 (xit h2 (xit h3 (xif h4 (xif h5 (xif h17 (xif h18 (xlt_e hq84 rfl))))))))) hP hD hS xd_Z_system_152
            · have hv := xit_v h17 hv
              refine lv_aload_n hx hb xd_Z_system_115 rfl (lv_at hl 2 rfl) ?_
              refine xget_Z_mode (v := (xg_Z_mode u)) hx hb htg hown hK hP (htg _ xw_731) rfl xd_Z_system_116 ?_
              refine lv_iconst (v := 1) hx hb xd_Z_system_119 (by decide) ?_
              obtain ⟨hva, hv⟩ := xan_v2 hv
              have hj92 : ∀ (H : Heap) (locs : List Loc) (ls : Array Slot) (v90 : Int32) (v91 : XZ), v90 = (if (xg_Z_mode u) = 1 then (1) else (xlt (xf_Z_notThere u p0 : Int32 × XZ) fun q87 => if q87.1 = 0 then (0) else (1))) → v91 = (if (xg_Z_mode u) = 1 then (u) else (xlt (xf_Z_notThere u p0 : Int32 × XZ) fun q87 => if q87.1 = 0 then (q87.2) else (q87.2))) → lv_has ls 8 [(7, .int ((xus p0 (20 : Int32)))), (6, .int ((xus p0 (25 : Int32)))), (0, .ref ((b 0))), (1, .int p0), (2, .int p1), (3, .int p2), (4, .int p3), (5, .int p4)] → va_P D xCl (xWZ k b v91) H → va_D A (xWZ k b v91) → va_S A s.heap H locs → W p l e { frames := 11, cells := 0, slots := 0, locals := 299 } s m args below meth c H locs (0) (0) Q (F0 m 136 ls [.int v90]) := by
                intro H locs ls v90 v91 hv90 hv91 hl hP hD hS
                have hv := xlt_v hv90 hv
                have hv := xlt_v hv91 hv
                exact hret _ v91 H locs ls _ (xnar (X01_of hv90 (xit_01 (Or.inr rfl) (xlt_01 (fun q87 hq87 => (xit_01 (Or.inl rfl) (Or.inr rfl))))))) (by unfold xf_Z_system; exact (xif h1 (xit h2 (xit h3 (xif h4 (xif h5 (xit h17 (xlt_e hv90 (xlt_e hv91 rfl))))))))) hP hD hS xd_Z_system_136
              have hv := hva
              refine lv_icmp_eq (tgt := 131) hx hb xd_Z_system_120 rfl (fun h93 => ?_) (fun h93 => ?_)
              · have hv := xit_v h93 hv
                refine lv_iconst (v := 1) hx hb xd_Z_system_131 (by decide) ?_
                refine lv_goto (tgt := 136) hx hb xd_Z_system_132 rfl ?_
                exact hj92 H locs ls (1 : Int32) u (xit h93 rfl) (xit h93 rfl) hl hP hD hS
              · have hv := xif_v h93 hv
                refine lv_aload_n hx hb xd_Z_system_123 rfl (lv_at hl 2 rfl) ?_
                refine lv_iload_n hx hb xd_Z_system_124 rfl (lv_at hl 3 rfl) ?_
                obtain ⟨hn95, hv⟩ := xan_v hv
                refine xcW_i (va_runV (As := [.int p0]) (rest := []) ⟨hx, hb, hml, hown, htg⟩ (c_Z_notThere l D z k b H.size u p0 hn95) (cwV 1 htg (xg_V0 xkin_Z_notThere xw_1045 xw_1047 xsel_Z_notThere xw_9) rfl rfl rfl (by decide +kernel) ⟨Nat.le_of_ble_eq_true rfl, Nat.le_of_ble_eq_true rfl⟩) ⟨xB_blind, xrecv_Z hK hP, fun U hU hW => xB_mk hP hK hD hE hS (xsubW hD hA hS) hU hW⟩ rfl rfl hl.1 rfl (lv_room (Nat.le_of_ble_eq_true rfl)) xd_Z_system_125 ⟨Nat.le_of_ble_eq_true rfl, Nat.le_of_ble_eq_true rfl⟩) hD hA hS (fun r u1 H locs hw hP hD hS => ?_)
                obtain ⟨q94, hq94⟩ : ∃ q, q = xf_Z_notThere u p0 := ⟨_, rfl⟩
                rw [← hq94] at hw
                obtain rfl : r = q94.1 := congrArg Prod.fst hw
                obtain rfl : u1 = q94.2 := congrArg Prod.snd hw
                have hP : va_P D xCl (xWZ k b q94.2) H := hP
                have hD : va_D A (xWZ k b q94.2) := hD
                have hv := xlt_v hq94 hv
                refine lv_if_eq (tgt := 135) hx hb xd_Z_system_128 rfl (fun h96 => ?_) (fun h96 => ?_)
                · have hv := xit_v h96 hv
                  refine lv_iconst (v := 0) hx hb xd_Z_system_135 (by decide) ?_
                  exact hj92 H locs ls (0 : Int32) q94.2 (xif h93 (xlt_e hq94 (xit h96 rfl))) (xif h93 (xlt_e hq94 (xit h96 rfl))) hl hP hD hS
                · have hv := xif_v h96 hv
                  refine lv_iconst (v := 1) hx hb xd_Z_system_131 (by decide) ?_
                  refine lv_goto (tgt := 136) hx hb xd_Z_system_132 rfl ?_
                  exact hj92 H locs ls (1 : Int32) q94.2 (xif h93 (xlt_e hq94 (xif h96 rfl))) (xif h93 (xlt_e hq94 (xif h96 rfl))) hl hP hD hS
        · have hv := xit_v h4 hv
          refine lv_aload_n hx hb xd_Z_system_59 rfl (lv_at hl 2 rfl) ?_
          refine xget_Z_mode (v := (xg_Z_mode u)) hx hb htg hown hK hP (htg _ xw_731) rfl xd_Z_system_60 ?_
          refine lv_iconst (v := 1) hx hb xd_Z_system_63 (by decide) ?_
          obtain ⟨hva, hv⟩ := xan_v2 hv
          have hj110 : ∀ (H : Heap) (locs : List Loc) (ls : Array Slot) (v108 : Int32) (v109 : XZ), v108 = (if (xg_Z_mode u) = 1 then (1) else (if (xg_Z_mode u) = 3 then (xlt (xf_Z_bit u (1536 : Int32) (20 : Int32) : Int32) fun q102 => if q102 = 0 then (1) else (xlt (xf_Z_notThere u p0 : Int32 × XZ) fun q105 => if q105.1 = 0 then (0) else (1))) else (xlt (xf_Z_notThere u p0 : Int32 × XZ) fun q99 => if q99.1 = 0 then (0) else (1)))) → v109 = (if (xg_Z_mode u) = 1 then (u) else (if (xg_Z_mode u) = 3 then (xlt (xf_Z_bit u (1536 : Int32) (20 : Int32) : Int32) fun q102 => if q102 = 0 then (u) else (xlt (xf_Z_notThere u p0 : Int32 × XZ) fun q105 => if q105.1 = 0 then (q105.2) else (q105.2))) else (xlt (xf_Z_notThere u p0 : Int32 × XZ) fun q99 => if q99.1 = 0 then (q99.2) else (q99.2)))) → lv_has ls 8 [(7, .int ((xus p0 (20 : Int32)))), (6, .int ((xus p0 (25 : Int32)))), (0, .ref ((b 0))), (1, .int p0), (2, .int p1), (3, .int p2), (4, .int p3), (5, .int p4)] → va_P D xCl (xWZ k b v109) H → va_D A (xWZ k b v109) → va_S A s.heap H locs → W p l e { frames := 11, cells := 0, slots := 0, locals := 299 } s m args below meth c H locs (0) (0) Q (F0 m 100 ls [.int v108]) := by
            intro H locs ls v108 v109 hv108 hv109 hl hP hD hS
            have hv := xlt_v hv108 hv
            have hv := xlt_v hv109 hv
            exact hret _ v109 H locs ls _ (xnar (X01_of hv108 (xit_01 (Or.inr rfl) (xit_01 (xlt_01 (fun q102 hq102 => (xit_01 (Or.inr rfl) (xlt_01 (fun q105 hq105 => (xit_01 (Or.inl rfl) (Or.inr rfl))))))) (xlt_01 (fun q99 hq99 => (xit_01 (Or.inl rfl) (Or.inr rfl)))))))) (by unfold xf_Z_system; exact (xif h1 (xit h2 (xit h3 (xit h4 (xlt_e hv108 (xlt_e hv109 rfl))))))) hP hD hS xd_Z_system_100
          have hv := hva
          refine lv_icmp_eq (tgt := 95) hx hb xd_Z_system_64 rfl (fun h111 => ?_) (fun h111 => ?_)
          · have hv := xit_v h111 hv
            refine lv_iconst (v := 1) hx hb xd_Z_system_95 (by decide) ?_
            refine lv_goto (tgt := 100) hx hb xd_Z_system_96 rfl ?_
            exact hj110 H locs ls (1 : Int32) u (xit h111 rfl) (xit h111 rfl) hl hP hD hS
          · have hv := xif_v h111 hv
            refine lv_aload_n hx hb xd_Z_system_67 rfl (lv_at hl 2 rfl) ?_
            refine xget_Z_mode (v := (xg_Z_mode u)) hx hb htg hown hK hP (htg _ xw_731) rfl xd_Z_system_68 ?_
            refine lv_iconst (v := 3) hx hb xd_Z_system_71 (by decide) ?_
            refine lv_icmp_ne (tgt := 87) hx hb xd_Z_system_72 rfl (fun h112 => ?_) (fun h112 => ?_)
            · have hv := xif_v h112 hv
              refine lv_aload_n hx hb xd_Z_system_87 rfl (lv_at hl 2 rfl) ?_
              refine lv_iload_n hx hb xd_Z_system_88 rfl (lv_at hl 3 rfl) ?_
              obtain ⟨hn114, hv⟩ := xan_v hv
              refine xcW_i (va_runV (As := [.int p0]) (rest := []) ⟨hx, hb, hml, hown, htg⟩ (c_Z_notThere l D z k b H.size u p0 hn114) (cwV 1 htg (xg_V0 xkin_Z_notThere xw_1045 xw_1047 xsel_Z_notThere xw_9) rfl rfl rfl (by decide +kernel) ⟨Nat.le_of_ble_eq_true rfl, Nat.le_of_ble_eq_true rfl⟩) ⟨xB_blind, xrecv_Z hK hP, fun U hU hW => xB_mk hP hK hD hE hS (xsubW hD hA hS) hU hW⟩ rfl rfl hl.1 rfl (lv_room (Nat.le_of_ble_eq_true rfl)) xd_Z_system_89 ⟨Nat.le_of_ble_eq_true rfl, Nat.le_of_ble_eq_true rfl⟩) hD hA hS (fun r u1 H locs hw hP hD hS => ?_)
              obtain ⟨q113, hq113⟩ : ∃ q, q = xf_Z_notThere u p0 := ⟨_, rfl⟩
              rw [← hq113] at hw
              obtain rfl : r = q113.1 := congrArg Prod.fst hw
              obtain rfl : u1 = q113.2 := congrArg Prod.snd hw
              have hP : va_P D xCl (xWZ k b q113.2) H := hP
              have hD : va_D A (xWZ k b q113.2) := hD
              have hv := xlt_v hq113 hv
              refine lv_if_eq (tgt := 99) hx hb xd_Z_system_92 rfl (fun h115 => ?_) (fun h115 => ?_)
              · have hv := xit_v h115 hv
                refine lv_iconst (v := 0) hx hb xd_Z_system_99 (by decide) ?_
                exact hj110 H locs ls (0 : Int32) q113.2 (xif h111 (xif h112 (xlt_e hq113 (xit h115 rfl)))) (xif h111 (xif h112 (xlt_e hq113 (xit h115 rfl)))) hl hP hD hS
              · have hv := xif_v h115 hv
                refine lv_iconst (v := 1) hx hb xd_Z_system_95 (by decide) ?_
                refine lv_goto (tgt := 100) hx hb xd_Z_system_96 rfl ?_
                exact hj110 H locs ls (1 : Int32) q113.2 (xif h111 (xif h112 (xlt_e hq113 (xif h115 rfl)))) (xif h111 (xif h112 (xlt_e hq113 (xif h115 rfl)))) hl hP hD hS
            · have hv := xit_v h112 hv
              refine lv_aload_n hx hb xd_Z_system_75 rfl (lv_at hl 2 rfl) ?_
              refine lv_sipush (v := 1536) hx hb xd_Z_system_76 (by decide) ?_
              refine lv_bipush (v := 20) hx hb xd_Z_system_79 (by decide) ?_
              obtain ⟨hn117, hv⟩ := xan_v hv
              refine xcW_i (va_runV (As := [.int 1536, .int 20]) (rest := []) ⟨hx, hb, hml, hown, htg⟩ (c_Z_bit l D z k b H.size u (1536 : Int32) (20 : Int32) hn117) (cwV 2 htg (xg_V0 xkin_Z_bit xw_867 xw_869 xsel_Z_bit xw_9) rfl rfl rfl (by decide +kernel) ⟨Nat.le_of_ble_eq_true rfl, Nat.le_of_ble_eq_true rfl⟩) ⟨xB_blind, xrecv_Z hK hP, fun U hU hW => xB_mk hP hK hD hE hS (xsubW hD hA hS) hU hW⟩ rfl rfl hl.1 rfl (lv_room (Nat.le_of_ble_eq_true rfl)) xd_Z_system_81 ⟨Nat.le_of_ble_eq_true rfl, Nat.le_of_ble_eq_true rfl⟩) hD hA hS (fun r u1 H locs hw hP hD hS => ?_)
              obtain ⟨q116, hq116⟩ : ∃ q, q = xf_Z_bit u (1536 : Int32) (20 : Int32) := ⟨_, rfl⟩
              obtain ⟨e1, e2⟩ := hw
              rw [← hq116] at e1
              obtain rfl : q116 = r := e1.symm
              obtain rfl : u = u1 := e2.symm
              have hP : va_P D xCl (xWZ k b u) H := hP
              have hD : va_D A (xWZ k b u) := hD
              have hv := xlt_v hq116 hv
              refine lv_if_eq (tgt := 95) hx hb xd_Z_system_84 rfl (fun h118 => ?_) (fun h118 => ?_)
              · have hv := xit_v h118 hv
                refine lv_iconst (v := 1) hx hb xd_Z_system_95 (by decide) ?_
                refine lv_goto (tgt := 100) hx hb xd_Z_system_96 rfl ?_
                exact hj110 H locs ls (1 : Int32) u (xif h111 (xit h112 (xlt_e hq116 (xit h118 rfl)))) (xif h111 (xit h112 (xlt_e hq116 (xit h118 rfl)))) hl hP hD hS
              · have hv := xif_v h118 hv
                refine lv_aload_n hx hb xd_Z_system_87 rfl (lv_at hl 2 rfl) ?_
                refine lv_iload_n hx hb xd_Z_system_88 rfl (lv_at hl 3 rfl) ?_
                obtain ⟨hn120, hv⟩ := xan_v hv
                refine xcW_i (va_runV (As := [.int p0]) (rest := []) ⟨hx, hb, hml, hown, htg⟩ (c_Z_notThere l D z k b H.size u p0 hn120) (cwV 1 htg (xg_V0 xkin_Z_notThere xw_1045 xw_1047 xsel_Z_notThere xw_9) rfl rfl rfl (by decide +kernel) ⟨Nat.le_of_ble_eq_true rfl, Nat.le_of_ble_eq_true rfl⟩) ⟨xB_blind, xrecv_Z hK hP, fun U hU hW => xB_mk hP hK hD hE hS (xsubW hD hA hS) hU hW⟩ rfl rfl hl.1 rfl (lv_room (Nat.le_of_ble_eq_true rfl)) xd_Z_system_89 ⟨Nat.le_of_ble_eq_true rfl, Nat.le_of_ble_eq_true rfl⟩) hD hA hS (fun r u1 H locs hw hP hD hS => ?_)
                obtain ⟨q119, hq119⟩ : ∃ q, q = xf_Z_notThere u p0 := ⟨_, rfl⟩
                rw [← hq119] at hw
                obtain rfl : r = q119.1 := congrArg Prod.fst hw
                obtain rfl : u1 = q119.2 := congrArg Prod.snd hw
                have hP : va_P D xCl (xWZ k b q119.2) H := hP
                have hD : va_D A (xWZ k b q119.2) := hD
                have hv := xlt_v hq119 hv
                refine lv_if_eq (tgt := 99) hx hb xd_Z_system_92 rfl (fun h121 => ?_) (fun h121 => ?_)
                · have hv := xit_v h121 hv
                  refine lv_iconst (v := 0) hx hb xd_Z_system_99 (by decide) ?_
                  exact hj110 H locs ls (0 : Int32) q119.2 (xif h111 (xit h112 (xlt_e hq116 (xif h118 (xlt_e hq119 (xit h121 rfl)))))) (xif h111 (xit h112 (xlt_e hq116 (xif h118 (xlt_e hq119 (xit h121 rfl)))))) hl hP hD hS
                · have hv := xif_v h121 hv
                  refine lv_iconst (v := 1) hx hb xd_Z_system_95 (by decide) ?_
                  refine lv_goto (tgt := 100) hx hb xd_Z_system_96 rfl ?_
                  exact hj110 H locs ls (1 : Int32) q119.2 (xif h111 (xit h112 (xlt_e hq116 (xif h118 (xlt_e hq119 (xif h121 rfl)))))) (xif h111 (xit h112 (xlt_e hq116 (xif h118 (xlt_e hq119 (xif h121 rfl)))))) hl hP hD hS
      · have hv := xif_v h3 hv
        refine lv_aload_n hx hb xd_Z_system_46 rfl (lv_at hl 2 rfl) ?_
        refine lv_iload_n hx hb xd_Z_system_47 rfl (lv_at hl 3 rfl) ?_
        obtain ⟨hn123, hv⟩ := xan_v hv
        refine xcW_i (va_runV (As := [.int p0]) (rest := []) ⟨hx, hb, hml, hown, htg⟩ (c_Z_illegal l D z k b H.size u p0 hn123) (cwV 1 htg (xg_V0 xkin_Z_illegal xw_990 xw_992 xsel_Z_illegal xw_9) rfl rfl rfl (by decide +kernel) ⟨Nat.le_of_ble_eq_true rfl, Nat.le_of_ble_eq_true rfl⟩) ⟨xB_blind, xrecv_Z hK hP, fun U hU hW => xB_mk hP hK hD hE hS (xsubW hD hA hS) hU hW⟩ rfl rfl hl.1 rfl (lv_room (Nat.le_of_ble_eq_true rfl)) xd_Z_system_48 ⟨Nat.le_of_ble_eq_true rfl, Nat.le_of_ble_eq_true rfl⟩) hD hA hS (fun r u1 H locs hw hP hD hS => ?_)
        obtain ⟨q122, hq122⟩ : ∃ q, q = xf_Z_illegal u p0 := ⟨_, rfl⟩
        rw [← hq122] at hw
        obtain rfl : r = q122.1 := congrArg Prod.fst hw
        obtain rfl : u1 = q122.2 := congrArg Prod.snd hw
        have hP : va_P D xCl (xWZ k b q122.2) H := hP
        have hD : va_D A (xWZ k b q122.2) := hD
        have hv := xlt_v hq122 hv
        exact hret _ q122.2 H locs ls _ (xnar (X01_ofp hq122 (xt01_Z_illegal u p0))) (by unfold xf_Z_system; exact (xif h1 (xit h2 (xif h3 (xlt_e hq122 rfl))))) hP hD hS xd_Z_system_51
    · have hv := xif_v h2 hv
      refine lv_aload_n hx hb xd_Z_system_20 rfl (lv_at hl 0 rfl) ?_
      refine lv_iload_n hx hb xd_Z_system_21 rfl (lv_at hl 1 rfl) ?_
      refine lv_iload_n hx hb xd_Z_system_22 rfl (lv_at hl 2 rfl) ?_
      refine lv_iload_n hx hb xd_Z_system_23 rfl (lv_at hl 3 rfl) ?_
      refine lv_iload hx hb xd_Z_system_24 (lv_at hl 4 rfl) ?_
      obtain ⟨hn125, hv⟩ := xan_v hv
      refine xcW_i (va_runV (As := [.int p0, .int p1, .int p2, .int p3]) (rest := []) ⟨hx, hb, hml, hown, htg⟩ (c_Z_control l D z k b H.size u p0 p1 p2 p3 hn125) (cwV 4 htg (xg_V0 xkin_Z_control xw_1049 xw_1051 xsel_Z_control xw_9) rfl rfl rfl (by decide +kernel) ⟨Nat.le_of_ble_eq_true rfl, Nat.le_of_ble_eq_true rfl⟩) ⟨xB_blind, xrecv_Z hK hP, fun U hU hW => xB_mk hP hK hD hE hS (xsubW hD hA hS) hU hW⟩ rfl rfl hl.1 rfl (lv_room (Nat.le_of_ble_eq_true rfl)) xd_Z_system_26 ⟨Nat.le_of_ble_eq_true rfl, Nat.le_of_ble_eq_true rfl⟩) hD hA hS (fun r u1 H locs hw hP hD hS => ?_)
      obtain ⟨q124, hq124⟩ : ∃ q, q = xf_Z_control u p0 p1 p2 p3 := ⟨_, rfl⟩
      rw [← hq124] at hw
      obtain rfl : r = q124.1 := congrArg Prod.fst hw
      obtain rfl : u1 = q124.2 := congrArg Prod.snd hw
      have hP : va_P D xCl (xWZ k b q124.2) H := hP
      have hD : va_D A (xWZ k b q124.2) := hD
      have hv := xlt_v hq124 hv
      exact hret _ q124.2 H locs ls _ (xnar (X01_ofp hq124 (xt01_Z_control u p0 p1 p2 p3))) (by unfold xf_Z_system; exact (xif h1 (xif h2 (xlt_e hq124 rfl)))) hP hD hS xd_Z_system_29
  · have hv := xit_v h1 hv
    refine lv_aload_n hx hb xd_Z_system_5 rfl (lv_at hl 0 rfl) ?_
    refine lv_iload_n hx hb xd_Z_system_6 rfl (lv_at hl 1 rfl) ?_
    refine lv_iload_n hx hb xd_Z_system_7 rfl (lv_at hl 2 rfl) ?_
    refine lv_iload hx hb xd_Z_system_8 (lv_at hl 4 rfl) ?_
    refine lv_iload hx hb xd_Z_system_10 (lv_at hl 5 rfl) ?_
    obtain ⟨hn127, hv⟩ := xan_v hv
    refine xcW_i (va_runV (As := [.int p0, .int p1, .int p3, .int p4]) (rest := []) ⟨hx, hb, hml, hown, htg⟩ (c_Z_asIfVirtual l D z k b H.size u p0 p1 p3 p4 hn127) (cwV 4 htg (xg_V0 xkin_Z_asIfVirtual xw_1041 xw_1043 xsel_Z_asIfVirtual xw_9) rfl rfl rfl (by decide +kernel) ⟨Nat.le_of_ble_eq_true rfl, Nat.le_of_ble_eq_true rfl⟩) ⟨xB_blind, xrecv_Z hK hP, fun U hU hW => xB_mk hP hK hD hE hS (xsubW hD hA hS) hU hW⟩ rfl rfl hl.1 rfl (lv_room (Nat.le_of_ble_eq_true rfl)) xd_Z_system_12 ⟨Nat.le_of_ble_eq_true rfl, Nat.le_of_ble_eq_true rfl⟩) hD hA hS (fun r u1 H locs hw hP hD hS => ?_)
    obtain ⟨q126, hq126⟩ : ∃ q, q = xf_Z_asIfVirtual u p0 p1 p3 p4 := ⟨_, rfl⟩
    rw [← hq126] at hw
    obtain rfl : r = q126.1 := congrArg Prod.fst hw
    obtain rfl : u1 = q126.2 := congrArg Prod.snd hw
    have hP : va_P D xCl (xWZ k b q126.2) H := hP
    have hD : va_D A (xWZ k b q126.2) := hD
    have hv := xlt_v hq126 hv
    exact hret _ q126.2 H locs ls _ (xnar (X01_ofp hq126 (xt01_Z_asIfVirtual u p0 p1 p3 p4))) (by unfold xf_Z_system; exact (xit h1 (xlt_e hq126 rfl))) hP hD hS xd_Z_system_15
theorem xt01_Z_system (u : XZ) (p0 : Int32) (p1 : Int32) (p2 : Int32) (p3 : Int32) (p4 : Int32) : X01p (xf_Z_system u p0 p1 p2 p3 p4) := by unfold xf_Z_system; exact (xit_01p (xlt_01p (fun q126 hq126 => (X01_ofp hq126 (xt01_Z_asIfVirtual u p0 p1 p3 p4)))) (xit_01p (xit_01p (xit_01p (xlt_01p (fun v108 hv108 => (xlt_01p (fun v109 hv109 => (X01_of hv108 (xit_01 (Or.inr rfl) (xit_01 (xlt_01 (fun q102 hq102 => (xit_01 (Or.inr rfl) (xlt_01 (fun q105 hq105 => (xit_01 (Or.inl rfl) (Or.inr rfl))))))) (xlt_01 (fun q99 hq99 => (xit_01 (Or.inl rfl) (Or.inr rfl))))))))))) (xit_01p (xlt_01p (fun v10 hv10 => (xlt_01p (fun v11 hv11 => (X01_of hv10 (xit_01 (Or.inr rfl) (xlt_01 (fun q7 hq7 => (xit_01 (Or.inl rfl) (Or.inr rfl)))))))))) (xit_01p (xlt_01p (fun v90 hv90 => (xlt_01p (fun v91 hv91 => (X01_of hv90 (xit_01 (Or.inr rfl) (xlt_01 (fun q87 hq87 => (xit_01 (Or.inl rfl) (Or.inr rfl)))))))))) (xit_01p (xit_01p (xlt_01p (fun q82 hq82 => (X01_ofp hq82 (xt01_Z_call u)))) (xit_01p (xlt_01p (fun q79 hq79 => (xlt_01p (fun q80 hq80 => (X01_ofp hq80 (xt01_Z_fails u (3 : Int32) (xg_Z_pc u) q79)))))) (xit_01p (xlt_01p (fun v63 hv63 => (xlt_01p (fun v64 hv64 => (X01_of hv63 (xit_01 (xlt_01 (fun q61 hq61 => (X01_ofp hq61 (xt01_Z_back_256 u)))) (xit_01 (xlt_01 (fun q54 hq54 => (xit_01 (xlt_01 (fun q59 hq59 => (X01_ofp hq59 (xt01_Z_back_512 u)))) (xlt_01 (fun q57 hq57 => (X01_ofp hq57 (xt01_Z_notThere u p0))))))) (xlt_01 (fun q52 hq52 => (X01_ofp hq52 (xt01_Z_notThere u p0))))))))))) (xit_01p (xlt_01p (fun v36 hv36 => (xlt_01p (fun v37 hv37 => (X01_of hv36 (xit_01 (Or.inr rfl) (xit_01 (xlt_01 (fun q30 hq30 => (xit_01 (Or.inr rfl) (xlt_01 (fun q33 hq33 => (xit_01 (Or.inl rfl) (Or.inr rfl))))))) (xlt_01 (fun q27 hq27 => (xit_01 (Or.inl rfl) (Or.inr rfl))))))))))) (xlt_01p (fun q23 hq23 => (X01_ofp hq23 (xt01_Z_illegal u p0)))))))) (xlt_01p (fun q84 hq84 => (X01_ofp hq84 (xt01_Z_illegal u p0)))))))) (xlt_01p (fun q122 hq122 => (X01_ofp hq122 (xt01_Z_illegal u p0))))) (xlt_01p (fun q124 hq124 => (X01_ofp hq124 (xt01_Z_control u p0 p1 p2 p3))))))

noncomputable def xf_Z_perform (u : XZ) (p0 : Int32) : Int32 × XZ :=
  if (p0 &&& (127 : Int32)) = 3 then
    xlt (if ((p0 >>> ((12 : Int32) &&& 31)) &&& (7 : Int32)) = 3 then (xlt (xf_Z_illegal (xs_Z_next u ((xg_Z_pc u) + (4 : Int32))) p0 : Int32 × XZ) fun q3 => q3.1) else (if ((p0 >>> ((12 : Int32) &&& 31)) &&& (7 : Int32)) ≤ 5 then (xlt (xf_Z_load (xs_Z_next u ((xg_Z_pc u) + (4 : Int32))) ((p0 >>> ((7 : Int32) &&& 31)) &&& (31 : Int32)) ((p0 >>> ((12 : Int32) &&& 31)) &&& (7 : Int32)) ((xg_Z_x u ((p0 >>> ((15 : Int32) &&& 31)) &&& (31 : Int32)).toNatClampNeg) + (p0 >>> ((20 : Int32) &&& 31))) : Int32 × XZ) fun q6 => q6.1) else (xlt (xf_Z_illegal (xs_Z_next u ((xg_Z_pc u) + (4 : Int32))) p0 : Int32 × XZ) fun q8 => q8.1)) : Int32) fun v10 =>
    xlt (if ((p0 >>> ((12 : Int32) &&& 31)) &&& (7 : Int32)) = 3 then (xlt (xf_Z_illegal (xs_Z_next u ((xg_Z_pc u) + (4 : Int32))) p0 : Int32 × XZ) fun q3 => q3.2) else (if ((p0 >>> ((12 : Int32) &&& 31)) &&& (7 : Int32)) ≤ 5 then (xlt (xf_Z_load (xs_Z_next u ((xg_Z_pc u) + (4 : Int32))) ((p0 >>> ((7 : Int32) &&& 31)) &&& (31 : Int32)) ((p0 >>> ((12 : Int32) &&& 31)) &&& (7 : Int32)) ((xg_Z_x u ((p0 >>> ((15 : Int32) &&& 31)) &&& (31 : Int32)).toNatClampNeg) + (p0 >>> ((20 : Int32) &&& 31))) : Int32 × XZ) fun q6 => q6.2) else (xlt (xf_Z_illegal (xs_Z_next u ((xg_Z_pc u) + (4 : Int32))) p0 : Int32 × XZ) fun q8 => q8.2)) : XZ) fun v11 =>
    (v10, v11)
  else
    if (p0 &&& (127 : Int32)) = 15 then
      xlt (if ((p0 >>> ((12 : Int32) &&& 31)) &&& (7 : Int32)) < 2 then (1) else (xlt (xf_Z_illegal (xs_Z_next u ((xg_Z_pc u) + (4 : Int32))) p0 : Int32 × XZ) fun q23 => if q23.1 = 0 then (0) else (1)) : Int32) fun v26 =>
      xlt (if ((p0 >>> ((12 : Int32) &&& 31)) &&& (7 : Int32)) < 2 then ((xs_Z_next u ((xg_Z_pc u) + (4 : Int32)))) else (xlt (xf_Z_illegal (xs_Z_next u ((xg_Z_pc u) + (4 : Int32))) p0 : Int32 × XZ) fun q23 => if q23.1 = 0 then (q23.2) else (q23.2)) : XZ) fun v27 =>
      (v26, v27)
    else
      if (p0 &&& (127 : Int32)) = 19 then
        xlt (xf_Z_small (xs_Z_next u ((xg_Z_pc u) + (4 : Int32))) p0 ((p0 >>> ((7 : Int32) &&& 31)) &&& (31 : Int32)) ((p0 >>> ((12 : Int32) &&& 31)) &&& (7 : Int32)) (xg_Z_x u ((p0 >>> ((15 : Int32) &&& 31)) &&& (31 : Int32)).toNatClampNeg) : Int32 × XZ) fun q34 =>
        (q34.1, q34.2)
      else
        if (p0 &&& (127 : Int32)) = 23 then
          xlt (xf_Z_put (xs_Z_next u ((xg_Z_pc u) + (4 : Int32))) ((p0 >>> ((7 : Int32) &&& 31)) &&& (31 : Int32)) ((xg_Z_pc (xs_Z_next u ((xg_Z_pc u) + (4 : Int32)))) + (p0 &&& (-4096 : Int32))) : Int32 × XZ) fun q37 =>
          (q37.1, q37.2)
        else
          if (p0 &&& (127 : Int32)) = 35 then
            xlt (if ((p0 >>> ((12 : Int32) &&& 31)) &&& (7 : Int32)) ≤ 2 then (xlt (xf_Z_store (xs_Z_next u ((xg_Z_pc u) + (4 : Int32))) ((1 : Int32) <<< (((p0 >>> ((12 : Int32) &&& 31)) &&& (7 : Int32)) &&& 31)) (((xg_Z_x u ((p0 >>> ((15 : Int32) &&& 31)) &&& (31 : Int32)).toNatClampNeg) + ((p0 >>> ((25 : Int32) &&& 31)) * (32 : Int32))) + ((p0 >>> ((7 : Int32) &&& 31)) &&& (31 : Int32))) (xg_Z_x u ((p0 >>> ((20 : Int32) &&& 31)) &&& (31 : Int32)).toNatClampNeg) : Int32 × XZ) fun q41 => q41.1) else (xlt (xf_Z_illegal (xs_Z_next u ((xg_Z_pc u) + (4 : Int32))) p0 : Int32 × XZ) fun q43 => q43.1) : Int32) fun v45 =>
            xlt (if ((p0 >>> ((12 : Int32) &&& 31)) &&& (7 : Int32)) ≤ 2 then (xlt (xf_Z_store (xs_Z_next u ((xg_Z_pc u) + (4 : Int32))) ((1 : Int32) <<< (((p0 >>> ((12 : Int32) &&& 31)) &&& (7 : Int32)) &&& 31)) (((xg_Z_x u ((p0 >>> ((15 : Int32) &&& 31)) &&& (31 : Int32)).toNatClampNeg) + ((p0 >>> ((25 : Int32) &&& 31)) * (32 : Int32))) + ((p0 >>> ((7 : Int32) &&& 31)) &&& (31 : Int32))) (xg_Z_x u ((p0 >>> ((20 : Int32) &&& 31)) &&& (31 : Int32)).toNatClampNeg) : Int32 × XZ) fun q41 => q41.2) else (xlt (xf_Z_illegal (xs_Z_next u ((xg_Z_pc u) + (4 : Int32))) p0 : Int32 × XZ) fun q43 => q43.2) : XZ) fun v46 =>
            (v45, v46)
          else
            if (p0 &&& (127 : Int32)) = 51 then
              xlt (xf_Z_pair (xs_Z_next u ((xg_Z_pc u) + (4 : Int32))) p0 ((p0 >>> ((7 : Int32) &&& 31)) &&& (31 : Int32)) ((p0 >>> ((12 : Int32) &&& 31)) &&& (7 : Int32)) (xg_Z_x u ((p0 >>> ((15 : Int32) &&& 31)) &&& (31 : Int32)).toNatClampNeg) (xg_Z_x u ((p0 >>> ((20 : Int32) &&& 31)) &&& (31 : Int32)).toNatClampNeg) : Int32 × XZ) fun q54 =>
              (q54.1, q54.2)
            else
              if (p0 &&& (127 : Int32)) = 55 then
                xlt (xf_Z_put (xs_Z_next u ((xg_Z_pc u) + (4 : Int32))) ((p0 >>> ((7 : Int32) &&& 31)) &&& (31 : Int32)) (p0 &&& (-4096 : Int32)) : Int32 × XZ) fun q57 =>
                (q57.1, q57.2)
              else
                if (p0 &&& (127 : Int32)) = 99 then
                  xlt (xf_Z_branch (xs_Z_next u ((xg_Z_pc u) + (4 : Int32))) p0 ((p0 >>> ((12 : Int32) &&& 31)) &&& (7 : Int32)) (xg_Z_x u ((p0 >>> ((15 : Int32) &&& 31)) &&& (31 : Int32)).toNatClampNeg) (xg_Z_x u ((p0 >>> ((20 : Int32) &&& 31)) &&& (31 : Int32)).toNatClampNeg) : Int32 × XZ) fun q60 =>
                  (q60.1, q60.2)
                else
                  if (p0 &&& (127 : Int32)) = 103 then
                    xlt (if ((p0 >>> ((12 : Int32) &&& 31)) &&& (7 : Int32)) = 0 then (xlt (xf_Z_go (xs_Z_next u ((xg_Z_pc u) + (4 : Int32))) (((xg_Z_x u ((p0 >>> ((15 : Int32) &&& 31)) &&& (31 : Int32)).toNatClampNeg) + (p0 >>> ((20 : Int32) &&& 31))) &&& (-2 : Int32)) : Int32 × XZ) fun q66 => if q66.1 = 0 then (0) else (xlt (xf_Z_put q66.2 ((p0 >>> ((7 : Int32) &&& 31)) &&& (31 : Int32)) ((xg_Z_pc q66.2) + (4 : Int32)) : Int32 × XZ) fun q69 => if q69.1 = 0 then (0) else (1))) else (xlt (xf_Z_illegal (xs_Z_next u ((xg_Z_pc u) + (4 : Int32))) p0 : Int32 × XZ) fun q64 => q64.1) : Int32) fun v72 =>
                    xlt (if ((p0 >>> ((12 : Int32) &&& 31)) &&& (7 : Int32)) = 0 then (xlt (xf_Z_go (xs_Z_next u ((xg_Z_pc u) + (4 : Int32))) (((xg_Z_x u ((p0 >>> ((15 : Int32) &&& 31)) &&& (31 : Int32)).toNatClampNeg) + (p0 >>> ((20 : Int32) &&& 31))) &&& (-2 : Int32)) : Int32 × XZ) fun q66 => if q66.1 = 0 then (q66.2) else (xlt (xf_Z_put q66.2 ((p0 >>> ((7 : Int32) &&& 31)) &&& (31 : Int32)) ((xg_Z_pc q66.2) + (4 : Int32)) : Int32 × XZ) fun q69 => if q69.1 = 0 then (q69.2) else (q69.2))) else (xlt (xf_Z_illegal (xs_Z_next u ((xg_Z_pc u) + (4 : Int32))) p0 : Int32 × XZ) fun q64 => q64.2) : XZ) fun v73 =>
                    (v72, v73)
                  else
                    if (p0 &&& (127 : Int32)) = 111 then
                      xlt (xf_Z_jump p0 : Int32) fun r85 =>
                      xlt (xf_Z_go (xs_Z_next u ((xg_Z_pc u) + (4 : Int32))) ((xg_Z_pc (xs_Z_next u ((xg_Z_pc u) + (4 : Int32)))) + r85) : Int32 × XZ) fun q86 =>
                      xlt (if q86.1 = 0 then (0) else (xlt (xf_Z_put q86.2 ((p0 >>> ((7 : Int32) &&& 31)) &&& (31 : Int32)) ((xg_Z_pc q86.2) + (4 : Int32)) : Int32 × XZ) fun q89 => if q89.1 = 0 then (0) else (1)) : Int32) fun v92 =>
                      xlt (if q86.1 = 0 then (q86.2) else (xlt (xf_Z_put q86.2 ((p0 >>> ((7 : Int32) &&& 31)) &&& (31 : Int32)) ((xg_Z_pc q86.2) + (4 : Int32)) : Int32 × XZ) fun q89 => if q89.1 = 0 then (q89.2) else (q89.2)) : XZ) fun v93 =>
                      (v92, v93)
                    else
                      if (p0 &&& (127 : Int32)) = 115 then
                        xlt (xf_Z_system (xs_Z_next u ((xg_Z_pc u) + (4 : Int32))) p0 ((p0 >>> ((7 : Int32) &&& 31)) &&& (31 : Int32)) ((p0 >>> ((12 : Int32) &&& 31)) &&& (7 : Int32)) (xg_Z_x u ((p0 >>> ((15 : Int32) &&& 31)) &&& (31 : Int32)).toNatClampNeg) (xg_Z_x u ((p0 >>> ((20 : Int32) &&& 31)) &&& (31 : Int32)).toNatClampNeg) : Int32 × XZ) fun q100 =>
                        (q100.1, q100.2)
                      else
                        xlt (xf_Z_illegal (xs_Z_next u ((xg_Z_pc u) + (4 : Int32))) p0 : Int32 × XZ) fun q102 =>
                        (q102.1, q102.2)
def xv_Z_perform (u : XZ) (p0 : Int32) : Prop := XVc (
  if (p0 &&& (127 : Int32)) = 3 then
    (if ((p0 >>> ((12 : Int32) &&& 31)) &&& (7 : Int32)) = 3 then ((xv_Z_illegal (xs_Z_next u ((xg_Z_pc u) + (4 : Int32))) p0) ∧ (xlt (xf_Z_illegal (xs_Z_next u ((xg_Z_pc u) + (4 : Int32))) p0 : Int32 × XZ) fun q3 => True)) else (if ((p0 >>> ((12 : Int32) &&& 31)) &&& (7 : Int32)) ≤ 5 then ((xv_Z_load (xs_Z_next u ((xg_Z_pc u) + (4 : Int32))) ((p0 >>> ((7 : Int32) &&& 31)) &&& (31 : Int32)) ((p0 >>> ((12 : Int32) &&& 31)) &&& (7 : Int32)) ((xg_Z_x u ((p0 >>> ((15 : Int32) &&& 31)) &&& (31 : Int32)).toNatClampNeg) + (p0 >>> ((20 : Int32) &&& 31)))) ∧ (xlt (xf_Z_load (xs_Z_next u ((xg_Z_pc u) + (4 : Int32))) ((p0 >>> ((7 : Int32) &&& 31)) &&& (31 : Int32)) ((p0 >>> ((12 : Int32) &&& 31)) &&& (7 : Int32)) ((xg_Z_x u ((p0 >>> ((15 : Int32) &&& 31)) &&& (31 : Int32)).toNatClampNeg) + (p0 >>> ((20 : Int32) &&& 31))) : Int32 × XZ) fun q6 => True)) else ((xv_Z_illegal (xs_Z_next u ((xg_Z_pc u) + (4 : Int32))) p0) ∧ (xlt (xf_Z_illegal (xs_Z_next u ((xg_Z_pc u) + (4 : Int32))) p0 : Int32 × XZ) fun q8 => True)))) ∧
    xlt (if ((p0 >>> ((12 : Int32) &&& 31)) &&& (7 : Int32)) = 3 then (xlt (xf_Z_illegal (xs_Z_next u ((xg_Z_pc u) + (4 : Int32))) p0 : Int32 × XZ) fun q3 => q3.1) else (if ((p0 >>> ((12 : Int32) &&& 31)) &&& (7 : Int32)) ≤ 5 then (xlt (xf_Z_load (xs_Z_next u ((xg_Z_pc u) + (4 : Int32))) ((p0 >>> ((7 : Int32) &&& 31)) &&& (31 : Int32)) ((p0 >>> ((12 : Int32) &&& 31)) &&& (7 : Int32)) ((xg_Z_x u ((p0 >>> ((15 : Int32) &&& 31)) &&& (31 : Int32)).toNatClampNeg) + (p0 >>> ((20 : Int32) &&& 31))) : Int32 × XZ) fun q6 => q6.1) else (xlt (xf_Z_illegal (xs_Z_next u ((xg_Z_pc u) + (4 : Int32))) p0 : Int32 × XZ) fun q8 => q8.1)) : Int32) fun v10 =>
    xlt (if ((p0 >>> ((12 : Int32) &&& 31)) &&& (7 : Int32)) = 3 then (xlt (xf_Z_illegal (xs_Z_next u ((xg_Z_pc u) + (4 : Int32))) p0 : Int32 × XZ) fun q3 => q3.2) else (if ((p0 >>> ((12 : Int32) &&& 31)) &&& (7 : Int32)) ≤ 5 then (xlt (xf_Z_load (xs_Z_next u ((xg_Z_pc u) + (4 : Int32))) ((p0 >>> ((7 : Int32) &&& 31)) &&& (31 : Int32)) ((p0 >>> ((12 : Int32) &&& 31)) &&& (7 : Int32)) ((xg_Z_x u ((p0 >>> ((15 : Int32) &&& 31)) &&& (31 : Int32)).toNatClampNeg) + (p0 >>> ((20 : Int32) &&& 31))) : Int32 × XZ) fun q6 => q6.2) else (xlt (xf_Z_illegal (xs_Z_next u ((xg_Z_pc u) + (4 : Int32))) p0 : Int32 × XZ) fun q8 => q8.2)) : XZ) fun v11 =>
    True
  else
    if (p0 &&& (127 : Int32)) = 15 then
      (if ((p0 >>> ((12 : Int32) &&& 31)) &&& (7 : Int32)) < 2 then (True) else ((xv_Z_illegal (xs_Z_next u ((xg_Z_pc u) + (4 : Int32))) p0) ∧ (xlt (xf_Z_illegal (xs_Z_next u ((xg_Z_pc u) + (4 : Int32))) p0 : Int32 × XZ) fun q23 => if q23.1 = 0 then (True) else (True)))) ∧
      xlt (if ((p0 >>> ((12 : Int32) &&& 31)) &&& (7 : Int32)) < 2 then (1) else (xlt (xf_Z_illegal (xs_Z_next u ((xg_Z_pc u) + (4 : Int32))) p0 : Int32 × XZ) fun q23 => if q23.1 = 0 then (0) else (1)) : Int32) fun v26 =>
      xlt (if ((p0 >>> ((12 : Int32) &&& 31)) &&& (7 : Int32)) < 2 then ((xs_Z_next u ((xg_Z_pc u) + (4 : Int32)))) else (xlt (xf_Z_illegal (xs_Z_next u ((xg_Z_pc u) + (4 : Int32))) p0 : Int32 × XZ) fun q23 => if q23.1 = 0 then (q23.2) else (q23.2)) : XZ) fun v27 =>
      True
    else
      if (p0 &&& (127 : Int32)) = 19 then
        (xv_Z_small (xs_Z_next u ((xg_Z_pc u) + (4 : Int32))) p0 ((p0 >>> ((7 : Int32) &&& 31)) &&& (31 : Int32)) ((p0 >>> ((12 : Int32) &&& 31)) &&& (7 : Int32)) (xg_Z_x u ((p0 >>> ((15 : Int32) &&& 31)) &&& (31 : Int32)).toNatClampNeg)) ∧
        xlt (xf_Z_small (xs_Z_next u ((xg_Z_pc u) + (4 : Int32))) p0 ((p0 >>> ((7 : Int32) &&& 31)) &&& (31 : Int32)) ((p0 >>> ((12 : Int32) &&& 31)) &&& (7 : Int32)) (xg_Z_x u ((p0 >>> ((15 : Int32) &&& 31)) &&& (31 : Int32)).toNatClampNeg) : Int32 × XZ) fun q34 =>
        True
      else
        if (p0 &&& (127 : Int32)) = 23 then
          (xv_Z_put (xs_Z_next u ((xg_Z_pc u) + (4 : Int32))) ((p0 >>> ((7 : Int32) &&& 31)) &&& (31 : Int32)) ((xg_Z_pc (xs_Z_next u ((xg_Z_pc u) + (4 : Int32)))) + (p0 &&& (-4096 : Int32)))) ∧
          xlt (xf_Z_put (xs_Z_next u ((xg_Z_pc u) + (4 : Int32))) ((p0 >>> ((7 : Int32) &&& 31)) &&& (31 : Int32)) ((xg_Z_pc (xs_Z_next u ((xg_Z_pc u) + (4 : Int32)))) + (p0 &&& (-4096 : Int32))) : Int32 × XZ) fun q37 =>
          True
        else
          if (p0 &&& (127 : Int32)) = 35 then
            (if ((p0 >>> ((12 : Int32) &&& 31)) &&& (7 : Int32)) ≤ 2 then ((xv_Z_store (xs_Z_next u ((xg_Z_pc u) + (4 : Int32))) ((1 : Int32) <<< (((p0 >>> ((12 : Int32) &&& 31)) &&& (7 : Int32)) &&& 31)) (((xg_Z_x u ((p0 >>> ((15 : Int32) &&& 31)) &&& (31 : Int32)).toNatClampNeg) + ((p0 >>> ((25 : Int32) &&& 31)) * (32 : Int32))) + ((p0 >>> ((7 : Int32) &&& 31)) &&& (31 : Int32))) (xg_Z_x u ((p0 >>> ((20 : Int32) &&& 31)) &&& (31 : Int32)).toNatClampNeg)) ∧ (xlt (xf_Z_store (xs_Z_next u ((xg_Z_pc u) + (4 : Int32))) ((1 : Int32) <<< (((p0 >>> ((12 : Int32) &&& 31)) &&& (7 : Int32)) &&& 31)) (((xg_Z_x u ((p0 >>> ((15 : Int32) &&& 31)) &&& (31 : Int32)).toNatClampNeg) + ((p0 >>> ((25 : Int32) &&& 31)) * (32 : Int32))) + ((p0 >>> ((7 : Int32) &&& 31)) &&& (31 : Int32))) (xg_Z_x u ((p0 >>> ((20 : Int32) &&& 31)) &&& (31 : Int32)).toNatClampNeg) : Int32 × XZ) fun q41 => True)) else ((xv_Z_illegal (xs_Z_next u ((xg_Z_pc u) + (4 : Int32))) p0) ∧ (xlt (xf_Z_illegal (xs_Z_next u ((xg_Z_pc u) + (4 : Int32))) p0 : Int32 × XZ) fun q43 => True))) ∧
            xlt (if ((p0 >>> ((12 : Int32) &&& 31)) &&& (7 : Int32)) ≤ 2 then (xlt (xf_Z_store (xs_Z_next u ((xg_Z_pc u) + (4 : Int32))) ((1 : Int32) <<< (((p0 >>> ((12 : Int32) &&& 31)) &&& (7 : Int32)) &&& 31)) (((xg_Z_x u ((p0 >>> ((15 : Int32) &&& 31)) &&& (31 : Int32)).toNatClampNeg) + ((p0 >>> ((25 : Int32) &&& 31)) * (32 : Int32))) + ((p0 >>> ((7 : Int32) &&& 31)) &&& (31 : Int32))) (xg_Z_x u ((p0 >>> ((20 : Int32) &&& 31)) &&& (31 : Int32)).toNatClampNeg) : Int32 × XZ) fun q41 => q41.1) else (xlt (xf_Z_illegal (xs_Z_next u ((xg_Z_pc u) + (4 : Int32))) p0 : Int32 × XZ) fun q43 => q43.1) : Int32) fun v45 =>
            xlt (if ((p0 >>> ((12 : Int32) &&& 31)) &&& (7 : Int32)) ≤ 2 then (xlt (xf_Z_store (xs_Z_next u ((xg_Z_pc u) + (4 : Int32))) ((1 : Int32) <<< (((p0 >>> ((12 : Int32) &&& 31)) &&& (7 : Int32)) &&& 31)) (((xg_Z_x u ((p0 >>> ((15 : Int32) &&& 31)) &&& (31 : Int32)).toNatClampNeg) + ((p0 >>> ((25 : Int32) &&& 31)) * (32 : Int32))) + ((p0 >>> ((7 : Int32) &&& 31)) &&& (31 : Int32))) (xg_Z_x u ((p0 >>> ((20 : Int32) &&& 31)) &&& (31 : Int32)).toNatClampNeg) : Int32 × XZ) fun q41 => q41.2) else (xlt (xf_Z_illegal (xs_Z_next u ((xg_Z_pc u) + (4 : Int32))) p0 : Int32 × XZ) fun q43 => q43.2) : XZ) fun v46 =>
            True
          else
            if (p0 &&& (127 : Int32)) = 51 then
              (xv_Z_pair (xs_Z_next u ((xg_Z_pc u) + (4 : Int32))) p0 ((p0 >>> ((7 : Int32) &&& 31)) &&& (31 : Int32)) ((p0 >>> ((12 : Int32) &&& 31)) &&& (7 : Int32)) (xg_Z_x u ((p0 >>> ((15 : Int32) &&& 31)) &&& (31 : Int32)).toNatClampNeg) (xg_Z_x u ((p0 >>> ((20 : Int32) &&& 31)) &&& (31 : Int32)).toNatClampNeg)) ∧
              xlt (xf_Z_pair (xs_Z_next u ((xg_Z_pc u) + (4 : Int32))) p0 ((p0 >>> ((7 : Int32) &&& 31)) &&& (31 : Int32)) ((p0 >>> ((12 : Int32) &&& 31)) &&& (7 : Int32)) (xg_Z_x u ((p0 >>> ((15 : Int32) &&& 31)) &&& (31 : Int32)).toNatClampNeg) (xg_Z_x u ((p0 >>> ((20 : Int32) &&& 31)) &&& (31 : Int32)).toNatClampNeg) : Int32 × XZ) fun q54 =>
              True
            else
              if (p0 &&& (127 : Int32)) = 55 then
                (xv_Z_put (xs_Z_next u ((xg_Z_pc u) + (4 : Int32))) ((p0 >>> ((7 : Int32) &&& 31)) &&& (31 : Int32)) (p0 &&& (-4096 : Int32))) ∧
                xlt (xf_Z_put (xs_Z_next u ((xg_Z_pc u) + (4 : Int32))) ((p0 >>> ((7 : Int32) &&& 31)) &&& (31 : Int32)) (p0 &&& (-4096 : Int32)) : Int32 × XZ) fun q57 =>
                True
              else
                if (p0 &&& (127 : Int32)) = 99 then
                  (xv_Z_branch (xs_Z_next u ((xg_Z_pc u) + (4 : Int32))) p0 ((p0 >>> ((12 : Int32) &&& 31)) &&& (7 : Int32)) (xg_Z_x u ((p0 >>> ((15 : Int32) &&& 31)) &&& (31 : Int32)).toNatClampNeg) (xg_Z_x u ((p0 >>> ((20 : Int32) &&& 31)) &&& (31 : Int32)).toNatClampNeg)) ∧
                  xlt (xf_Z_branch (xs_Z_next u ((xg_Z_pc u) + (4 : Int32))) p0 ((p0 >>> ((12 : Int32) &&& 31)) &&& (7 : Int32)) (xg_Z_x u ((p0 >>> ((15 : Int32) &&& 31)) &&& (31 : Int32)).toNatClampNeg) (xg_Z_x u ((p0 >>> ((20 : Int32) &&& 31)) &&& (31 : Int32)).toNatClampNeg) : Int32 × XZ) fun q60 =>
                  True
                else
                  if (p0 &&& (127 : Int32)) = 103 then
                    (if ((p0 >>> ((12 : Int32) &&& 31)) &&& (7 : Int32)) = 0 then ((xv_Z_go (xs_Z_next u ((xg_Z_pc u) + (4 : Int32))) (((xg_Z_x u ((p0 >>> ((15 : Int32) &&& 31)) &&& (31 : Int32)).toNatClampNeg) + (p0 >>> ((20 : Int32) &&& 31))) &&& (-2 : Int32))) ∧ (xlt (xf_Z_go (xs_Z_next u ((xg_Z_pc u) + (4 : Int32))) (((xg_Z_x u ((p0 >>> ((15 : Int32) &&& 31)) &&& (31 : Int32)).toNatClampNeg) + (p0 >>> ((20 : Int32) &&& 31))) &&& (-2 : Int32)) : Int32 × XZ) fun q66 => if q66.1 = 0 then (True) else ((xv_Z_put q66.2 ((p0 >>> ((7 : Int32) &&& 31)) &&& (31 : Int32)) ((xg_Z_pc q66.2) + (4 : Int32))) ∧ (xlt (xf_Z_put q66.2 ((p0 >>> ((7 : Int32) &&& 31)) &&& (31 : Int32)) ((xg_Z_pc q66.2) + (4 : Int32)) : Int32 × XZ) fun q69 => if q69.1 = 0 then (True) else (True))))) else ((xv_Z_illegal (xs_Z_next u ((xg_Z_pc u) + (4 : Int32))) p0) ∧ (xlt (xf_Z_illegal (xs_Z_next u ((xg_Z_pc u) + (4 : Int32))) p0 : Int32 × XZ) fun q64 => True))) ∧
                    xlt (if ((p0 >>> ((12 : Int32) &&& 31)) &&& (7 : Int32)) = 0 then (xlt (xf_Z_go (xs_Z_next u ((xg_Z_pc u) + (4 : Int32))) (((xg_Z_x u ((p0 >>> ((15 : Int32) &&& 31)) &&& (31 : Int32)).toNatClampNeg) + (p0 >>> ((20 : Int32) &&& 31))) &&& (-2 : Int32)) : Int32 × XZ) fun q66 => if q66.1 = 0 then (0) else (xlt (xf_Z_put q66.2 ((p0 >>> ((7 : Int32) &&& 31)) &&& (31 : Int32)) ((xg_Z_pc q66.2) + (4 : Int32)) : Int32 × XZ) fun q69 => if q69.1 = 0 then (0) else (1))) else (xlt (xf_Z_illegal (xs_Z_next u ((xg_Z_pc u) + (4 : Int32))) p0 : Int32 × XZ) fun q64 => q64.1) : Int32) fun v72 =>
                    xlt (if ((p0 >>> ((12 : Int32) &&& 31)) &&& (7 : Int32)) = 0 then (xlt (xf_Z_go (xs_Z_next u ((xg_Z_pc u) + (4 : Int32))) (((xg_Z_x u ((p0 >>> ((15 : Int32) &&& 31)) &&& (31 : Int32)).toNatClampNeg) + (p0 >>> ((20 : Int32) &&& 31))) &&& (-2 : Int32)) : Int32 × XZ) fun q66 => if q66.1 = 0 then (q66.2) else (xlt (xf_Z_put q66.2 ((p0 >>> ((7 : Int32) &&& 31)) &&& (31 : Int32)) ((xg_Z_pc q66.2) + (4 : Int32)) : Int32 × XZ) fun q69 => if q69.1 = 0 then (q69.2) else (q69.2))) else (xlt (xf_Z_illegal (xs_Z_next u ((xg_Z_pc u) + (4 : Int32))) p0 : Int32 × XZ) fun q64 => q64.2) : XZ) fun v73 =>
                    True
                  else
                    if (p0 &&& (127 : Int32)) = 111 then
                      xlt (xf_Z_jump p0 : Int32) fun r85 =>
                      (xv_Z_go (xs_Z_next u ((xg_Z_pc u) + (4 : Int32))) ((xg_Z_pc (xs_Z_next u ((xg_Z_pc u) + (4 : Int32)))) + r85)) ∧
                      xlt (xf_Z_go (xs_Z_next u ((xg_Z_pc u) + (4 : Int32))) ((xg_Z_pc (xs_Z_next u ((xg_Z_pc u) + (4 : Int32)))) + r85) : Int32 × XZ) fun q86 =>
                      (if q86.1 = 0 then (True) else ((xv_Z_put q86.2 ((p0 >>> ((7 : Int32) &&& 31)) &&& (31 : Int32)) ((xg_Z_pc q86.2) + (4 : Int32))) ∧ (xlt (xf_Z_put q86.2 ((p0 >>> ((7 : Int32) &&& 31)) &&& (31 : Int32)) ((xg_Z_pc q86.2) + (4 : Int32)) : Int32 × XZ) fun q89 => if q89.1 = 0 then (True) else (True)))) ∧
                      xlt (if q86.1 = 0 then (0) else (xlt (xf_Z_put q86.2 ((p0 >>> ((7 : Int32) &&& 31)) &&& (31 : Int32)) ((xg_Z_pc q86.2) + (4 : Int32)) : Int32 × XZ) fun q89 => if q89.1 = 0 then (0) else (1)) : Int32) fun v92 =>
                      xlt (if q86.1 = 0 then (q86.2) else (xlt (xf_Z_put q86.2 ((p0 >>> ((7 : Int32) &&& 31)) &&& (31 : Int32)) ((xg_Z_pc q86.2) + (4 : Int32)) : Int32 × XZ) fun q89 => if q89.1 = 0 then (q89.2) else (q89.2)) : XZ) fun v93 =>
                      True
                    else
                      if (p0 &&& (127 : Int32)) = 115 then
                        (xv_Z_system (xs_Z_next u ((xg_Z_pc u) + (4 : Int32))) p0 ((p0 >>> ((7 : Int32) &&& 31)) &&& (31 : Int32)) ((p0 >>> ((12 : Int32) &&& 31)) &&& (7 : Int32)) (xg_Z_x u ((p0 >>> ((15 : Int32) &&& 31)) &&& (31 : Int32)).toNatClampNeg) (xg_Z_x u ((p0 >>> ((20 : Int32) &&& 31)) &&& (31 : Int32)).toNatClampNeg)) ∧
                        xlt (xf_Z_system (xs_Z_next u ((xg_Z_pc u) + (4 : Int32))) p0 ((p0 >>> ((7 : Int32) &&& 31)) &&& (31 : Int32)) ((p0 >>> ((12 : Int32) &&& 31)) &&& (7 : Int32)) (xg_Z_x u ((p0 >>> ((15 : Int32) &&& 31)) &&& (31 : Int32)).toNatClampNeg) (xg_Z_x u ((p0 >>> ((20 : Int32) &&& 31)) &&& (31 : Int32)).toNatClampNeg) : Int32 × XZ) fun q100 =>
                        True
                      else
                        (xv_Z_illegal (xs_Z_next u ((xg_Z_pc u) + (4 : Int32))) p0) ∧
                        xlt (xf_Z_illegal (xs_Z_next u ((xg_Z_pc u) + (4 : Int32))) p0 : Int32 × XZ) fun q102 =>
                        True)
set_option maxHeartbeats 4000000 in
set_option maxRecDepth 100000 in
theorem c_Z_perform (l : Launch) (D : va_G) (z : (Nat → Nat) × (Nat → Nat)) (k : ClassId × ClassId) (b : Nat → Nat) (sz : Nat) (u : XZ) (p0 : Int32) (hv : xv_Z_perform u p0) : Met l xy_Z_perform (xk_Z_perform :: lw_g) { frames := 12, cells := 0, slots := 0, locals := 326 } (va_Pc [.ref ((b 0)), .int p0] (xB D (xTy k) z sz (xWZ k b u))) (va_Qi (fun r (q : XZ) => (r, q) = xf_Z_perform u p0) (fun q t => xQ D (xTy k) (xWZ k b q) (va_A (xWZ k b u) sz) t) (va_A (xWZ k b u) sz)) 0 0 (va_A (xWZ k b u) sz) := by
  refine xopen_z (wf := fun q : XZ => xWZ k b q) (lv := [(0, .ref ((b 0))), (1, .int p0)]) (by decide) rfl (Nat.le_of_ble_eq_true rfl) ?_
  intro p e s m args below meth c Q ls A H locs hx hb hml htg hown hin hK hP hD hE hS hA hl hret
  unfold xv_Z_perform at hv
  refine lv_iload_n hx hb xd_Z_perform_0 rfl (lv_at hl 1 rfl) ?_
  refine lv_bipush (v := 7) hx hb xd_Z_perform_1 (by decide) ?_
  refine lv_ishr hx hb xd_Z_perform_3 ?_
  refine lv_bipush (v := 31) hx hb xd_Z_perform_4 (by decide) ?_
  refine lv_iand hx hb xd_Z_perform_6 ?_
  refine lv_istore_n (lv' := [(2, .int (((p0 >>> ((7 : Int32) &&& 31)) &&& (31 : Int32)))), (0, .ref ((b 0))), (1, .int p0)]) hx hb xd_Z_perform_7 rfl hl (by decide) rfl (fun ls hl => ?_)
  refine lv_iload_n hx hb xd_Z_perform_8 rfl (lv_at hl 2 rfl) ?_
  refine lv_bipush (v := 12) hx hb xd_Z_perform_9 (by decide) ?_
  refine lv_ishr hx hb xd_Z_perform_11 ?_
  refine lv_bipush (v := 7) hx hb xd_Z_perform_12 (by decide) ?_
  refine lv_iand hx hb xd_Z_perform_14 ?_
  refine lv_istore_n (lv' := [(3, .int (((p0 >>> ((12 : Int32) &&& 31)) &&& (7 : Int32)))), (2, .int (((p0 >>> ((7 : Int32) &&& 31)) &&& (31 : Int32)))), (0, .ref ((b 0))), (1, .int p0)]) hx hb xd_Z_perform_15 rfl hl (by decide) rfl (fun ls hl => ?_)
  refine lv_aload_n hx hb xd_Z_perform_16 rfl (lv_at hl 2 rfl) ?_
  refine xget_Z_x hx hb htg hown hK hP (htg _ xw_729) xd_Z_perform_17 ?_
  refine lv_iload_n hx hb xd_Z_perform_20 rfl (lv_at hl 3 rfl) ?_
  refine lv_bipush (v := 15) hx hb xd_Z_perform_21 (by decide) ?_
  refine lv_ishr hx hb xd_Z_perform_23 ?_
  refine lv_bipush (v := 31) hx hb xd_Z_perform_24 (by decide) ?_
  refine lv_iand hx hb xd_Z_perform_26 ?_
  refine xald_Z_x hx hb hK hP (pk_andIn _ 5 (by decide) (by decide)) xd_Z_perform_27 ?_
  refine lv_istore (lv' := [(4, .int ((xg_Z_x u ((p0 >>> ((15 : Int32) &&& 31)) &&& (31 : Int32)).toNatClampNeg))), (3, .int (((p0 >>> ((12 : Int32) &&& 31)) &&& (7 : Int32)))), (2, .int (((p0 >>> ((7 : Int32) &&& 31)) &&& (31 : Int32)))), (0, .ref ((b 0))), (1, .int p0)]) hx hb xd_Z_perform_28 hl (by decide) rfl (fun ls hl => ?_)
  refine lv_aload_n hx hb xd_Z_perform_30 rfl (lv_at hl 3 rfl) ?_
  refine xget_Z_x hx hb htg hown hK hP (htg _ xw_729) xd_Z_perform_31 ?_
  refine lv_iload_n hx hb xd_Z_perform_34 rfl (lv_at hl 4 rfl) ?_
  refine lv_bipush (v := 20) hx hb xd_Z_perform_35 (by decide) ?_
  refine lv_ishr hx hb xd_Z_perform_37 ?_
  refine lv_bipush (v := 31) hx hb xd_Z_perform_38 (by decide) ?_
  refine lv_iand hx hb xd_Z_perform_40 ?_
  refine xald_Z_x hx hb hK hP (pk_andIn _ 5 (by decide) (by decide)) xd_Z_perform_41 ?_
  refine lv_istore (lv' := [(5, .int ((xg_Z_x u ((p0 >>> ((20 : Int32) &&& 31)) &&& (31 : Int32)).toNatClampNeg))), (4, .int ((xg_Z_x u ((p0 >>> ((15 : Int32) &&& 31)) &&& (31 : Int32)).toNatClampNeg))), (3, .int (((p0 >>> ((12 : Int32) &&& 31)) &&& (7 : Int32)))), (2, .int (((p0 >>> ((7 : Int32) &&& 31)) &&& (31 : Int32)))), (0, .ref ((b 0))), (1, .int p0)]) hx hb xd_Z_perform_42 hl (by decide) rfl (fun ls hl => ?_)
  refine lv_aload_n hx hb xd_Z_perform_44 rfl (lv_at hl 4 rfl) ?_
  refine lv_aload_n hx hb xd_Z_perform_45 rfl (lv_at hl 4 rfl) ?_
  refine xget_Z_pc (v := (xg_Z_pc u)) hx hb htg hown hK hP (htg _ xw_730) rfl xd_Z_perform_46 ?_
  refine lv_iconst (v := 4) hx hb xd_Z_perform_49 (by decide) ?_
  refine lv_iadd hx hb xd_Z_perform_50 ?_
  refine xput_Z_next (v := ((xg_Z_pc u) + (4 : Int32))) hx hb htg hown hK hP hD hS (htg _ xw_753) xd_Z_perform_51 (fun H locs hP hD hS => ?_)
  refine lv_iload_n hx hb xd_Z_perform_54 rfl (lv_at hl 5 rfl) ?_
  refine lv_bipush (v := 127) hx hb xd_Z_perform_55 (by decide) ?_
  refine lv_iand hx hb xd_Z_perform_57 ?_
  refine (Decidable.em ((p0 &&& (127 : Int32)) = 3)).elim (fun h1 => ?_) (fun h1 => ?_)
  · have hv := xit_v h1 hv
    refine lv_lookup (tgt := 279) (off := 221) hx hb xd_Z_perform_58 (by decide +kernel) (by rw [h1]; decide +kernel) rfl ?_
    refine lv_iload_n hx hb xd_Z_perform_279 rfl (lv_at hl 2 rfl) ?_
    refine lv_iconst (v := 3) hx hb xd_Z_perform_280 (by decide) ?_
    obtain ⟨hva, hv⟩ := xan_v2 hv
    have hj12 : ∀ (H : Heap) (locs : List Loc) (ls : Array Slot) (v10 : Int32) (v11 : XZ), v10 = (if ((p0 >>> ((12 : Int32) &&& 31)) &&& (7 : Int32)) = 3 then (xlt (xf_Z_illegal (xs_Z_next u ((xg_Z_pc u) + (4 : Int32))) p0 : Int32 × XZ) fun q3 => q3.1) else (if ((p0 >>> ((12 : Int32) &&& 31)) &&& (7 : Int32)) ≤ 5 then (xlt (xf_Z_load (xs_Z_next u ((xg_Z_pc u) + (4 : Int32))) ((p0 >>> ((7 : Int32) &&& 31)) &&& (31 : Int32)) ((p0 >>> ((12 : Int32) &&& 31)) &&& (7 : Int32)) ((xg_Z_x u ((p0 >>> ((15 : Int32) &&& 31)) &&& (31 : Int32)).toNatClampNeg) + (p0 >>> ((20 : Int32) &&& 31))) : Int32 × XZ) fun q6 => q6.1) else (xlt (xf_Z_illegal (xs_Z_next u ((xg_Z_pc u) + (4 : Int32))) p0 : Int32 × XZ) fun q8 => q8.1))) → v11 = (if ((p0 >>> ((12 : Int32) &&& 31)) &&& (7 : Int32)) = 3 then (xlt (xf_Z_illegal (xs_Z_next u ((xg_Z_pc u) + (4 : Int32))) p0 : Int32 × XZ) fun q3 => q3.2) else (if ((p0 >>> ((12 : Int32) &&& 31)) &&& (7 : Int32)) ≤ 5 then (xlt (xf_Z_load (xs_Z_next u ((xg_Z_pc u) + (4 : Int32))) ((p0 >>> ((7 : Int32) &&& 31)) &&& (31 : Int32)) ((p0 >>> ((12 : Int32) &&& 31)) &&& (7 : Int32)) ((xg_Z_x u ((p0 >>> ((15 : Int32) &&& 31)) &&& (31 : Int32)).toNatClampNeg) + (p0 >>> ((20 : Int32) &&& 31))) : Int32 × XZ) fun q6 => q6.2) else (xlt (xf_Z_illegal (xs_Z_next u ((xg_Z_pc u) + (4 : Int32))) p0 : Int32 × XZ) fun q8 => q8.2))) → lv_has ls 6 [(5, .int ((xg_Z_x u ((p0 >>> ((20 : Int32) &&& 31)) &&& (31 : Int32)).toNatClampNeg))), (4, .int ((xg_Z_x u ((p0 >>> ((15 : Int32) &&& 31)) &&& (31 : Int32)).toNatClampNeg))), (3, .int (((p0 >>> ((12 : Int32) &&& 31)) &&& (7 : Int32)))), (2, .int (((p0 >>> ((7 : Int32) &&& 31)) &&& (31 : Int32)))), (0, .ref ((b 0))), (1, .int p0)] → va_P D xCl (xWZ k b v11) H → va_D A (xWZ k b v11) → va_S A s.heap H locs → W p l e { frames := 12, cells := 0, slots := 0, locals := 326 } s m args below meth c H locs (0) (0) Q (F0 m 310 ls [.int v10]) := by
      intro H locs ls v10 v11 hv10 hv11 hl hP hD hS
      have hv := xlt_v hv10 hv
      have hv := xlt_v hv11 hv
      exact hret _ v11 H locs ls _ (xnar (X01_of hv10 (xit_01 (xlt_01 (fun q3 hq3 => (X01_ofp hq3 (xt01_Z_illegal (xs_Z_next u ((xg_Z_pc u) + (4 : Int32))) p0)))) (xit_01 (xlt_01 (fun q6 hq6 => (X01_ofp hq6 (xt01_Z_load (xs_Z_next u ((xg_Z_pc u) + (4 : Int32))) ((p0 >>> ((7 : Int32) &&& 31)) &&& (31 : Int32)) ((p0 >>> ((12 : Int32) &&& 31)) &&& (7 : Int32)) ((xg_Z_x u ((p0 >>> ((15 : Int32) &&& 31)) &&& (31 : Int32)).toNatClampNeg) + (p0 >>> ((20 : Int32) &&& 31))))))) (xlt_01 (fun q8 hq8 => (X01_ofp hq8 (xt01_Z_illegal (xs_Z_next u ((xg_Z_pc u) + (4 : Int32))) p0)))))))) (by unfold xf_Z_perform; exact (xit h1 (xlt_e hv10 (xlt_e hv11 rfl)))) hP hD hS xd_Z_perform_310
    have hv := hva
    refine lv_icmp_eq (tgt := 289) hx hb xd_Z_perform_281 rfl (fun h13 => ?_) (fun h13 => ?_)
    · have hv := xit_v h13 hv
      refine lv_aload_n hx hb xd_Z_perform_289 rfl (lv_at hl 4 rfl) ?_
      refine lv_iload_n hx hb xd_Z_perform_290 rfl (lv_at hl 5 rfl) ?_
      obtain ⟨hn15, hv⟩ := xan_v hv
      refine xcW_i (va_runV (As := [.int p0]) (rest := []) ⟨hx, hb, hml, hown, htg⟩ (c_Z_illegal l D z k b H.size (xs_Z_next u ((xg_Z_pc u) + (4 : Int32))) p0 hn15) (cwV 1 htg (xg_V0 xkin_Z_illegal xw_990 xw_992 xsel_Z_illegal xw_9) rfl rfl rfl (by decide +kernel) ⟨Nat.le_of_ble_eq_true rfl, Nat.le_of_ble_eq_true rfl⟩) ⟨xB_blind, xrecv_Z hK hP, fun U hU hW => xB_mk hP hK hD hE hS (xsubW hD hA hS) hU hW⟩ rfl rfl hl.1 rfl (lv_room (Nat.le_of_ble_eq_true rfl)) xd_Z_perform_291 ⟨Nat.le_of_ble_eq_true rfl, Nat.le_of_ble_eq_true rfl⟩) hD hA hS (fun r u1 H locs hw hP hD hS => ?_)
      obtain ⟨q14, hq14⟩ : ∃ q, q = xf_Z_illegal (xs_Z_next u ((xg_Z_pc u) + (4 : Int32))) p0 := ⟨_, rfl⟩
      rw [← hq14] at hw
      obtain rfl : r = q14.1 := congrArg Prod.fst hw
      obtain rfl : u1 = q14.2 := congrArg Prod.snd hw
      have hP : va_P D xCl (xWZ k b q14.2) H := hP
      have hD : va_D A (xWZ k b q14.2) := hD
      have hv := xlt_v hq14 hv
      refine lv_goto (tgt := 310) hx hb xd_Z_perform_294 rfl ?_
      exact hj12 H locs ls q14.1 q14.2 (xit h13 (xlt_e hq14 rfl)) (xit h13 (xlt_e hq14 rfl)) hl hP hD hS
    · have hv := xif_v h13 hv
      refine lv_iload_n hx hb xd_Z_perform_284 rfl (lv_at hl 2 rfl) ?_
      refine lv_iconst (v := 5) hx hb xd_Z_perform_285 (by decide) ?_
      refine lv_icmp_le (tgt := 297) hx hb xd_Z_perform_286 rfl (fun h16 => ?_) (fun h16 => ?_)
      · have hv := xit_v h16 hv
        refine lv_aload_n hx hb xd_Z_perform_297 rfl (lv_at hl 4 rfl) ?_
        refine lv_iload_n hx hb xd_Z_perform_298 rfl (lv_at hl 3 rfl) ?_
        refine lv_iload_n hx hb xd_Z_perform_299 rfl (lv_at hl 2 rfl) ?_
        refine lv_iload hx hb xd_Z_perform_300 (lv_at hl 1 rfl) ?_
        refine lv_iload_n hx hb xd_Z_perform_302 rfl (lv_at hl 5 rfl) ?_
        refine lv_bipush (v := 20) hx hb xd_Z_perform_303 (by decide) ?_
        refine lv_ishr hx hb xd_Z_perform_305 ?_
        refine lv_iadd hx hb xd_Z_perform_306 ?_
        obtain ⟨hn18, hv⟩ := xan_v hv
        refine xcW_i (va_runV (As := [.int (((p0 >>> ((7 : Int32) &&& 31)) &&& (31 : Int32))), .int (((p0 >>> ((12 : Int32) &&& 31)) &&& (7 : Int32))), .int (((xg_Z_x u ((p0 >>> ((15 : Int32) &&& 31)) &&& (31 : Int32)).toNatClampNeg) + (p0 >>> ((20 : Int32) &&& 31))))]) (rest := []) ⟨hx, hb, hml, hown, htg⟩ (c_Z_load l D z k b H.size (xs_Z_next u ((xg_Z_pc u) + (4 : Int32))) ((p0 >>> ((7 : Int32) &&& 31)) &&& (31 : Int32)) ((p0 >>> ((12 : Int32) &&& 31)) &&& (7 : Int32)) ((xg_Z_x u ((p0 >>> ((15 : Int32) &&& 31)) &&& (31 : Int32)).toNatClampNeg) + (p0 >>> ((20 : Int32) &&& 31))) hn18) (cwV 3 htg (xg_V0 xkin_Z_load xw_1001 xw_1003 xsel_Z_load xw_9) rfl rfl rfl (by decide +kernel) ⟨Nat.le_of_ble_eq_true rfl, Nat.le_of_ble_eq_true rfl⟩) ⟨xB_blind, xrecv_Z hK hP, fun U hU hW => xB_mk hP hK hD hE hS (xsubW hD hA hS) hU hW⟩ rfl rfl hl.1 rfl (lv_room (Nat.le_of_ble_eq_true rfl)) xd_Z_perform_307 ⟨Nat.le_of_ble_eq_true rfl, Nat.le_of_ble_eq_true rfl⟩) hD hA hS (fun r u1 H locs hw hP hD hS => ?_)
        obtain ⟨q17, hq17⟩ : ∃ q, q = xf_Z_load (xs_Z_next u ((xg_Z_pc u) + (4 : Int32))) ((p0 >>> ((7 : Int32) &&& 31)) &&& (31 : Int32)) ((p0 >>> ((12 : Int32) &&& 31)) &&& (7 : Int32)) ((xg_Z_x u ((p0 >>> ((15 : Int32) &&& 31)) &&& (31 : Int32)).toNatClampNeg) + (p0 >>> ((20 : Int32) &&& 31))) := ⟨_, rfl⟩
        rw [← hq17] at hw
        obtain rfl : r = q17.1 := congrArg Prod.fst hw
        obtain rfl : u1 = q17.2 := congrArg Prod.snd hw
        have hP : va_P D xCl (xWZ k b q17.2) H := hP
        have hD : va_D A (xWZ k b q17.2) := hD
        have hv := xlt_v hq17 hv
        exact hj12 H locs ls q17.1 q17.2 (xif h13 (xit h16 (xlt_e hq17 rfl))) (xif h13 (xit h16 (xlt_e hq17 rfl))) hl hP hD hS
      · have hv := xif_v h16 hv
        refine lv_aload_n hx hb xd_Z_perform_289 rfl (lv_at hl 4 rfl) ?_
        refine lv_iload_n hx hb xd_Z_perform_290 rfl (lv_at hl 5 rfl) ?_
        obtain ⟨hn20, hv⟩ := xan_v hv
        refine xcW_i (va_runV (As := [.int p0]) (rest := []) ⟨hx, hb, hml, hown, htg⟩ (c_Z_illegal l D z k b H.size (xs_Z_next u ((xg_Z_pc u) + (4 : Int32))) p0 hn20) (cwV 1 htg (xg_V0 xkin_Z_illegal xw_990 xw_992 xsel_Z_illegal xw_9) rfl rfl rfl (by decide +kernel) ⟨Nat.le_of_ble_eq_true rfl, Nat.le_of_ble_eq_true rfl⟩) ⟨xB_blind, xrecv_Z hK hP, fun U hU hW => xB_mk hP hK hD hE hS (xsubW hD hA hS) hU hW⟩ rfl rfl hl.1 rfl (lv_room (Nat.le_of_ble_eq_true rfl)) xd_Z_perform_291 ⟨Nat.le_of_ble_eq_true rfl, Nat.le_of_ble_eq_true rfl⟩) hD hA hS (fun r u1 H locs hw hP hD hS => ?_)
        obtain ⟨q19, hq19⟩ : ∃ q, q = xf_Z_illegal (xs_Z_next u ((xg_Z_pc u) + (4 : Int32))) p0 := ⟨_, rfl⟩
        rw [← hq19] at hw
        obtain rfl : r = q19.1 := congrArg Prod.fst hw
        obtain rfl : u1 = q19.2 := congrArg Prod.snd hw
        have hP : va_P D xCl (xWZ k b q19.2) H := hP
        have hD : va_D A (xWZ k b q19.2) := hD
        have hv := xlt_v hq19 hv
        refine lv_goto (tgt := 310) hx hb xd_Z_perform_294 rfl ?_
        exact hj12 H locs ls q19.1 q19.2 (xif h13 (xif h16 (xlt_e hq19 rfl))) (xif h13 (xif h16 (xlt_e hq19 rfl))) hl hP hD hS
  · have hv := xif_v h1 hv
    refine (Decidable.em ((p0 &&& (127 : Int32)) = 15)).elim (fun h21 => ?_) (fun h21 => ?_)
    · have hv := xit_v h21 hv
      refine lv_lookup (tgt := 352) (off := 294) hx hb xd_Z_perform_58 (by decide +kernel) (by rw [h21]; decide +kernel) rfl ?_
      refine lv_iload_n hx hb xd_Z_perform_352 rfl (lv_at hl 2 rfl) ?_
      refine lv_iconst (v := 2) hx hb xd_Z_perform_353 (by decide) ?_
      obtain ⟨hva, hv⟩ := xan_v2 hv
      have hj28 : ∀ (H : Heap) (locs : List Loc) (ls : Array Slot) (v26 : Int32) (v27 : XZ), v26 = (if ((p0 >>> ((12 : Int32) &&& 31)) &&& (7 : Int32)) < 2 then (1) else (xlt (xf_Z_illegal (xs_Z_next u ((xg_Z_pc u) + (4 : Int32))) p0 : Int32 × XZ) fun q23 => if q23.1 = 0 then (0) else (1))) → v27 = (if ((p0 >>> ((12 : Int32) &&& 31)) &&& (7 : Int32)) < 2 then ((xs_Z_next u ((xg_Z_pc u) + (4 : Int32)))) else (xlt (xf_Z_illegal (xs_Z_next u ((xg_Z_pc u) + (4 : Int32))) p0 : Int32 × XZ) fun q23 => if q23.1 = 0 then (q23.2) else (q23.2))) → lv_has ls 6 [(5, .int ((xg_Z_x u ((p0 >>> ((20 : Int32) &&& 31)) &&& (31 : Int32)).toNatClampNeg))), (4, .int ((xg_Z_x u ((p0 >>> ((15 : Int32) &&& 31)) &&& (31 : Int32)).toNatClampNeg))), (3, .int (((p0 >>> ((12 : Int32) &&& 31)) &&& (7 : Int32)))), (2, .int (((p0 >>> ((7 : Int32) &&& 31)) &&& (31 : Int32)))), (0, .ref ((b 0))), (1, .int p0)] → va_P D xCl (xWZ k b v27) H → va_D A (xWZ k b v27) → va_S A s.heap H locs → W p l e { frames := 12, cells := 0, slots := 0, locals := 326 } s m args below meth c H locs (0) (0) Q (F0 m 370 ls [.int v26]) := by
        intro H locs ls v26 v27 hv26 hv27 hl hP hD hS
        have hv := xlt_v hv26 hv
        have hv := xlt_v hv27 hv
        exact hret _ v27 H locs ls _ (xnar (X01_of hv26 (xit_01 (Or.inr rfl) (xlt_01 (fun q23 hq23 => (xit_01 (Or.inl rfl) (Or.inr rfl))))))) (by unfold xf_Z_perform; exact (xif h1 (xit h21 (xlt_e hv26 (xlt_e hv27 rfl))))) hP hD hS xd_Z_perform_370
      have hv := hva
      refine lv_icmp_lt (tgt := 365) hx hb xd_Z_perform_354 rfl (fun h29 => ?_) (fun h29 => ?_)
      · have hv := xit_v h29 hv
        refine lv_iconst (v := 1) hx hb xd_Z_perform_365 (by decide) ?_
        refine lv_goto (tgt := 370) hx hb xd_Z_perform_366 rfl ?_
        exact hj28 H locs ls (1 : Int32) (xs_Z_next u ((xg_Z_pc u) + (4 : Int32))) (xit h29 rfl) (xit h29 rfl) hl hP hD hS
      · have hv := xif_v h29 hv
        refine lv_aload_n hx hb xd_Z_perform_357 rfl (lv_at hl 4 rfl) ?_
        refine lv_iload_n hx hb xd_Z_perform_358 rfl (lv_at hl 5 rfl) ?_
        obtain ⟨hn31, hv⟩ := xan_v hv
        refine xcW_i (va_runV (As := [.int p0]) (rest := []) ⟨hx, hb, hml, hown, htg⟩ (c_Z_illegal l D z k b H.size (xs_Z_next u ((xg_Z_pc u) + (4 : Int32))) p0 hn31) (cwV 1 htg (xg_V0 xkin_Z_illegal xw_990 xw_992 xsel_Z_illegal xw_9) rfl rfl rfl (by decide +kernel) ⟨Nat.le_of_ble_eq_true rfl, Nat.le_of_ble_eq_true rfl⟩) ⟨xB_blind, xrecv_Z hK hP, fun U hU hW => xB_mk hP hK hD hE hS (xsubW hD hA hS) hU hW⟩ rfl rfl hl.1 rfl (lv_room (Nat.le_of_ble_eq_true rfl)) xd_Z_perform_359 ⟨Nat.le_of_ble_eq_true rfl, Nat.le_of_ble_eq_true rfl⟩) hD hA hS (fun r u1 H locs hw hP hD hS => ?_)
        obtain ⟨q30, hq30⟩ : ∃ q, q = xf_Z_illegal (xs_Z_next u ((xg_Z_pc u) + (4 : Int32))) p0 := ⟨_, rfl⟩
        rw [← hq30] at hw
        obtain rfl : r = q30.1 := congrArg Prod.fst hw
        obtain rfl : u1 = q30.2 := congrArg Prod.snd hw
        have hP : va_P D xCl (xWZ k b q30.2) H := hP
        have hD : va_D A (xWZ k b q30.2) := hD
        have hv := xlt_v hq30 hv
        refine lv_if_eq (tgt := 369) hx hb xd_Z_perform_362 rfl (fun h32 => ?_) (fun h32 => ?_)
        · have hv := xit_v h32 hv
          refine lv_iconst (v := 0) hx hb xd_Z_perform_369 (by decide) ?_
          exact hj28 H locs ls (0 : Int32) q30.2 (xif h29 (xlt_e hq30 (xit h32 rfl))) (xif h29 (xlt_e hq30 (xit h32 rfl))) hl hP hD hS
        · have hv := xif_v h32 hv
          refine lv_iconst (v := 1) hx hb xd_Z_perform_365 (by decide) ?_
          refine lv_goto (tgt := 370) hx hb xd_Z_perform_366 rfl ?_
          exact hj28 H locs ls (1 : Int32) q30.2 (xif h29 (xlt_e hq30 (xif h32 rfl))) (xif h29 (xlt_e hq30 (xif h32 rfl))) hl hP hD hS
    · have hv := xif_v h21 hv
      refine (Decidable.em ((p0 &&& (127 : Int32)) = 19)).elim (fun h33 => ?_) (fun h33 => ?_)
      · have hv := xit_v h33 hv
        refine lv_lookup (tgt := 371) (off := 313) hx hb xd_Z_perform_58 (by decide +kernel) (by rw [h33]; decide +kernel) rfl ?_
        refine lv_aload_n hx hb xd_Z_perform_371 rfl (lv_at hl 4 rfl) ?_
        refine lv_iload_n hx hb xd_Z_perform_372 rfl (lv_at hl 5 rfl) ?_
        refine lv_iload_n hx hb xd_Z_perform_373 rfl (lv_at hl 3 rfl) ?_
        refine lv_iload_n hx hb xd_Z_perform_374 rfl (lv_at hl 2 rfl) ?_
        refine lv_iload hx hb xd_Z_perform_375 (lv_at hl 1 rfl) ?_
        obtain ⟨hn35, hv⟩ := xan_v hv
        refine xcW_i (va_runV (As := [.int p0, .int (((p0 >>> ((7 : Int32) &&& 31)) &&& (31 : Int32))), .int (((p0 >>> ((12 : Int32) &&& 31)) &&& (7 : Int32))), .int ((xg_Z_x u ((p0 >>> ((15 : Int32) &&& 31)) &&& (31 : Int32)).toNatClampNeg))]) (rest := []) ⟨hx, hb, hml, hown, htg⟩ (c_Z_small l D z k b H.size (xs_Z_next u ((xg_Z_pc u) + (4 : Int32))) p0 ((p0 >>> ((7 : Int32) &&& 31)) &&& (31 : Int32)) ((p0 >>> ((12 : Int32) &&& 31)) &&& (7 : Int32)) (xg_Z_x u ((p0 >>> ((15 : Int32) &&& 31)) &&& (31 : Int32)).toNatClampNeg) hn35) (cwV 4 htg (xg_V0 xkin_Z_small xw_1026 xw_1028 xsel_Z_small xw_9) rfl rfl rfl (by decide +kernel) ⟨Nat.le_of_ble_eq_true rfl, Nat.le_of_ble_eq_true rfl⟩) ⟨xB_blind, xrecv_Z hK hP, fun U hU hW => xB_mk hP hK hD hE hS (xsubW hD hA hS) hU hW⟩ rfl rfl hl.1 rfl (lv_room (Nat.le_of_ble_eq_true rfl)) xd_Z_perform_377 ⟨Nat.le_of_ble_eq_true rfl, Nat.le_of_ble_eq_true rfl⟩) hD hA hS (fun r u1 H locs hw hP hD hS => ?_)
        obtain ⟨q34, hq34⟩ : ∃ q, q = xf_Z_small (xs_Z_next u ((xg_Z_pc u) + (4 : Int32))) p0 ((p0 >>> ((7 : Int32) &&& 31)) &&& (31 : Int32)) ((p0 >>> ((12 : Int32) &&& 31)) &&& (7 : Int32)) (xg_Z_x u ((p0 >>> ((15 : Int32) &&& 31)) &&& (31 : Int32)).toNatClampNeg) := ⟨_, rfl⟩
        rw [← hq34] at hw
        obtain rfl : r = q34.1 := congrArg Prod.fst hw
        obtain rfl : u1 = q34.2 := congrArg Prod.snd hw
        have hP : va_P D xCl (xWZ k b q34.2) H := hP
        have hD : va_D A (xWZ k b q34.2) := hD
        have hv := xlt_v hq34 hv
        exact hret _ q34.2 H locs ls _ (xnar (X01_ofp hq34 (xt01_Z_small (xs_Z_next u ((xg_Z_pc u) + (4 : Int32))) p0 ((p0 >>> ((7 : Int32) &&& 31)) &&& (31 : Int32)) ((p0 >>> ((12 : Int32) &&& 31)) &&& (7 : Int32)) (xg_Z_x u ((p0 >>> ((15 : Int32) &&& 31)) &&& (31 : Int32)).toNatClampNeg)))) (by unfold xf_Z_perform; exact (xif h1 (xif h21 (xit h33 (xlt_e hq34 rfl))))) hP hD hS xd_Z_perform_380
      · have hv := xif_v h33 hv
        refine (Decidable.em ((p0 &&& (127 : Int32)) = 23)).elim (fun h36 => ?_) (fun h36 => ?_)
        · have hv := xit_v h36 hv
          refine lv_lookup (tgt := 167) (off := 109) hx hb xd_Z_perform_58 (by decide +kernel) (by rw [h36]; decide +kernel) rfl ?_
          refine lv_aload_n hx hb xd_Z_perform_167 rfl (lv_at hl 4 rfl) ?_
          refine lv_iload_n hx hb xd_Z_perform_168 rfl (lv_at hl 3 rfl) ?_
          refine lv_aload_n hx hb xd_Z_perform_169 rfl (lv_at hl 4 rfl) ?_
          refine xget_Z_pc (v := (xg_Z_pc (xs_Z_next u ((xg_Z_pc u) + (4 : Int32))))) hx hb htg hown hK hP (htg _ xw_730) rfl xd_Z_perform_170 ?_
          refine lv_iload_n hx hb xd_Z_perform_173 rfl (lv_at hl 5 rfl) ?_
          refine lv_sipush (v := (-4096)) hx hb xd_Z_perform_174 (by decide) ?_
          refine lv_iand hx hb xd_Z_perform_177 ?_
          refine lv_iadd hx hb xd_Z_perform_178 ?_
          obtain ⟨hn38, hv⟩ := xan_v hv
          refine xcW_i (va_runV (As := [.int (((p0 >>> ((7 : Int32) &&& 31)) &&& (31 : Int32))), .int (((xg_Z_pc (xs_Z_next u ((xg_Z_pc u) + (4 : Int32)))) + (p0 &&& (-4096 : Int32))))]) (rest := []) ⟨hx, hb, hml, hown, htg⟩ (c_Z_put l D z k b H.size (xs_Z_next u ((xg_Z_pc u) + (4 : Int32))) ((p0 >>> ((7 : Int32) &&& 31)) &&& (31 : Int32)) ((xg_Z_pc (xs_Z_next u ((xg_Z_pc u) + (4 : Int32)))) + (p0 &&& (-4096 : Int32))) hn38) (cwV 2 htg (xg_V0 xkin_Z_put xw_834 xw_836 xsel_Z_put xw_9) rfl rfl rfl (by decide +kernel) ⟨Nat.le_of_ble_eq_true rfl, Nat.le_of_ble_eq_true rfl⟩) ⟨xB_blind, xrecv_Z hK hP, fun U hU hW => xB_mk hP hK hD hE hS (xsubW hD hA hS) hU hW⟩ rfl rfl hl.1 rfl (lv_room (Nat.le_of_ble_eq_true rfl)) xd_Z_perform_179 ⟨Nat.le_of_ble_eq_true rfl, Nat.le_of_ble_eq_true rfl⟩) hD hA hS (fun r u1 H locs hw hP hD hS => ?_)
          obtain ⟨q37, hq37⟩ : ∃ q, q = xf_Z_put (xs_Z_next u ((xg_Z_pc u) + (4 : Int32))) ((p0 >>> ((7 : Int32) &&& 31)) &&& (31 : Int32)) ((xg_Z_pc (xs_Z_next u ((xg_Z_pc u) + (4 : Int32)))) + (p0 &&& (-4096 : Int32))) := ⟨_, rfl⟩
          rw [← hq37] at hw
          obtain rfl : r = q37.1 := congrArg Prod.fst hw
          obtain rfl : u1 = q37.2 := congrArg Prod.snd hw
          have hP : va_P D xCl (xWZ k b q37.2) H := hP
          have hD : va_D A (xWZ k b q37.2) := hD
          have hv := xlt_v hq37 hv
          exact hret _ q37.2 H locs ls _ (xnar (X01_ofp hq37 (xt01_Z_put (xs_Z_next u ((xg_Z_pc u) + (4 : Int32))) ((p0 >>> ((7 : Int32) &&& 31)) &&& (31 : Int32)) ((xg_Z_pc (xs_Z_next u ((xg_Z_pc u) + (4 : Int32)))) + (p0 &&& (-4096 : Int32)))))) (by unfold xf_Z_perform; exact (xif h1 (xif h21 (xif h33 (xit h36 (xlt_e hq37 rfl)))))) hP hD hS xd_Z_perform_182
        · have hv := xif_v h36 hv
          refine (Decidable.em ((p0 &&& (127 : Int32)) = 35)).elim (fun h39 => ?_) (fun h39 => ?_)
          · have hv := xit_v h39 hv
            refine lv_lookup (tgt := 311) (off := 253) hx hb xd_Z_perform_58 (by decide +kernel) (by rw [h39]; decide +kernel) rfl ?_
            refine lv_iload_n hx hb xd_Z_perform_311 rfl (lv_at hl 2 rfl) ?_
            refine lv_iconst (v := 2) hx hb xd_Z_perform_312 (by decide) ?_
            obtain ⟨hva, hv⟩ := xan_v2 hv
            have hj47 : ∀ (H : Heap) (locs : List Loc) (ls : Array Slot) (v45 : Int32) (v46 : XZ), v45 = (if ((p0 >>> ((12 : Int32) &&& 31)) &&& (7 : Int32)) ≤ 2 then (xlt (xf_Z_store (xs_Z_next u ((xg_Z_pc u) + (4 : Int32))) ((1 : Int32) <<< (((p0 >>> ((12 : Int32) &&& 31)) &&& (7 : Int32)) &&& 31)) (((xg_Z_x u ((p0 >>> ((15 : Int32) &&& 31)) &&& (31 : Int32)).toNatClampNeg) + ((p0 >>> ((25 : Int32) &&& 31)) * (32 : Int32))) + ((p0 >>> ((7 : Int32) &&& 31)) &&& (31 : Int32))) (xg_Z_x u ((p0 >>> ((20 : Int32) &&& 31)) &&& (31 : Int32)).toNatClampNeg) : Int32 × XZ) fun q41 => q41.1) else (xlt (xf_Z_illegal (xs_Z_next u ((xg_Z_pc u) + (4 : Int32))) p0 : Int32 × XZ) fun q43 => q43.1)) → v46 = (if ((p0 >>> ((12 : Int32) &&& 31)) &&& (7 : Int32)) ≤ 2 then (xlt (xf_Z_store (xs_Z_next u ((xg_Z_pc u) + (4 : Int32))) ((1 : Int32) <<< (((p0 >>> ((12 : Int32) &&& 31)) &&& (7 : Int32)) &&& 31)) (((xg_Z_x u ((p0 >>> ((15 : Int32) &&& 31)) &&& (31 : Int32)).toNatClampNeg) + ((p0 >>> ((25 : Int32) &&& 31)) * (32 : Int32))) + ((p0 >>> ((7 : Int32) &&& 31)) &&& (31 : Int32))) (xg_Z_x u ((p0 >>> ((20 : Int32) &&& 31)) &&& (31 : Int32)).toNatClampNeg) : Int32 × XZ) fun q41 => q41.2) else (xlt (xf_Z_illegal (xs_Z_next u ((xg_Z_pc u) + (4 : Int32))) p0 : Int32 × XZ) fun q43 => q43.2)) → lv_has ls 6 [(5, .int ((xg_Z_x u ((p0 >>> ((20 : Int32) &&& 31)) &&& (31 : Int32)).toNatClampNeg))), (4, .int ((xg_Z_x u ((p0 >>> ((15 : Int32) &&& 31)) &&& (31 : Int32)).toNatClampNeg))), (3, .int (((p0 >>> ((12 : Int32) &&& 31)) &&& (7 : Int32)))), (2, .int (((p0 >>> ((7 : Int32) &&& 31)) &&& (31 : Int32)))), (0, .ref ((b 0))), (1, .int p0)] → va_P D xCl (xWZ k b v46) H → va_D A (xWZ k b v46) → va_S A s.heap H locs → W p l e { frames := 12, cells := 0, slots := 0, locals := 326 } s m args below meth c H locs (0) (0) Q (F0 m 351 ls [.int v45]) := by
              intro H locs ls v45 v46 hv45 hv46 hl hP hD hS
              have hv := xlt_v hv45 hv
              have hv := xlt_v hv46 hv
              exact hret _ v46 H locs ls _ (xnar (X01_of hv45 (xit_01 (xlt_01 (fun q41 hq41 => (X01_ofp hq41 (xt01_Z_store (xs_Z_next u ((xg_Z_pc u) + (4 : Int32))) ((1 : Int32) <<< (((p0 >>> ((12 : Int32) &&& 31)) &&& (7 : Int32)) &&& 31)) (((xg_Z_x u ((p0 >>> ((15 : Int32) &&& 31)) &&& (31 : Int32)).toNatClampNeg) + ((p0 >>> ((25 : Int32) &&& 31)) * (32 : Int32))) + ((p0 >>> ((7 : Int32) &&& 31)) &&& (31 : Int32))) (xg_Z_x u ((p0 >>> ((20 : Int32) &&& 31)) &&& (31 : Int32)).toNatClampNeg))))) (xlt_01 (fun q43 hq43 => (X01_ofp hq43 (xt01_Z_illegal (xs_Z_next u ((xg_Z_pc u) + (4 : Int32))) p0))))))) (by unfold xf_Z_perform; exact (xif h1 (xif h21 (xif h33 (xif h36 (xit h39 (xlt_e hv45 (xlt_e hv46 rfl)))))))) hP hD hS xd_Z_perform_351
            have hv := hva
            refine lv_icmp_le (tgt := 324) hx hb xd_Z_perform_313 rfl (fun h48 => ?_) (fun h48 => ?_)
            · have hv := xit_v h48 hv
              refine lv_aload_n hx hb xd_Z_perform_324 rfl (lv_at hl 4 rfl) ?_
              refine lv_iconst (v := 1) hx hb xd_Z_perform_325 (by decide) ?_
              refine lv_iload_n hx hb xd_Z_perform_326 rfl (lv_at hl 2 rfl) ?_
              refine lv_ishl hx hb xd_Z_perform_327 ?_
              refine lv_iload hx hb xd_Z_perform_328 (lv_at hl 1 rfl) ?_
              refine lv_iload_n hx hb xd_Z_perform_330 rfl (lv_at hl 5 rfl) ?_
              refine lv_bipush (v := 25) hx hb xd_Z_perform_331 (by decide) ?_
              refine lv_ishr hx hb xd_Z_perform_333 ?_
              refine lv_bipush (v := 32) hx hb xd_Z_perform_334 (by decide) ?_
              refine lv_imul hx hb xd_Z_perform_336 ?_
              refine lv_iadd hx hb xd_Z_perform_337 ?_
              refine lv_iload_n hx hb xd_Z_perform_338 rfl (lv_at hl 5 rfl) ?_
              refine lv_bipush (v := 7) hx hb xd_Z_perform_339 (by decide) ?_
              refine lv_ishr hx hb xd_Z_perform_341 ?_
              refine lv_bipush (v := 31) hx hb xd_Z_perform_342 (by decide) ?_
              refine lv_iand hx hb xd_Z_perform_344 ?_
              refine lv_iadd hx hb xd_Z_perform_345 ?_
              refine lv_iload hx hb xd_Z_perform_346 (lv_at hl 0 rfl) ?_
              obtain ⟨hn50, hv⟩ := xan_v hv
              refine xcW_i (va_runV (As := [.int (((1 : Int32) <<< (((p0 >>> ((12 : Int32) &&& 31)) &&& (7 : Int32)) &&& 31))), .int ((((xg_Z_x u ((p0 >>> ((15 : Int32) &&& 31)) &&& (31 : Int32)).toNatClampNeg) + ((p0 >>> ((25 : Int32) &&& 31)) * (32 : Int32))) + ((p0 >>> ((7 : Int32) &&& 31)) &&& (31 : Int32)))), .int ((xg_Z_x u ((p0 >>> ((20 : Int32) &&& 31)) &&& (31 : Int32)).toNatClampNeg))]) (rest := []) ⟨hx, hb, hml, hown, htg⟩ (c_Z_store l D z k b H.size (xs_Z_next u ((xg_Z_pc u) + (4 : Int32))) ((1 : Int32) <<< (((p0 >>> ((12 : Int32) &&& 31)) &&& (7 : Int32)) &&& 31)) (((xg_Z_x u ((p0 >>> ((15 : Int32) &&& 31)) &&& (31 : Int32)).toNatClampNeg) + ((p0 >>> ((25 : Int32) &&& 31)) * (32 : Int32))) + ((p0 >>> ((7 : Int32) &&& 31)) &&& (31 : Int32))) (xg_Z_x u ((p0 >>> ((20 : Int32) &&& 31)) &&& (31 : Int32)).toNatClampNeg) hn50) (cwV 3 htg (xg_V0 xkin_Z_store xw_1014 xw_1016 xsel_Z_store xw_9) rfl rfl rfl (by decide +kernel) ⟨Nat.le_of_ble_eq_true rfl, Nat.le_of_ble_eq_true rfl⟩) ⟨xB_blind, xrecv_Z hK hP, fun U hU hW => xB_mk hP hK hD hE hS (xsubW hD hA hS) hU hW⟩ rfl rfl hl.1 rfl (lv_room (Nat.le_of_ble_eq_true rfl)) xd_Z_perform_348 ⟨Nat.le_of_ble_eq_true rfl, Nat.le_of_ble_eq_true rfl⟩) hD hA hS (fun r u1 H locs hw hP hD hS => ?_)
              obtain ⟨q49, hq49⟩ : ∃ q, q = xf_Z_store (xs_Z_next u ((xg_Z_pc u) + (4 : Int32))) ((1 : Int32) <<< (((p0 >>> ((12 : Int32) &&& 31)) &&& (7 : Int32)) &&& 31)) (((xg_Z_x u ((p0 >>> ((15 : Int32) &&& 31)) &&& (31 : Int32)).toNatClampNeg) + ((p0 >>> ((25 : Int32) &&& 31)) * (32 : Int32))) + ((p0 >>> ((7 : Int32) &&& 31)) &&& (31 : Int32))) (xg_Z_x u ((p0 >>> ((20 : Int32) &&& 31)) &&& (31 : Int32)).toNatClampNeg) := ⟨_, rfl⟩
              rw [← hq49] at hw
              obtain rfl : r = q49.1 := congrArg Prod.fst hw
              obtain rfl : u1 = q49.2 := congrArg Prod.snd hw
              have hP : va_P D xCl (xWZ k b q49.2) H := hP
              have hD : va_D A (xWZ k b q49.2) := hD
              have hv := xlt_v hq49 hv
              exact hj47 H locs ls q49.1 q49.2 (xit h48 (xlt_e hq49 rfl)) (xit h48 (xlt_e hq49 rfl)) hl hP hD hS
            · have hv := xif_v h48 hv
              refine lv_aload_n hx hb xd_Z_perform_316 rfl (lv_at hl 4 rfl) ?_
              refine lv_iload_n hx hb xd_Z_perform_317 rfl (lv_at hl 5 rfl) ?_
              obtain ⟨hn52, hv⟩ := xan_v hv
              refine xcW_i (va_runV (As := [.int p0]) (rest := []) ⟨hx, hb, hml, hown, htg⟩ (c_Z_illegal l D z k b H.size (xs_Z_next u ((xg_Z_pc u) + (4 : Int32))) p0 hn52) (cwV 1 htg (xg_V0 xkin_Z_illegal xw_990 xw_992 xsel_Z_illegal xw_9) rfl rfl rfl (by decide +kernel) ⟨Nat.le_of_ble_eq_true rfl, Nat.le_of_ble_eq_true rfl⟩) ⟨xB_blind, xrecv_Z hK hP, fun U hU hW => xB_mk hP hK hD hE hS (xsubW hD hA hS) hU hW⟩ rfl rfl hl.1 rfl (lv_room (Nat.le_of_ble_eq_true rfl)) xd_Z_perform_318 ⟨Nat.le_of_ble_eq_true rfl, Nat.le_of_ble_eq_true rfl⟩) hD hA hS (fun r u1 H locs hw hP hD hS => ?_)
              obtain ⟨q51, hq51⟩ : ∃ q, q = xf_Z_illegal (xs_Z_next u ((xg_Z_pc u) + (4 : Int32))) p0 := ⟨_, rfl⟩
              rw [← hq51] at hw
              obtain rfl : r = q51.1 := congrArg Prod.fst hw
              obtain rfl : u1 = q51.2 := congrArg Prod.snd hw
              have hP : va_P D xCl (xWZ k b q51.2) H := hP
              have hD : va_D A (xWZ k b q51.2) := hD
              have hv := xlt_v hq51 hv
              refine lv_goto (tgt := 351) hx hb xd_Z_perform_321 rfl ?_
              exact hj47 H locs ls q51.1 q51.2 (xif h48 (xlt_e hq51 rfl)) (xif h48 (xlt_e hq51 rfl)) hl hP hD hS
          · have hv := xif_v h39 hv
            refine (Decidable.em ((p0 &&& (127 : Int32)) = 51)).elim (fun h53 => ?_) (fun h53 => ?_)
            · have hv := xit_v h53 hv
              refine lv_lookup (tgt := 381) (off := 323) hx hb xd_Z_perform_58 (by decide +kernel) (by rw [h53]; decide +kernel) rfl ?_
              refine lv_aload_n hx hb xd_Z_perform_381 rfl (lv_at hl 4 rfl) ?_
              refine lv_iload_n hx hb xd_Z_perform_382 rfl (lv_at hl 5 rfl) ?_
              refine lv_iload_n hx hb xd_Z_perform_383 rfl (lv_at hl 3 rfl) ?_
              refine lv_iload_n hx hb xd_Z_perform_384 rfl (lv_at hl 2 rfl) ?_
              refine lv_iload hx hb xd_Z_perform_385 (lv_at hl 1 rfl) ?_
              refine lv_iload hx hb xd_Z_perform_387 (lv_at hl 0 rfl) ?_
              obtain ⟨hn55, hv⟩ := xan_v hv
              refine xcW_i (va_runV (As := [.int p0, .int (((p0 >>> ((7 : Int32) &&& 31)) &&& (31 : Int32))), .int (((p0 >>> ((12 : Int32) &&& 31)) &&& (7 : Int32))), .int ((xg_Z_x u ((p0 >>> ((15 : Int32) &&& 31)) &&& (31 : Int32)).toNatClampNeg)), .int ((xg_Z_x u ((p0 >>> ((20 : Int32) &&& 31)) &&& (31 : Int32)).toNatClampNeg))]) (rest := []) ⟨hx, hb, hml, hown, htg⟩ (c_Z_pair l D z k b H.size (xs_Z_next u ((xg_Z_pc u) + (4 : Int32))) p0 ((p0 >>> ((7 : Int32) &&& 31)) &&& (31 : Int32)) ((p0 >>> ((12 : Int32) &&& 31)) &&& (7 : Int32)) (xg_Z_x u ((p0 >>> ((15 : Int32) &&& 31)) &&& (31 : Int32)).toNatClampNeg) (xg_Z_x u ((p0 >>> ((20 : Int32) &&& 31)) &&& (31 : Int32)).toNatClampNeg) hn55) (cwV 5 htg (xg_V0 xkin_Z_pair xw_1030 xw_1032 xsel_Z_pair xw_9) rfl rfl rfl (by decide +kernel) ⟨Nat.le_of_ble_eq_true rfl, Nat.le_of_ble_eq_true rfl⟩) ⟨xB_blind, xrecv_Z hK hP, fun U hU hW => xB_mk hP hK hD hE hS (xsubW hD hA hS) hU hW⟩ rfl rfl hl.1 rfl (lv_room (Nat.le_of_ble_eq_true rfl)) xd_Z_perform_389 ⟨Nat.le_of_ble_eq_true rfl, Nat.le_of_ble_eq_true rfl⟩) hD hA hS (fun r u1 H locs hw hP hD hS => ?_)
              obtain ⟨q54, hq54⟩ : ∃ q, q = xf_Z_pair (xs_Z_next u ((xg_Z_pc u) + (4 : Int32))) p0 ((p0 >>> ((7 : Int32) &&& 31)) &&& (31 : Int32)) ((p0 >>> ((12 : Int32) &&& 31)) &&& (7 : Int32)) (xg_Z_x u ((p0 >>> ((15 : Int32) &&& 31)) &&& (31 : Int32)).toNatClampNeg) (xg_Z_x u ((p0 >>> ((20 : Int32) &&& 31)) &&& (31 : Int32)).toNatClampNeg) := ⟨_, rfl⟩
              rw [← hq54] at hw
              obtain rfl : r = q54.1 := congrArg Prod.fst hw
              obtain rfl : u1 = q54.2 := congrArg Prod.snd hw
              have hP : va_P D xCl (xWZ k b q54.2) H := hP
              have hD : va_D A (xWZ k b q54.2) := hD
              have hv := xlt_v hq54 hv
              exact hret _ q54.2 H locs ls _ (xnar (X01_ofp hq54 (xt01_Z_pair (xs_Z_next u ((xg_Z_pc u) + (4 : Int32))) p0 ((p0 >>> ((7 : Int32) &&& 31)) &&& (31 : Int32)) ((p0 >>> ((12 : Int32) &&& 31)) &&& (7 : Int32)) (xg_Z_x u ((p0 >>> ((15 : Int32) &&& 31)) &&& (31 : Int32)).toNatClampNeg) (xg_Z_x u ((p0 >>> ((20 : Int32) &&& 31)) &&& (31 : Int32)).toNatClampNeg)))) (by unfold xf_Z_perform; exact (xif h1 (xif h21 (xif h33 (xif h36 (xif h39 (xit h53 (xlt_e hq54 rfl)))))))) hP hD hS xd_Z_perform_392
            · have hv := xif_v h53 hv
              refine (Decidable.em ((p0 &&& (127 : Int32)) = 55)).elim (fun h56 => ?_) (fun h56 => ?_)
              · have hv := xit_v h56 hv
                refine lv_lookup (tgt := 156) (off := 98) hx hb xd_Z_perform_58 (by decide +kernel) (by rw [h56]; decide +kernel) rfl ?_
                refine lv_aload_n hx hb xd_Z_perform_156 rfl (lv_at hl 4 rfl) ?_
                refine lv_iload_n hx hb xd_Z_perform_157 rfl (lv_at hl 3 rfl) ?_
                refine lv_iload_n hx hb xd_Z_perform_158 rfl (lv_at hl 5 rfl) ?_
                refine lv_sipush (v := (-4096)) hx hb xd_Z_perform_159 (by decide) ?_
                refine lv_iand hx hb xd_Z_perform_162 ?_
                obtain ⟨hn58, hv⟩ := xan_v hv
                refine xcW_i (va_runV (As := [.int (((p0 >>> ((7 : Int32) &&& 31)) &&& (31 : Int32))), .int ((p0 &&& (-4096 : Int32)))]) (rest := []) ⟨hx, hb, hml, hown, htg⟩ (c_Z_put l D z k b H.size (xs_Z_next u ((xg_Z_pc u) + (4 : Int32))) ((p0 >>> ((7 : Int32) &&& 31)) &&& (31 : Int32)) (p0 &&& (-4096 : Int32)) hn58) (cwV 2 htg (xg_V0 xkin_Z_put xw_834 xw_836 xsel_Z_put xw_9) rfl rfl rfl (by decide +kernel) ⟨Nat.le_of_ble_eq_true rfl, Nat.le_of_ble_eq_true rfl⟩) ⟨xB_blind, xrecv_Z hK hP, fun U hU hW => xB_mk hP hK hD hE hS (xsubW hD hA hS) hU hW⟩ rfl rfl hl.1 rfl (lv_room (Nat.le_of_ble_eq_true rfl)) xd_Z_perform_163 ⟨Nat.le_of_ble_eq_true rfl, Nat.le_of_ble_eq_true rfl⟩) hD hA hS (fun r u1 H locs hw hP hD hS => ?_)
                obtain ⟨q57, hq57⟩ : ∃ q, q = xf_Z_put (xs_Z_next u ((xg_Z_pc u) + (4 : Int32))) ((p0 >>> ((7 : Int32) &&& 31)) &&& (31 : Int32)) (p0 &&& (-4096 : Int32)) := ⟨_, rfl⟩
                rw [← hq57] at hw
                obtain rfl : r = q57.1 := congrArg Prod.fst hw
                obtain rfl : u1 = q57.2 := congrArg Prod.snd hw
                have hP : va_P D xCl (xWZ k b q57.2) H := hP
                have hD : va_D A (xWZ k b q57.2) := hD
                have hv := xlt_v hq57 hv
                exact hret _ q57.2 H locs ls _ (xnar (X01_ofp hq57 (xt01_Z_put (xs_Z_next u ((xg_Z_pc u) + (4 : Int32))) ((p0 >>> ((7 : Int32) &&& 31)) &&& (31 : Int32)) (p0 &&& (-4096 : Int32))))) (by unfold xf_Z_perform; exact (xif h1 (xif h21 (xif h33 (xif h36 (xif h39 (xif h53 (xit h56 (xlt_e hq57 rfl))))))))) hP hD hS xd_Z_perform_166
              · have hv := xif_v h56 hv
                refine (Decidable.em ((p0 &&& (127 : Int32)) = 99)).elim (fun h59 => ?_) (fun h59 => ?_)
                · have hv := xit_v h59 hv
                  refine lv_lookup (tgt := 268) (off := 210) hx hb xd_Z_perform_58 (by decide +kernel) (by rw [h59]; decide +kernel) rfl ?_
                  refine lv_aload_n hx hb xd_Z_perform_268 rfl (lv_at hl 4 rfl) ?_
                  refine lv_iload_n hx hb xd_Z_perform_269 rfl (lv_at hl 5 rfl) ?_
                  refine lv_iload_n hx hb xd_Z_perform_270 rfl (lv_at hl 2 rfl) ?_
                  refine lv_iload hx hb xd_Z_perform_271 (lv_at hl 1 rfl) ?_
                  refine lv_iload hx hb xd_Z_perform_273 (lv_at hl 0 rfl) ?_
                  obtain ⟨hn61, hv⟩ := xan_v hv
                  refine xcW_i (va_runV (As := [.int p0, .int (((p0 >>> ((12 : Int32) &&& 31)) &&& (7 : Int32))), .int ((xg_Z_x u ((p0 >>> ((15 : Int32) &&& 31)) &&& (31 : Int32)).toNatClampNeg)), .int ((xg_Z_x u ((p0 >>> ((20 : Int32) &&& 31)) &&& (31 : Int32)).toNatClampNeg))]) (rest := []) ⟨hx, hb, hml, hown, htg⟩ (c_Z_branch l D z k b H.size (xs_Z_next u ((xg_Z_pc u) + (4 : Int32))) p0 ((p0 >>> ((12 : Int32) &&& 31)) &&& (7 : Int32)) (xg_Z_x u ((p0 >>> ((15 : Int32) &&& 31)) &&& (31 : Int32)).toNatClampNeg) (xg_Z_x u ((p0 >>> ((20 : Int32) &&& 31)) &&& (31 : Int32)).toNatClampNeg) hn61) (cwV 4 htg (xg_V0 xkin_Z_branch xw_994 xw_996 xsel_Z_branch xw_9) rfl rfl rfl (by decide +kernel) ⟨Nat.le_of_ble_eq_true rfl, Nat.le_of_ble_eq_true rfl⟩) ⟨xB_blind, xrecv_Z hK hP, fun U hU hW => xB_mk hP hK hD hE hS (xsubW hD hA hS) hU hW⟩ rfl rfl hl.1 rfl (lv_room (Nat.le_of_ble_eq_true rfl)) xd_Z_perform_275 ⟨Nat.le_of_ble_eq_true rfl, Nat.le_of_ble_eq_true rfl⟩) hD hA hS (fun r u1 H locs hw hP hD hS => ?_)
                  obtain ⟨q60, hq60⟩ : ∃ q, q = xf_Z_branch (xs_Z_next u ((xg_Z_pc u) + (4 : Int32))) p0 ((p0 >>> ((12 : Int32) &&& 31)) &&& (7 : Int32)) (xg_Z_x u ((p0 >>> ((15 : Int32) &&& 31)) &&& (31 : Int32)).toNatClampNeg) (xg_Z_x u ((p0 >>> ((20 : Int32) &&& 31)) &&& (31 : Int32)).toNatClampNeg) := ⟨_, rfl⟩
                  rw [← hq60] at hw
                  obtain rfl : r = q60.1 := congrArg Prod.fst hw
                  obtain rfl : u1 = q60.2 := congrArg Prod.snd hw
                  have hP : va_P D xCl (xWZ k b q60.2) H := hP
                  have hD : va_D A (xWZ k b q60.2) := hD
                  have hv := xlt_v hq60 hv
                  exact hret _ q60.2 H locs ls _ (xnar (X01_ofp hq60 (xt01_Z_branch (xs_Z_next u ((xg_Z_pc u) + (4 : Int32))) p0 ((p0 >>> ((12 : Int32) &&& 31)) &&& (7 : Int32)) (xg_Z_x u ((p0 >>> ((15 : Int32) &&& 31)) &&& (31 : Int32)).toNatClampNeg) (xg_Z_x u ((p0 >>> ((20 : Int32) &&& 31)) &&& (31 : Int32)).toNatClampNeg)))) (by unfold xf_Z_perform; exact (xif h1 (xif h21 (xif h33 (xif h36 (xif h39 (xif h53 (xif h56 (xit h59 (xlt_e hq60 rfl)))))))))) hP hD hS xd_Z_perform_278
                · have hv := xif_v h59 hv
                  refine (Decidable.em ((p0 &&& (127 : Int32)) = 103)).elim (fun h62 => ?_) (fun h62 => ?_)
                  · have hv := xit_v h62 hv
                    refine lv_lookup (tgt := 219) (off := 161) hx hb xd_Z_perform_58 (by decide +kernel) (by rw [h62]; decide +kernel) rfl ?_
                    refine lv_iload_n hx hb xd_Z_perform_219 rfl (lv_at hl 2 rfl) ?_
                    obtain ⟨hva, hv⟩ := xan_v2 hv
                    have hj74 : ∀ (H : Heap) (locs : List Loc) (ls : Array Slot) (v72 : Int32) (v73 : XZ), v72 = (if ((p0 >>> ((12 : Int32) &&& 31)) &&& (7 : Int32)) = 0 then (xlt (xf_Z_go (xs_Z_next u ((xg_Z_pc u) + (4 : Int32))) (((xg_Z_x u ((p0 >>> ((15 : Int32) &&& 31)) &&& (31 : Int32)).toNatClampNeg) + (p0 >>> ((20 : Int32) &&& 31))) &&& (-2 : Int32)) : Int32 × XZ) fun q66 => if q66.1 = 0 then (0) else (xlt (xf_Z_put q66.2 ((p0 >>> ((7 : Int32) &&& 31)) &&& (31 : Int32)) ((xg_Z_pc q66.2) + (4 : Int32)) : Int32 × XZ) fun q69 => if q69.1 = 0 then (0) else (1))) else (xlt (xf_Z_illegal (xs_Z_next u ((xg_Z_pc u) + (4 : Int32))) p0 : Int32 × XZ) fun q64 => q64.1)) → v73 = (if ((p0 >>> ((12 : Int32) &&& 31)) &&& (7 : Int32)) = 0 then (xlt (xf_Z_go (xs_Z_next u ((xg_Z_pc u) + (4 : Int32))) (((xg_Z_x u ((p0 >>> ((15 : Int32) &&& 31)) &&& (31 : Int32)).toNatClampNeg) + (p0 >>> ((20 : Int32) &&& 31))) &&& (-2 : Int32)) : Int32 × XZ) fun q66 => if q66.1 = 0 then (q66.2) else (xlt (xf_Z_put q66.2 ((p0 >>> ((7 : Int32) &&& 31)) &&& (31 : Int32)) ((xg_Z_pc q66.2) + (4 : Int32)) : Int32 × XZ) fun q69 => if q69.1 = 0 then (q69.2) else (q69.2))) else (xlt (xf_Z_illegal (xs_Z_next u ((xg_Z_pc u) + (4 : Int32))) p0 : Int32 × XZ) fun q64 => q64.2)) → lv_has ls 6 [(5, .int ((xg_Z_x u ((p0 >>> ((20 : Int32) &&& 31)) &&& (31 : Int32)).toNatClampNeg))), (4, .int ((xg_Z_x u ((p0 >>> ((15 : Int32) &&& 31)) &&& (31 : Int32)).toNatClampNeg))), (3, .int (((p0 >>> ((12 : Int32) &&& 31)) &&& (7 : Int32)))), (2, .int (((p0 >>> ((7 : Int32) &&& 31)) &&& (31 : Int32)))), (0, .ref ((b 0))), (1, .int p0)] → va_P D xCl (xWZ k b v73) H → va_D A (xWZ k b v73) → va_S A s.heap H locs → W p l e { frames := 12, cells := 0, slots := 0, locals := 326 } s m args below meth c H locs (0) (0) Q (F0 m 267 ls [.int v72]) := by
                      intro H locs ls v72 v73 hv72 hv73 hl hP hD hS
                      have hv := xlt_v hv72 hv
                      have hv := xlt_v hv73 hv
                      exact hret _ v73 H locs ls _ (xnar (X01_of hv72 (xit_01 (xlt_01 (fun q66 hq66 => (xit_01 (Or.inl rfl) (xlt_01 (fun q69 hq69 => (xit_01 (Or.inl rfl) (Or.inr rfl))))))) (xlt_01 (fun q64 hq64 => (X01_ofp hq64 (xt01_Z_illegal (xs_Z_next u ((xg_Z_pc u) + (4 : Int32))) p0))))))) (by unfold xf_Z_perform; exact (xif h1 (xif h21 (xif h33 (xif h36 (xif h39 (xif h53 (xif h56 (xif h59 (xit h62 (xlt_e hv72 (xlt_e hv73 rfl)))))))))))) hP hD hS xd_Z_perform_267
                    have hv := hva
                    refine lv_if_ne (tgt := 262) hx hb xd_Z_perform_220 rfl (fun h75 => ?_) (fun h75 => ?_)
                    · have hv := xif_v h75 hv
                      refine lv_aload_n hx hb xd_Z_perform_262 rfl (lv_at hl 4 rfl) ?_
                      refine lv_iload_n hx hb xd_Z_perform_263 rfl (lv_at hl 5 rfl) ?_
                      obtain ⟨hn77, hv⟩ := xan_v hv
                      refine xcW_i (va_runV (As := [.int p0]) (rest := []) ⟨hx, hb, hml, hown, htg⟩ (c_Z_illegal l D z k b H.size (xs_Z_next u ((xg_Z_pc u) + (4 : Int32))) p0 hn77) (cwV 1 htg (xg_V0 xkin_Z_illegal xw_990 xw_992 xsel_Z_illegal xw_9) rfl rfl rfl (by decide +kernel) ⟨Nat.le_of_ble_eq_true rfl, Nat.le_of_ble_eq_true rfl⟩) ⟨xB_blind, xrecv_Z hK hP, fun U hU hW => xB_mk hP hK hD hE hS (xsubW hD hA hS) hU hW⟩ rfl rfl hl.1 rfl (lv_room (Nat.le_of_ble_eq_true rfl)) xd_Z_perform_264 ⟨Nat.le_of_ble_eq_true rfl, Nat.le_of_ble_eq_true rfl⟩) hD hA hS (fun r u1 H locs hw hP hD hS => ?_)
                      obtain ⟨q76, hq76⟩ : ∃ q, q = xf_Z_illegal (xs_Z_next u ((xg_Z_pc u) + (4 : Int32))) p0 := ⟨_, rfl⟩
                      rw [← hq76] at hw
                      obtain rfl : r = q76.1 := congrArg Prod.fst hw
                      obtain rfl : u1 = q76.2 := congrArg Prod.snd hw
                      have hP : va_P D xCl (xWZ k b q76.2) H := hP
                      have hD : va_D A (xWZ k b q76.2) := hD
                      have hv := xlt_v hq76 hv
                      exact hj74 H locs ls q76.1 q76.2 (xif h75 (xlt_e hq76 rfl)) (xif h75 (xlt_e hq76 rfl)) hl hP hD hS
                    · have hv := xit_v h75 hv
                      refine lv_aload_n hx hb xd_Z_perform_223 rfl (lv_at hl 4 rfl) ?_
                      refine lv_iload hx hb xd_Z_perform_224 (lv_at hl 1 rfl) ?_
                      refine lv_iload_n hx hb xd_Z_perform_226 rfl (lv_at hl 5 rfl) ?_
                      refine lv_bipush (v := 20) hx hb xd_Z_perform_227 (by decide) ?_
                      refine lv_ishr hx hb xd_Z_perform_229 ?_
                      refine lv_iadd hx hb xd_Z_perform_230 ?_
                      refine lv_bipush (v := (-2)) hx hb xd_Z_perform_231 (by decide) ?_
                      refine lv_iand hx hb xd_Z_perform_233 ?_
                      obtain ⟨hn79, hv⟩ := xan_v hv
                      refine xcW_i (va_runV (As := [.int ((((xg_Z_x u ((p0 >>> ((15 : Int32) &&& 31)) &&& (31 : Int32)).toNatClampNeg) + (p0 >>> ((20 : Int32) &&& 31))) &&& (-2 : Int32)))]) (rest := []) ⟨hx, hb, hml, hown, htg⟩ (c_Z_go l D z k b H.size (xs_Z_next u ((xg_Z_pc u) + (4 : Int32))) (((xg_Z_x u ((p0 >>> ((15 : Int32) &&& 31)) &&& (31 : Int32)).toNatClampNeg) + (p0 >>> ((20 : Int32) &&& 31))) &&& (-2 : Int32)) hn79) (cwV 1 htg (xg_V0 xkin_Z_go xw_986 xw_988 xsel_Z_go xw_9) rfl rfl rfl (by decide +kernel) ⟨Nat.le_of_ble_eq_true rfl, Nat.le_of_ble_eq_true rfl⟩) ⟨xB_blind, xrecv_Z hK hP, fun U hU hW => xB_mk hP hK hD hE hS (xsubW hD hA hS) hU hW⟩ rfl rfl hl.1 rfl (lv_room (Nat.le_of_ble_eq_true rfl)) xd_Z_perform_234 ⟨Nat.le_of_ble_eq_true rfl, Nat.le_of_ble_eq_true rfl⟩) hD hA hS (fun r u1 H locs hw hP hD hS => ?_)
                      obtain ⟨q78, hq78⟩ : ∃ q, q = xf_Z_go (xs_Z_next u ((xg_Z_pc u) + (4 : Int32))) (((xg_Z_x u ((p0 >>> ((15 : Int32) &&& 31)) &&& (31 : Int32)).toNatClampNeg) + (p0 >>> ((20 : Int32) &&& 31))) &&& (-2 : Int32)) := ⟨_, rfl⟩
                      rw [← hq78] at hw
                      obtain rfl : r = q78.1 := congrArg Prod.fst hw
                      obtain rfl : u1 = q78.2 := congrArg Prod.snd hw
                      have hP : va_P D xCl (xWZ k b q78.2) H := hP
                      have hD : va_D A (xWZ k b q78.2) := hD
                      have hv := xlt_v hq78 hv
                      refine lv_if_eq (tgt := 258) hx hb xd_Z_perform_237 rfl (fun h80 => ?_) (fun h80 => ?_)
                      · have hv := xit_v h80 hv
                        refine lv_iconst (v := 0) hx hb xd_Z_perform_258 (by decide) ?_
                        refine lv_goto (tgt := 267) hx hb xd_Z_perform_259 rfl ?_
                        exact hj74 H locs ls (0 : Int32) q78.2 (xit h75 (xlt_e hq78 (xit h80 rfl))) (xit h75 (xlt_e hq78 (xit h80 rfl))) hl hP hD hS
                      · have hv := xif_v h80 hv
                        refine lv_aload_n hx hb xd_Z_perform_240 rfl (lv_at hl 4 rfl) ?_
                        refine lv_iload_n hx hb xd_Z_perform_241 rfl (lv_at hl 3 rfl) ?_
                        refine lv_aload_n hx hb xd_Z_perform_242 rfl (lv_at hl 4 rfl) ?_
                        refine xget_Z_pc (v := (xg_Z_pc q78.2)) hx hb htg hown hK hP (htg _ xw_730) rfl xd_Z_perform_243 ?_
                        refine lv_iconst (v := 4) hx hb xd_Z_perform_246 (by decide) ?_
                        refine lv_iadd hx hb xd_Z_perform_247 ?_
                        obtain ⟨hn82, hv⟩ := xan_v hv
                        refine xcW_i (va_runV (As := [.int (((p0 >>> ((7 : Int32) &&& 31)) &&& (31 : Int32))), .int (((xg_Z_pc q78.2) + (4 : Int32)))]) (rest := []) ⟨hx, hb, hml, hown, htg⟩ (c_Z_put l D z k b H.size q78.2 ((p0 >>> ((7 : Int32) &&& 31)) &&& (31 : Int32)) ((xg_Z_pc q78.2) + (4 : Int32)) hn82) (cwV 2 htg (xg_V0 xkin_Z_put xw_834 xw_836 xsel_Z_put xw_9) rfl rfl rfl (by decide +kernel) ⟨Nat.le_of_ble_eq_true rfl, Nat.le_of_ble_eq_true rfl⟩) ⟨xB_blind, xrecv_Z hK hP, fun U hU hW => xB_mk hP hK hD hE hS (xsubW hD hA hS) hU hW⟩ rfl rfl hl.1 rfl (lv_room (Nat.le_of_ble_eq_true rfl)) xd_Z_perform_248 ⟨Nat.le_of_ble_eq_true rfl, Nat.le_of_ble_eq_true rfl⟩) hD hA hS (fun r u1 H locs hw hP hD hS => ?_)
                        obtain ⟨q81, hq81⟩ : ∃ q, q = xf_Z_put q78.2 ((p0 >>> ((7 : Int32) &&& 31)) &&& (31 : Int32)) ((xg_Z_pc q78.2) + (4 : Int32)) := ⟨_, rfl⟩
                        rw [← hq81] at hw
                        obtain rfl : r = q81.1 := congrArg Prod.fst hw
                        obtain rfl : u1 = q81.2 := congrArg Prod.snd hw
                        have hP : va_P D xCl (xWZ k b q81.2) H := hP
                        have hD : va_D A (xWZ k b q81.2) := hD
                        have hv := xlt_v hq81 hv
                        refine lv_if_eq (tgt := 258) hx hb xd_Z_perform_251 rfl (fun h83 => ?_) (fun h83 => ?_)
                        · have hv := xit_v h83 hv
                          refine lv_iconst (v := 0) hx hb xd_Z_perform_258 (by decide) ?_
                          refine lv_goto (tgt := 267) hx hb xd_Z_perform_259 rfl ?_
                          exact hj74 H locs ls (0 : Int32) q81.2 (xit h75 (xlt_e hq78 (xif h80 (xlt_e hq81 (xit h83 rfl))))) (xit h75 (xlt_e hq78 (xif h80 (xlt_e hq81 (xit h83 rfl))))) hl hP hD hS
                        · have hv := xif_v h83 hv
                          refine lv_iconst (v := 1) hx hb xd_Z_perform_254 (by decide) ?_
                          refine lv_goto (tgt := 267) hx hb xd_Z_perform_255 rfl ?_
                          exact hj74 H locs ls (1 : Int32) q81.2 (xit h75 (xlt_e hq78 (xif h80 (xlt_e hq81 (xif h83 rfl))))) (xit h75 (xlt_e hq78 (xif h80 (xlt_e hq81 (xif h83 rfl))))) hl hP hD hS
                  · have hv := xif_v h62 hv
                    refine (Decidable.em ((p0 &&& (127 : Int32)) = 111)).elim (fun h84 => ?_) (fun h84 => ?_)
                    · have hv := xit_v h84 hv
                      refine lv_lookup (tgt := 183) (off := 125) hx hb xd_Z_perform_58 (by decide +kernel) (by rw [h84]; decide +kernel) rfl ?_
                      refine lv_aload_n hx hb xd_Z_perform_183 rfl (lv_at hl 4 rfl) ?_
                      refine lv_aload_n hx hb xd_Z_perform_184 rfl (lv_at hl 4 rfl) ?_
                      refine xget_Z_pc (v := (xg_Z_pc (xs_Z_next u ((xg_Z_pc u) + (4 : Int32))))) hx hb htg hown hK hP (htg _ xw_730) rfl xd_Z_perform_185 ?_
                      refine lv_iload_n hx hb xd_Z_perform_188 rfl (lv_at hl 5 rfl) ?_
                      refine xc0_i (va_runS (As := [.int p0]) (rest := [.int ((xg_Z_pc (xs_Z_next u ((xg_Z_pc u) + (4 : Int32))))), .ref ((b 0))]) ⟨hx, hb, hml, hown, htg⟩ (c_Z_jump l D (xTy k) z H.size p0) (va_cwS 1 htg (xg_S0 xkin_Z_jump xw_980 xw_981 xw_9) rfl rfl rfl (by decide +kernel) ⟨Nat.le_of_ble_eq_true rfl, Nat.le_of_ble_eq_true rfl⟩) ⟨xB_blind, fun U hU hW => xB_mk va_P0 hK va_D0 hE hS (xsub0 hA hS) hU hW⟩ rfl rfl hl.1 rfl (lv_room (Nat.le_of_ble_eq_true rfl)) xd_Z_perform_189 ⟨Nat.le_of_ble_eq_true rfl, Nat.le_of_ble_eq_true rfl⟩) hP hA hS (fun r85 H locs hr85 hP hS => ?_)
                      have hv := xlt_v hr85 hv
                      refine lv_iadd hx hb xd_Z_perform_192 ?_
                      obtain ⟨hn87, hv⟩ := xan_v hv
                      refine xcW_i (va_runV (As := [.int (((xg_Z_pc (xs_Z_next u ((xg_Z_pc u) + (4 : Int32)))) + r85))]) (rest := []) ⟨hx, hb, hml, hown, htg⟩ (c_Z_go l D z k b H.size (xs_Z_next u ((xg_Z_pc u) + (4 : Int32))) ((xg_Z_pc (xs_Z_next u ((xg_Z_pc u) + (4 : Int32)))) + r85) hn87) (cwV 1 htg (xg_V0 xkin_Z_go xw_986 xw_988 xsel_Z_go xw_9) rfl rfl rfl (by decide +kernel) ⟨Nat.le_of_ble_eq_true rfl, Nat.le_of_ble_eq_true rfl⟩) ⟨xB_blind, xrecv_Z hK hP, fun U hU hW => xB_mk hP hK hD hE hS (xsubW hD hA hS) hU hW⟩ rfl rfl hl.1 rfl (lv_room (Nat.le_of_ble_eq_true rfl)) xd_Z_perform_193 ⟨Nat.le_of_ble_eq_true rfl, Nat.le_of_ble_eq_true rfl⟩) hD hA hS (fun r u1 H locs hw hP hD hS => ?_)
                      obtain ⟨q86, hq86⟩ : ∃ q, q = xf_Z_go (xs_Z_next u ((xg_Z_pc u) + (4 : Int32))) ((xg_Z_pc (xs_Z_next u ((xg_Z_pc u) + (4 : Int32)))) + r85) := ⟨_, rfl⟩
                      rw [← hq86] at hw
                      obtain rfl : r = q86.1 := congrArg Prod.fst hw
                      obtain rfl : u1 = q86.2 := congrArg Prod.snd hw
                      have hP : va_P D xCl (xWZ k b q86.2) H := hP
                      have hD : va_D A (xWZ k b q86.2) := hD
                      have hv := xlt_v hq86 hv
                      obtain ⟨hva, hv⟩ := xan_v2 hv
                      have hj94 : ∀ (H : Heap) (locs : List Loc) (ls : Array Slot) (v92 : Int32) (v93 : XZ), v92 = (if q86.1 = 0 then (0) else (xlt (xf_Z_put q86.2 ((p0 >>> ((7 : Int32) &&& 31)) &&& (31 : Int32)) ((xg_Z_pc q86.2) + (4 : Int32)) : Int32 × XZ) fun q89 => if q89.1 = 0 then (0) else (1))) → v93 = (if q86.1 = 0 then (q86.2) else (xlt (xf_Z_put q86.2 ((p0 >>> ((7 : Int32) &&& 31)) &&& (31 : Int32)) ((xg_Z_pc q86.2) + (4 : Int32)) : Int32 × XZ) fun q89 => if q89.1 = 0 then (q89.2) else (q89.2))) → lv_has ls 6 [(5, .int ((xg_Z_x u ((p0 >>> ((20 : Int32) &&& 31)) &&& (31 : Int32)).toNatClampNeg))), (4, .int ((xg_Z_x u ((p0 >>> ((15 : Int32) &&& 31)) &&& (31 : Int32)).toNatClampNeg))), (3, .int (((p0 >>> ((12 : Int32) &&& 31)) &&& (7 : Int32)))), (2, .int (((p0 >>> ((7 : Int32) &&& 31)) &&& (31 : Int32)))), (0, .ref ((b 0))), (1, .int p0)] → va_P D xCl (xWZ k b v93) H → va_D A (xWZ k b v93) → va_S A s.heap H locs → W p l e { frames := 12, cells := 0, slots := 0, locals := 326 } s m args below meth c H locs (0) (0) Q (F0 m 218 ls [.int v92]) := by
                        intro H locs ls v92 v93 hv92 hv93 hl hP hD hS
                        have hv := xlt_v hv92 hv
                        have hv := xlt_v hv93 hv
                        exact hret _ v93 H locs ls _ (xnar (X01_of hv92 (xit_01 (Or.inl rfl) (xlt_01 (fun q89 hq89 => (xit_01 (Or.inl rfl) (Or.inr rfl))))))) (by unfold xf_Z_perform; exact (xif h1 (xif h21 (xif h33 (xif h36 (xif h39 (xif h53 (xif h56 (xif h59 (xif h62 (xit h84 (xlt_e hr85 (xlt_e hq86 (xlt_e hv92 (xlt_e hv93 rfl))))))))))))))) hP hD hS xd_Z_perform_218
                      have hv := hva
                      refine lv_if_eq (tgt := 217) hx hb xd_Z_perform_196 rfl (fun h95 => ?_) (fun h95 => ?_)
                      · have hv := xit_v h95 hv
                        refine lv_iconst (v := 0) hx hb xd_Z_perform_217 (by decide) ?_
                        exact hj94 H locs ls (0 : Int32) q86.2 (xit h95 rfl) (xit h95 rfl) hl hP hD hS
                      · have hv := xif_v h95 hv
                        refine lv_aload_n hx hb xd_Z_perform_199 rfl (lv_at hl 4 rfl) ?_
                        refine lv_iload_n hx hb xd_Z_perform_200 rfl (lv_at hl 3 rfl) ?_
                        refine lv_aload_n hx hb xd_Z_perform_201 rfl (lv_at hl 4 rfl) ?_
                        refine xget_Z_pc (v := (xg_Z_pc q86.2)) hx hb htg hown hK hP (htg _ xw_730) rfl xd_Z_perform_202 ?_
                        refine lv_iconst (v := 4) hx hb xd_Z_perform_205 (by decide) ?_
                        refine lv_iadd hx hb xd_Z_perform_206 ?_
                        obtain ⟨hn97, hv⟩ := xan_v hv
                        refine xcW_i (va_runV (As := [.int (((p0 >>> ((7 : Int32) &&& 31)) &&& (31 : Int32))), .int (((xg_Z_pc q86.2) + (4 : Int32)))]) (rest := []) ⟨hx, hb, hml, hown, htg⟩ (c_Z_put l D z k b H.size q86.2 ((p0 >>> ((7 : Int32) &&& 31)) &&& (31 : Int32)) ((xg_Z_pc q86.2) + (4 : Int32)) hn97) (cwV 2 htg (xg_V0 xkin_Z_put xw_834 xw_836 xsel_Z_put xw_9) rfl rfl rfl (by decide +kernel) ⟨Nat.le_of_ble_eq_true rfl, Nat.le_of_ble_eq_true rfl⟩) ⟨xB_blind, xrecv_Z hK hP, fun U hU hW => xB_mk hP hK hD hE hS (xsubW hD hA hS) hU hW⟩ rfl rfl hl.1 rfl (lv_room (Nat.le_of_ble_eq_true rfl)) xd_Z_perform_207 ⟨Nat.le_of_ble_eq_true rfl, Nat.le_of_ble_eq_true rfl⟩) hD hA hS (fun r u1 H locs hw hP hD hS => ?_)
                        obtain ⟨q96, hq96⟩ : ∃ q, q = xf_Z_put q86.2 ((p0 >>> ((7 : Int32) &&& 31)) &&& (31 : Int32)) ((xg_Z_pc q86.2) + (4 : Int32)) := ⟨_, rfl⟩
                        rw [← hq96] at hw
                        obtain rfl : r = q96.1 := congrArg Prod.fst hw
                        obtain rfl : u1 = q96.2 := congrArg Prod.snd hw
                        have hP : va_P D xCl (xWZ k b q96.2) H := hP
                        have hD : va_D A (xWZ k b q96.2) := hD
                        have hv := xlt_v hq96 hv
                        refine lv_if_eq (tgt := 217) hx hb xd_Z_perform_210 rfl (fun h98 => ?_) (fun h98 => ?_)
                        · have hv := xit_v h98 hv
                          refine lv_iconst (v := 0) hx hb xd_Z_perform_217 (by decide) ?_
                          exact hj94 H locs ls (0 : Int32) q96.2 (xif h95 (xlt_e hq96 (xit h98 rfl))) (xif h95 (xlt_e hq96 (xit h98 rfl))) hl hP hD hS
                        · have hv := xif_v h98 hv
                          refine lv_iconst (v := 1) hx hb xd_Z_perform_213 (by decide) ?_
                          refine lv_goto (tgt := 218) hx hb xd_Z_perform_214 rfl ?_
                          exact hj94 H locs ls (1 : Int32) q96.2 (xif h95 (xlt_e hq96 (xif h98 rfl))) (xif h95 (xlt_e hq96 (xif h98 rfl))) hl hP hD hS
                    · have hv := xif_v h84 hv
                      refine (Decidable.em ((p0 &&& (127 : Int32)) = 115)).elim (fun h99 => ?_) (fun h99 => ?_)
                      · have hv := xit_v h99 hv
                        refine lv_lookup (tgt := 393) (off := 335) hx hb xd_Z_perform_58 (by decide +kernel) (by rw [h99]; decide +kernel) rfl ?_
                        refine lv_aload_n hx hb xd_Z_perform_393 rfl (lv_at hl 4 rfl) ?_
                        refine lv_iload_n hx hb xd_Z_perform_394 rfl (lv_at hl 5 rfl) ?_
                        refine lv_iload_n hx hb xd_Z_perform_395 rfl (lv_at hl 3 rfl) ?_
                        refine lv_iload_n hx hb xd_Z_perform_396 rfl (lv_at hl 2 rfl) ?_
                        refine lv_iload hx hb xd_Z_perform_397 (lv_at hl 1 rfl) ?_
                        refine lv_iload hx hb xd_Z_perform_399 (lv_at hl 0 rfl) ?_
                        obtain ⟨hn101, hv⟩ := xan_v hv
                        refine xcW_i (va_runV (As := [.int p0, .int (((p0 >>> ((7 : Int32) &&& 31)) &&& (31 : Int32))), .int (((p0 >>> ((12 : Int32) &&& 31)) &&& (7 : Int32))), .int ((xg_Z_x u ((p0 >>> ((15 : Int32) &&& 31)) &&& (31 : Int32)).toNatClampNeg)), .int ((xg_Z_x u ((p0 >>> ((20 : Int32) &&& 31)) &&& (31 : Int32)).toNatClampNeg))]) (rest := []) ⟨hx, hb, hml, hown, htg⟩ (c_Z_system l D z k b H.size (xs_Z_next u ((xg_Z_pc u) + (4 : Int32))) p0 ((p0 >>> ((7 : Int32) &&& 31)) &&& (31 : Int32)) ((p0 >>> ((12 : Int32) &&& 31)) &&& (7 : Int32)) (xg_Z_x u ((p0 >>> ((15 : Int32) &&& 31)) &&& (31 : Int32)).toNatClampNeg) (xg_Z_x u ((p0 >>> ((20 : Int32) &&& 31)) &&& (31 : Int32)).toNatClampNeg) hn101) (cwV 5 htg (xg_V0 xkin_Z_system xw_1037 xw_1039 xsel_Z_system xw_9) rfl rfl rfl (by decide +kernel) ⟨Nat.le_of_ble_eq_true rfl, Nat.le_of_ble_eq_true rfl⟩) ⟨xB_blind, xrecv_Z hK hP, fun U hU hW => xB_mk hP hK hD hE hS (xsubW hD hA hS) hU hW⟩ rfl rfl hl.1 rfl (lv_room (Nat.le_of_ble_eq_true rfl)) xd_Z_perform_401 ⟨Nat.le_of_ble_eq_true rfl, Nat.le_of_ble_eq_true rfl⟩) hD hA hS (fun r u1 H locs hw hP hD hS => ?_)
                        obtain ⟨q100, hq100⟩ : ∃ q, q = xf_Z_system (xs_Z_next u ((xg_Z_pc u) + (4 : Int32))) p0 ((p0 >>> ((7 : Int32) &&& 31)) &&& (31 : Int32)) ((p0 >>> ((12 : Int32) &&& 31)) &&& (7 : Int32)) (xg_Z_x u ((p0 >>> ((15 : Int32) &&& 31)) &&& (31 : Int32)).toNatClampNeg) (xg_Z_x u ((p0 >>> ((20 : Int32) &&& 31)) &&& (31 : Int32)).toNatClampNeg) := ⟨_, rfl⟩
                        rw [← hq100] at hw
                        obtain rfl : r = q100.1 := congrArg Prod.fst hw
                        obtain rfl : u1 = q100.2 := congrArg Prod.snd hw
                        have hP : va_P D xCl (xWZ k b q100.2) H := hP
                        have hD : va_D A (xWZ k b q100.2) := hD
                        have hv := xlt_v hq100 hv
                        exact hret _ q100.2 H locs ls _ (xnar (X01_ofp hq100 (xt01_Z_system (xs_Z_next u ((xg_Z_pc u) + (4 : Int32))) p0 ((p0 >>> ((7 : Int32) &&& 31)) &&& (31 : Int32)) ((p0 >>> ((12 : Int32) &&& 31)) &&& (7 : Int32)) (xg_Z_x u ((p0 >>> ((15 : Int32) &&& 31)) &&& (31 : Int32)).toNatClampNeg) (xg_Z_x u ((p0 >>> ((20 : Int32) &&& 31)) &&& (31 : Int32)).toNatClampNeg)))) (by unfold xf_Z_perform; exact (xif h1 (xif h21 (xif h33 (xif h36 (xif h39 (xif h53 (xif h56 (xif h59 (xif h62 (xif h84 (xit h99 (xlt_e hq100 rfl))))))))))))) hP hD hS xd_Z_perform_404
                      · have hv := xif_v h99 hv
                        refine lv_lookup (tgt := 405) (off := 347) hx hb xd_Z_perform_58 (by decide +kernel) (by first | (rw [lv_osw h1 (by decide), lv_osw h21 (by decide), lv_osw h33 (by decide), lv_osw h36 (by decide), lv_osw h39 (by decide), lv_osw h53 (by decide), lv_osw h56 (by decide), lv_osw h59 (by decide), lv_osw h62 (by decide), lv_osw h84 (by decide), lv_osw h99 (by decide)]; rfl) | (simp only [lv_osw h1 (by decide), lv_osw h21 (by decide), lv_osw h33 (by decide), lv_osw h36 (by decide), lv_osw h39 (by decide), lv_osw h53 (by decide), lv_osw h56 (by decide), lv_osw h59 (by decide), lv_osw h62 (by decide), lv_osw h84 (by decide), lv_osw h99 (by decide)]; rfl)) rfl ?_
                        refine lv_aload_n hx hb xd_Z_perform_405 rfl (lv_at hl 4 rfl) ?_
                        refine lv_iload_n hx hb xd_Z_perform_406 rfl (lv_at hl 5 rfl) ?_
                        obtain ⟨hn103, hv⟩ := xan_v hv
                        refine xcW_i (va_runV (As := [.int p0]) (rest := []) ⟨hx, hb, hml, hown, htg⟩ (c_Z_illegal l D z k b H.size (xs_Z_next u ((xg_Z_pc u) + (4 : Int32))) p0 hn103) (cwV 1 htg (xg_V0 xkin_Z_illegal xw_990 xw_992 xsel_Z_illegal xw_9) rfl rfl rfl (by decide +kernel) ⟨Nat.le_of_ble_eq_true rfl, Nat.le_of_ble_eq_true rfl⟩) ⟨xB_blind, xrecv_Z hK hP, fun U hU hW => xB_mk hP hK hD hE hS (xsubW hD hA hS) hU hW⟩ rfl rfl hl.1 rfl (lv_room (Nat.le_of_ble_eq_true rfl)) xd_Z_perform_407 ⟨Nat.le_of_ble_eq_true rfl, Nat.le_of_ble_eq_true rfl⟩) hD hA hS (fun r u1 H locs hw hP hD hS => ?_)
                        obtain ⟨q102, hq102⟩ : ∃ q, q = xf_Z_illegal (xs_Z_next u ((xg_Z_pc u) + (4 : Int32))) p0 := ⟨_, rfl⟩
                        rw [← hq102] at hw
                        obtain rfl : r = q102.1 := congrArg Prod.fst hw
                        obtain rfl : u1 = q102.2 := congrArg Prod.snd hw
                        have hP : va_P D xCl (xWZ k b q102.2) H := hP
                        have hD : va_D A (xWZ k b q102.2) := hD
                        have hv := xlt_v hq102 hv
                        exact hret _ q102.2 H locs ls _ (xnar (X01_ofp hq102 (xt01_Z_illegal (xs_Z_next u ((xg_Z_pc u) + (4 : Int32))) p0))) (by unfold xf_Z_perform; exact (xif h1 (xif h21 (xif h33 (xif h36 (xif h39 (xif h53 (xif h56 (xif h59 (xif h62 (xif h84 (xif h99 (xlt_e hq102 rfl))))))))))))) hP hD hS xd_Z_perform_410
theorem xt01_Z_perform (u : XZ) (p0 : Int32) : X01p (xf_Z_perform u p0) := by unfold xf_Z_perform; exact (xit_01p (xlt_01p (fun v10 hv10 => (xlt_01p (fun v11 hv11 => (X01_of hv10 (xit_01 (xlt_01 (fun q3 hq3 => (X01_ofp hq3 (xt01_Z_illegal (xs_Z_next u ((xg_Z_pc u) + (4 : Int32))) p0)))) (xit_01 (xlt_01 (fun q6 hq6 => (X01_ofp hq6 (xt01_Z_load (xs_Z_next u ((xg_Z_pc u) + (4 : Int32))) ((p0 >>> ((7 : Int32) &&& 31)) &&& (31 : Int32)) ((p0 >>> ((12 : Int32) &&& 31)) &&& (7 : Int32)) ((xg_Z_x u ((p0 >>> ((15 : Int32) &&& 31)) &&& (31 : Int32)).toNatClampNeg) + (p0 >>> ((20 : Int32) &&& 31))))))) (xlt_01 (fun q8 hq8 => (X01_ofp hq8 (xt01_Z_illegal (xs_Z_next u ((xg_Z_pc u) + (4 : Int32))) p0))))))))))) (xit_01p (xlt_01p (fun v26 hv26 => (xlt_01p (fun v27 hv27 => (X01_of hv26 (xit_01 (Or.inr rfl) (xlt_01 (fun q23 hq23 => (xit_01 (Or.inl rfl) (Or.inr rfl)))))))))) (xit_01p (xlt_01p (fun q34 hq34 => (X01_ofp hq34 (xt01_Z_small (xs_Z_next u ((xg_Z_pc u) + (4 : Int32))) p0 ((p0 >>> ((7 : Int32) &&& 31)) &&& (31 : Int32)) ((p0 >>> ((12 : Int32) &&& 31)) &&& (7 : Int32)) (xg_Z_x u ((p0 >>> ((15 : Int32) &&& 31)) &&& (31 : Int32)).toNatClampNeg))))) (xit_01p (xlt_01p (fun q37 hq37 => (X01_ofp hq37 (xt01_Z_put (xs_Z_next u ((xg_Z_pc u) + (4 : Int32))) ((p0 >>> ((7 : Int32) &&& 31)) &&& (31 : Int32)) ((xg_Z_pc (xs_Z_next u ((xg_Z_pc u) + (4 : Int32)))) + (p0 &&& (-4096 : Int32))))))) (xit_01p (xlt_01p (fun v45 hv45 => (xlt_01p (fun v46 hv46 => (X01_of hv45 (xit_01 (xlt_01 (fun q41 hq41 => (X01_ofp hq41 (xt01_Z_store (xs_Z_next u ((xg_Z_pc u) + (4 : Int32))) ((1 : Int32) <<< (((p0 >>> ((12 : Int32) &&& 31)) &&& (7 : Int32)) &&& 31)) (((xg_Z_x u ((p0 >>> ((15 : Int32) &&& 31)) &&& (31 : Int32)).toNatClampNeg) + ((p0 >>> ((25 : Int32) &&& 31)) * (32 : Int32))) + ((p0 >>> ((7 : Int32) &&& 31)) &&& (31 : Int32))) (xg_Z_x u ((p0 >>> ((20 : Int32) &&& 31)) &&& (31 : Int32)).toNatClampNeg))))) (xlt_01 (fun q43 hq43 => (X01_ofp hq43 (xt01_Z_illegal (xs_Z_next u ((xg_Z_pc u) + (4 : Int32))) p0)))))))))) (xit_01p (xlt_01p (fun q54 hq54 => (X01_ofp hq54 (xt01_Z_pair (xs_Z_next u ((xg_Z_pc u) + (4 : Int32))) p0 ((p0 >>> ((7 : Int32) &&& 31)) &&& (31 : Int32)) ((p0 >>> ((12 : Int32) &&& 31)) &&& (7 : Int32)) (xg_Z_x u ((p0 >>> ((15 : Int32) &&& 31)) &&& (31 : Int32)).toNatClampNeg) (xg_Z_x u ((p0 >>> ((20 : Int32) &&& 31)) &&& (31 : Int32)).toNatClampNeg))))) (xit_01p (xlt_01p (fun q57 hq57 => (X01_ofp hq57 (xt01_Z_put (xs_Z_next u ((xg_Z_pc u) + (4 : Int32))) ((p0 >>> ((7 : Int32) &&& 31)) &&& (31 : Int32)) (p0 &&& (-4096 : Int32)))))) (xit_01p (xlt_01p (fun q60 hq60 => (X01_ofp hq60 (xt01_Z_branch (xs_Z_next u ((xg_Z_pc u) + (4 : Int32))) p0 ((p0 >>> ((12 : Int32) &&& 31)) &&& (7 : Int32)) (xg_Z_x u ((p0 >>> ((15 : Int32) &&& 31)) &&& (31 : Int32)).toNatClampNeg) (xg_Z_x u ((p0 >>> ((20 : Int32) &&& 31)) &&& (31 : Int32)).toNatClampNeg))))) (xit_01p (xlt_01p (fun v72 hv72 => (xlt_01p (fun v73 hv73 => (X01_of hv72 (xit_01 (xlt_01 (fun q66 hq66 => (xit_01 (Or.inl rfl) (xlt_01 (fun q69 hq69 => (xit_01 (Or.inl rfl) (Or.inr rfl))))))) (xlt_01 (fun q64 hq64 => (X01_ofp hq64 (xt01_Z_illegal (xs_Z_next u ((xg_Z_pc u) + (4 : Int32))) p0)))))))))) (xit_01p (xlt_01p (fun r85 hr85 => (xlt_01p (fun q86 hq86 => (xlt_01p (fun v92 hv92 => (xlt_01p (fun v93 hv93 => (X01_of hv92 (xit_01 (Or.inl rfl) (xlt_01 (fun q89 hq89 => (xit_01 (Or.inl rfl) (Or.inr rfl)))))))))))))) (xit_01p (xlt_01p (fun q100 hq100 => (X01_ofp hq100 (xt01_Z_system (xs_Z_next u ((xg_Z_pc u) + (4 : Int32))) p0 ((p0 >>> ((7 : Int32) &&& 31)) &&& (31 : Int32)) ((p0 >>> ((12 : Int32) &&& 31)) &&& (7 : Int32)) (xg_Z_x u ((p0 >>> ((15 : Int32) &&& 31)) &&& (31 : Int32)).toNatClampNeg) (xg_Z_x u ((p0 >>> ((20 : Int32) &&& 31)) &&& (31 : Int32)).toNatClampNeg))))) (xlt_01p (fun q102 hq102 => (X01_ofp hq102 (xt01_Z_illegal (xs_Z_next u ((xg_Z_pc u) + (4 : Int32))) p0)))))))))))))))

noncomputable def xf_Z_fetchAndPerform (u : XZ) : Int32 × XZ :=
  xlt (xf_Z_isVirtual u : Int32) fun q1 =>
  xlt (if (xg_Z_mode u) = 0 then (1) else (if (xg_Z_mode u) = 2 then (1) else (0)) : Int32) fun v4 =>
  xlt (xf_Z_asMode u (0 : Int32) q1 v4 (0 : Int32) : XZ) fun q6 =>
  xlt (xf_Z_lead q6 (xg_Z_pc q6) (4 : Int32) : Int64 × XZ) fun q8 =>
  xlt (if (lg_cmp q8.1 (0 : Int64)) < 0 then (0) else (xlt (xf_Z_word q8.2 q8.1 : Int32) fun q11 => xlt (xf_Z_perform q8.2 q11 : Int32 × XZ) fun q13 => if q13.1 = 0 then (0) else (1)) : Int32) fun v16 =>
  xlt (if (lg_cmp q8.1 (0 : Int64)) < 0 then (q8.2) else (xlt (xf_Z_word q8.2 q8.1 : Int32) fun q11 => xlt (xf_Z_perform q8.2 q11 : Int32 × XZ) fun q13 => if q13.1 = 0 then (q13.2) else (q13.2)) : XZ) fun v17 =>
  (v16, v17)
def xv_Z_fetchAndPerform (u : XZ) : Prop := XVc (
  xlt (xf_Z_isVirtual u : Int32) fun q1 =>
  xlt (if (xg_Z_mode u) = 0 then (1) else (if (xg_Z_mode u) = 2 then (1) else (0)) : Int32) fun v4 =>
  (xv_Z_asMode u (0 : Int32) q1 v4 (0 : Int32)) ∧
  xlt (xf_Z_asMode u (0 : Int32) q1 v4 (0 : Int32) : XZ) fun q6 =>
  (xv_Z_lead q6 (xg_Z_pc q6) (4 : Int32)) ∧
  xlt (xf_Z_lead q6 (xg_Z_pc q6) (4 : Int32) : Int64 × XZ) fun q8 =>
  (if (lg_cmp q8.1 (0 : Int64)) < 0 then (True) else ((xv_Z_word q8.2 q8.1) ∧ (xlt (xf_Z_word q8.2 q8.1 : Int32) fun q11 => (xv_Z_perform q8.2 q11) ∧ (xlt (xf_Z_perform q8.2 q11 : Int32 × XZ) fun q13 => if q13.1 = 0 then (True) else (True))))) ∧
  xlt (if (lg_cmp q8.1 (0 : Int64)) < 0 then (0) else (xlt (xf_Z_word q8.2 q8.1 : Int32) fun q11 => xlt (xf_Z_perform q8.2 q11 : Int32 × XZ) fun q13 => if q13.1 = 0 then (0) else (1)) : Int32) fun v16 =>
  xlt (if (lg_cmp q8.1 (0 : Int64)) < 0 then (q8.2) else (xlt (xf_Z_word q8.2 q8.1 : Int32) fun q11 => xlt (xf_Z_perform q8.2 q11 : Int32 × XZ) fun q13 => if q13.1 = 0 then (q13.2) else (q13.2)) : XZ) fun v17 =>
  True)
set_option maxHeartbeats 4000000 in
set_option maxRecDepth 100000 in
theorem c_Z_fetchAndPerform (l : Launch) (D : va_G) (z : (Nat → Nat) × (Nat → Nat)) (k : ClassId × ClassId) (b : Nat → Nat) (sz : Nat) (u : XZ) (hv : xv_Z_fetchAndPerform u) : Met l xy_Z_fetchAndPerform (xk_Z_fetchAndPerform :: lw_g) { frames := 13, cells := 0, slots := 0, locals := 351 } (va_Pc [.ref ((b 0))] (xB D (xTy k) z sz (xWZ k b u))) (va_Qi (fun r (q : XZ) => (r, q) = xf_Z_fetchAndPerform u) (fun q t => xQ D (xTy k) (xWZ k b q) (va_A (xWZ k b u) sz) t) (va_A (xWZ k b u) sz)) 0 0 (va_A (xWZ k b u) sz) := by
  refine xopen_z (wf := fun q : XZ => xWZ k b q) (lv := [(0, .ref ((b 0)))]) (by decide) rfl (Nat.le_of_ble_eq_true rfl) ?_
  intro p e s m args below meth c Q ls A H locs hx hb hml htg hown hin hK hP hD hE hS hA hl hret
  unfold xv_Z_fetchAndPerform at hv
  refine lv_aload_n hx hb xd_Z_fetchAndPerform_0 rfl (lv_at hl 0 rfl) ?_
  refine lv_iconst (v := 0) hx hb xd_Z_fetchAndPerform_1 (by decide) ?_
  refine lv_aload_n hx hb xd_Z_fetchAndPerform_2 rfl (lv_at hl 0 rfl) ?_
  refine xcW_i (va_runV (As := []) (rest := [.int 0, .ref ((b 0))]) ⟨hx, hb, hml, hown, htg⟩ (c_Z_isVirtual l D z k b H.size u) (cwV 0 htg (xg_V0 xkin_Z_isVirtual xw_917 xw_919 xsel_Z_isVirtual xw_9) rfl rfl rfl (by decide +kernel) ⟨Nat.le_of_ble_eq_true rfl, Nat.le_of_ble_eq_true rfl⟩) ⟨xB_blind, xrecv_Z hK hP, fun U hU hW => xB_mk hP hK hD hE hS (xsubW hD hA hS) hU hW⟩ rfl rfl hl.1 rfl (lv_room (Nat.le_of_ble_eq_true rfl)) xd_Z_fetchAndPerform_3 ⟨Nat.le_of_ble_eq_true rfl, Nat.le_of_ble_eq_true rfl⟩) hD hA hS (fun r u1 H locs hw hP hD hS => ?_)
  obtain ⟨q1, hq1⟩ : ∃ q, q = xf_Z_isVirtual u := ⟨_, rfl⟩
  obtain ⟨e1, e2⟩ := hw
  rw [← hq1] at e1
  obtain rfl : q1 = r := e1.symm
  obtain rfl : u = u1 := e2.symm
  have hP : va_P D xCl (xWZ k b u) H := hP
  have hD : va_D A (xWZ k b u) := hD
  have hv := xlt_v hq1 hv
  refine lv_aload_n hx hb xd_Z_fetchAndPerform_6 rfl (lv_at hl 0 rfl) ?_
  refine xget_Z_mode (v := (xg_Z_mode u)) hx hb htg hown hK hP (htg _ xw_731) rfl xd_Z_fetchAndPerform_7 ?_
  have hj5 : ∀ (H : Heap) (locs : List Loc) (ls : Array Slot) (v4 : Int32), v4 = (if (xg_Z_mode u) = 0 then (1) else (if (xg_Z_mode u) = 2 then (1) else (0))) → lv_has ls 3 [(0, .ref ((b 0)))] → va_P D xCl (xWZ k b u) H → va_D A (xWZ k b u) → va_S A s.heap H locs → W p l e { frames := 13, cells := 0, slots := 0, locals := 351 } s m args below meth c H locs (0) (0) Q (F0 m 26 ls [.int v4, .int q1, .int 0, .ref ((b 0))]) := by
    intro H locs ls v4 hv4 hl hP hD hS
    have hv := xlt_v hv4 hv
    refine lv_iconst (v := 0) hx hb xd_Z_fetchAndPerform_26 (by decide) ?_
    obtain ⟨hn7, hv⟩ := xan_v hv
    refine xcW_v (va_runV (As := [.int 0, .int q1, .int v4, .int 0]) (rest := []) ⟨hx, hb, hml, hown, htg⟩ (c_Z_asMode l D z k b H.size u (0 : Int32) q1 v4 (0 : Int32) hn7) (cwV 4 htg (xg_V0 xkin_Z_asMode xw_925 xw_927 xsel_Z_asMode xw_9) rfl rfl rfl (by decide +kernel) ⟨Nat.le_of_ble_eq_true rfl, Nat.le_of_ble_eq_true rfl⟩) ⟨xB_blind, xrecv_Z hK hP, fun U hU hW => xB_mk hP hK hD hE hS (xsubW hD hA hS) hU hW⟩ rfl rfl hl.1 rfl (lv_room (Nat.le_of_ble_eq_true rfl)) xd_Z_fetchAndPerform_27 ⟨Nat.le_of_ble_eq_true rfl, Nat.le_of_ble_eq_true rfl⟩) hD hA hS (fun u1 H locs hw hP hD hS => ?_)
    obtain ⟨q6, hq6⟩ : ∃ q, q = xf_Z_asMode u (0 : Int32) q1 v4 (0 : Int32) := ⟨_, rfl⟩
    rw [← hq6] at hw
    obtain rfl : q6 = u1 := hw.symm
    have hP : va_P D xCl (xWZ k b q6) H := hP
    have hD : va_D A (xWZ k b q6) := hD
    have hv := xlt_v hq6 hv
    refine lv_aload_n hx hb xd_Z_fetchAndPerform_30 rfl (lv_at hl 0 rfl) ?_
    refine lv_aload_n hx hb xd_Z_fetchAndPerform_31 rfl (lv_at hl 0 rfl) ?_
    refine xget_Z_pc (v := (xg_Z_pc q6)) hx hb htg hown hK hP (htg _ xw_730) rfl xd_Z_fetchAndPerform_32 ?_
    refine lv_iconst (v := 4) hx hb xd_Z_fetchAndPerform_35 (by decide) ?_
    obtain ⟨hn9, hv⟩ := xan_v hv
    refine xcW_l (va_runV (As := [.int ((xg_Z_pc q6)), .int 4]) (rest := []) ⟨hx, hb, hml, hown, htg⟩ (c_Z_lead l D z k b H.size q6 (xg_Z_pc q6) (4 : Int32) hn9) (cwV 2 htg (xg_V0 xkin_Z_lead xw_929 xw_931 xsel_Z_lead xw_9) rfl rfl rfl (by decide +kernel) ⟨Nat.le_of_ble_eq_true rfl, Nat.le_of_ble_eq_true rfl⟩) ⟨xB_blind, xrecv_Z hK hP, fun U hU hW => xB_mk hP hK hD hE hS (xsubW hD hA hS) hU hW⟩ rfl rfl hl.1 rfl (lv_room (Nat.le_of_ble_eq_true rfl)) xd_Z_fetchAndPerform_36 ⟨Nat.le_of_ble_eq_true rfl, Nat.le_of_ble_eq_true rfl⟩) hD hA hS (fun r u1 H locs hw hP hD hS => ?_)
    obtain ⟨q8, hq8⟩ : ∃ q, q = xf_Z_lead q6 (xg_Z_pc q6) (4 : Int32) := ⟨_, rfl⟩
    rw [← hq8] at hw
    obtain rfl : r = q8.1 := congrArg Prod.fst hw
    obtain rfl : u1 = q8.2 := congrArg Prod.snd hw
    have hP : va_P D xCl (xWZ k b q8.2) H := hP
    have hD : va_D A (xWZ k b q8.2) := hD
    have hv := xlt_v hq8 hv
    refine lv_lstore_n (lv' := [(1, .long (q8.1)), (0, .ref ((b 0)))]) hx hb xd_Z_fetchAndPerform_39 rfl hl (by decide) rfl (fun ls hl => ?_)
    refine lv_lload_n hx hb xd_Z_fetchAndPerform_40 rfl (lv_at hl 0 rfl) ?_
    refine lv_lconst (v := 0) hx hb xd_Z_fetchAndPerform_41 (by decide) ?_
    refine W.lcmp hx hb xd_Z_fetchAndPerform_42 ?_
    obtain ⟨hva, hv⟩ := xan_v2 hv
    have hj18 : ∀ (H : Heap) (locs : List Loc) (ls : Array Slot) (v16 : Int32) (v17 : XZ), v16 = (if (lg_cmp q8.1 (0 : Int64)) < 0 then (0) else (xlt (xf_Z_word q8.2 q8.1 : Int32) fun q11 => xlt (xf_Z_perform q8.2 q11 : Int32 × XZ) fun q13 => if q13.1 = 0 then (0) else (1))) → v17 = (if (lg_cmp q8.1 (0 : Int64)) < 0 then (q8.2) else (xlt (xf_Z_word q8.2 q8.1 : Int32) fun q11 => xlt (xf_Z_perform q8.2 q11 : Int32 × XZ) fun q13 => if q13.1 = 0 then (q13.2) else (q13.2))) → lv_has ls 3 [(1, .long (q8.1)), (0, .ref ((b 0)))] → va_P D xCl (xWZ k b v17) H → va_D A (xWZ k b v17) → va_S A s.heap H locs → W p l e { frames := 13, cells := 0, slots := 0, locals := 351 } s m args below meth c H locs (0) (0) Q (F0 m 63 ls [.int v16]) := by
      intro H locs ls v16 v17 hv16 hv17 hl hP hD hS
      have hv := xlt_v hv16 hv
      have hv := xlt_v hv17 hv
      exact hret _ v17 H locs ls _ (xnar (X01_of hv16 (xit_01 (Or.inl rfl) (xlt_01 (fun q11 hq11 => (xlt_01 (fun q13 hq13 => (xit_01 (Or.inl rfl) (Or.inr rfl))))))))) (by unfold xf_Z_fetchAndPerform; exact (xlt_e hq1 (xlt_e hv4 (xlt_e hq6 (xlt_e hq8 (xlt_e hv16 (xlt_e hv17 rfl))))))) hP hD hS xd_Z_fetchAndPerform_63
    have hv := hva
    refine lv_if_lt (tgt := 62) hx hb xd_Z_fetchAndPerform_43 rfl (fun h19 => ?_) (fun h19 => ?_)
    · have hv := xit_v h19 hv
      refine lv_iconst (v := 0) hx hb xd_Z_fetchAndPerform_62 (by decide) ?_
      exact hj18 H locs ls (0 : Int32) q8.2 (xit h19 rfl) (xit h19 rfl) hl hP hD hS
    · have hv := xif_v h19 hv
      refine lv_aload_n hx hb xd_Z_fetchAndPerform_46 rfl (lv_at hl 1 rfl) ?_
      refine lv_aload_n hx hb xd_Z_fetchAndPerform_47 rfl (lv_at hl 1 rfl) ?_
      refine lv_lload_n hx hb xd_Z_fetchAndPerform_48 rfl (lv_at hl 0 rfl) ?_
      obtain ⟨hn21, hv⟩ := xan_v hv
      refine xcW_i (va_runV (As := [.long (q8.1)]) (rest := [.ref ((b 0))]) ⟨hx, hb, hml, hown, htg⟩ (c_Z_word l D z k b H.size q8.2 q8.1 hn21) (cwV 1 htg (xg_V0 xkin_Z_word xw_959 xw_961 xsel_Z_word xw_9) rfl rfl rfl (by decide +kernel) ⟨Nat.le_of_ble_eq_true rfl, Nat.le_of_ble_eq_true rfl⟩) ⟨xB_blind, xrecv_Z hK hP, fun U hU hW => xB_mk hP hK hD hE hS (xsubW hD hA hS) hU hW⟩ rfl rfl hl.1 rfl (lv_room (Nat.le_of_ble_eq_true rfl)) xd_Z_fetchAndPerform_49 ⟨Nat.le_of_ble_eq_true rfl, Nat.le_of_ble_eq_true rfl⟩) hD hA hS (fun r u1 H locs hw hP hD hS => ?_)
      obtain ⟨q20, hq20⟩ : ∃ q, q = xf_Z_word q8.2 q8.1 := ⟨_, rfl⟩
      obtain ⟨e1, e2⟩ := hw
      rw [← hq20] at e1
      obtain rfl : q20 = r := e1.symm
      obtain rfl : q8.2 = u1 := e2.symm
      have hP : va_P D xCl (xWZ k b q8.2) H := hP
      have hD : va_D A (xWZ k b q8.2) := hD
      have hv := xlt_v hq20 hv
      obtain ⟨hn23, hv⟩ := xan_v hv
      refine xcW_i (va_runV (As := [.int q20]) (rest := []) ⟨hx, hb, hml, hown, htg⟩ (c_Z_perform l D z k b H.size q8.2 q20 hn23) (cwV 1 htg (xg_V0 xkin_Z_perform xw_976 xw_978 xsel_Z_perform xw_9) rfl rfl rfl (by decide +kernel) ⟨Nat.le_of_ble_eq_true rfl, Nat.le_of_ble_eq_true rfl⟩) ⟨xB_blind, xrecv_Z hK hP, fun U hU hW => xB_mk hP hK hD hE hS (xsubW hD hA hS) hU hW⟩ rfl rfl hl.1 rfl (lv_room (Nat.le_of_ble_eq_true rfl)) xd_Z_fetchAndPerform_52 ⟨Nat.le_of_ble_eq_true rfl, Nat.le_of_ble_eq_true rfl⟩) hD hA hS (fun r u1 H locs hw hP hD hS => ?_)
      obtain ⟨q22, hq22⟩ : ∃ q, q = xf_Z_perform q8.2 q20 := ⟨_, rfl⟩
      rw [← hq22] at hw
      obtain rfl : r = q22.1 := congrArg Prod.fst hw
      obtain rfl : u1 = q22.2 := congrArg Prod.snd hw
      have hP : va_P D xCl (xWZ k b q22.2) H := hP
      have hD : va_D A (xWZ k b q22.2) := hD
      have hv := xlt_v hq22 hv
      refine lv_if_eq (tgt := 62) hx hb xd_Z_fetchAndPerform_55 rfl (fun h24 => ?_) (fun h24 => ?_)
      · have hv := xit_v h24 hv
        refine lv_iconst (v := 0) hx hb xd_Z_fetchAndPerform_62 (by decide) ?_
        exact hj18 H locs ls (0 : Int32) q22.2 (xif h19 (xlt_e hq20 (xlt_e hq22 (xit h24 rfl)))) (xif h19 (xlt_e hq20 (xlt_e hq22 (xit h24 rfl)))) hl hP hD hS
      · have hv := xif_v h24 hv
        refine lv_iconst (v := 1) hx hb xd_Z_fetchAndPerform_58 (by decide) ?_
        refine lv_goto (tgt := 63) hx hb xd_Z_fetchAndPerform_59 rfl ?_
        exact hj18 H locs ls (1 : Int32) q22.2 (xif h19 (xlt_e hq20 (xlt_e hq22 (xif h24 rfl)))) (xif h19 (xlt_e hq20 (xlt_e hq22 (xif h24 rfl)))) hl hP hD hS
  refine lv_if_eq (tgt := 21) hx hb xd_Z_fetchAndPerform_10 rfl (fun h25 => ?_) (fun h25 => ?_)
  · refine lv_iconst (v := 1) hx hb xd_Z_fetchAndPerform_21 (by decide) ?_
    refine lv_goto (tgt := 26) hx hb xd_Z_fetchAndPerform_22 rfl ?_
    exact hj5 H locs ls (1 : Int32) (xit h25 rfl) hl hP hD hS
  · refine lv_aload_n hx hb xd_Z_fetchAndPerform_13 rfl (lv_at hl 0 rfl) ?_
    refine xget_Z_mode (v := (xg_Z_mode u)) hx hb htg hown hK hP (htg _ xw_731) rfl xd_Z_fetchAndPerform_14 ?_
    refine lv_iconst (v := 2) hx hb xd_Z_fetchAndPerform_17 (by decide) ?_
    refine lv_icmp_ne (tgt := 25) hx hb xd_Z_fetchAndPerform_18 rfl (fun h26 => ?_) (fun h26 => ?_)
    · refine lv_iconst (v := 0) hx hb xd_Z_fetchAndPerform_25 (by decide) ?_
      exact hj5 H locs ls (0 : Int32) (xif h25 (xif h26 rfl)) hl hP hD hS
    · refine lv_iconst (v := 1) hx hb xd_Z_fetchAndPerform_21 (by decide) ?_
      refine lv_goto (tgt := 26) hx hb xd_Z_fetchAndPerform_22 rfl ?_
      exact hj5 H locs ls (1 : Int32) (xif h25 (xit h26 rfl)) hl hP hD hS
theorem xt01_Z_fetchAndPerform (u : XZ) : X01p (xf_Z_fetchAndPerform u) := by unfold xf_Z_fetchAndPerform; exact (xlt_01p (fun q1 hq1 => (xlt_01p (fun v4 hv4 => (xlt_01p (fun q6 hq6 => (xlt_01p (fun q8 hq8 => (xlt_01p (fun v16 hv16 => (xlt_01p (fun v17 hv17 => (X01_of hv16 (xit_01 (Or.inl rfl) (xlt_01 (fun q11 hq11 => (xlt_01 (fun q13 hq13 => (xit_01 (Or.inl rfl) (Or.inr rfl))))))))))))))))))))

noncomputable def xf_Z_step (u : XZ) : XZ :=
  xlt (xf_Z_due u : Int32) fun q1 =>
  xlt (if q1 < 0 then (xlt (xf_Z_fetchAndPerform u : Int32 × XZ) fun q4 => if q4.1 = 0 then (xlt (xf_Z_trap q4.2 : XZ) fun q7 => q7) else ((xs_Z_pc q4.2 (xg_Z_next q4.2)))) else (if q1 ≤ 99 then (xlt (xf_Z_enterS (xs_Z_interrupts u ((xg_Z_interrupts u) + (1 : Int32))) ((-2147483648 : Int32) ||| q1) (0 : Int32) (0 : Int32) : XZ) fun q10 => q10) else (xlt (xf_Z_enter_512 (xs_Z_interrupts u ((xg_Z_interrupts u) + (1 : Int32))) ((-2147483648 : Int32) ||| (q1 - (100 : Int32))) (0 : Int32) (3 : Int32) : XZ) fun q12 => (xs_Z_toVs q12 ((xg_Z_toVs q12) + (1 : Int32))))) : XZ) fun v14 =>
  (xs_Z_time v14 ((xg_Z_time v14) + (1 : Int64)))
def xv_Z_step (u : XZ) : Prop := XVc (
  (xv_Z_due u) ∧
  xlt (xf_Z_due u : Int32) fun q1 =>
  (if q1 < 0 then ((xv_Z_fetchAndPerform u) ∧ (xlt (xf_Z_fetchAndPerform u : Int32 × XZ) fun q4 => if q4.1 = 0 then ((xv_Z_trap q4.2) ∧ (xlt (xf_Z_trap q4.2 : XZ) fun q7 => True)) else (True))) else (if q1 ≤ 99 then ((xv_Z_enterS (xs_Z_interrupts u ((xg_Z_interrupts u) + (1 : Int32))) ((-2147483648 : Int32) ||| q1) (0 : Int32) (0 : Int32)) ∧ (xlt (xf_Z_enterS (xs_Z_interrupts u ((xg_Z_interrupts u) + (1 : Int32))) ((-2147483648 : Int32) ||| q1) (0 : Int32) (0 : Int32) : XZ) fun q10 => True)) else ((xv_Z_enter_512 (xs_Z_interrupts u ((xg_Z_interrupts u) + (1 : Int32))) ((-2147483648 : Int32) ||| (q1 - (100 : Int32))) (0 : Int32) (3 : Int32)) ∧ (xlt (xf_Z_enter_512 (xs_Z_interrupts u ((xg_Z_interrupts u) + (1 : Int32))) ((-2147483648 : Int32) ||| (q1 - (100 : Int32))) (0 : Int32) (3 : Int32) : XZ) fun q12 => True)))) ∧
  xlt (if q1 < 0 then (xlt (xf_Z_fetchAndPerform u : Int32 × XZ) fun q4 => if q4.1 = 0 then (xlt (xf_Z_trap q4.2 : XZ) fun q7 => q7) else ((xs_Z_pc q4.2 (xg_Z_next q4.2)))) else (if q1 ≤ 99 then (xlt (xf_Z_enterS (xs_Z_interrupts u ((xg_Z_interrupts u) + (1 : Int32))) ((-2147483648 : Int32) ||| q1) (0 : Int32) (0 : Int32) : XZ) fun q10 => q10) else (xlt (xf_Z_enter_512 (xs_Z_interrupts u ((xg_Z_interrupts u) + (1 : Int32))) ((-2147483648 : Int32) ||| (q1 - (100 : Int32))) (0 : Int32) (3 : Int32) : XZ) fun q12 => (xs_Z_toVs q12 ((xg_Z_toVs q12) + (1 : Int32))))) : XZ) fun v14 =>
  True)
set_option maxHeartbeats 4000000 in
set_option maxRecDepth 100000 in
theorem c_Z_step (l : Launch) (D : va_G) (z : (Nat → Nat) × (Nat → Nat)) (k : ClassId × ClassId) (b : Nat → Nat) (sz : Nat) (u : XZ) (hv : xv_Z_step u) : Met l xy_Z_step (xk_Z_step :: lw_g) { frames := 14, cells := 0, slots := 0, locals := 373 } (va_Pc [.ref ((b 0))] (xB D (xTy k) z sz (xWZ k b u))) (va_Qv (fun q : XZ => q = xf_Z_step u) (fun q t => xQ D (xTy k) (xWZ k b q) (va_A (xWZ k b u) sz) t) (va_A (xWZ k b u) sz)) 0 0 (va_A (xWZ k b u) sz) := by
  refine xopen_v (wf := fun q : XZ => xWZ k b q) (lv := [(0, .ref ((b 0)))]) (by decide) rfl (Nat.le_of_ble_eq_true rfl) ?_
  intro p e s m args below meth c Q ls A H locs hx hb hml htg hown hin hK hP hD hE hS hA hl hret
  unfold xv_Z_step at hv
  refine lv_aload_n hx hb xd_Z_step_0 rfl (lv_at hl 0 rfl) ?_
  obtain ⟨hn2, hv⟩ := xan_v hv
  refine xcW_i (va_runV (As := []) (rest := []) ⟨hx, hb, hml, hown, htg⟩ (c_Z_due l D z k b H.size u hn2) (cwV 0 htg (xg_V0 xkin_Z_due xw_904 xw_906 xsel_Z_due xw_9) rfl rfl rfl (by decide +kernel) ⟨Nat.le_of_ble_eq_true rfl, Nat.le_of_ble_eq_true rfl⟩) ⟨xB_blind, xrecv_Z hK hP, fun U hU hW => xB_mk hP hK hD hE hS (xsubW hD hA hS) hU hW⟩ rfl rfl hl.1 rfl (lv_room (Nat.le_of_ble_eq_true rfl)) xd_Z_step_1 ⟨Nat.le_of_ble_eq_true rfl, Nat.le_of_ble_eq_true rfl⟩) hD hA hS (fun r u1 H locs hw hP hD hS => ?_)
  obtain ⟨q1, hq1⟩ : ∃ q, q = xf_Z_due u := ⟨_, rfl⟩
  obtain ⟨e1, e2⟩ := hw
  rw [← hq1] at e1
  obtain rfl : q1 = r := e1.symm
  obtain rfl : u = u1 := e2.symm
  have hP : va_P D xCl (xWZ k b u) H := hP
  have hD : va_D A (xWZ k b u) := hD
  have hv := xlt_v hq1 hv
  refine lv_istore_n (lv' := [(1, .int q1), (0, .ref ((b 0)))]) hx hb xd_Z_step_4 rfl hl (by decide) rfl (fun ls hl => ?_)
  refine lv_iload_n hx hb xd_Z_step_5 rfl (lv_at hl 0 rfl) ?_
  obtain ⟨hva, hv⟩ := xan_v2 hv
  have hj15 : ∀ (H : Heap) (locs : List Loc) (ls : Array Slot) (v14 : XZ), v14 = (if q1 < 0 then (xlt (xf_Z_fetchAndPerform u : Int32 × XZ) fun q4 => if q4.1 = 0 then (xlt (xf_Z_trap q4.2 : XZ) fun q7 => q7) else ((xs_Z_pc q4.2 (xg_Z_next q4.2)))) else (if q1 ≤ 99 then (xlt (xf_Z_enterS (xs_Z_interrupts u ((xg_Z_interrupts u) + (1 : Int32))) ((-2147483648 : Int32) ||| q1) (0 : Int32) (0 : Int32) : XZ) fun q10 => q10) else (xlt (xf_Z_enter_512 (xs_Z_interrupts u ((xg_Z_interrupts u) + (1 : Int32))) ((-2147483648 : Int32) ||| (q1 - (100 : Int32))) (0 : Int32) (3 : Int32) : XZ) fun q12 => (xs_Z_toVs q12 ((xg_Z_toVs q12) + (1 : Int32)))))) → lv_has ls 2 [(1, .int q1), (0, .ref ((b 0)))] → va_P D xCl (xWZ k b v14) H → va_D A (xWZ k b v14) → va_S A s.heap H locs → W p l e { frames := 14, cells := 0, slots := 0, locals := 373 } s m args below meth c H locs (0) (0) Q (F0 m 91 ls []) := by
    intro H locs ls v14 hv14 hl hP hD hS
    have hv := xlt_v hv14 hv
    refine lv_aload_n hx hb xd_Z_step_91 rfl (lv_at hl 1 rfl) ?_
    refine lv_dup hx hb xd_Z_step_92 rfl ?_
    refine xget_Z_time (v := (xg_Z_time v14)) hx hb htg hown hK hP (htg _ xw_732) rfl xd_Z_step_93 ?_
    refine lv_lconst (v := 1) hx hb xd_Z_step_96 (by decide) ?_
    refine lv_ladd hx hb xd_Z_step_97 ?_
    refine xput_Z_time (v := ((xg_Z_time v14) + (1 : Int64))) hx hb htg hown hK hP hD hS (htg _ xw_732) xd_Z_step_98 (fun H locs hP hD hS => ?_)
    exact hret (xs_Z_time v14 ((xg_Z_time v14) + (1 : Int64))) H locs ls _ (by unfold xf_Z_step; exact (xlt_e hq1 (xlt_e hv14 rfl))) hP hD hS xd_Z_step_101
  have hv := hva
  refine lv_if_lt (tgt := 69) hx hb xd_Z_step_6 rfl (fun h16 => ?_) (fun h16 => ?_)
  · have hv := xit_v h16 hv
    refine lv_aload_n hx hb xd_Z_step_69 rfl (lv_at hl 1 rfl) ?_
    obtain ⟨hn18, hv⟩ := xan_v hv
    refine xcW_i (va_runV (As := []) (rest := []) ⟨hx, hb, hml, hown, htg⟩ (c_Z_fetchAndPerform l D z k b H.size u hn18) (cwV 0 htg (xg_V0 xkin_Z_fetchAndPerform xw_921 xw_923 xsel_Z_fetchAndPerform xw_9) rfl rfl rfl (by decide +kernel) ⟨Nat.le_of_ble_eq_true rfl, Nat.le_of_ble_eq_true rfl⟩) ⟨xB_blind, xrecv_Z hK hP, fun U hU hW => xB_mk hP hK hD hE hS (xsubW hD hA hS) hU hW⟩ rfl rfl hl.1 rfl (lv_room (Nat.le_of_ble_eq_true rfl)) xd_Z_step_70 ⟨Nat.le_of_ble_eq_true rfl, Nat.le_of_ble_eq_true rfl⟩) hD hA hS (fun r u1 H locs hw hP hD hS => ?_)
    obtain ⟨q17, hq17⟩ : ∃ q, q = xf_Z_fetchAndPerform u := ⟨_, rfl⟩
    rw [← hq17] at hw
    obtain rfl : r = q17.1 := congrArg Prod.fst hw
    obtain rfl : u1 = q17.2 := congrArg Prod.snd hw
    have hP : va_P D xCl (xWZ k b q17.2) H := hP
    have hD : va_D A (xWZ k b q17.2) := hD
    have hv := xlt_v hq17 hv
    refine lv_if_eq (tgt := 87) hx hb xd_Z_step_73 rfl (fun h19 => ?_) (fun h19 => ?_)
    · have hv := xit_v h19 hv
      refine lv_aload_n hx hb xd_Z_step_87 rfl (lv_at hl 1 rfl) ?_
      obtain ⟨hn21, hv⟩ := xan_v hv
      refine xcW_v (va_runV (As := []) (rest := []) ⟨hx, hb, hml, hown, htg⟩ (c_Z_trap l D z k b H.size q17.2 hn21) (cwV 0 htg (xg_V0 xkin_Z_trap xw_1065 xw_1067 xsel_Z_trap xw_9) rfl rfl rfl (by decide +kernel) ⟨Nat.le_of_ble_eq_true rfl, Nat.le_of_ble_eq_true rfl⟩) ⟨xB_blind, xrecv_Z hK hP, fun U hU hW => xB_mk hP hK hD hE hS (xsubW hD hA hS) hU hW⟩ rfl rfl hl.1 rfl (lv_room (Nat.le_of_ble_eq_true rfl)) xd_Z_step_88 ⟨Nat.le_of_ble_eq_true rfl, Nat.le_of_ble_eq_true rfl⟩) hD hA hS (fun u1 H locs hw hP hD hS => ?_)
      obtain ⟨q20, hq20⟩ : ∃ q, q = xf_Z_trap q17.2 := ⟨_, rfl⟩
      rw [← hq20] at hw
      obtain rfl : q20 = u1 := hw.symm
      have hP : va_P D xCl (xWZ k b q20) H := hP
      have hD : va_D A (xWZ k b q20) := hD
      have hv := xlt_v hq20 hv
      exact hj15 H locs ls q20 (xit h16 (xlt_e hq17 (xit h19 (xlt_e hq20 rfl)))) hl hP hD hS
    · have hv := xif_v h19 hv
      refine lv_aload_n hx hb xd_Z_step_76 rfl (lv_at hl 1 rfl) ?_
      refine lv_aload_n hx hb xd_Z_step_77 rfl (lv_at hl 1 rfl) ?_
      refine xget_Z_next (v := (xg_Z_next q17.2)) hx hb htg hown hK hP (htg _ xw_753) rfl xd_Z_step_78 ?_
      refine xput_Z_pc (v := (xg_Z_next q17.2)) hx hb htg hown hK hP hD hS (htg _ xw_730) xd_Z_step_81 (fun H locs hP hD hS => ?_)
      refine lv_goto (tgt := 91) hx hb xd_Z_step_84 rfl ?_
      exact hj15 H locs ls (xs_Z_pc q17.2 (xg_Z_next q17.2)) (xit h16 (xlt_e hq17 (xif h19 rfl))) hl hP hD hS
  · have hv := xif_v h16 hv
    refine lv_aload_n hx hb xd_Z_step_9 rfl (lv_at hl 1 rfl) ?_
    refine lv_dup hx hb xd_Z_step_10 rfl ?_
    refine xget_Z_interrupts (v := (xg_Z_interrupts u)) hx hb htg hown hK hP (htg _ xw_741) rfl xd_Z_step_11 ?_
    refine lv_iconst (v := 1) hx hb xd_Z_step_14 (by decide) ?_
    refine lv_iadd hx hb xd_Z_step_15 ?_
    refine xput_Z_interrupts (v := ((xg_Z_interrupts u) + (1 : Int32))) hx hb htg hown hK hP hD hS (htg _ xw_741) xd_Z_step_16 (fun H locs hP hD hS => ?_)
    refine lv_iload_n hx hb xd_Z_step_19 rfl (lv_at hl 0 rfl) ?_
    refine lv_bipush (v := 99) hx hb xd_Z_step_20 (by decide) ?_
    refine lv_icmp_le (tgt := 55) hx hb xd_Z_step_22 rfl (fun h22 => ?_) (fun h22 => ?_)
    · have hv := xit_v h22 hv
      refine lv_aload_n hx hb xd_Z_step_55 rfl (lv_at hl 1 rfl) ?_
      refine lv_ldcw (v := (-2147483648)) hx hb hown (htg _ xw_908) xd_Z_step_56 ?_
      refine lv_iload_n hx hb xd_Z_step_59 rfl (lv_at hl 0 rfl) ?_
      refine lv_ior hx hb xd_Z_step_60 ?_
      refine lv_iconst (v := 0) hx hb xd_Z_step_61 (by decide) ?_
      refine lv_iconst (v := 0) hx hb xd_Z_step_62 (by decide) ?_
      obtain ⟨hn24, hv⟩ := xan_v hv
      refine xcW_v (va_runV (As := [.int (((-2147483648 : Int32) ||| q1)), .int 0, .int 0]) (rest := []) ⟨hx, hb, hml, hown, htg⟩ (c_Z_enterS l D z k b H.size (xs_Z_interrupts u ((xg_Z_interrupts u) + (1 : Int32))) ((-2147483648 : Int32) ||| q1) (0 : Int32) (0 : Int32) hn24) (cwV 3 htg (xg_V0 xkin_Z_enterS xw_913 xw_915 xsel_Z_enterS xw_9) rfl rfl rfl (by decide +kernel) ⟨Nat.le_of_ble_eq_true rfl, Nat.le_of_ble_eq_true rfl⟩) ⟨xB_blind, xrecv_Z hK hP, fun U hU hW => xB_mk hP hK hD hE hS (xsubW hD hA hS) hU hW⟩ rfl rfl hl.1 rfl (lv_room (Nat.le_of_ble_eq_true rfl)) xd_Z_step_63 ⟨Nat.le_of_ble_eq_true rfl, Nat.le_of_ble_eq_true rfl⟩) hD hA hS (fun u1 H locs hw hP hD hS => ?_)
      obtain ⟨q23, hq23⟩ : ∃ q, q = xf_Z_enterS (xs_Z_interrupts u ((xg_Z_interrupts u) + (1 : Int32))) ((-2147483648 : Int32) ||| q1) (0 : Int32) (0 : Int32) := ⟨_, rfl⟩
      rw [← hq23] at hw
      obtain rfl : q23 = u1 := hw.symm
      have hP : va_P D xCl (xWZ k b q23) H := hP
      have hD : va_D A (xWZ k b q23) := hD
      have hv := xlt_v hq23 hv
      refine lv_goto (tgt := 91) hx hb xd_Z_step_66 rfl ?_
      exact hj15 H locs ls q23 (xif h16 (xit h22 (xlt_e hq23 rfl))) hl hP hD hS
    · have hv := xif_v h22 hv
      refine lv_aload_n hx hb xd_Z_step_25 rfl (lv_at hl 1 rfl) ?_
      refine lv_sipush (v := 512) hx hb xd_Z_step_26 (by decide) ?_
      refine lv_ldcw (v := (-2147483648)) hx hb hown (htg _ xw_908) xd_Z_step_29 ?_
      refine lv_iload_n hx hb xd_Z_step_32 rfl (lv_at hl 0 rfl) ?_
      refine lv_bipush (v := 100) hx hb xd_Z_step_33 (by decide) ?_
      refine lv_isub hx hb xd_Z_step_35 ?_
      refine lv_ior hx hb xd_Z_step_36 ?_
      refine lv_iconst (v := 0) hx hb xd_Z_step_37 (by decide) ?_
      refine lv_iconst (v := 3) hx hb xd_Z_step_38 (by decide) ?_
      obtain ⟨hn26, hv⟩ := xan_v hv
      refine xcW_v (va_runV (As := [.int 512, .int (((-2147483648 : Int32) ||| (q1 - (100 : Int32)))), .int 0, .int 3]) (rest := []) ⟨hx, hb, hml, hown, htg⟩ (c_Z_enter_512 l D z k b H.size (xs_Z_interrupts u ((xg_Z_interrupts u) + (1 : Int32))) ((-2147483648 : Int32) ||| (q1 - (100 : Int32))) (0 : Int32) (3 : Int32) hn26) (cwV 4 htg (xg_V0 xkin_Z_enter xw_909 xw_911 xsel_Z_enter xw_9) rfl rfl rfl (by decide +kernel) ⟨Nat.le_of_ble_eq_true rfl, Nat.le_of_ble_eq_true rfl⟩) ⟨xB_blind, xrecv_Z hK hP, fun U hU hW => xB_mk hP hK hD hE hS (xsubW hD hA hS) hU hW⟩ rfl rfl hl.1 rfl (lv_room (Nat.le_of_ble_eq_true rfl)) xd_Z_step_39 ⟨Nat.le_of_ble_eq_true rfl, Nat.le_of_ble_eq_true rfl⟩) hD hA hS (fun u1 H locs hw hP hD hS => ?_)
      obtain ⟨q25, hq25⟩ : ∃ q, q = xf_Z_enter_512 (xs_Z_interrupts u ((xg_Z_interrupts u) + (1 : Int32))) ((-2147483648 : Int32) ||| (q1 - (100 : Int32))) (0 : Int32) (3 : Int32) := ⟨_, rfl⟩
      rw [← hq25] at hw
      obtain rfl : q25 = u1 := hw.symm
      have hP : va_P D xCl (xWZ k b q25) H := hP
      have hD : va_D A (xWZ k b q25) := hD
      have hv := xlt_v hq25 hv
      refine lv_aload_n hx hb xd_Z_step_42 rfl (lv_at hl 1 rfl) ?_
      refine lv_dup hx hb xd_Z_step_43 rfl ?_
      refine xget_Z_toVs (v := (xg_Z_toVs q25)) hx hb htg hown hK hP (htg _ xw_740) rfl xd_Z_step_44 ?_
      refine lv_iconst (v := 1) hx hb xd_Z_step_47 (by decide) ?_
      refine lv_iadd hx hb xd_Z_step_48 ?_
      refine xput_Z_toVs (v := ((xg_Z_toVs q25) + (1 : Int32))) hx hb htg hown hK hP hD hS (htg _ xw_740) xd_Z_step_49 (fun H locs hP hD hS => ?_)
      refine lv_goto (tgt := 91) hx hb xd_Z_step_52 rfl ?_
      exact hj15 H locs ls (xs_Z_toVs q25 ((xg_Z_toVs q25) + (1 : Int32))) (xif h16 (xif h22 (xlt_e hq25 rfl))) hl hP hD hS
