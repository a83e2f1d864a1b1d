/-- the law in step: at a pc, before the seven numbers from i on, class and reference in worlds that agree -/
def xAt (p : Program) (l : Launch) (e : Env) (s : State) (m : MethodId) (below : List Frame) (meth : Method) (c : Code) (Q : State → Prop) (b : Nat) (D : va_G) (k : ClassId × ClassId) (a bz : Nat → Nat) (pc i : Nat) : Prop :=
  ∀ (u : XH) (v : XZ) (g : XG) (H : Heap) (locs : List Loc) (ls : Array Slot), yxRel u v → xok k g u → lv_has ls 4 [(3, .int (nI i)), (2, .ref (bz 0)), (1, .ref (a 0)), (0, .ref b)] → va_P D xCl (xWH k a g u ++ xWZ k bz v) H → va_D (fun q => s.heap.size ≤ q) (xWH k a g u ++ xWZ k bz v) → va_S (fun q => s.heap.size ≤ q) s.heap H locs →
    W p l e room_1 s m #[Value.ref b] below meth c H locs (17 + 2 * xcH u) (69877 + 1025 * xcH u) Q (F0 m pc ls [])
theorem xvi {i L : Nat} (hL : L ≤ 3584) (hi : i + 7 ≤ L) (j : Nat) (hj : j < 7) (J : Int32) (hJ : J = nI j) : vp_in (nI i + J) L := by
  have e : nI i + J = nI (i + j) := by rw [hJ]; exact (Int32.ofNat_add i j).symm
  rw [e]
  exact nI_in (by omega) (by omega)
theorem xrunH_c (u : XH) (p : Int32) : xcH u ≤ xcH (xf_H_run u p).2 := by
  unfold xf_H_run
  by_cases h1 : p < 0
  · rw [if_pos h1]; exact Nat.le_refl _
  · rw [if_neg h1]
    by_cases h2 : p ≤ 2000
    · rw [if_pos h2]; exact xrunH_ge _ _ _
    · rw [if_neg h2]; exact Nat.le_refl _
theorem xpokeH_c (u : XH) (p0 p1 p2 p3 p4 p5 : Int32) : xcH u ≤ xcH (xf_H_poke u p0 p1 p2 p3 p4 p5).2 := by
  unfold xf_H_poke
  by_cases h1 : p0 < 0
  · rw [if_pos h1]; exact Nat.le_refl _
  · rw [if_neg h1]
    by_cases h2 : (p0 &&& (3 : Int32)) = 0
    · rw [if_pos h2]
      by_cases h3 : p0 ≤ 262124
      · rw [if_pos h3]
        unfold xpokeH
        rw [yxlt_d, yxlt_d, yxlt_d, yxlt_d, yxlt_d]
        exact Nat.le_trans (Nat.le_trans (Nat.le_trans (Nat.le_trans (xpk _ _ _ _ rfl).2 (xpk _ _ _ _ rfl).2) (xpk _ _ _ _ rfl).2) (xpk _ _ _ _ rfl).2) (xpk _ _ _ _ rfl).2
      · rw [if_neg h3]; exact Nat.le_refl _
    · rw [if_neg h2]; exact Nat.le_refl _
section XLW
variable {p : Program} {l : Launch} {e : Env} {s : State} {m : MethodId} {below : List Frame} {meth : Method} {c : Code} {Q : State → Prop} {b L : Nat} {xs : Nat → Int32} {D : va_G} {z : (Nat → Nat) × (Nat → Nat)} {k : ClassId × ClassId} {a bz : Nat → Nat} {i : Nat}

set_option maxHeartbeats 4000000 in
set_option maxRecDepth 100000 in
theorem xcase_begin (hx : p.tables.exec = Jvm.exec) (hb : c.code = code) (hml : c.maxLocals = 4) (htg : ∀ w ∈ lw_g, w.before #[Value.ref b] s = true) (hown : s.vm.findClass "HyperHostLaw" = some m.cls) (hX : va_X b L xs s s.heap) (hbl : b < s.heap.size) (hK : va_K D xCl (xTy k) s) (hE : xS z (fun q => s.heap.size ≤ q) s s.heap) (hL : L ≤ 3584) (hi : i + 7 ≤ L) (nx : xAt p l e s m below meth c Q b D k a bz 512 i) : xAt p l e s m below meth c Q b D k a bz 104 i := by
  intro u v g H locs ls hr hg hl hP hD hS
  have hA : ∀ q : Nat, s.heap.size ≤ q → (fun q => s.heap.size ≤ q) q := fun _ h => h
  have hbA : ¬ (fun q => s.heap.size ≤ q) b := Nat.not_le.mpr hbl
  have hmx := xcH_max u
  refine lv_aload_n hx hb xd_L_law_104 rfl (lv_at hl 2 rfl) ?_
  refine xcS_v (wf := fun q : XH × XG => xWH k a q.2 q.1) (X := []) (w := xWH k a g u) (Y := xWZ k bz v) (va_runV (As := []) (rest := []) ⟨hx, hb, hml, hown, htg⟩ (c_H_begin l D z k a g H.size u hg ) (cwV 0 htg (xg_V0 xkin_H_begin xw_281 xw_282 xsel_H_begin xw_1) rfl rfl rfl (by decide +kernel) ⟨Nat.le_of_ble_eq_true rfl, Nat.le_of_ble_eq_true rfl⟩) ⟨xB_blind, xrecv_H hK (xPs (X := []) (Y := xWZ k bz v) hP), fun U hU hW => xB_mk (xPs (X := []) (Y := xWZ k bz v) hP) hK (xDs (X := []) (Y := xWZ k bz v) hD) hE hS (xsubS (X := []) (Y := xWZ k bz v) hD hA hS) hU hW⟩ rfl rfl hl.1 rfl (lv_room (Nat.le_of_ble_eq_true rfl)) xd_L_law_105 ⟨by show 17 + 2 * xcH u + 0 ≤ 600000; omega, by show 69877 + 1025 * xcH u + 0 ≤ 7302250; omega⟩) hP hD hA hS (fun w1 H locs hw hP hD hS => ?_)
  obtain ⟨u1, g1⟩ := w1
  obtain ⟨hq, hg⟩ := hw
  have hq : u1 = xf_H_begin u := hq
  subst hq
  have hP2 : va_P D xCl (xWH k a g1 (xf_H_begin u) ++ (xWZ k bz v ++ [])) H := by rw [List.append_nil]; exact hP
  have hD2 : va_D (fun q => s.heap.size ≤ q) (xWH k a g1 (xf_H_begin u) ++ (xWZ k bz v ++ [])) := by rw [List.append_nil]; exact hD
  have hc : xcH (xf_H_begin u) = xcH u := xm_H_begin u
  refine lv_aload_n hx hb xd_L_law_108 rfl (lv_at hl 1 rfl) ?_
  refine xcS_v (wf := fun q : XZ => xWZ k bz q) (X := xWH k a g1 (xf_H_begin u)) (w := xWZ k bz v) (Y := []) (va_runV (As := []) (rest := []) ⟨hx, hb, hml, hown, htg⟩ (c_Z_begin l D z k bz H.size v ) (cwV 0 htg (xg_V0 xkin_Z_begin xw_809 xw_810 xsel_Z_begin xw_9) rfl rfl rfl (by decide +kernel) ⟨Nat.le_of_ble_eq_true rfl, Nat.le_of_ble_eq_true rfl⟩) ⟨xB_blind, xrecv_Z hK (xPs (X := xWH k a g1 (xf_H_begin u)) (Y := []) hP2), fun U hU hW => xB_mk (xPs (X := xWH k a g1 (xf_H_begin u)) (Y := []) hP2) hK (xDs (X := xWH k a g1 (xf_H_begin u)) (Y := []) hD2) hE hS (xsubS (X := xWH k a g1 (xf_H_begin u)) (Y := []) hD2 hA hS) hU hW⟩ rfl rfl hl.1 rfl (lv_room (Nat.le_of_ble_eq_true rfl)) xd_L_law_109 ⟨by show 17 + 2 * xcH u + 0 + 0 ≤ 600000; omega, by show 69877 + 1025 * xcH u + 0 + 0 ≤ 7302250; omega⟩) hP2 hD2 hA hS (fun v1 H locs hw hP hD hS => ?_)
  have hw : v1 = xf_Z_begin v := hw
  subst hw
  rw [List.append_nil] at hP hD
  refine lv_goto (tgt := 512) hx hb xd_L_law_112 rfl ?_
  exact W.widen (by omega) (by omega) (nx (xf_H_begin u) (xf_Z_begin v) g1 H locs ls (yr_begin hr) hg hl hP hD hS)
set_option maxHeartbeats 4000000 in
set_option maxRecDepth 100000 in
theorem xcase_poke (hx : p.tables.exec = Jvm.exec) (hb : c.code = code) (hml : c.maxLocals = 4) (htg : ∀ w ∈ lw_g, w.before #[Value.ref b] s = true) (hown : s.vm.findClass "HyperHostLaw" = some m.cls) (hX : va_X b L xs s s.heap) (hbl : b < s.heap.size) (hK : va_K D xCl (xTy k) s) (hE : xS z (fun q => s.heap.size ≤ q) s s.heap) (hL : L ≤ 3584) (hi : i + 7 ≤ L) (nx : xAt p l e s m below meth c Q b D k a bz 512 i) : xAt p l e s m below meth c Q b D k a bz 115 i := by
  intro u v g H locs ls hr hg hl hP hD hS
  have hA : ∀ q : Nat, s.heap.size ≤ q → (fun q => s.heap.size ≤ q) q := fun _ h => h
  have hbA : ¬ (fun q => s.heap.size ≤ q) b := Nat.not_le.mpr hbl
  have hmx := xcH_max u
  refine lv_aload_n hx hb xd_L_law_115 rfl (lv_at hl 2 rfl) ?_
  refine lv_aload_n hx hb xd_L_law_116 rfl (lv_at hl 3 rfl) ?_
  refine lv_iload_n hx hb xd_L_law_117 rfl (lv_at hl 0 rfl) ?_
  refine lv_iconst (v := 1) hx hb xd_L_law_118 (by decide) ?_
  refine lv_iadd hx hb xd_L_law_119 ?_
  refine va_sld hx hb hX hbl hbA hS (xvi hL hi 1 (by decide) 1 rfl) xd_L_law_120 ?_
  refine lv_aload_n hx hb xd_L_law_121 rfl (lv_at hl 3 rfl) ?_
  refine lv_iload_n hx hb xd_L_law_122 rfl (lv_at hl 0 rfl) ?_
  refine lv_iconst (v := 2) hx hb xd_L_law_123 (by decide) ?_
  refine lv_iadd hx hb xd_L_law_124 ?_
  refine va_sld hx hb hX hbl hbA hS (xvi hL hi 2 (by decide) 2 rfl) xd_L_law_125 ?_
  refine lv_aload_n hx hb xd_L_law_126 rfl (lv_at hl 3 rfl) ?_
  refine lv_iload_n hx hb xd_L_law_127 rfl (lv_at hl 0 rfl) ?_
  refine lv_iconst (v := 3) hx hb xd_L_law_128 (by decide) ?_
  refine lv_iadd hx hb xd_L_law_129 ?_
  refine va_sld hx hb hX hbl hbA hS (xvi hL hi 3 (by decide) 3 rfl) xd_L_law_130 ?_
  refine lv_aload_n hx hb xd_L_law_131 rfl (lv_at hl 3 rfl) ?_
  refine lv_iload_n hx hb xd_L_law_132 rfl (lv_at hl 0 rfl) ?_
  refine lv_iconst (v := 4) hx hb xd_L_law_133 (by decide) ?_
  refine lv_iadd hx hb xd_L_law_134 ?_
  refine va_sld hx hb hX hbl hbA hS (xvi hL hi 4 (by decide) 4 rfl) xd_L_law_135 ?_
  refine lv_aload_n hx hb xd_L_law_136 rfl (lv_at hl 3 rfl) ?_
  refine lv_iload_n hx hb xd_L_law_137 rfl (lv_at hl 0 rfl) ?_
  refine lv_iconst (v := 5) hx hb xd_L_law_138 (by decide) ?_
  refine lv_iadd hx hb xd_L_law_139 ?_
  refine va_sld hx hb hX hbl hbA hS (xvi hL hi 5 (by decide) 5 rfl) xd_L_law_140 ?_
  refine lv_aload_n hx hb xd_L_law_141 rfl (lv_at hl 3 rfl) ?_
  refine lv_iload_n hx hb xd_L_law_142 rfl (lv_at hl 0 rfl) ?_
  refine lv_bipush (v := 6) hx hb xd_L_law_143 (by decide) ?_
  refine lv_iadd hx hb xd_L_law_145 ?_
  refine va_sld hx hb hX hbl hbA hS (xvi hL hi 6 (by decide) 6 rfl) xd_L_law_146 ?_
  have hge := xpokeH_c u (xs (nI i + (1 : Int32)).toNatClampNeg) (xs (nI i + (2 : Int32)).toNatClampNeg) (xs (nI i + (3 : Int32)).toNatClampNeg) (xs (nI i + (4 : Int32)).toNatClampNeg) (xs (nI i + (5 : Int32)).toNatClampNeg) (xs (nI i + (6 : Int32)).toNatClampNeg)
  have hmx2 := xcH_max (xf_H_poke u (xs (nI i + (1 : Int32)).toNatClampNeg) (xs (nI i + (2 : Int32)).toNatClampNeg) (xs (nI i + (3 : Int32)).toNatClampNeg) (xs (nI i + (4 : Int32)).toNatClampNeg) (xs (nI i + (5 : Int32)).toNatClampNeg) (xs (nI i + (6 : Int32)).toNatClampNeg)).2
  obtain ⟨kk, hkk⟩ : ∃ kk, xcH (xf_H_poke u (xs (nI i + (1 : Int32)).toNatClampNeg) (xs (nI i + (2 : Int32)).toNatClampNeg) (xs (nI i + (3 : Int32)).toNatClampNeg) (xs (nI i + (4 : Int32)).toNatClampNeg) (xs (nI i + (5 : Int32)).toNatClampNeg) (xs (nI i + (6 : Int32)).toNatClampNeg)).2 = xcH u + kk := ⟨xcH (xf_H_poke u (xs (nI i + (1 : Int32)).toNatClampNeg) (xs (nI i + (2 : Int32)).toNatClampNeg) (xs (nI i + (3 : Int32)).toNatClampNeg) (xs (nI i + (4 : Int32)).toNatClampNeg) (xs (nI i + (5 : Int32)).toNatClampNeg) (xs (nI i + (6 : Int32)).toNatClampNeg)).2 - xcH u, by omega⟩
  refine xcS_i (wf := fun q : XH × XG => xWH k a q.2 q.1) (X := []) (w := xWH k a g u) (Y := xWZ k bz v) (va_runV (As := [.int (xs (nI i + (1 : Int32)).toNatClampNeg), .int (xs (nI i + (2 : Int32)).toNatClampNeg), .int (xs (nI i + (3 : Int32)).toNatClampNeg), .int (xs (nI i + (4 : Int32)).toNatClampNeg), .int (xs (nI i + (5 : Int32)).toNatClampNeg), .int (xs (nI i + (6 : Int32)).toNatClampNeg)]) (rest := []) ⟨hx, hb, hml, hown, htg⟩ (c_H_poke l D z k a g H.size u hg (xs (nI i + (1 : Int32)).toNatClampNeg) (xs (nI i + (2 : Int32)).toNatClampNeg) (xs (nI i + (3 : Int32)).toNatClampNeg) (xs (nI i + (4 : Int32)).toNatClampNeg) (xs (nI i + (5 : Int32)).toNatClampNeg) (xs (nI i + (6 : Int32)).toNatClampNeg) kk (by omega)) (cwV 6 htg (xg_V0 xkin_H_poke xw_285 xw_286 xsel_H_poke xw_1) rfl rfl rfl (by decide +kernel) ⟨Nat.le_of_ble_eq_true rfl, Nat.le_of_ble_eq_true rfl⟩) ⟨xB_blind, xrecv_H hK (xPs (X := []) (Y := xWZ k bz v) hP), fun U hU hW => xB_mk (xPs (X := []) (Y := xWZ k bz v) hP) hK (xDs (X := []) (Y := xWZ k bz v) hD) hE hS (xsubS (X := []) (Y := xWZ k bz v) hD hA hS) hU hW⟩ rfl rfl hl.1 rfl (lv_room (Nat.le_of_ble_eq_true rfl)) xd_L_law_147 ⟨by show 17 + 2 * xcH u + 2 * kk ≤ 600000; omega, by show 69877 + 1025 * xcH u + 1025 * kk ≤ 7302250; omega⟩) hP hD hA hS (fun r w1 H locs hw hP hD hS => ?_)
  obtain ⟨u1, g1⟩ := w1
  obtain ⟨hq, hg⟩ := hw
  obtain rfl : r = (xf_H_poke u (xs (nI i + (1 : Int32)).toNatClampNeg) (xs (nI i + (2 : Int32)).toNatClampNeg) (xs (nI i + (3 : Int32)).toNatClampNeg) (xs (nI i + (4 : Int32)).toNatClampNeg) (xs (nI i + (5 : Int32)).toNatClampNeg) (xs (nI i + (6 : Int32)).toNatClampNeg)).1 := congrArg Prod.fst hq
  obtain rfl : u1 = (xf_H_poke u (xs (nI i + (1 : Int32)).toNatClampNeg) (xs (nI i + (2 : Int32)).toNatClampNeg) (xs (nI i + (3 : Int32)).toNatClampNeg) (xs (nI i + (4 : Int32)).toNatClampNeg) (xs (nI i + (5 : Int32)).toNatClampNeg) (xs (nI i + (6 : Int32)).toNatClampNeg)).2 := congrArg Prod.snd hq
  obtain ⟨h1, h2, h3⟩ := yr_poke hr (xs (nI i + (1 : Int32)).toNatClampNeg) (xs (nI i + (2 : Int32)).toNatClampNeg) (xs (nI i + (3 : Int32)).toNatClampNeg) (xs (nI i + (4 : Int32)).toNatClampNeg) (xs (nI i + (5 : Int32)).toNatClampNeg) (xs (nI i + (6 : Int32)).toNatClampNeg)
  generalize hU1 : xf_H_poke u (xs (nI i + (1 : Int32)).toNatClampNeg) (xs (nI i + (2 : Int32)).toNatClampNeg) (xs (nI i + (3 : Int32)).toNatClampNeg) (xs (nI i + (4 : Int32)).toNatClampNeg) (xs (nI i + (5 : Int32)).toNatClampNeg) (xs (nI i + (6 : Int32)).toNatClampNeg) = U1 at *
  have hP2 : va_P D xCl (xWH k a g1 U1.2 ++ (xWZ k bz v ++ [])) H := by rw [List.append_nil]; exact hP
  have hD2 : va_D (fun q => s.heap.size ≤ q) (xWH k a g1 U1.2 ++ (xWZ k bz v ++ [])) := by rw [List.append_nil]; exact hD
  refine lv_aload_n hx hb xd_L_law_150 rfl (lv_at hl 1 rfl) ?_
  refine lv_aload_n hx hb xd_L_law_151 rfl (lv_at hl 3 rfl) ?_
  refine lv_iload_n hx hb xd_L_law_152 rfl (lv_at hl 0 rfl) ?_
  refine lv_iconst (v := 1) hx hb xd_L_law_153 (by decide) ?_
  refine lv_iadd hx hb xd_L_law_154 ?_
  refine va_sld hx hb hX hbl hbA hS (xvi hL hi 1 (by decide) 1 rfl) xd_L_law_155 ?_
  refine lv_aload_n hx hb xd_L_law_156 rfl (lv_at hl 3 rfl) ?_
  refine lv_iload_n hx hb xd_L_law_157 rfl (lv_at hl 0 rfl) ?_
  refine lv_iconst (v := 2) hx hb xd_L_law_158 (by decide) ?_
  refine lv_iadd hx hb xd_L_law_159 ?_
  refine va_sld hx hb hX hbl hbA hS (xvi hL hi 2 (by decide) 2 rfl) xd_L_law_160 ?_
  refine lv_aload_n hx hb xd_L_law_161 rfl (lv_at hl 3 rfl) ?_
  refine lv_iload_n hx hb xd_L_law_162 rfl (lv_at hl 0 rfl) ?_
  refine lv_iconst (v := 3) hx hb xd_L_law_163 (by decide) ?_
  refine lv_iadd hx hb xd_L_law_164 ?_
  refine va_sld hx hb hX hbl hbA hS (xvi hL hi 3 (by decide) 3 rfl) xd_L_law_165 ?_
  refine lv_aload_n hx hb xd_L_law_166 rfl (lv_at hl 3 rfl) ?_
  refine lv_iload_n hx hb xd_L_law_167 rfl (lv_at hl 0 rfl) ?_
  refine lv_iconst (v := 4) hx hb xd_L_law_168 (by decide) ?_
  refine lv_iadd hx hb xd_L_law_169 ?_
  refine va_sld hx hb hX hbl hbA hS (xvi hL hi 4 (by decide) 4 rfl) xd_L_law_170 ?_
  refine lv_aload_n hx hb xd_L_law_171 rfl (lv_at hl 3 rfl) ?_
  refine lv_iload_n hx hb xd_L_law_172 rfl (lv_at hl 0 rfl) ?_
  refine lv_iconst (v := 5) hx hb xd_L_law_173 (by decide) ?_
  refine lv_iadd hx hb xd_L_law_174 ?_
  refine va_sld hx hb hX hbl hbA hS (xvi hL hi 5 (by decide) 5 rfl) xd_L_law_175 ?_
  refine lv_aload_n hx hb xd_L_law_176 rfl (lv_at hl 3 rfl) ?_
  refine lv_iload_n hx hb xd_L_law_177 rfl (lv_at hl 0 rfl) ?_
  refine lv_bipush (v := 6) hx hb xd_L_law_178 (by decide) ?_
  refine lv_iadd hx hb xd_L_law_180 ?_
  refine va_sld hx hb hX hbl hbA hS (xvi hL hi 6 (by decide) 6 rfl) xd_L_law_181 ?_
  refine xcS_i (wf := fun q : XZ => xWZ k bz q) (X := xWH k a g1 U1.2) (w := xWZ k bz v) (Y := []) (va_runV (As := [.int (xs (nI i + (1 : Int32)).toNatClampNeg), .int (xs (nI i + (2 : Int32)).toNatClampNeg), .int (xs (nI i + (3 : Int32)).toNatClampNeg), .int (xs (nI i + (4 : Int32)).toNatClampNeg), .int (xs (nI i + (5 : Int32)).toNatClampNeg), .int (xs (nI i + (6 : Int32)).toNatClampNeg)]) (rest := [.int (U1.1)]) ⟨hx, hb, hml, hown, htg⟩ (c_Z_poke l D z k bz H.size v (xs (nI i + (1 : Int32)).toNatClampNeg) (xs (nI i + (2 : Int32)).toNatClampNeg) (xs (nI i + (3 : Int32)).toNatClampNeg) (xs (nI i + (4 : Int32)).toNatClampNeg) (xs (nI i + (5 : Int32)).toNatClampNeg) (xs (nI i + (6 : Int32)).toNatClampNeg) h3) (cwV 6 htg (xg_V0 xkin_Z_poke xw_813 xw_814 xsel_Z_poke xw_9) rfl rfl rfl (by decide +kernel) ⟨Nat.le_of_ble_eq_true rfl, Nat.le_of_ble_eq_true rfl⟩) ⟨xB_blind, xrecv_Z hK (xPs (X := xWH k a g1 U1.2) (Y := []) hP2), fun U hU hW => xB_mk (xPs (X := xWH k a g1 U1.2) (Y := []) hP2) hK (xDs (X := xWH k a g1 U1.2) (Y := []) hD2) hE hS (xsubS (X := xWH k a g1 U1.2) (Y := []) hD2 hA hS) hU hW⟩ rfl rfl hl.1 rfl (lv_room (Nat.le_of_ble_eq_true rfl)) xd_L_law_182 ⟨by show 17 + 2 * xcH u + 2 * kk + 0 ≤ 600000; omega, by show 69877 + 1025 * xcH u + 1025 * kk + 0 ≤ 7302250; omega⟩) hP2 hD2 hA hS (fun r2 v1 H locs hw hP hD hS => ?_)
  obtain rfl : r2 = (xf_Z_poke v (xs (nI i + (1 : Int32)).toNatClampNeg) (xs (nI i + (2 : Int32)).toNatClampNeg) (xs (nI i + (3 : Int32)).toNatClampNeg) (xs (nI i + (4 : Int32)).toNatClampNeg) (xs (nI i + (5 : Int32)).toNatClampNeg) (xs (nI i + (6 : Int32)).toNatClampNeg)).1 := congrArg Prod.fst hw
  obtain rfl : v1 = (xf_Z_poke v (xs (nI i + (1 : Int32)).toNatClampNeg) (xs (nI i + (2 : Int32)).toNatClampNeg) (xs (nI i + (3 : Int32)).toNatClampNeg) (xs (nI i + (4 : Int32)).toNatClampNeg) (xs (nI i + (5 : Int32)).toNatClampNeg) (xs (nI i + (6 : Int32)).toNatClampNeg)).2 := congrArg Prod.snd hw
  rw [List.append_nil] at hP hD
  refine lv_icmp_eq (tgt := 512) hx hb xd_L_law_185 rfl (fun _ => ?_) (fun hne => absurd h1 hne)
  exact W.widen (by omega) (by omega) (nx U1.2 _ g1 H locs ls h2 hg hl hP hD hS)
set_option maxHeartbeats 4000000 in
set_option maxRecDepth 100000 in
theorem xcase_word (hx : p.tables.exec = Jvm.exec) (hb : c.code = code) (hml : c.maxLocals = 4) (htg : ∀ w ∈ lw_g, w.before #[Value.ref b] s = true) (hown : s.vm.findClass "HyperHostLaw" = some m.cls) (hX : va_X b L xs s s.heap) (hbl : b < s.heap.size) (hK : va_K D xCl (xTy k) s) (hE : xS z (fun q => s.heap.size ≤ q) s s.heap) (hL : L ≤ 3584) (hi : i + 7 ≤ L) (nx : xAt p l e s m below meth c Q b D k a bz 512 i) : xAt p l e s m below meth c Q b D k a bz 190 i := by
  intro u v g H locs ls hr hg hl hP hD hS
  have hA : ∀ q : Nat, s.heap.size ≤ q → (fun q => s.heap.size ≤ q) q := fun _ h => h
  have hbA : ¬ (fun q => s.heap.size ≤ q) b := Nat.not_le.mpr hbl
  have hmx := xcH_max u
  refine lv_aload_n hx hb xd_L_law_190 rfl (lv_at hl 2 rfl) ?_
  refine lv_aload_n hx hb xd_L_law_191 rfl (lv_at hl 3 rfl) ?_
  refine lv_iload_n hx hb xd_L_law_192 rfl (lv_at hl 0 rfl) ?_
  refine lv_iconst (v := 1) hx hb xd_L_law_193 (by decide) ?_
  refine lv_iadd hx hb xd_L_law_194 ?_
  refine va_sld hx hb hX hbl hbA hS (xvi hL hi 1 (by decide) 1 rfl) xd_L_law_195 ?_
  refine xcS_i (wf := fun q : XH × XG => xWH k a q.2 q.1) (X := []) (w := xWH k a g u) (Y := xWZ k bz v) (va_runV (As := [.int (xs (nI i + (1 : Int32)).toNatClampNeg)]) (rest := []) ⟨hx, hb, hml, hown, htg⟩ (c_H_word l D z k a g H.size u hg (xs (nI i + (1 : Int32)).toNatClampNeg)) (cwV 1 htg (xg_V0 xkin_H_word xw_304 xw_305 xsel_H_word xw_1) rfl rfl rfl (by decide +kernel) ⟨Nat.le_of_ble_eq_true rfl, Nat.le_of_ble_eq_true rfl⟩) ⟨xB_blind, xrecv_H hK (xPs (X := []) (Y := xWZ k bz v) hP), fun U hU hW => xB_mk (xPs (X := []) (Y := xWZ k bz v) hP) hK (xDs (X := []) (Y := xWZ k bz v) hD) hE hS (xsubS (X := []) (Y := xWZ k bz v) hD hA hS) hU hW⟩ rfl rfl hl.1 rfl (lv_room (Nat.le_of_ble_eq_true rfl)) xd_L_law_196 ⟨by show 17 + 2 * xcH u + 0 ≤ 600000; omega, by show 69877 + 1025 * xcH u + 0 ≤ 7302250; omega⟩) hP hD hA hS (fun r w1 H locs hw hP hD hS => ?_)
  obtain ⟨u1, g1⟩ := w1
  obtain ⟨hq, hg⟩ := hw
  obtain rfl : r = (xf_H_word u (xs (nI i + (1 : Int32)).toNatClampNeg)).1 := congrArg Prod.fst hq
  obtain rfl : u1 = (xf_H_word u (xs (nI i + (1 : Int32)).toNatClampNeg)).2 := congrArg Prod.snd hq
  obtain ⟨h1, h2, h3⟩ := yr_word hr (xs (nI i + (1 : Int32)).toNatClampNeg)
  rw [h2] at hP hD hg
  have hP2 : va_P D xCl (xWH k a g1 u ++ (xWZ k bz v ++ [])) H := by rw [List.append_nil]; exact hP
  have hD2 : va_D (fun q => s.heap.size ≤ q) (xWH k a g1 u ++ (xWZ k bz v ++ [])) := by rw [List.append_nil]; exact hD
  refine lv_aload_n hx hb xd_L_law_199 rfl (lv_at hl 1 rfl) ?_
  refine lv_aload_n hx hb xd_L_law_200 rfl (lv_at hl 3 rfl) ?_
  refine lv_iload_n hx hb xd_L_law_201 rfl (lv_at hl 0 rfl) ?_
  refine lv_iconst (v := 1) hx hb xd_L_law_202 (by decide) ?_
  refine lv_iadd hx hb xd_L_law_203 ?_
  refine va_sld hx hb hX hbl hbA hS (xvi hL hi 1 (by decide) 1 rfl) xd_L_law_204 ?_
  refine xcS_i (wf := fun q : XZ => xWZ k bz q) (X := xWH k a g1 u) (w := xWZ k bz v) (Y := []) (va_runV (As := [.int (xs (nI i + (1 : Int32)).toNatClampNeg)]) (rest := [.int ((xf_H_word u (xs (nI i + (1 : Int32)).toNatClampNeg)).1)]) ⟨hx, hb, hml, hown, htg⟩ (c_Z_word2 l D z k bz H.size v (xs (nI i + (1 : Int32)).toNatClampNeg) h3) (cwV 1 htg (xg_V0 xkin_Z_word2 xw_818 xw_819 xsel_Z_word2 xw_9) rfl rfl rfl (by decide +kernel) ⟨Nat.le_of_ble_eq_true rfl, Nat.le_of_ble_eq_true rfl⟩) ⟨xB_blind, xrecv_Z hK (xPs (X := xWH k a g1 u) (Y := []) hP2), fun U hU hW => xB_mk (xPs (X := xWH k a g1 u) (Y := []) hP2) hK (xDs (X := xWH k a g1 u) (Y := []) hD2) hE hS (xsubS (X := xWH k a g1 u) (Y := []) hD2 hA hS) hU hW⟩ rfl rfl hl.1 rfl (lv_room (Nat.le_of_ble_eq_true rfl)) xd_L_law_205 ⟨by show 17 + 2 * xcH u + 0 + 0 ≤ 600000; omega, by show 69877 + 1025 * xcH u + 0 + 0 ≤ 7302250; omega⟩) hP2 hD2 hA hS (fun r2 v1 H locs hw hP hD hS => ?_)
  obtain ⟨hw1, hw2⟩ := hw
  have hw1 : r2 = xf_Z_word2 v (xs (nI i + (1 : Int32)).toNatClampNeg) := hw1
  have hw2 : v1 = v := hw2
  subst hw1
  rw [List.append_nil] at hP hD
  rw [hw2] at hP hD
  refine lv_icmp_eq (tgt := 512) hx hb xd_L_law_208 rfl (fun _ => ?_) (fun hne => absurd h1 hne)
  exact W.widen (by omega) (by omega) (nx u v g1 H locs ls hr hg hl hP hD hS)
set_option maxHeartbeats 4000000 in
set_option maxRecDepth 100000 in
theorem xcase_sum (hx : p.tables.exec = Jvm.exec) (hb : c.code = code) (hml : c.maxLocals = 4) (htg : ∀ w ∈ lw_g, w.before #[Value.ref b] s = true) (hown : s.vm.findClass "HyperHostLaw" = some m.cls) (hX : va_X b L xs s s.heap) (hbl : b < s.heap.size) (hK : va_K D xCl (xTy k) s) (hE : xS z (fun q => s.heap.size ≤ q) s s.heap) (hL : L ≤ 3584) (hi : i + 7 ≤ L) (nx : xAt p l e s m below meth c Q b D k a bz 512 i) : xAt p l e s m below meth c Q b D k a bz 213 i := by
  intro u v g H locs ls hr hg hl hP hD hS
  have hA : ∀ q : Nat, s.heap.size ≤ q → (fun q => s.heap.size ≤ q) q := fun _ h => h
  have hbA : ¬ (fun q => s.heap.size ≤ q) b := Nat.not_le.mpr hbl
  have hmx := xcH_max u
  refine lv_aload_n hx hb xd_L_law_213 rfl (lv_at hl 2 rfl) ?_
  refine lv_aload_n hx hb xd_L_law_214 rfl (lv_at hl 3 rfl) ?_
  refine lv_iload_n hx hb xd_L_law_215 rfl (lv_at hl 0 rfl) ?_
  refine lv_iconst (v := 1) hx hb xd_L_law_216 (by decide) ?_
  refine lv_iadd hx hb xd_L_law_217 ?_
  refine va_sld hx hb hX hbl hbA hS (xvi hL hi 1 (by decide) 1 rfl) xd_L_law_218 ?_
  refine lv_aload_n hx hb xd_L_law_219 rfl (lv_at hl 3 rfl) ?_
  refine lv_iload_n hx hb xd_L_law_220 rfl (lv_at hl 0 rfl) ?_
  refine lv_iconst (v := 2) hx hb xd_L_law_221 (by decide) ?_
  refine lv_iadd hx hb xd_L_law_222 ?_
  refine va_sld hx hb hX hbl hbA hS (xvi hL hi 2 (by decide) 2 rfl) xd_L_law_223 ?_
  refine xcS_i (wf := fun q : XH × XG => xWH k a q.2 q.1) (X := []) (w := xWH k a g u) (Y := xWZ k bz v) (va_runV (As := [.int (xs (nI i + (1 : Int32)).toNatClampNeg), .int (xs (nI i + (2 : Int32)).toNatClampNeg)]) (rest := []) ⟨hx, hb, hml, hown, htg⟩ (c_H_sum l D z k a g H.size u hg (xs (nI i + (1 : Int32)).toNatClampNeg) (xs (nI i + (2 : Int32)).toNatClampNeg)) (cwV 2 htg (xg_V0 xkin_H_sum xw_313 xw_314 xsel_H_sum xw_1) rfl rfl rfl (by decide +kernel) ⟨Nat.le_of_ble_eq_true rfl, Nat.le_of_ble_eq_true rfl⟩) ⟨xB_blind, xrecv_H hK (xPs (X := []) (Y := xWZ k bz v) hP), fun U hU hW => xB_mk (xPs (X := []) (Y := xWZ k bz v) hP) hK (xDs (X := []) (Y := xWZ k bz v) hD) hE hS (xsubS (X := []) (Y := xWZ k bz v) hD hA hS) hU hW⟩ rfl rfl hl.1 rfl (lv_room (Nat.le_of_ble_eq_true rfl)) xd_L_law_224 ⟨by show 17 + 2 * xcH u + 0 ≤ 600000; omega, by show 69877 + 1025 * xcH u + 0 ≤ 7302250; omega⟩) hP hD hA hS (fun r w1 H locs hw hP hD hS => ?_)
  obtain ⟨u1, g1⟩ := w1
  obtain ⟨hq, hg⟩ := hw
  obtain rfl : r = (xf_H_sum u (xs (nI i + (1 : Int32)).toNatClampNeg) (xs (nI i + (2 : Int32)).toNatClampNeg)).1 := congrArg Prod.fst hq
  obtain rfl : u1 = (xf_H_sum u (xs (nI i + (1 : Int32)).toNatClampNeg) (xs (nI i + (2 : Int32)).toNatClampNeg)).2 := congrArg Prod.snd hq
  obtain ⟨h1, h2⟩ := yr_sum hr (xs (nI i + (1 : Int32)).toNatClampNeg) (xs (nI i + (2 : Int32)).toNatClampNeg)
  rw [h2] at hP hD hg
  have hP2 : va_P D xCl (xWH k a g1 u ++ (xWZ k bz v ++ [])) H := by rw [List.append_nil]; exact hP
  have hD2 : va_D (fun q => s.heap.size ≤ q) (xWH k a g1 u ++ (xWZ k bz v ++ [])) := by rw [List.append_nil]; exact hD
  refine lv_aload_n hx hb xd_L_law_227 rfl (lv_at hl 1 rfl) ?_
  refine lv_aload_n hx hb xd_L_law_228 rfl (lv_at hl 3 rfl) ?_
  refine lv_iload_n hx hb xd_L_law_229 rfl (lv_at hl 0 rfl) ?_
  refine lv_iconst (v := 1) hx hb xd_L_law_230 (by decide) ?_
  refine lv_iadd hx hb xd_L_law_231 ?_
  refine va_sld hx hb hX hbl hbA hS (xvi hL hi 1 (by decide) 1 rfl) xd_L_law_232 ?_
  refine lv_aload_n hx hb xd_L_law_233 rfl (lv_at hl 3 rfl) ?_
  refine lv_iload_n hx hb xd_L_law_234 rfl (lv_at hl 0 rfl) ?_
  refine lv_iconst (v := 2) hx hb xd_L_law_235 (by decide) ?_
  refine lv_iadd hx hb xd_L_law_236 ?_
  refine va_sld hx hb hX hbl hbA hS (xvi hL hi 2 (by decide) 2 rfl) xd_L_law_237 ?_
  refine xcS_i (wf := fun q : XZ => xWZ k bz q) (X := xWH k a g1 u) (w := xWZ k bz v) (Y := []) (va_runV (As := [.int (xs (nI i + (1 : Int32)).toNatClampNeg), .int (xs (nI i + (2 : Int32)).toNatClampNeg)]) (rest := [.int ((xf_H_sum u (xs (nI i + (1 : Int32)).toNatClampNeg) (xs (nI i + (2 : Int32)).toNatClampNeg)).1)]) ⟨hx, hb, hml, hown, htg⟩ (c_Z_sum l D z k bz H.size v (xs (nI i + (1 : Int32)).toNatClampNeg) (xs (nI i + (2 : Int32)).toNatClampNeg) ) (cwV 2 htg (xg_V0 xkin_Z_sum xw_823 xw_824 xsel_Z_sum xw_9) rfl rfl rfl (by decide +kernel) ⟨Nat.le_of_ble_eq_true rfl, Nat.le_of_ble_eq_true rfl⟩) ⟨xB_blind, xrecv_Z hK (xPs (X := xWH k a g1 u) (Y := []) hP2), fun U hU hW => xB_mk (xPs (X := xWH k a g1 u) (Y := []) hP2) hK (xDs (X := xWH k a g1 u) (Y := []) hD2) hE hS (xsubS (X := xWH k a g1 u) (Y := []) hD2 hA hS) hU hW⟩ rfl rfl hl.1 rfl (lv_room (Nat.le_of_ble_eq_true rfl)) xd_L_law_238 ⟨by show 17 + 2 * xcH u + 0 + 0 ≤ 600000; omega, by show 69877 + 1025 * xcH u + 0 + 0 ≤ 7302250; omega⟩) hP2 hD2 hA hS (fun r2 v1 H locs hw hP hD hS => ?_)
  obtain ⟨hw1, hw2⟩ := hw
  have hw1 : r2 = xf_Z_sum v (xs (nI i + (1 : Int32)).toNatClampNeg) (xs (nI i + (2 : Int32)).toNatClampNeg) := hw1
  have hw2 : v1 = v := hw2
  subst hw1
  rw [List.append_nil] at hP hD
  rw [hw2] at hP hD
  refine lv_icmp_eq (tgt := 512) hx hb xd_L_law_241 rfl (fun _ => ?_) (fun hne => absurd h1 hne)
  exact W.widen (by omega) (by omega) (nx u v g1 H locs ls hr hg hl hP hD hS)
set_option maxHeartbeats 4000000 in
set_option maxRecDepth 100000 in
theorem xcase_setRegister (hx : p.tables.exec = Jvm.exec) (hb : c.code = code) (hml : c.maxLocals = 4) (htg : ∀ w ∈ lw_g, w.before #[Value.ref b] s = true) (hown : s.vm.findClass "HyperHostLaw" = some m.cls) (hX : va_X b L xs s s.heap) (hbl : b < s.heap.size) (hK : va_K D xCl (xTy k) s) (hE : xS z (fun q => s.heap.size ≤ q) s s.heap) (hL : L ≤ 3584) (hi : i + 7 ≤ L) (nx : xAt p l e s m below meth c Q b D k a bz 512 i) : xAt p l e s m below meth c Q b D k a bz 246 i := by
  intro u v g H locs ls hr hg hl hP hD hS
  have hA : ∀ q : Nat, s.heap.size ≤ q → (fun q => s.heap.size ≤ q) q := fun _ h => h
  have hbA : ¬ (fun q => s.heap.size ≤ q) b := Nat.not_le.mpr hbl
  have hmx := xcH_max u
  refine lv_aload_n hx hb xd_L_law_246 rfl (lv_at hl 2 rfl) ?_
  refine lv_aload_n hx hb xd_L_law_247 rfl (lv_at hl 3 rfl) ?_
  refine lv_iload_n hx hb xd_L_law_248 rfl (lv_at hl 0 rfl) ?_
  refine lv_iconst (v := 1) hx hb xd_L_law_249 (by decide) ?_
  refine lv_iadd hx hb xd_L_law_250 ?_
  refine va_sld hx hb hX hbl hbA hS (xvi hL hi 1 (by decide) 1 rfl) xd_L_law_251 ?_
  refine lv_aload_n hx hb xd_L_law_252 rfl (lv_at hl 3 rfl) ?_
  refine lv_iload_n hx hb xd_L_law_253 rfl (lv_at hl 0 rfl) ?_
  refine lv_iconst (v := 2) hx hb xd_L_law_254 (by decide) ?_
  refine lv_iadd hx hb xd_L_law_255 ?_
  refine va_sld hx hb hX hbl hbA hS (xvi hL hi 2 (by decide) 2 rfl) xd_L_law_256 ?_
  refine xcS_i (wf := fun q : XH × XG => xWH k a q.2 q.1) (X := []) (w := xWH k a g u) (Y := xWZ k bz v) (va_runV (As := [.int (xs (nI i + (1 : Int32)).toNatClampNeg), .int (xs (nI i + (2 : Int32)).toNatClampNeg)]) (rest := []) ⟨hx, hb, hml, hown, htg⟩ (c_H_setRegister l D z k a g H.size u hg (xs (nI i + (1 : Int32)).toNatClampNeg) (xs (nI i + (2 : Int32)).toNatClampNeg)) (cwV 2 htg (xg_V0 xkin_H_setRegister xw_317 xw_318 xsel_H_setRegister xw_1) rfl rfl rfl (by decide +kernel) ⟨Nat.le_of_ble_eq_true rfl, Nat.le_of_ble_eq_true rfl⟩) ⟨xB_blind, xrecv_H hK (xPs (X := []) (Y := xWZ k bz v) hP), fun U hU hW => xB_mk (xPs (X := []) (Y := xWZ k bz v) hP) hK (xDs (X := []) (Y := xWZ k bz v) hD) hE hS (xsubS (X := []) (Y := xWZ k bz v) hD hA hS) hU hW⟩ rfl rfl hl.1 rfl (lv_room (Nat.le_of_ble_eq_true rfl)) xd_L_law_257 ⟨by show 17 + 2 * xcH u + 0 ≤ 600000; omega, by show 69877 + 1025 * xcH u + 0 ≤ 7302250; omega⟩) hP hD hA hS (fun r w1 H locs hw hP hD hS => ?_)
  obtain ⟨u1, g1⟩ := w1
  obtain ⟨hq, hg⟩ := hw
  obtain rfl : r = (xf_H_setRegister u (xs (nI i + (1 : Int32)).toNatClampNeg) (xs (nI i + (2 : Int32)).toNatClampNeg)).1 := congrArg Prod.fst hq
  obtain rfl : u1 = (xf_H_setRegister u (xs (nI i + (1 : Int32)).toNatClampNeg) (xs (nI i + (2 : Int32)).toNatClampNeg)).2 := congrArg Prod.snd hq
  obtain ⟨h1, h2, h3⟩ := yr_setRegister hr (xs (nI i + (1 : Int32)).toNatClampNeg) (xs (nI i + (2 : Int32)).toNatClampNeg)
  have hc : xcH (xf_H_setRegister u (xs (nI i + (1 : Int32)).toNatClampNeg) (xs (nI i + (2 : Int32)).toNatClampNeg)).2 = xcH u := xm_H_setRegister u (xs (nI i + (1 : Int32)).toNatClampNeg) (xs (nI i + (2 : Int32)).toNatClampNeg)
  generalize hU1 : xf_H_setRegister u (xs (nI i + (1 : Int32)).toNatClampNeg) (xs (nI i + (2 : Int32)).toNatClampNeg) = U1 at *
  have hP2 : va_P D xCl (xWH k a g1 U1.2 ++ (xWZ k bz v ++ [])) H := by rw [List.append_nil]; exact hP
  have hD2 : va_D (fun q => s.heap.size ≤ q) (xWH k a g1 U1.2 ++ (xWZ k bz v ++ [])) := by rw [List.append_nil]; exact hD
  refine lv_aload_n hx hb xd_L_law_260 rfl (lv_at hl 1 rfl) ?_
  refine lv_aload_n hx hb xd_L_law_261 rfl (lv_at hl 3 rfl) ?_
  refine lv_iload_n hx hb xd_L_law_262 rfl (lv_at hl 0 rfl) ?_
  refine lv_iconst (v := 1) hx hb xd_L_law_263 (by decide) ?_
  refine lv_iadd hx hb xd_L_law_264 ?_
  refine va_sld hx hb hX hbl hbA hS (xvi hL hi 1 (by decide) 1 rfl) xd_L_law_265 ?_
  refine lv_aload_n hx hb xd_L_law_266 rfl (lv_at hl 3 rfl) ?_
  refine lv_iload_n hx hb xd_L_law_267 rfl (lv_at hl 0 rfl) ?_
  refine lv_iconst (v := 2) hx hb xd_L_law_268 (by decide) ?_
  refine lv_iadd hx hb xd_L_law_269 ?_
  refine va_sld hx hb hX hbl hbA hS (xvi hL hi 2 (by decide) 2 rfl) xd_L_law_270 ?_
  refine xcS_i (wf := fun q : XZ => xWZ k bz q) (X := xWH k a g1 U1.2) (w := xWZ k bz v) (Y := []) (va_runV (As := [.int (xs (nI i + (1 : Int32)).toNatClampNeg), .int (xs (nI i + (2 : Int32)).toNatClampNeg)]) (rest := [.int (U1.1)]) ⟨hx, hb, hml, hown, htg⟩ (c_Z_setRegister l D z k bz H.size v (xs (nI i + (1 : Int32)).toNatClampNeg) (xs (nI i + (2 : Int32)).toNatClampNeg) h3) (cwV 2 htg (xg_V0 xkin_Z_setRegister xw_827 xw_828 xsel_Z_setRegister xw_9) rfl rfl rfl (by decide +kernel) ⟨Nat.le_of_ble_eq_true rfl, Nat.le_of_ble_eq_true rfl⟩) ⟨xB_blind, xrecv_Z hK (xPs (X := xWH k a g1 U1.2) (Y := []) hP2), fun U hU hW => xB_mk (xPs (X := xWH k a g1 U1.2) (Y := []) hP2) hK (xDs (X := xWH k a g1 U1.2) (Y := []) hD2) hE hS (xsubS (X := xWH k a g1 U1.2) (Y := []) hD2 hA hS) hU hW⟩ rfl rfl hl.1 rfl (lv_room (Nat.le_of_ble_eq_true rfl)) xd_L_law_271 ⟨by show 17 + 2 * xcH u + 0 + 0 ≤ 600000; omega, by show 69877 + 1025 * xcH u + 0 + 0 ≤ 7302250; omega⟩) hP2 hD2 hA hS (fun r2 v1 H locs hw hP hD hS => ?_)
  obtain rfl : r2 = (xf_Z_setRegister v (xs (nI i + (1 : Int32)).toNatClampNeg) (xs (nI i + (2 : Int32)).toNatClampNeg)).1 := congrArg Prod.fst hw
  obtain rfl : v1 = (xf_Z_setRegister v (xs (nI i + (1 : Int32)).toNatClampNeg) (xs (nI i + (2 : Int32)).toNatClampNeg)).2 := congrArg Prod.snd hw
  rw [List.append_nil] at hP hD
  refine lv_icmp_eq (tgt := 512) hx hb xd_L_law_274 rfl (fun _ => ?_) (fun hne => absurd h1 hne)
  exact W.widen (by omega) (by omega) (nx U1.2 _ g1 H locs ls h2 hg hl hP hD hS)
set_option maxHeartbeats 4000000 in
set_option maxRecDepth 100000 in
theorem xcase_register (hx : p.tables.exec = Jvm.exec) (hb : c.code = code) (hml : c.maxLocals = 4) (htg : ∀ w ∈ lw_g, w.before #[Value.ref b] s = true) (hown : s.vm.findClass "HyperHostLaw" = some m.cls) (hX : va_X b L xs s s.heap) (hbl : b < s.heap.size) (hK : va_K D xCl (xTy k) s) (hE : xS z (fun q => s.heap.size ≤ q) s s.heap) (hL : L ≤ 3584) (hi : i + 7 ≤ L) (nx : xAt p l e s m below meth c Q b D k a bz 512 i) : xAt p l e s m below meth c Q b D k a bz 279 i := by
  intro u v g H locs ls hr hg hl hP hD hS
  have hA : ∀ q : Nat, s.heap.size ≤ q → (fun q => s.heap.size ≤ q) q := fun _ h => h
  have hbA : ¬ (fun q => s.heap.size ≤ q) b := Nat.not_le.mpr hbl
  have hmx := xcH_max u
  refine lv_aload_n hx hb xd_L_law_279 rfl (lv_at hl 2 rfl) ?_
  refine lv_aload_n hx hb xd_L_law_280 rfl (lv_at hl 3 rfl) ?_
  refine lv_iload_n hx hb xd_L_law_281 rfl (lv_at hl 0 rfl) ?_
  refine lv_iconst (v := 1) hx hb xd_L_law_282 (by decide) ?_
  refine lv_iadd hx hb xd_L_law_283 ?_
  refine va_sld hx hb hX hbl hbA hS (xvi hL hi 1 (by decide) 1 rfl) xd_L_law_284 ?_
  refine xcS_i (wf := fun q : XH × XG => xWH k a q.2 q.1) (X := []) (w := xWH k a g u) (Y := xWZ k bz v) (va_runV (As := [.int (xs (nI i + (1 : Int32)).toNatClampNeg)]) (rest := []) ⟨hx, hb, hml, hown, htg⟩ (c_H_register l D z k a g H.size u hg (xs (nI i + (1 : Int32)).toNatClampNeg)) (cwV 1 htg (xg_V0 xkin_H_register xw_325 xw_326 xsel_H_register xw_1) rfl rfl rfl (by decide +kernel) ⟨Nat.le_of_ble_eq_true rfl, Nat.le_of_ble_eq_true rfl⟩) ⟨xB_blind, xrecv_H hK (xPs (X := []) (Y := xWZ k bz v) hP), fun U hU hW => xB_mk (xPs (X := []) (Y := xWZ k bz v) hP) hK (xDs (X := []) (Y := xWZ k bz v) hD) hE hS (xsubS (X := []) (Y := xWZ k bz v) hD hA hS) hU hW⟩ rfl rfl hl.1 rfl (lv_room (Nat.le_of_ble_eq_true rfl)) xd_L_law_285 ⟨by show 17 + 2 * xcH u + 0 ≤ 600000; omega, by show 69877 + 1025 * xcH u + 0 ≤ 7302250; omega⟩) hP hD hA hS (fun r w1 H locs hw hP hD hS => ?_)
  obtain ⟨u1, g1⟩ := w1
  obtain ⟨hq, hu, hg⟩ := hw
  have hq : r = xf_H_register u (xs (nI i + (1 : Int32)).toNatClampNeg) := hq
  have hu : u1 = u := hu
  subst hq
  have hP : va_P D xCl (xWH k a g1 u1 ++ xWZ k bz v) H := hP
  have hD : va_D (fun q => s.heap.size ≤ q) (xWH k a g1 u1 ++ xWZ k bz v) := hD
  have hg : xok k g1 u1 := hg
  rw [hu] at hP hD hg
  obtain ⟨h1, h3⟩ := yr_register hr (xs (nI i + (1 : Int32)).toNatClampNeg)
  have hP2 : va_P D xCl (xWH k a g1 u ++ (xWZ k bz v ++ [])) H := by rw [List.append_nil]; exact hP
  have hD2 : va_D (fun q => s.heap.size ≤ q) (xWH k a g1 u ++ (xWZ k bz v ++ [])) := by rw [List.append_nil]; exact hD
  refine lv_aload_n hx hb xd_L_law_288 rfl (lv_at hl 1 rfl) ?_
  refine lv_aload_n hx hb xd_L_law_289 rfl (lv_at hl 3 rfl) ?_
  refine lv_iload_n hx hb xd_L_law_290 rfl (lv_at hl 0 rfl) ?_
  refine lv_iconst (v := 1) hx hb xd_L_law_291 (by decide) ?_
  refine lv_iadd hx hb xd_L_law_292 ?_
  refine va_sld hx hb hX hbl hbA hS (xvi hL hi 1 (by decide) 1 rfl) xd_L_law_293 ?_
  refine xcS_i (wf := fun q : XZ => xWZ k bz q) (X := xWH k a g1 u) (w := xWZ k bz v) (Y := []) (va_runV (As := [.int (xs (nI i + (1 : Int32)).toNatClampNeg)]) (rest := [.int (xf_H_register u (xs (nI i + (1 : Int32)).toNatClampNeg))]) ⟨hx, hb, hml, hown, htg⟩ (c_Z_register l D z k bz H.size v (xs (nI i + (1 : Int32)).toNatClampNeg) h3) (cwV 1 htg (xg_V0 xkin_Z_register xw_838 xw_839 xsel_Z_register xw_9) rfl rfl rfl (by decide +kernel) ⟨Nat.le_of_ble_eq_true rfl, Nat.le_of_ble_eq_true rfl⟩) ⟨xB_blind, xrecv_Z hK (xPs (X := xWH k a g1 u) (Y := []) hP2), fun U hU hW => xB_mk (xPs (X := xWH k a g1 u) (Y := []) hP2) hK (xDs (X := xWH k a g1 u) (Y := []) hD2) hE hS (xsubS (X := xWH k a g1 u) (Y := []) hD2 hA hS) hU hW⟩ rfl rfl hl.1 rfl (lv_room (Nat.le_of_ble_eq_true rfl)) xd_L_law_294 ⟨by show 17 + 2 * xcH u + 0 + 0 ≤ 600000; omega, by show 69877 + 1025 * xcH u + 0 + 0 ≤ 7302250; omega⟩) hP2 hD2 hA hS (fun r2 v1 H locs hw hP hD hS => ?_)
  obtain ⟨hw1, hw2⟩ := hw
  have hw1 : r2 = xf_Z_register v (xs (nI i + (1 : Int32)).toNatClampNeg) := hw1
  have hw2 : v1 = v := hw2
  subst hw1
  rw [List.append_nil] at hP hD
  rw [hw2] at hP hD
  refine lv_icmp_eq (tgt := 512) hx hb xd_L_law_297 rfl (fun _ => ?_) (fun hne => absurd h1 hne)
  exact W.widen (by omega) (by omega) (nx u v g1 H locs ls hr hg hl hP hD hS)
set_option maxHeartbeats 4000000 in
set_option maxRecDepth 100000 in
theorem xcase_setControl (hx : p.tables.exec = Jvm.exec) (hb : c.code = code) (hml : c.maxLocals = 4) (htg : ∀ w ∈ lw_g, w.before #[Value.ref b] s = true) (hown : s.vm.findClass "HyperHostLaw" = some m.cls) (hX : va_X b L xs s s.heap) (hbl : b < s.heap.size) (hK : va_K D xCl (xTy k) s) (hE : xS z (fun q => s.heap.size ≤ q) s s.heap) (hL : L ≤ 3584) (hi : i + 7 ≤ L) (nx : xAt p l e s m below meth c Q b D k a bz 512 i) : xAt p l e s m below meth c Q b D k a bz 302 i := by
  intro u v g H locs ls hr hg hl hP hD hS
  have hA : ∀ q : Nat, s.heap.size ≤ q → (fun q => s.heap.size ≤ q) q := fun _ h => h
  have hbA : ¬ (fun q => s.heap.size ≤ q) b := Nat.not_le.mpr hbl
  have hmx := xcH_max u
  refine lv_aload_n hx hb xd_L_law_302 rfl (lv_at hl 2 rfl) ?_
  refine lv_aload_n hx hb xd_L_law_303 rfl (lv_at hl 3 rfl) ?_
  refine lv_iload_n hx hb xd_L_law_304 rfl (lv_at hl 0 rfl) ?_
  refine lv_iconst (v := 1) hx hb xd_L_law_305 (by decide) ?_
  refine lv_iadd hx hb xd_L_law_306 ?_
  refine va_sld hx hb hX hbl hbA hS (xvi hL hi 1 (by decide) 1 rfl) xd_L_law_307 ?_
  refine lv_aload_n hx hb xd_L_law_308 rfl (lv_at hl 3 rfl) ?_
  refine lv_iload_n hx hb xd_L_law_309 rfl (lv_at hl 0 rfl) ?_
  refine lv_iconst (v := 2) hx hb xd_L_law_310 (by decide) ?_
  refine lv_iadd hx hb xd_L_law_311 ?_
  refine va_sld hx hb hX hbl hbA hS (xvi hL hi 2 (by decide) 2 rfl) xd_L_law_312 ?_
  refine xcS_i (wf := fun q : XH × XG => xWH k a q.2 q.1) (X := []) (w := xWH k a g u) (Y := xWZ k bz v) (va_runV (As := [.int (xs (nI i + (1 : Int32)).toNatClampNeg), .int (xs (nI i + (2 : Int32)).toNatClampNeg)]) (rest := []) ⟨hx, hb, hml, hown, htg⟩ (c_H_setControl l D z k a g H.size u hg (xs (nI i + (1 : Int32)).toNatClampNeg) (xs (nI i + (2 : Int32)).toNatClampNeg)) (cwV 2 htg (xg_V0 xkin_H_setControl xw_329 xw_330 xsel_H_setControl xw_1) rfl rfl rfl (by decide +kernel) ⟨Nat.le_of_ble_eq_true rfl, Nat.le_of_ble_eq_true rfl⟩) ⟨xB_blind, xrecv_H hK (xPs (X := []) (Y := xWZ k bz v) hP), fun U hU hW => xB_mk (xPs (X := []) (Y := xWZ k bz v) hP) hK (xDs (X := []) (Y := xWZ k bz v) hD) hE hS (xsubS (X := []) (Y := xWZ k bz v) hD hA hS) hU hW⟩ rfl rfl hl.1 rfl (lv_room (Nat.le_of_ble_eq_true rfl)) xd_L_law_313 ⟨by show 17 + 2 * xcH u + 0 ≤ 600000; omega, by show 69877 + 1025 * xcH u + 0 ≤ 7302250; omega⟩) hP hD hA hS (fun r w1 H locs hw hP hD hS => ?_)
  obtain ⟨u1, g1⟩ := w1
  obtain ⟨hq, hg⟩ := hw
  obtain rfl : r = (xf_H_setControl u (xs (nI i + (1 : Int32)).toNatClampNeg) (xs (nI i + (2 : Int32)).toNatClampNeg)).1 := congrArg Prod.fst hq
  obtain rfl : u1 = (xf_H_setControl u (xs (nI i + (1 : Int32)).toNatClampNeg) (xs (nI i + (2 : Int32)).toNatClampNeg)).2 := congrArg Prod.snd hq
  obtain ⟨h1, h2, h3⟩ := yr_setControl hr (xs (nI i + (1 : Int32)).toNatClampNeg) (xs (nI i + (2 : Int32)).toNatClampNeg)
  have hc : xcH (xf_H_setControl u (xs (nI i + (1 : Int32)).toNatClampNeg) (xs (nI i + (2 : Int32)).toNatClampNeg)).2 = xcH u := xm_H_setControl u (xs (nI i + (1 : Int32)).toNatClampNeg) (xs (nI i + (2 : Int32)).toNatClampNeg)
  generalize hU1 : xf_H_setControl u (xs (nI i + (1 : Int32)).toNatClampNeg) (xs (nI i + (2 : Int32)).toNatClampNeg) = U1 at *
  have hP2 : va_P D xCl (xWH k a g1 U1.2 ++ (xWZ k bz v ++ [])) H := by rw [List.append_nil]; exact hP
  have hD2 : va_D (fun q => s.heap.size ≤ q) (xWH k a g1 U1.2 ++ (xWZ k bz v ++ [])) := by rw [List.append_nil]; exact hD
  refine lv_aload_n hx hb xd_L_law_316 rfl (lv_at hl 1 rfl) ?_
  refine lv_aload_n hx hb xd_L_law_317 rfl (lv_at hl 3 rfl) ?_
  refine lv_iload_n hx hb xd_L_law_318 rfl (lv_at hl 0 rfl) ?_
  refine lv_iconst (v := 1) hx hb xd_L_law_319 (by decide) ?_
  refine lv_iadd hx hb xd_L_law_320 ?_
  refine va_sld hx hb hX hbl hbA hS (xvi hL hi 1 (by decide) 1 rfl) xd_L_law_321 ?_
  refine lv_aload_n hx hb xd_L_law_322 rfl (lv_at hl 3 rfl) ?_
  refine lv_iload_n hx hb xd_L_law_323 rfl (lv_at hl 0 rfl) ?_
  refine lv_iconst (v := 2) hx hb xd_L_law_324 (by decide) ?_
  refine lv_iadd hx hb xd_L_law_325 ?_
  refine va_sld hx hb hX hbl hbA hS (xvi hL hi 2 (by decide) 2 rfl) xd_L_law_326 ?_
  refine xcS_i (wf := fun q : XZ => xWZ k bz q) (X := xWH k a g1 U1.2) (w := xWZ k bz v) (Y := []) (va_runV (As := [.int (xs (nI i + (1 : Int32)).toNatClampNeg), .int (xs (nI i + (2 : Int32)).toNatClampNeg)]) (rest := [.int (U1.1)]) ⟨hx, hb, hml, hown, htg⟩ (c_Z_setControl l D z k bz H.size v (xs (nI i + (1 : Int32)).toNatClampNeg) (xs (nI i + (2 : Int32)).toNatClampNeg) h3) (cwV 2 htg (xg_V0 xkin_Z_setControl xw_842 xw_843 xsel_Z_setControl xw_9) rfl rfl rfl (by decide +kernel) ⟨Nat.le_of_ble_eq_true rfl, Nat.le_of_ble_eq_true rfl⟩) ⟨xB_blind, xrecv_Z hK (xPs (X := xWH k a g1 U1.2) (Y := []) hP2), fun U hU hW => xB_mk (xPs (X := xWH k a g1 U1.2) (Y := []) hP2) hK (xDs (X := xWH k a g1 U1.2) (Y := []) hD2) hE hS (xsubS (X := xWH k a g1 U1.2) (Y := []) hD2 hA hS) hU hW⟩ rfl rfl hl.1 rfl (lv_room (Nat.le_of_ble_eq_true rfl)) xd_L_law_327 ⟨by show 17 + 2 * xcH u + 0 + 0 ≤ 600000; omega, by show 69877 + 1025 * xcH u + 0 + 0 ≤ 7302250; omega⟩) hP2 hD2 hA hS (fun r2 v1 H locs hw hP hD hS => ?_)
  obtain rfl : r2 = (xf_Z_setControl v (xs (nI i + (1 : Int32)).toNatClampNeg) (xs (nI i + (2 : Int32)).toNatClampNeg)).1 := congrArg Prod.fst hw
  obtain rfl : v1 = (xf_Z_setControl v (xs (nI i + (1 : Int32)).toNatClampNeg) (xs (nI i + (2 : Int32)).toNatClampNeg)).2 := congrArg Prod.snd hw
  rw [List.append_nil] at hP hD
  refine lv_icmp_eq (tgt := 512) hx hb xd_L_law_330 rfl (fun _ => ?_) (fun hne => absurd h1 hne)
  exact W.widen (by omega) (by omega) (nx U1.2 _ g1 H locs ls h2 hg hl hP hD hS)
set_option maxHeartbeats 4000000 in
set_option maxRecDepth 100000 in
theorem xcase_control (hx : p.tables.exec = Jvm.exec) (hb : c.code = code) (hml : c.maxLocals = 4) (htg : ∀ w ∈ lw_g, w.before #[Value.ref b] s = true) (hown : s.vm.findClass "HyperHostLaw" = some m.cls) (hX : va_X b L xs s s.heap) (hbl : b < s.heap.size) (hK : va_K D xCl (xTy k) s) (hE : xS z (fun q => s.heap.size ≤ q) s s.heap) (hL : L ≤ 3584) (hi : i + 7 ≤ L) (nx : xAt p l e s m below meth c Q b D k a bz 512 i) : xAt p l e s m below meth c Q b D k a bz 335 i := by
  intro u v g H locs ls hr hg hl hP hD hS
  have hA : ∀ q : Nat, s.heap.size ≤ q → (fun q => s.heap.size ≤ q) q := fun _ h => h
  have hbA : ¬ (fun q => s.heap.size ≤ q) b := Nat.not_le.mpr hbl
  have hmx := xcH_max u
  refine lv_aload_n hx hb xd_L_law_335 rfl (lv_at hl 2 rfl) ?_
  refine lv_aload_n hx hb xd_L_law_336 rfl (lv_at hl 3 rfl) ?_
  refine lv_iload_n hx hb xd_L_law_337 rfl (lv_at hl 0 rfl) ?_
  refine lv_iconst (v := 1) hx hb xd_L_law_338 (by decide) ?_
  refine lv_iadd hx hb xd_L_law_339 ?_
  refine va_sld hx hb hX hbl hbA hS (xvi hL hi 1 (by decide) 1 rfl) xd_L_law_340 ?_
  refine xcS_i (wf := fun q : XH × XG => xWH k a q.2 q.1) (X := []) (w := xWH k a g u) (Y := xWZ k bz v) (va_runV (As := [.int (xs (nI i + (1 : Int32)).toNatClampNeg)]) (rest := []) ⟨hx, hb, hml, hown, htg⟩ (c_H_control l D z k a g H.size u hg (xs (nI i + (1 : Int32)).toNatClampNeg)) (cwV 1 htg (xg_V0 xkin_H_control xw_361 xw_362 xsel_H_control xw_1) rfl rfl rfl (by decide +kernel) ⟨Nat.le_of_ble_eq_true rfl, Nat.le_of_ble_eq_true rfl⟩) ⟨xB_blind, xrecv_H hK (xPs (X := []) (Y := xWZ k bz v) hP), fun U hU hW => xB_mk (xPs (X := []) (Y := xWZ k bz v) hP) hK (xDs (X := []) (Y := xWZ k bz v) hD) hE hS (xsubS (X := []) (Y := xWZ k bz v) hD hA hS) hU hW⟩ rfl rfl hl.1 rfl (lv_room (Nat.le_of_ble_eq_true rfl)) xd_L_law_341 ⟨by show 17 + 2 * xcH u + 0 ≤ 600000; omega, by show 69877 + 1025 * xcH u + 0 ≤ 7302250; omega⟩) hP hD hA hS (fun r w1 H locs hw hP hD hS => ?_)
  obtain ⟨u1, g1⟩ := w1
  obtain ⟨hq, hu, hg⟩ := hw
  have hq : r = xf_H_control u (xs (nI i + (1 : Int32)).toNatClampNeg) := hq
  have hu : u1 = u := hu
  subst hq
  have hP : va_P D xCl (xWH k a g1 u1 ++ xWZ k bz v) H := hP
  have hD : va_D (fun q => s.heap.size ≤ q) (xWH k a g1 u1 ++ xWZ k bz v) := hD
  have hg : xok k g1 u1 := hg
  rw [hu] at hP hD hg
  obtain ⟨h1, h3⟩ := yr_control hr (xs (nI i + (1 : Int32)).toNatClampNeg)
  have hP2 : va_P D xCl (xWH k a g1 u ++ (xWZ k bz v ++ [])) H := by rw [List.append_nil]; exact hP
  have hD2 : va_D (fun q => s.heap.size ≤ q) (xWH k a g1 u ++ (xWZ k bz v ++ [])) := by rw [List.append_nil]; exact hD
  refine lv_aload_n hx hb xd_L_law_344 rfl (lv_at hl 1 rfl) ?_
  refine lv_aload_n hx hb xd_L_law_345 rfl (lv_at hl 3 rfl) ?_
  refine lv_iload_n hx hb xd_L_law_346 rfl (lv_at hl 0 rfl) ?_
  refine lv_iconst (v := 1) hx hb xd_L_law_347 (by decide) ?_
  refine lv_iadd hx hb xd_L_law_348 ?_
  refine va_sld hx hb hX hbl hbA hS (xvi hL hi 1 (by decide) 1 rfl) xd_L_law_349 ?_
  refine xcS_i (wf := fun q : XZ => xWZ k bz q) (X := xWH k a g1 u) (w := xWZ k bz v) (Y := []) (va_runV (As := [.int (xs (nI i + (1 : Int32)).toNatClampNeg)]) (rest := [.int (xf_H_control u (xs (nI i + (1 : Int32)).toNatClampNeg))]) ⟨hx, hb, hml, hown, htg⟩ (c_Z_control2 l D z k bz H.size v (xs (nI i + (1 : Int32)).toNatClampNeg) h3) (cwV 1 htg (xg_V0 xkin_Z_control2 xw_879 xw_880 xsel_Z_control2 xw_9) rfl rfl rfl (by decide +kernel) ⟨Nat.le_of_ble_eq_true rfl, Nat.le_of_ble_eq_true rfl⟩) ⟨xB_blind, xrecv_Z hK (xPs (X := xWH k a g1 u) (Y := []) hP2), fun U hU hW => xB_mk (xPs (X := xWH k a g1 u) (Y := []) hP2) hK (xDs (X := xWH k a g1 u) (Y := []) hD2) hE hS (xsubS (X := xWH k a g1 u) (Y := []) hD2 hA hS) hU hW⟩ rfl rfl hl.1 rfl (lv_room (Nat.le_of_ble_eq_true rfl)) xd_L_law_350 ⟨by show 17 + 2 * xcH u + 0 + 0 ≤ 600000; omega, by show 69877 + 1025 * xcH u + 0 + 0 ≤ 7302250; omega⟩) hP2 hD2 hA hS (fun r2 v1 H locs hw hP hD hS => ?_)
  obtain ⟨hw1, hw2⟩ := hw
  have hw1 : r2 = xf_Z_control2 v (xs (nI i + (1 : Int32)).toNatClampNeg) := hw1
  have hw2 : v1 = v := hw2
  subst hw1
  rw [List.append_nil] at hP hD
  rw [hw2] at hP hD
  refine lv_icmp_eq (tgt := 512) hx hb xd_L_law_353 rfl (fun _ => ?_) (fun hne => absurd h1 hne)
  exact W.widen (by omega) (by omega) (nx u v g1 H locs ls hr hg hl hP hD hS)
set_option maxHeartbeats 4000000 in
set_option maxRecDepth 100000 in
theorem xcase_place (hx : p.tables.exec = Jvm.exec) (hb : c.code = code) (hml : c.maxLocals = 4) (htg : ∀ w ∈ lw_g, w.before #[Value.ref b] s = true) (hown : s.vm.findClass "HyperHostLaw" = some m.cls) (hX : va_X b L xs s s.heap) (hbl : b < s.heap.size) (hK : va_K D xCl (xTy k) s) (hE : xS z (fun q => s.heap.size ≤ q) s s.heap) (hL : L ≤ 3584) (hi : i + 7 ≤ L) (nx : xAt p l e s m below meth c Q b D k a bz 512 i) : xAt p l e s m below meth c Q b D k a bz 358 i := by
  intro u v g H locs ls hr hg hl hP hD hS
  have hA : ∀ q : Nat, s.heap.size ≤ q → (fun q => s.heap.size ≤ q) q := fun _ h => h
  have hbA : ¬ (fun q => s.heap.size ≤ q) b := Nat.not_le.mpr hbl
  have hmx := xcH_max u
  refine lv_aload_n hx hb xd_L_law_358 rfl (lv_at hl 2 rfl) ?_
  refine lv_aload_n hx hb xd_L_law_359 rfl (lv_at hl 3 rfl) ?_
  refine lv_iload_n hx hb xd_L_law_360 rfl (lv_at hl 0 rfl) ?_
  refine lv_iconst (v := 1) hx hb xd_L_law_361 (by decide) ?_
  refine lv_iadd hx hb xd_L_law_362 ?_
  refine va_sld hx hb hX hbl hbA hS (xvi hL hi 1 (by decide) 1 rfl) xd_L_law_363 ?_
  refine lv_aload_n hx hb xd_L_law_364 rfl (lv_at hl 3 rfl) ?_
  refine lv_iload_n hx hb xd_L_law_365 rfl (lv_at hl 0 rfl) ?_
  refine lv_iconst (v := 2) hx hb xd_L_law_366 (by decide) ?_
  refine lv_iadd hx hb xd_L_law_367 ?_
  refine va_sld hx hb hX hbl hbA hS (xvi hL hi 2 (by decide) 2 rfl) xd_L_law_368 ?_
  refine xcS_i (wf := fun q : XH × XG => xWH k a q.2 q.1) (X := []) (w := xWH k a g u) (Y := xWZ k bz v) (va_runV (As := [.int (xs (nI i + (1 : Int32)).toNatClampNeg), .int (xs (nI i + (2 : Int32)).toNatClampNeg)]) (rest := []) ⟨hx, hb, hml, hown, htg⟩ (c_H_place l D z k a g H.size u hg (xs (nI i + (1 : Int32)).toNatClampNeg) (xs (nI i + (2 : Int32)).toNatClampNeg)) (cwV 2 htg (xg_V0 xkin_H_place xw_377 xw_378 xsel_H_place xw_1) rfl rfl rfl (by decide +kernel) ⟨Nat.le_of_ble_eq_true rfl, Nat.le_of_ble_eq_true rfl⟩) ⟨xB_blind, xrecv_H hK (xPs (X := []) (Y := xWZ k bz v) hP), fun U hU hW => xB_mk (xPs (X := []) (Y := xWZ k bz v) hP) hK (xDs (X := []) (Y := xWZ k bz v) hD) hE hS (xsubS (X := []) (Y := xWZ k bz v) hD hA hS) hU hW⟩ rfl rfl hl.1 rfl (lv_room (Nat.le_of_ble_eq_true rfl)) xd_L_law_369 ⟨by show 17 + 2 * xcH u + 0 ≤ 600000; omega, by show 69877 + 1025 * xcH u + 0 ≤ 7302250; omega⟩) hP hD hA hS (fun r w1 H locs hw hP hD hS => ?_)
  obtain ⟨u1, g1⟩ := w1
  obtain ⟨hq, hg⟩ := hw
  obtain rfl : r = (xf_H_place u (xs (nI i + (1 : Int32)).toNatClampNeg) (xs (nI i + (2 : Int32)).toNatClampNeg)).1 := congrArg Prod.fst hq
  obtain rfl : u1 = (xf_H_place u (xs (nI i + (1 : Int32)).toNatClampNeg) (xs (nI i + (2 : Int32)).toNatClampNeg)).2 := congrArg Prod.snd hq
  obtain ⟨h1, h2⟩ := yr_place hr (xs (nI i + (1 : Int32)).toNatClampNeg) (xs (nI i + (2 : Int32)).toNatClampNeg)
  have hc : xcH (xf_H_place u (xs (nI i + (1 : Int32)).toNatClampNeg) (xs (nI i + (2 : Int32)).toNatClampNeg)).2 = xcH u := xm_H_place u (xs (nI i + (1 : Int32)).toNatClampNeg) (xs (nI i + (2 : Int32)).toNatClampNeg)
  generalize hU1 : xf_H_place u (xs (nI i + (1 : Int32)).toNatClampNeg) (xs (nI i + (2 : Int32)).toNatClampNeg) = U1 at *
  have hP2 : va_P D xCl (xWH k a g1 U1.2 ++ (xWZ k bz v ++ [])) H := by rw [List.append_nil]; exact hP
  have hD2 : va_D (fun q => s.heap.size ≤ q) (xWH k a g1 U1.2 ++ (xWZ k bz v ++ [])) := by rw [List.append_nil]; exact hD
  refine lv_aload_n hx hb xd_L_law_372 rfl (lv_at hl 1 rfl) ?_
  refine lv_aload_n hx hb xd_L_law_373 rfl (lv_at hl 3 rfl) ?_
  refine lv_iload_n hx hb xd_L_law_374 rfl (lv_at hl 0 rfl) ?_
  refine lv_iconst (v := 1) hx hb xd_L_law_375 (by decide) ?_
  refine lv_iadd hx hb xd_L_law_376 ?_
  refine va_sld hx hb hX hbl hbA hS (xvi hL hi 1 (by decide) 1 rfl) xd_L_law_377 ?_
  refine lv_aload_n hx hb xd_L_law_378 rfl (lv_at hl 3 rfl) ?_
  refine lv_iload_n hx hb xd_L_law_379 rfl (lv_at hl 0 rfl) ?_
  refine lv_iconst (v := 2) hx hb xd_L_law_380 (by decide) ?_
  refine lv_iadd hx hb xd_L_law_381 ?_
  refine va_sld hx hb hX hbl hbA hS (xvi hL hi 2 (by decide) 2 rfl) xd_L_law_382 ?_
  refine xcS_i (wf := fun q : XZ => xWZ k bz q) (X := xWH k a g1 U1.2) (w := xWZ k bz v) (Y := []) (va_runV (As := [.int (xs (nI i + (1 : Int32)).toNatClampNeg), .int (xs (nI i + (2 : Int32)).toNatClampNeg)]) (rest := [.int (U1.1)]) ⟨hx, hb, hml, hown, htg⟩ (c_Z_place l D z k bz H.size v (xs (nI i + (1 : Int32)).toNatClampNeg) (xs (nI i + (2 : Int32)).toNatClampNeg) ) (cwV 2 htg (xg_V0 xkin_Z_place xw_888 xw_889 xsel_Z_place xw_9) rfl rfl rfl (by decide +kernel) ⟨Nat.le_of_ble_eq_true rfl, Nat.le_of_ble_eq_true rfl⟩) ⟨xB_blind, xrecv_Z hK (xPs (X := xWH k a g1 U1.2) (Y := []) hP2), fun U hU hW => xB_mk (xPs (X := xWH k a g1 U1.2) (Y := []) hP2) hK (xDs (X := xWH k a g1 U1.2) (Y := []) hD2) hE hS (xsubS (X := xWH k a g1 U1.2) (Y := []) hD2 hA hS) hU hW⟩ rfl rfl hl.1 rfl (lv_room (Nat.le_of_ble_eq_true rfl)) xd_L_law_383 ⟨by show 17 + 2 * xcH u + 0 + 0 ≤ 600000; omega, by show 69877 + 1025 * xcH u + 0 + 0 ≤ 7302250; omega⟩) hP2 hD2 hA hS (fun r2 v1 H locs hw hP hD hS => ?_)
  obtain rfl : r2 = (xf_Z_place v (xs (nI i + (1 : Int32)).toNatClampNeg) (xs (nI i + (2 : Int32)).toNatClampNeg)).1 := congrArg Prod.fst hw
  obtain rfl : v1 = (xf_Z_place v (xs (nI i + (1 : Int32)).toNatClampNeg) (xs (nI i + (2 : Int32)).toNatClampNeg)).2 := congrArg Prod.snd hw
  rw [List.append_nil] at hP hD
  refine lv_icmp_eq (tgt := 512) hx hb xd_L_law_386 rfl (fun _ => ?_) (fun hne => absurd h1 hne)
  exact W.widen (by omega) (by omega) (nx U1.2 _ g1 H locs ls h2 hg hl hP hD hS)
set_option maxHeartbeats 4000000 in
set_option maxRecDepth 100000 in
theorem xcase_line (hx : p.tables.exec = Jvm.exec) (hb : c.code = code) (hml : c.maxLocals = 4) (htg : ∀ w ∈ lw_g, w.before #[Value.ref b] s = true) (hown : s.vm.findClass "HyperHostLaw" = some m.cls) (hX : va_X b L xs s s.heap) (hbl : b < s.heap.size) (hK : va_K D xCl (xTy k) s) (hE : xS z (fun q => s.heap.size ≤ q) s s.heap) (hL : L ≤ 3584) (hi : i + 7 ≤ L) (nx : xAt p l e s m below meth c Q b D k a bz 512 i) : xAt p l e s m below meth c Q b D k a bz 391 i := by
  intro u v g H locs ls hr hg hl hP hD hS
  have hA : ∀ q : Nat, s.heap.size ≤ q → (fun q => s.heap.size ≤ q) q := fun _ h => h
  have hbA : ¬ (fun q => s.heap.size ≤ q) b := Nat.not_le.mpr hbl
  have hmx := xcH_max u
  refine lv_aload_n hx hb xd_L_law_391 rfl (lv_at hl 2 rfl) ?_
  refine lv_aload_n hx hb xd_L_law_392 rfl (lv_at hl 3 rfl) ?_
  refine lv_iload_n hx hb xd_L_law_393 rfl (lv_at hl 0 rfl) ?_
  refine lv_iconst (v := 1) hx hb xd_L_law_394 (by decide) ?_
  refine lv_iadd hx hb xd_L_law_395 ?_
  refine va_sld hx hb hX hbl hbA hS (xvi hL hi 1 (by decide) 1 rfl) xd_L_law_396 ?_
  have K405 : W p l e room_1 s m #[Value.ref b] below meth c H locs (17 + 2 * xcH u) (69877 + 1025 * xcH u) Q (F0 m 405 ls [.int (xz (!decide (xs (nI i + (1 : Int32)).toNatClampNeg = 0))), .ref (a 0)]) := by
    refine xcS_i (wf := fun q : XH × XG => xWH k a q.2 q.1) (X := []) (w := xWH k a g u) (Y := xWZ k bz v) (va_runV (As := [.int (xz (!decide (xs (nI i + (1 : Int32)).toNatClampNeg = 0)))]) (rest := []) ⟨hx, hb, hml, hown, htg⟩ (c_H_line l D z k a g H.size u hg (!decide (xs (nI i + (1 : Int32)).toNatClampNeg = 0))) (cwV 1 htg (xg_V0 xkin_H_line xw_381 xw_382 xsel_H_line xw_1) rfl rfl rfl (by decide +kernel) ⟨Nat.le_of_ble_eq_true rfl, Nat.le_of_ble_eq_true rfl⟩) ⟨xB_blind, xrecv_H hK (xPs (X := []) (Y := xWZ k bz v) hP), fun U hU hW => xB_mk (xPs (X := []) (Y := xWZ k bz v) hP) hK (xDs (X := []) (Y := xWZ k bz v) hD) hE hS (xsubS (X := []) (Y := xWZ k bz v) hD hA hS) hU hW⟩ rfl rfl hl.1 rfl (lv_room (Nat.le_of_ble_eq_true rfl)) xd_L_law_405 ⟨by show 17 + 2 * xcH u + 0 ≤ 600000; omega, by show 69877 + 1025 * xcH u + 0 ≤ 7302250; omega⟩) hP hD hA hS (fun r w1 H locs hw hP hD hS => ?_)
    obtain ⟨u1, g1⟩ := w1
    obtain ⟨hq, hg⟩ := hw
    obtain ⟨h1, h2, h3⟩ := yr_line hr (!decide (xs (nI i + (1 : Int32)).toNatClampNeg = 0))
    obtain rfl : r = (xf_H_line u (!decide (xs (nI i + (1 : Int32)).toNatClampNeg = 0))).1 := congrArg Prod.fst hq
    obtain rfl : u1 = (xf_H_line u (!decide (xs (nI i + (1 : Int32)).toNatClampNeg = 0))).2 := congrArg Prod.snd hq
    have hc : xcH (xf_H_line u (!decide (xs (nI i + (1 : Int32)).toNatClampNeg = 0))).2 = xcH u := xm_H_line u _
    generalize hu1 : xf_H_line u (!decide (xs (nI i + (1 : Int32)).toNatClampNeg = 0)) = U1 at *
    have hP2 : va_P D xCl (xWH k a g1 U1.2 ++ (xWZ k bz v ++ [])) H := by rw [List.append_nil]; exact hP
    have hD2 : va_D (fun q => s.heap.size ≤ q) (xWH k a g1 U1.2 ++ (xWZ k bz v ++ [])) := by rw [List.append_nil]; exact hD
    refine lv_aload_n hx hb xd_L_law_408 rfl (lv_at hl 1 rfl) ?_
    refine lv_aload_n hx hb xd_L_law_409 rfl (lv_at hl 3 rfl) ?_
    refine lv_iload_n hx hb xd_L_law_410 rfl (lv_at hl 0 rfl) ?_
    refine lv_iconst (v := 1) hx hb xd_L_law_411 (by decide) ?_
    refine lv_iadd hx hb xd_L_law_412 ?_
    refine va_sld hx hb hX hbl hbA hS (xvi hL hi 1 (by decide) 1 rfl) xd_L_law_413 ?_
    have K422 : W p l e room_1 s m #[Value.ref b] below meth c H locs (17 + 2 * xcH u + 0) (69877 + 1025 * xcH u + 0) Q (F0 m 422 ls [.int (xz (!decide (xs (nI i + (1 : Int32)).toNatClampNeg = 0))), .ref (bz 0), .int U1.1]) := by
      refine xcS_i (wf := fun q : XZ => xWZ k bz q) (X := xWH k a g1 U1.2) (w := xWZ k bz v) (Y := []) (va_runV (As := [.int (xz (!decide (xs (nI i + (1 : Int32)).toNatClampNeg = 0)))]) (rest := [.int U1.1]) ⟨hx, hb, hml, hown, htg⟩ (c_Z_line l D z k bz H.size v (xz (!decide (xs (nI i + (1 : Int32)).toNatClampNeg = 0))) h3) (cwV 1 htg (xg_V0 xkin_Z_line xw_892 xw_893 xsel_Z_line xw_9) rfl rfl rfl (by decide +kernel) ⟨Nat.le_of_ble_eq_true rfl, Nat.le_of_ble_eq_true rfl⟩) ⟨xB_blind, xrecv_Z hK (xPs (X := xWH k a g1 U1.2) (Y := []) hP2), fun U hU hW => xB_mk (xPs (X := xWH k a g1 U1.2) (Y := []) hP2) hK (xDs (X := xWH k a g1 U1.2) (Y := []) hD2) hE hS (xsubS (X := xWH k a g1 U1.2) (Y := []) hD2 hA hS) hU hW⟩ rfl rfl hl.1 rfl (lv_room (Nat.le_of_ble_eq_true rfl)) xd_L_law_422 ⟨by show 17 + 2 * xcH u + 0 + 0 ≤ 600000; omega, by show 69877 + 1025 * xcH u + 0 + 0 ≤ 7302250; omega⟩) hP2 hD2 hA hS (fun r2 v1 H locs hw hP hD hS => ?_)
      obtain rfl : r2 = (xf_Z_line v (xz (!decide (xs (nI i + (1 : Int32)).toNatClampNeg = 0)))).1 := congrArg Prod.fst hw
      obtain rfl : v1 = (xf_Z_line v (xz (!decide (xs (nI i + (1 : Int32)).toNatClampNeg = 0)))).2 := congrArg Prod.snd hw
      rw [List.append_nil] at hP hD
      refine lv_icmp_eq (tgt := 512) hx hb xd_L_law_425 rfl (fun _ => ?_) (fun hne => absurd h1 hne)
      exact W.widen (by omega) (by omega) (nx U1.2 _ g1 H locs ls h2 hg hl hP hD hS)
    refine lv_if_eq (tgt := 421) hx hb xd_L_law_414 rfl (fun h9 => ?_) (fun h9 => ?_)
    · refine lv_iconst (v := 0) hx hb xd_L_law_421 (by decide) ?_
      have e9 : xz (!decide (xs (nI i + (1 : Int32)).toNatClampNeg = 0)) = 0 := by rw [decide_eq_true h9]; rfl
      rw [e9] at K422
      exact K422
    · refine lv_iconst (v := 1) hx hb xd_L_law_417 (by decide) ?_
      refine lv_goto (tgt := 422) hx hb xd_L_law_418 rfl ?_
      have e9 : xz (!decide (xs (nI i + (1 : Int32)).toNatClampNeg = 0)) = 1 := by rw [decide_eq_false h9]; rfl
      rw [e9] at K422
      exact K422
  refine lv_if_eq (tgt := 404) hx hb xd_L_law_397 rfl (fun h9 => ?_) (fun h9 => ?_)
  · refine lv_iconst (v := 0) hx hb xd_L_law_404 (by decide) ?_
    have e9 : xz (!decide (xs (nI i + (1 : Int32)).toNatClampNeg = 0)) = 0 := by rw [decide_eq_true h9]; rfl
    rw [e9] at K405
    exact K405
  · refine lv_iconst (v := 1) hx hb xd_L_law_400 (by decide) ?_
    refine lv_goto (tgt := 405) hx hb xd_L_law_401 rfl ?_
    have e9 : xz (!decide (xs (nI i + (1 : Int32)).toNatClampNeg = 0)) = 1 := by rw [decide_eq_false h9]; rfl
    rw [e9] at K405
    exact K405
set_option maxHeartbeats 4000000 in
set_option maxRecDepth 100000 in
theorem xcase_run (hx : p.tables.exec = Jvm.exec) (hb : c.code = code) (hml : c.maxLocals = 4) (htg : ∀ w ∈ lw_g, w.before #[Value.ref b] s = true) (hown : s.vm.findClass "HyperHostLaw" = some m.cls) (hX : va_X b L xs s s.heap) (hbl : b < s.heap.size) (hK : va_K D xCl (xTy k) s) (hE : xS z (fun q => s.heap.size ≤ q) s s.heap) (hL : L ≤ 3584) (hi : i + 7 ≤ L) (nx : xAt p l e s m below meth c Q b D k a bz 512 i) : xAt p l e s m below meth c Q b D k a bz 430 i := by
  intro u v g H locs ls hr hg hl hP hD hS
  have hA : ∀ q : Nat, s.heap.size ≤ q → (fun q => s.heap.size ≤ q) q := fun _ h => h
  have hbA : ¬ (fun q => s.heap.size ≤ q) b := Nat.not_le.mpr hbl
  have hmx := xcH_max u
  refine lv_aload_n hx hb xd_L_law_430 rfl (lv_at hl 2 rfl) ?_
  refine lv_aload_n hx hb xd_L_law_431 rfl (lv_at hl 3 rfl) ?_
  refine lv_iload_n hx hb xd_L_law_432 rfl (lv_at hl 0 rfl) ?_
  refine lv_iconst (v := 1) hx hb xd_L_law_433 (by decide) ?_
  refine lv_iadd hx hb xd_L_law_434 ?_
  refine va_sld hx hb hX hbl hbA hS (xvi hL hi 1 (by decide) 1 rfl) xd_L_law_435 ?_
  have hge := xrunH_c u (xs (nI i + (1 : Int32)).toNatClampNeg)
  have hmx2 := xcH_max (xf_H_run u (xs (nI i + (1 : Int32)).toNatClampNeg)).2
  obtain ⟨kk, hkk⟩ : ∃ kk, xcH (xf_H_run u (xs (nI i + (1 : Int32)).toNatClampNeg)).2 = xcH u + kk := ⟨xcH (xf_H_run u (xs (nI i + (1 : Int32)).toNatClampNeg)).2 - xcH u, by omega⟩
  refine xcS_i (wf := fun q : XH × XG => xWH k a q.2 q.1) (X := []) (w := xWH k a g u) (Y := xWZ k bz v) (va_runV (As := [.int (xs (nI i + (1 : Int32)).toNatClampNeg)]) (rest := []) ⟨hx, hb, hml, hown, htg⟩ (c_H_run l D z k a g H.size u hg (xs (nI i + (1 : Int32)).toNatClampNeg) kk (by omega)) (cwV 1 htg (xg_V0 xkin_H_run xw_385 xw_386 xsel_H_run xw_1) rfl rfl rfl (by decide +kernel) ⟨Nat.le_of_ble_eq_true rfl, Nat.le_of_ble_eq_true rfl⟩) ⟨xB_blind, xrecv_H hK (xPs (X := []) (Y := xWZ k bz v) hP), fun U hU hW => xB_mk (xPs (X := []) (Y := xWZ k bz v) hP) hK (xDs (X := []) (Y := xWZ k bz v) hD) hE hS (xsubS (X := []) (Y := xWZ k bz v) hD hA hS) hU hW⟩ rfl rfl hl.1 rfl (lv_room (Nat.le_of_ble_eq_true rfl)) xd_L_law_436 ⟨by show 17 + 2 * xcH u + 2 * kk ≤ 600000; omega, by show 69877 + 1025 * xcH u + 1025 * kk ≤ 7302250; omega⟩) hP hD hA hS (fun r w1 H locs hw hP hD hS => ?_)
  obtain ⟨u1, g1⟩ := w1
  obtain ⟨hq, hg⟩ := hw
  obtain rfl : r = (xf_H_run u (xs (nI i + (1 : Int32)).toNatClampNeg)).1 := congrArg Prod.fst hq
  obtain rfl : u1 = (xf_H_run u (xs (nI i + (1 : Int32)).toNatClampNeg)).2 := congrArg Prod.snd hq
  obtain ⟨h1, h2, h3⟩ := yr_run hr (xs (nI i + (1 : Int32)).toNatClampNeg)
  generalize hU1 : xf_H_run u (xs (nI i + (1 : Int32)).toNatClampNeg) = U1 at *
  have hP2 : va_P D xCl (xWH k a g1 U1.2 ++ (xWZ k bz v ++ [])) H := by rw [List.append_nil]; exact hP
  have hD2 : va_D (fun q => s.heap.size ≤ q) (xWH k a g1 U1.2 ++ (xWZ k bz v ++ [])) := by rw [List.append_nil]; exact hD
  refine lv_aload_n hx hb xd_L_law_439 rfl (lv_at hl 1 rfl) ?_
  refine lv_aload_n hx hb xd_L_law_440 rfl (lv_at hl 3 rfl) ?_
  refine lv_iload_n hx hb xd_L_law_441 rfl (lv_at hl 0 rfl) ?_
  refine lv_iconst (v := 1) hx hb xd_L_law_442 (by decide) ?_
  refine lv_iadd hx hb xd_L_law_443 ?_
  refine va_sld hx hb hX hbl hbA hS (xvi hL hi 1 (by decide) 1 rfl) xd_L_law_444 ?_
  refine xcS_i (wf := fun q : XZ => xWZ k bz q) (X := xWH k a g1 U1.2) (w := xWZ k bz v) (Y := []) (va_runV (As := [.int (xs (nI i + (1 : Int32)).toNatClampNeg)]) (rest := [.int (U1.1)]) ⟨hx, hb, hml, hown, htg⟩ (c_Z_run l D z k bz H.size v (xs (nI i + (1 : Int32)).toNatClampNeg) h3) (cwV 1 htg (xg_V0 xkin_Z_run xw_896 xw_897 xsel_Z_run xw_9) rfl rfl rfl (by decide +kernel) ⟨Nat.le_of_ble_eq_true rfl, Nat.le_of_ble_eq_true rfl⟩) ⟨xB_blind, xrecv_Z hK (xPs (X := xWH k a g1 U1.2) (Y := []) hP2), fun U hU hW => xB_mk (xPs (X := xWH k a g1 U1.2) (Y := []) hP2) hK (xDs (X := xWH k a g1 U1.2) (Y := []) hD2) hE hS (xsubS (X := xWH k a g1 U1.2) (Y := []) hD2 hA hS) hU hW⟩ rfl rfl hl.1 rfl (lv_room (Nat.le_of_ble_eq_true rfl)) xd_L_law_445 ⟨by show 17 + 2 * xcH u + 2 * kk + 0 ≤ 600000; omega, by show 69877 + 1025 * xcH u + 1025 * kk + 0 ≤ 7302250; omega⟩) hP2 hD2 hA hS (fun r2 v1 H locs hw hP hD hS => ?_)
  obtain rfl : r2 = (xf_Z_run v (xs (nI i + (1 : Int32)).toNatClampNeg)).1 := congrArg Prod.fst hw
  obtain rfl : v1 = (xf_Z_run v (xs (nI i + (1 : Int32)).toNatClampNeg)).2 := congrArg Prod.snd hw
  rw [List.append_nil] at hP hD
  refine lv_icmp_eq (tgt := 512) hx hb xd_L_law_448 rfl (fun _ => ?_) (fun hne => absurd h1 hne)
  exact W.widen (by omega) (by omega) (nx U1.2 _ g1 H locs ls h2 hg hl hP hD hS)
set_option maxHeartbeats 4000000 in
set_option maxRecDepth 100000 in
theorem xcase_count (hx : p.tables.exec = Jvm.exec) (hb : c.code = code) (hml : c.maxLocals = 4) (htg : ∀ w ∈ lw_g, w.before #[Value.ref b] s = true) (hown : s.vm.findClass "HyperHostLaw" = some m.cls) (hX : va_X b L xs s s.heap) (hbl : b < s.heap.size) (hK : va_K D xCl (xTy k) s) (hE : xS z (fun q => s.heap.size ≤ q) s s.heap) (hL : L ≤ 3584) (hi : i + 7 ≤ L) (nx : xAt p l e s m below meth c Q b D k a bz 512 i) : xAt p l e s m below meth c Q b D k a bz 453 i := by
  intro u v g H locs ls hr hg hl hP hD hS
  have hA : ∀ q : Nat, s.heap.size ≤ q → (fun q => s.heap.size ≤ q) q := fun _ h => h
  have hbA : ¬ (fun q => s.heap.size ≤ q) b := Nat.not_le.mpr hbl
  have hmx := xcH_max u
  refine lv_aload_n hx hb xd_L_law_453 rfl (lv_at hl 2 rfl) ?_
  refine lv_aload_n hx hb xd_L_law_454 rfl (lv_at hl 3 rfl) ?_
  refine lv_iload_n hx hb xd_L_law_455 rfl (lv_at hl 0 rfl) ?_
  refine lv_iconst (v := 1) hx hb xd_L_law_456 (by decide) ?_
  refine lv_iadd hx hb xd_L_law_457 ?_
  refine va_sld hx hb hX hbl hbA hS (xvi hL hi 1 (by decide) 1 rfl) xd_L_law_458 ?_
  refine xcS_i (wf := fun q : XH × XG => xWH k a q.2 q.1) (X := []) (w := xWH k a g u) (Y := xWZ k bz v) (va_runV (As := [.int (xs (nI i + (1 : Int32)).toNatClampNeg)]) (rest := []) ⟨hx, hb, hml, hown, htg⟩ (c_H_count l D z k a g H.size u hg (xs (nI i + (1 : Int32)).toNatClampNeg)) (cwV 1 htg (xg_V0 xkin_H_count xw_703 xw_704 xsel_H_count xw_1) rfl rfl rfl (by decide +kernel) ⟨Nat.le_of_ble_eq_true rfl, Nat.le_of_ble_eq_true rfl⟩) ⟨xB_blind, xrecv_H hK (xPs (X := []) (Y := xWZ k bz v) hP), fun U hU hW => xB_mk (xPs (X := []) (Y := xWZ k bz v) hP) hK (xDs (X := []) (Y := xWZ k bz v) hD) hE hS (xsubS (X := []) (Y := xWZ k bz v) hD hA hS) hU hW⟩ rfl rfl hl.1 rfl (lv_room (Nat.le_of_ble_eq_true rfl)) xd_L_law_459 ⟨by show 17 + 2 * xcH u + 0 ≤ 600000; omega, by show 69877 + 1025 * xcH u + 0 ≤ 7302250; omega⟩) hP hD hA hS (fun r w1 H locs hw hP hD hS => ?_)
  obtain ⟨u1, g1⟩ := w1
  obtain ⟨hq, hu, hg⟩ := hw
  have hq : r = xf_H_count u (xs (nI i + (1 : Int32)).toNatClampNeg) := hq
  have hu : u1 = u := hu
  subst hq
  have hP : va_P D xCl (xWH k a g1 u1 ++ xWZ k bz v) H := hP
  have hD : va_D (fun q => s.heap.size ≤ q) (xWH k a g1 u1 ++ xWZ k bz v) := hD
  have hg : xok k g1 u1 := hg
  rw [hu] at hP hD hg
  have h1 := yr_count hr (xs (nI i + (1 : Int32)).toNatClampNeg)
  have hP2 : va_P D xCl (xWH k a g1 u ++ (xWZ k bz v ++ [])) H := by rw [List.append_nil]; exact hP
  have hD2 : va_D (fun q => s.heap.size ≤ q) (xWH k a g1 u ++ (xWZ k bz v ++ [])) := by rw [List.append_nil]; exact hD
  refine lv_aload_n hx hb xd_L_law_462 rfl (lv_at hl 1 rfl) ?_
  refine lv_aload_n hx hb xd_L_law_463 rfl (lv_at hl 3 rfl) ?_
  refine lv_iload_n hx hb xd_L_law_464 rfl (lv_at hl 0 rfl) ?_
  refine lv_iconst (v := 1) hx hb xd_L_law_465 (by decide) ?_
  refine lv_iadd hx hb xd_L_law_466 ?_
  refine va_sld hx hb hX hbl hbA hS (xvi hL hi 1 (by decide) 1 rfl) xd_L_law_467 ?_
  refine xcS_i (wf := fun q : XZ => xWZ k bz q) (X := xWH k a g1 u) (w := xWZ k bz v) (Y := []) (va_runV (As := [.int (xs (nI i + (1 : Int32)).toNatClampNeg)]) (rest := [.int (xf_H_count u (xs (nI i + (1 : Int32)).toNatClampNeg))]) ⟨hx, hb, hml, hown, htg⟩ (c_Z_count l D z k bz H.size v (xs (nI i + (1 : Int32)).toNatClampNeg) ) (cwV 1 htg (xg_V0 xkin_Z_count xw_1069 xw_1070 xsel_Z_count xw_9) rfl rfl rfl (by decide +kernel) ⟨Nat.le_of_ble_eq_true rfl, Nat.le_of_ble_eq_true rfl⟩) ⟨xB_blind, xrecv_Z hK (xPs (X := xWH k a g1 u) (Y := []) hP2), fun U hU hW => xB_mk (xPs (X := xWH k a g1 u) (Y := []) hP2) hK (xDs (X := xWH k a g1 u) (Y := []) hD2) hE hS (xsubS (X := xWH k a g1 u) (Y := []) hD2 hA hS) hU hW⟩ rfl rfl hl.1 rfl (lv_room (Nat.le_of_ble_eq_true rfl)) xd_L_law_468 ⟨by show 17 + 2 * xcH u + 0 + 0 ≤ 600000; omega, by show 69877 + 1025 * xcH u + 0 + 0 ≤ 7302250; omega⟩) hP2 hD2 hA hS (fun r2 v1 H locs hw hP hD hS => ?_)
  obtain ⟨hw1, hw2⟩ := hw
  have hw1 : r2 = xf_Z_count v (xs (nI i + (1 : Int32)).toNatClampNeg) := hw1
  have hw2 : v1 = v := hw2
  subst hw1
  rw [List.append_nil] at hP hD
  rw [hw2] at hP hD
  refine lv_icmp_eq (tgt := 512) hx hb xd_L_law_471 rfl (fun _ => ?_) (fun hne => absurd h1 hne)
  exact W.widen (by omega) (by omega) (nx u v g1 H locs ls hr hg hl hP hD hS)
set_option maxHeartbeats 4000000 in
set_option maxRecDepth 100000 in
theorem xcase_console (hx : p.tables.exec = Jvm.exec) (hb : c.code = code) (hml : c.maxLocals = 4) (htg : ∀ w ∈ lw_g, w.before #[Value.ref b] s = true) (hown : s.vm.findClass "HyperHostLaw" = some m.cls) (hX : va_X b L xs s s.heap) (hbl : b < s.heap.size) (hK : va_K D xCl (xTy k) s) (hE : xS z (fun q => s.heap.size ≤ q) s s.heap) (hL : L ≤ 3584) (hi : i + 7 ≤ L) (nx : xAt p l e s m below meth c Q b D k a bz 512 i) : xAt p l e s m below meth c Q b D k a bz 476 i := by
  intro u v g H locs ls hr hg hl hP hD hS
  have hA : ∀ q : Nat, s.heap.size ≤ q → (fun q => s.heap.size ≤ q) q := fun _ h => h
  have hbA : ¬ (fun q => s.heap.size ≤ q) b := Nat.not_le.mpr hbl
  have hmx := xcH_max u
  refine lv_aload_n hx hb xd_L_law_476 rfl (lv_at hl 2 rfl) ?_
  refine lv_aload_n hx hb xd_L_law_477 rfl (lv_at hl 3 rfl) ?_
  refine lv_iload_n hx hb xd_L_law_478 rfl (lv_at hl 0 rfl) ?_
  refine lv_iconst (v := 1) hx hb xd_L_law_479 (by decide) ?_
  refine lv_iadd hx hb xd_L_law_480 ?_
  refine va_sld hx hb hX hbl hbA hS (xvi hL hi 1 (by decide) 1 rfl) xd_L_law_481 ?_
  refine xcS_i (wf := fun q : XH × XG => xWH k a q.2 q.1) (X := []) (w := xWH k a g u) (Y := xWZ k bz v) (va_runV (As := [.int (xs (nI i + (1 : Int32)).toNatClampNeg)]) (rest := []) ⟨hx, hb, hml, hown, htg⟩ (c_H_console l D z k a g H.size u hg (xs (nI i + (1 : Int32)).toNatClampNeg)) (cwV 1 htg (xg_V0 xkin_H_console xw_707 xw_708 xsel_H_console xw_1) rfl rfl rfl (by decide +kernel) ⟨Nat.le_of_ble_eq_true rfl, Nat.le_of_ble_eq_true rfl⟩) ⟨xB_blind, xrecv_H hK (xPs (X := []) (Y := xWZ k bz v) hP), fun U hU hW => xB_mk (xPs (X := []) (Y := xWZ k bz v) hP) hK (xDs (X := []) (Y := xWZ k bz v) hD) hE hS (xsubS (X := []) (Y := xWZ k bz v) hD hA hS) hU hW⟩ rfl rfl hl.1 rfl (lv_room (Nat.le_of_ble_eq_true rfl)) xd_L_law_482 ⟨by show 17 + 2 * xcH u + 0 ≤ 600000; omega, by show 69877 + 1025 * xcH u + 0 ≤ 7302250; omega⟩) hP hD hA hS (fun r w1 H locs hw hP hD hS => ?_)
  obtain ⟨u1, g1⟩ := w1
  obtain ⟨hq, hg⟩ := hw
  obtain rfl : r = (xf_H_console u (xs (nI i + (1 : Int32)).toNatClampNeg)).1 := congrArg Prod.fst hq
  obtain rfl : u1 = (xf_H_console u (xs (nI i + (1 : Int32)).toNatClampNeg)).2 := congrArg Prod.snd hq
  obtain ⟨h1, h2, h3⟩ := yr_console hr (xs (nI i + (1 : Int32)).toNatClampNeg)
  rw [h2] at hP hD hg
  have hP2 : va_P D xCl (xWH k a g1 u ++ (xWZ k bz v ++ [])) H := by rw [List.append_nil]; exact hP
  have hD2 : va_D (fun q => s.heap.size ≤ q) (xWH k a g1 u ++ (xWZ k bz v ++ [])) := by rw [List.append_nil]; exact hD
  refine lv_aload_n hx hb xd_L_law_485 rfl (lv_at hl 1 rfl) ?_
  refine lv_aload_n hx hb xd_L_law_486 rfl (lv_at hl 3 rfl) ?_
  refine lv_iload_n hx hb xd_L_law_487 rfl (lv_at hl 0 rfl) ?_
  refine lv_iconst (v := 1) hx hb xd_L_law_488 (by decide) ?_
  refine lv_iadd hx hb xd_L_law_489 ?_
  refine va_sld hx hb hX hbl hbA hS (xvi hL hi 1 (by decide) 1 rfl) xd_L_law_490 ?_
  refine xcS_i (wf := fun q : XZ => xWZ k bz q) (X := xWH k a g1 u) (w := xWZ k bz v) (Y := []) (va_runV (As := [.int (xs (nI i + (1 : Int32)).toNatClampNeg)]) (rest := [.int ((xf_H_console u (xs (nI i + (1 : Int32)).toNatClampNeg)).1)]) ⟨hx, hb, hml, hown, htg⟩ (c_Z_console l D z k bz H.size v (xs (nI i + (1 : Int32)).toNatClampNeg) h3) (cwV 1 htg (xg_V0 xkin_Z_console xw_1073 xw_1074 xsel_Z_console xw_9) rfl rfl rfl (by decide +kernel) ⟨Nat.le_of_ble_eq_true rfl, Nat.le_of_ble_eq_true rfl⟩) ⟨xB_blind, xrecv_Z hK (xPs (X := xWH k a g1 u) (Y := []) hP2), fun U hU hW => xB_mk (xPs (X := xWH k a g1 u) (Y := []) hP2) hK (xDs (X := xWH k a g1 u) (Y := []) hD2) hE hS (xsubS (X := xWH k a g1 u) (Y := []) hD2 hA hS) hU hW⟩ rfl rfl hl.1 rfl (lv_room (Nat.le_of_ble_eq_true rfl)) xd_L_law_491 ⟨by show 17 + 2 * xcH u + 0 + 0 ≤ 600000; omega, by show 69877 + 1025 * xcH u + 0 + 0 ≤ 7302250; omega⟩) hP2 hD2 hA hS (fun r2 v1 H locs hw hP hD hS => ?_)
  obtain ⟨hw1, hw2⟩ := hw
  have hw1 : r2 = xf_Z_console v (xs (nI i + (1 : Int32)).toNatClampNeg) := hw1
  have hw2 : v1 = v := hw2
  subst hw1
  rw [List.append_nil] at hP hD
  rw [hw2] at hP hD
  refine lv_icmp_eq (tgt := 512) hx hb xd_L_law_494 rfl (fun _ => ?_) (fun hne => absurd h1 hne)
  exact W.widen (by omega) (by omega) (nx u v g1 H locs ls hr hg hl hP hD hS)
set_option maxHeartbeats 4000000 in
set_option maxRecDepth 100000 in
theorem xcase_breaches (hx : p.tables.exec = Jvm.exec) (hb : c.code = code) (hml : c.maxLocals = 4) (htg : ∀ w ∈ lw_g, w.before #[Value.ref b] s = true) (hown : s.vm.findClass "HyperHostLaw" = some m.cls) (hX : va_X b L xs s s.heap) (hbl : b < s.heap.size) (hK : va_K D xCl (xTy k) s) (hE : xS z (fun q => s.heap.size ≤ q) s s.heap) (hL : L ≤ 3584) (hi : i + 7 ≤ L) (nx : xAt p l e s m below meth c Q b D k a bz 512 i) : xAt p l e s m below meth c Q b D k a bz 499 i := by
  intro u v g H locs ls hr hg hl hP hD hS
  have hA : ∀ q : Nat, s.heap.size ≤ q → (fun q => s.heap.size ≤ q) q := fun _ h => h
  have hbA : ¬ (fun q => s.heap.size ≤ q) b := Nat.not_le.mpr hbl
  have hmx := xcH_max u
  refine lv_aload_n hx hb xd_L_law_499 rfl (lv_at hl 2 rfl) ?_
  refine xcS_i (wf := fun q : XH × XG => xWH k a q.2 q.1) (X := []) (w := xWH k a g u) (Y := xWZ k bz v) (va_runV (As := []) (rest := []) ⟨hx, hb, hml, hown, htg⟩ (c_H_breaches l D z k a g H.size u hg ) (cwV 0 htg (xg_V0 xkin_H_breaches xw_712 xw_713 xsel_H_breaches xw_1) rfl rfl rfl (by decide +kernel) ⟨Nat.le_of_ble_eq_true rfl, Nat.le_of_ble_eq_true rfl⟩) ⟨xB_blind, xrecv_H hK (xPs (X := []) (Y := xWZ k bz v) hP), fun U hU hW => xB_mk (xPs (X := []) (Y := xWZ k bz v) hP) hK (xDs (X := []) (Y := xWZ k bz v) hD) hE hS (xsubS (X := []) (Y := xWZ k bz v) hD hA hS) hU hW⟩ rfl rfl hl.1 rfl (lv_room (Nat.le_of_ble_eq_true rfl)) xd_L_law_500 ⟨by show 17 + 2 * xcH u + 0 ≤ 600000; omega, by show 69877 + 1025 * xcH u + 0 ≤ 7302250; omega⟩) hP hD hA hS (fun r w1 H locs hw hP hD hS => ?_)
  obtain ⟨u1, g1⟩ := w1
  obtain ⟨hq, hu, hg⟩ := hw
  have hq : r = xf_H_breaches u := hq
  have hu : u1 = u := hu
  subst hq
  have hP : va_P D xCl (xWH k a g1 u1 ++ xWZ k bz v) H := hP
  have hD : va_D (fun q => s.heap.size ≤ q) (xWH k a g1 u1 ++ xWZ k bz v) := hD
  have hg : xok k g1 u1 := hg
  rw [hu] at hP hD hg
  have h1 := yr_breaches hr
  have hP2 : va_P D xCl (xWH k a g1 u ++ (xWZ k bz v ++ [])) H := by rw [List.append_nil]; exact hP
  have hD2 : va_D (fun q => s.heap.size ≤ q) (xWH k a g1 u ++ (xWZ k bz v ++ [])) := by rw [List.append_nil]; exact hD
  refine lv_aload_n hx hb xd_L_law_503 rfl (lv_at hl 1 rfl) ?_
  refine xcS_i (wf := fun q : XZ => xWZ k bz q) (X := xWH k a g1 u) (w := xWZ k bz v) (Y := []) (va_runV (As := []) (rest := [.int (xf_H_breaches u)]) ⟨hx, hb, hml, hown, htg⟩ (c_Z_breaches l D z k bz H.size v  ) (cwV 0 htg (xg_V0 xkin_Z_breaches xw_1077 xw_1078 xsel_Z_breaches xw_9) rfl rfl rfl (by decide +kernel) ⟨Nat.le_of_ble_eq_true rfl, Nat.le_of_ble_eq_true rfl⟩) ⟨xB_blind, xrecv_Z hK (xPs (X := xWH k a g1 u) (Y := []) hP2), fun U hU hW => xB_mk (xPs (X := xWH k a g1 u) (Y := []) hP2) hK (xDs (X := xWH k a g1 u) (Y := []) hD2) hE hS (xsubS (X := xWH k a g1 u) (Y := []) hD2 hA hS) hU hW⟩ rfl rfl hl.1 rfl (lv_room (Nat.le_of_ble_eq_true rfl)) xd_L_law_504 ⟨by show 17 + 2 * xcH u + 0 + 0 ≤ 600000; omega, by show 69877 + 1025 * xcH u + 0 + 0 ≤ 7302250; omega⟩) hP2 hD2 hA hS (fun r2 v1 H locs hw hP hD hS => ?_)
  obtain ⟨hw1, hw2⟩ := hw
  have hw1 : r2 = xf_Z_breaches v := hw1
  have hw2 : v1 = v := hw2
  subst hw1
  rw [List.append_nil] at hP hD
  rw [hw2] at hP hD
  refine lv_icmp_eq (tgt := 512) hx hb xd_L_law_507 rfl (fun _ => ?_) (fun hne => absurd h1 hne)
  exact W.widen (by omega) (by omega) (nx u v g1 H locs ls hr hg hl hP hD hS)
end XLW
