/-! the lines of a text: seen -/
section
variable {T : STape} {S S' : SMo} {D : SRd} {E : SEv} {R : SRows} {lt tp fr mk oq ow rd rd' sl : Nat → Int32} {kf rw' : Nat → Nat} {L p p0 e n m c b kn u ev : Nat} {mr : Option MXt}
theorem T_isRowSeen (h : SN E fr oq m ev rw') (hm : m ≤ 8) {r : Nat} (hr : r < m) : f_X2_isRowSeen E (nI r) = some (bI (an (fun k => decide (rw' k = r)) ev)) := by
  obtain ⟨a1, a2, a3, a4, a5, a6, a7⟩ := h
  unfold f_X2_isRowSeen
  refine zl1_up ev 0 (fun j => an (fun k => decide (rw' k = r)) j = false) _ (by omega) (Nat.zero_le _) rfl (fun k j hj hI => ?_) (fun k hI => ?_)
  · have b1 : ¬ ev ≤ j := by omega
    have b2 : ¬ 8 ≤ j := by omega
    obtain ⟨x1, x2, -⟩ := a5 j hj
    unfold b_X2_isRowSeen_2
    by_cases y : rw' j = r
    · refine .inl ?_
      have : an (fun k => decide (rw' k = r)) ev = true := an_iff.mpr ⟨j, hj, decide_eq_true y⟩
      rw [this]
      simp (disch := omega) only [a2, b1, b2, x2, y, ↓lm1, ↓lm2, i0, i1, i2, i3, i4, i5, i6, i7, i8, i9, i10, i12, i16, i20, i24, i31, i32, i44, i48, i57, i59, i63, i64, i74, i75, i90, i96, i97, i99, i100, i122, i139, i140, i144, i192, i200, i240, i255, i304, i309, i310, i311, i323, i324, i325, i899, i900, i975, i999, i5200, i4875, i65536, i65537, i15, ob_some, nI_add, nI_clamp, zn_zib, zn_eq, zn_lt, zn_le, m2_lt, m2_le, lt_m2, le_m2, eq_m2, m2_eq, m1_lt, m1_le, lt_m1, le_m1, eq_m1, m1_eq, m1_m2, m2_m1, m2_lt_m1, bI_0, bI_1, bI_t, bI_f, bI_bo, nI0_bo, nI1_bo, if_true, if_false, ite_true, ite_false, Nat.zero_add, Nat.not_lt_zero, Nat.zero_le, not_true_eq_false, not_false_eq_true, or_false, false_or, true_or, or_true, and_true, true_and, Bool.false_eq_true, Bool.true_eq_false, reduceCtorEq, eq_self]
    · refine .inr ⟨?_, ?_⟩
      · rw [an_s, hI, decide_eq_false y]
        rfl
      · simp (disch := omega) only [a2, b1, b2, x2, y, ↓lm1, ↓lm2, i0, i1, i2, i3, i4, i5, i6, i7, i8, i9, i10, i12, i16, i20, i24, i31, i32, i44, i48, i57, i59, i63, i64, i74, i75, i90, i96, i97, i99, i100, i122, i139, i140, i144, i192, i200, i240, i255, i304, i309, i310, i311, i323, i324, i325, i899, i900, i975, i999, i5200, i4875, i65536, i65537, i15, ob_some, nI_add, nI_clamp, zn_zib, zn_eq, zn_lt, zn_le, m2_lt, m2_le, lt_m2, le_m2, eq_m2, m2_eq, m1_lt, m1_le, lt_m1, le_m1, eq_m1, m1_eq, m1_m2, m2_m1, m2_lt_m1, bI_0, bI_1, bI_t, bI_f, bI_bo, nI0_bo, nI1_bo, if_true, if_false, ite_true, ite_false, Nat.zero_add, Nat.not_lt_zero, Nat.zero_le, not_true_eq_false, not_false_eq_true, or_false, false_or, true_or, or_true, and_true, true_and, Bool.false_eq_true, Bool.true_eq_false, reduceCtorEq, eq_self]
  · have b1 : ev ≤ ev := Nat.le_refl _
    unfold b_X2_isRowSeen_2
    rw [hI]
    simp (disch := omega) only [a2, b1, ↓lm1, ↓lm2, i0, i1, i2, i3, i4, i5, i6, i7, i8, i9, i10, i12, i16, i20, i24, i31, i32, i44, i48, i57, i59, i63, i64, i74, i75, i90, i96, i97, i99, i100, i122, i139, i140, i144, i192, i200, i240, i255, i304, i309, i310, i311, i323, i324, i325, i899, i900, i975, i999, i5200, i4875, i65536, i65537, i15, ob_some, nI_add, nI_clamp, zn_zib, zn_eq, zn_lt, zn_le, m2_lt, m2_le, lt_m2, le_m2, eq_m2, m2_eq, m1_lt, m1_le, lt_m1, le_m1, eq_m1, m1_eq, m1_m2, m2_m1, m2_lt_m1, bI_0, bI_1, bI_t, bI_f, bI_bo, nI0_bo, nI1_bo, if_true, if_false, ite_true, ite_false, Nat.zero_add, Nat.not_lt_zero, Nat.zero_le, not_true_eq_false, not_false_eq_true, or_false, false_or, true_or, or_true, and_true, true_and, Bool.false_eq_true, Bool.true_eq_false, reduceCtorEq, eq_self]
theorem SN_lt (h : SN E fr oq m ev rw') (hm : m ≤ 8) {r : Nat} (hr : r < m) (hn : an (fun k => decide (rw' k = r)) ev = false) : ev < 8 := by
  obtain ⟨a1, a2, a3, a4, a5, a6, a7⟩ := h
  have hno : ∀ k, k < ev → rw' k ≠ r := fun k hk z => by
    have : an (fun k => decide (rw' k = r)) ev = true := an_iff.mpr ⟨k, hk, decide_eq_true z⟩
    rw [this] at hn
    cases hn
  have := fb_holes m (ev + 1) (fun k => if k = ev then r else rw' k) (fun i hi => by
    split
    · exact hr
    · exact (a5 i (by omega)).1) (fun i j hij hj => by
    rw [if_neg (by omega)]
    split
    · exact hno i (by omega)
    · exact a6 i j hij (by omega))
  omega
def eSn (E : SEv) (ev : Nat) (x y : Int32) : SEv := mkEv (Ev_unsureCount E) (nI (ev + 1)) (Ev_fitCount E) (Ev_firstWrong E) (Ev_flips E) (upd (Ev_seenRows E) ev x) (upd (Ev_seenValues E) ev y) (Ev_fitSets E)
theorem T_addSeen (h : Ev_seenCount E = nI ev) (hv : ev < 8) (x y : Int32) : f_X2_addSeen E x y = some (eSn E ev x y) := by
  unfold f_X2_addSeen
  have b1 : ¬ 8 ≤ ev := by omega
  simp (disch := omega) only [h, b1, ↓lm1, ↓lm2, i0, i1, i2, i3, i4, i5, i6, i7, i8, i9, i10, i12, i16, i20, i24, i31, i32, i44, i48, i57, i59, i63, i64, i74, i75, i90, i96, i97, i99, i100, i122, i139, i140, i144, i192, i200, i240, i255, i304, i309, i310, i311, i323, i324, i325, i899, i900, i975, i999, i5200, i4875, i65536, i65537, i15, ob_some, nI_add, nI_clamp, zn_zib, zn_eq, zn_lt, zn_le, m2_lt, m2_le, lt_m2, le_m2, eq_m2, m2_eq, m1_lt, m1_le, lt_m1, le_m1, eq_m1, m1_eq, m1_m2, m2_m1, m2_lt_m1, bI_0, bI_1, bI_t, bI_f, bI_bo, nI0_bo, nI1_bo, if_true, if_false, ite_true, ite_false, Nat.zero_add, Nat.not_lt_zero, Nat.zero_le, not_true_eq_false, not_false_eq_true, or_false, false_or, true_or, or_true, and_true, true_and, Bool.false_eq_true, Bool.true_eq_false, reduceCtorEq, eq_self]
  rfl
theorem SN_add (h : SN E fr oq m ev rw') (hm : m ≤ 8) {r : Nat} (hr : r < m) (hn : an (fun k => decide (rw' k = r)) ev = false) {y z : Int32} (hyz : (y = m2 ∧ z = nI 1) ∨ ∃ v, v ≤ 999 ∧ y = nI v ∧ z = nI (v + 2)) : SN (eSn E ev (nI r) y) (upd (upd fr (12 + r) z) 5 (nI (ev + 1))) (upd oq ev (nI r)) m (ev + 1) (fun k => if k = ev then r else rw' k) := by
  have hlt := SN_lt h hm hr hn
  obtain ⟨a1, a2, a3, a4, a5, a6, a7⟩ := h
  have hno : ∀ k, k < ev → rw' k ≠ r := fun k hk z => by
    have : an (fun k => decide (rw' k = r)) ev = true := an_iff.mpr ⟨k, hk, decide_eq_true z⟩
    rw [this] at hn
    cases hn
  refine ⟨by omega, rfl, a3, upd_eq, fun k hk => ?_, fun i j hij hj => ?_, fun r' hr' hno' => ?_⟩
  · show (if k = ev then r else rw' k) < m ∧ upd (Ev_seenRows E) ev (nI r) k = nI (if k = ev then r else rw' k) ∧ upd oq ev (nI r) k = nI (if k = ev then r else rw' k) ∧ ((upd (Ev_seenValues E) ev y k = m2 ∧ upd (upd fr (12 + r) z) 5 (nI (ev + 1)) (12 + (if k = ev then r else rw' k)) = nI 1) ∨ ∃ v, v ≤ 999 ∧ upd (Ev_seenValues E) ev y k = nI v ∧ upd (upd fr (12 + r) z) 5 (nI (ev + 1)) (12 + (if k = ev then r else rw' k)) = nI (v + 2))
    by_cases q : k = ev
    · rw [if_pos q, q, upd_eq, upd_eq, upd_eq, upd_ne (by omega), upd_eq]
      exact ⟨hr, rfl, rfl, hyz⟩
    · have hk' : k < ev := by omega
      have hne := hno k hk'
      rw [if_neg q, upd_ne q, upd_ne q, upd_ne q, upd_ne (by omega), upd_ne (by omega)]
      exact a5 k hk'
  · show (if i = ev then r else rw' i) ≠ (if j = ev then r else rw' j)
    rw [if_neg (by omega)]
    split
    · exact hno i (by omega)
    · exact a6 i j hij (by omega)
  · have h1 : (if ev = ev then r else rw' ev) ≠ r' := hno' ev (by omega)
    rw [if_pos rfl] at h1
    rw [upd_ne (by omega), upd_ne (by omega)]
    refine a7 r' hr' (fun k hk => ?_)
    have h2 : (if k = ev then r else rw' k) ≠ r' := hno' k (by omega)
    rw [if_neg (by omega)] at h2
    exact h2
theorem M_132 (hf : Mo_failed S = nI 0) {r : Nat} (hr : r < 8) (h5 : fr 5 = nI ev) (hev : ev < 8) (x z : Int32) (hz : x + nI 2 = z) : b_X10_seenLine_132 tp S fr lt oq (nI r) x = some (S, upd (upd fr (12 + r) z) 5 (nI (ev + 1)), lt, upd oq ev (nI r)) := by
  have h5' : upd fr (12 + r) z 5 = nI ev := by rw [upd_ne (by omega)]; exact h5
  unfold b_X10_seenLine_132
  simp (disch := omega) only [hf, hz, h5', ↓lm1, ↓lm2, i0, i1, i2, i3, i4, i5, i6, i7, i8, i9, i10, i12, i16, i20, i24, i31, i32, i44, i48, i57, i59, i63, i64, i74, i75, i90, i96, i97, i99, i100, i122, i139, i140, i144, i192, i200, i240, i255, i304, i309, i310, i311, i323, i324, i325, i899, i900, i975, i999, i5200, i4875, i65536, i65537, i15, ob_some, nI_add, nI_clamp, zn_zib, zn_eq, zn_lt, zn_le, m2_lt, m2_le, lt_m2, le_m2, eq_m2, m2_eq, m1_lt, m1_le, lt_m1, le_m1, eq_m1, m1_eq, m1_m2, m2_m1, m2_lt_m1, bI_0, bI_1, bI_t, bI_f, bI_bo, nI0_bo, nI1_bo, if_true, if_false, ite_true, ite_false, Nat.zero_add, Nat.not_lt_zero, Nat.zero_le, not_true_eq_false, not_false_eq_true, or_false, false_or, true_or, or_true, and_true, true_and, Bool.false_eq_true, Bool.true_eq_false, reduceCtorEq, eq_self]
theorem M_132f (hf : Mo_failed S = nI 1) (x y : Int32) : b_X10_seenLine_132 tp S fr lt oq x y = some (S, fr, lt, oq) := by
  unfold b_X10_seenLine_132
  simp (disch := omega) only [hf, ↓lm1, ↓lm2, i0, i1, i2, i3, i4, i5, i6, i7, i8, i9, i10, i12, i16, i20, i24, i31, i32, i44, i48, i57, i59, i63, i64, i74, i75, i90, i96, i97, i99, i100, i122, i139, i140, i144, i192, i200, i240, i255, i304, i309, i310, i311, i323, i324, i325, i899, i900, i975, i999, i5200, i4875, i65536, i65537, i15, ob_some, nI_add, nI_clamp, zn_zib, zn_eq, zn_lt, zn_le, m2_lt, m2_le, lt_m2, le_m2, eq_m2, m2_eq, m1_lt, m1_le, lt_m1, le_m1, eq_m1, m1_eq, m1_m2, m2_m1, m2_lt_m1, bI_0, bI_1, bI_t, bI_f, bI_bo, nI0_bo, nI1_bo, if_true, if_false, ite_true, ite_false, Nat.zero_add, Nat.not_lt_zero, Nat.zero_le, not_true_eq_false, not_false_eq_true, or_false, false_or, true_or, or_true, and_true, true_and, Bool.false_eq_true, Bool.true_eq_false, reduceCtorEq, eq_self]
theorem M_60 (hf : Mo_failed S = nI 0) {r : Nat} (hr : r < 8) (hw : Mo_whole S = nI r) (h0 : fr (12 + r) = nI 0) : b_X10_seenLine_60 tp S fr lt oq = b_X10_seenLine_93 tp S fr lt oq (nI r) := by
  have l0 : 0 ≤ 0 := Nat.le_refl 0
  unfold b_X10_seenLine_60
  simp (disch := omega) only [hf, hw, h0, l0, ↓lm1, ↓lm2, i0, i1, i2, i3, i4, i5, i6, i7, i8, i9, i10, i12, i16, i20, i24, i31, i32, i44, i48, i57, i59, i63, i64, i74, i75, i90, i96, i97, i99, i100, i122, i139, i140, i144, i192, i200, i240, i255, i304, i309, i310, i311, i323, i324, i325, i899, i900, i975, i999, i5200, i4875, i65536, i65537, i15, ob_some, nI_add, nI_clamp, zn_zib, zn_eq, zn_lt, zn_le, m2_lt, m2_le, lt_m2, le_m2, eq_m2, m2_eq, m1_lt, m1_le, lt_m1, le_m1, eq_m1, m1_eq, m1_m2, m2_m1, m2_lt_m1, bI_0, bI_1, bI_t, bI_f, bI_bo, nI0_bo, nI1_bo, if_true, if_false, ite_true, ite_false, Nat.zero_add, Nat.not_lt_zero, Nat.zero_le, not_true_eq_false, not_false_eq_true, or_false, false_or, true_or, or_true, and_true, true_and, Bool.false_eq_true, Bool.true_eq_false, reduceCtorEq, eq_self]
theorem M_number_bad (hf : Mo_failed S = nI 0) (ht : ¬ Mo_token S = nI 3) (x y : Int32) : f_X10_number S lt tp x y = some (x, wrS S (nI 1) (Mo_at S), lt) := by
  have := M_number_50f (S := wrS S (nI 1) (Mo_at S)) (lt := lt) (tp := tp) rfl x y
  unfold f_X10_number
  simp (disch := omega) only [hf, ht, M_wrong hf, this, ↓lm1, ↓lm2, i0, i1, i2, i3, i4, i5, i6, i7, i8, i9, i10, i12, i16, i20, i24, i31, i32, i44, i48, i57, i59, i63, i64, i74, i75, i90, i96, i97, i99, i100, i122, i139, i140, i144, i192, i200, i240, i255, i304, i309, i310, i311, i323, i324, i325, i899, i900, i975, i999, i5200, i4875, i65536, i65537, i15, ob_some, nI_add, nI_clamp, zn_zib, zn_eq, zn_lt, zn_le, m2_lt, m2_le, lt_m2, le_m2, eq_m2, m2_eq, m1_lt, m1_le, lt_m1, le_m1, eq_m1, m1_eq, m1_m2, m2_m1, m2_lt_m1, bI_0, bI_1, bI_t, bI_f, bI_bo, nI0_bo, nI1_bo, if_true, if_false, ite_true, ite_false, Nat.zero_add, Nat.not_lt_zero, Nat.zero_le, not_true_eq_false, not_false_eq_true, or_false, false_or, true_or, or_true, and_true, true_and, Bool.false_eq_true, Bool.true_eq_false, reduceCtorEq, eq_self]
theorem line_9 (C : CX T S tp kf L) (hk : TK T S lt kf L p) (hw : TKw T S lt kf L p e) (hr : f_X7_reserved T = some (some 9)) (hj : f_X10_isWord S lt 9 = some (nI 1)) (g : ∀ x, x < 11 → x ≠ 9 → f_X10_isWord S lt x = some (nI 0)) (P : PS D E R S fr oq ow rd sl kf n m c b) (hb : b + 1 < 2 ^ 29) : LO D E R T S (f_X10_readLine S fr lt mk oq ow rd sl tp) kf L p b := by
  obtain ⟨S1, lt1, s1, s2, s3⟩ := go_w C hw
  have C1 := CX_TE C (TE_rfl T) s3
  obtain ⟨kn, u, ev, po, le, rw', f1, f2, hd, rg, F, nc, n6, hN, ho, hs, hq, uc, hu, hsn⟩ := id P
  have hring := PS_ring P
  have hrl := T_rl_9 (D := D) (E := E) hr hring
  have hf := C.2.2.2.2.2
  have hf1 := C1.2.2.2.2.2
  have hkn := hN.1
  have hm := WS_m (RC_W F.1)
  have h1 := hd.2.1
  have ew : nI m - nI 1 = nI (m - 1) := pk_sub (by omega)
  rw [M_rl_9 hf hj g hd.2.2.2]
  unfold f_X5_readSeen f_X5_takeRow at hrl
  unfold f_X10_seenLine
  rcases b_whole (D := dHd D (some 9)) C1 s2 (lo := 0) (hg := m - 1) (by omega) (by omega) with ⟨r, T1, S2', lt2', v1, v2, v3, v4, v5, v6, v7, v8, v9, v10, v11⟩ | ⟨D', T1, S2, v4, v5, v6, v7, v8, v9⟩
  · have hrm : r < m := by omega
    have C1' : CX T1 S1 tp kf L := CX_TE C1 v6 (SE_rfl S1)
    have hrs := T_isRowSeen hsn hm.2 hrm
    have hin := M_in2 (a := r) (b := 0) (c := m - 1) (by omega) (by omega) (by omega)
    rw [decide_eq_true (Nat.zero_le r), decide_eq_true v2] at hin
    have hin' : f_X10_in (nI r) (nI 0) (nI (m - 1)) = some (nI 1) := hin
    have er : Rd_row (dRw (dHd D (some 9)) (nI r)) = nI r := rfl
    have hrow : f_X5_takeWhole (dHd D (some 9)) T (nI 0) (nI (m - 1)) = some (nI 1, dWh (dHd D (some 9)) (nI r), T1) := v4
    obtain ⟨S2, lt2, g1, A2, g3⟩ : ∃ S2 lt2, f_X10_step S1 lt1 tp = some (S2, lt2) ∧ AH T1 S2 lt2 kf L (p + 1) ∧ SE S1 S2 := by
      unfold f_X10_number b_X10_number_50 f_X10_pass at v5
      simp (disch := omega) only [hf1, v9, v10, hin', ↓lm1, ↓lm2, i0, i1, i2, i3, i4, i5, i6, i7, i8, i9, i10, i12, i16, i20, i24, i31, i32, i44, i48, i57, i59, i63, i64, i74, i75, i90, i96, i97, i99, i100, i122, i139, i140, i144, i192, i200, i240, i255, i304, i309, i310, i311, i323, i324, i325, i899, i900, i975, i999, i5200, i4875, i65536, i65537, i15, ob_some, nI_add, nI_clamp, zn_zib, zn_eq, zn_lt, zn_le, m2_lt, m2_le, lt_m2, le_m2, eq_m2, m2_eq, m1_lt, m1_le, lt_m1, le_m1, eq_m1, m1_eq, m1_m2, m2_m1, m2_lt_m1, bI_0, bI_1, bI_t, bI_f, bI_bo, nI0_bo, nI1_bo, if_true, if_false, ite_true, ite_false, Nat.zero_add, Nat.not_lt_zero, Nat.zero_le, not_true_eq_false, not_false_eq_true, or_false, false_or, true_or, or_true, and_true, true_and, Bool.false_eq_true, Bool.true_eq_false, reduceCtorEq, eq_self] at v5
      obtain ⟨q1, x1, x2⟩ := ob_ex v5
      have hfq : Mo_failed S2' = nI 0 := (SE_failed v7).trans hf1
      obtain ⟨q2, x3, x4⟩ := ob_ex x1
      cases x4
      by_cases z : Mo_failed q2.1 = nI 0
      · rw [if_pos z] at x2
        cases x2
        exact ⟨q2.1, q2.2, x3, AH_mono v8 (by omega), v7⟩
      · rw [if_neg z] at x2
        have x5 : q2.1 = S2' := congrArg (fun t => t.2.1) (Option.some.inj x2)
        rw [← x5] at hfq
        exact absurd hfq z
    have C2 : CX T1 S2 tp kf L := CX_TE C1' (TE_rfl T1) g3
    have hf2 := C2.2.2.2.2.2
    have s4 := SE_trans s3 g3
    cases y : an (fun k => decide (rw' k = r)) ev
    · rw [y] at hrs
      have hev := SN_lt hsn hm.2 hrm y
      have h0 : fr (12 + r) = nI 0 := hsn.2.2.2.2.2.2 r hrm (fun k hk z => by
        have : an (fun k => decide (rw' k = r)) ev = true := an_iff.mpr ⟨k, hk, decide_eq_true z⟩
        rw [this] at y
        cases y)
      have h5 := hsn.2.2.2.1
      have l0 : 0 ≤ 0 := Nat.le_refl 0
      obtain ⟨T2, p2, a1, a2, a3, a4⟩ := A2
      have C2' : CX T2 S2 tp kf L := CX_TE C2 a4 (SE_rfl S2)
      obtain ⟨q, w1, w2, w3⟩ := TK_words C2'.1 C2'.2.1 C2'.2.2.1 hf2 a2
      have hres := T_reserved (fun x hx => (w1 x hx).1)
      have hw10 := (w1 10 (by omega)).2
      have hgd : (fi q 11).getD 0 < 11 := by
        cases z : fi q 11 with
        | none => exact Nat.lt_of_lt_of_le (by decide) (Nat.le_refl 11)
        | some a => exact (fi_some z).1
      have fin : ∀ (mr : Option MXt) (x z : Int32) (S3 : SMo) (lt3 : Nat → Int32), ((x = m2 ∧ z = nI 1) ∨ ∃ v, v ≤ 999 ∧ x = nI v ∧ z = nI (v + 2)) → SE S2 S3 → AH T2 S3 lt3 kf L (p + 1) → (∀ Dx Tx qx, zbo qx → f_X5_takeLineEnd (dRw (dHd D (some 9)) (nI r)) T2 = some (qx, Dx, Tx) → f_X5_readLine D E R T = some (qx, Dx, eSn E ev (nI r) x, R, Tx)) → mr = some (S3, upd (upd fr (12 + r) z) 5 (nI (ev + 1)), lt3, mk, upd oq ev (nI r), ow, rd, sl) → LO D E R T S mr kf L p b := fun mr x z S3 lt3 hxz se3 A3 hcl hmo => by
        have s5 := SE_trans s4 se3
        have hf3 : Mo_failed S3 = nI 0 := (SE_failed se3).trans hf2
        have te2 := TE_trans v6 a4
        have hne : ∀ k, k ≠ 5 → k ≠ 12 + r → upd (upd fr (12 + r) z) 5 (nI (ev + 1)) k = fr k := fun k h1 h2 => by rw [upd_ne h1, upd_ne h2]
        rcases b_end (D := dRw (dHd D (some 9)) (nI r)) A3 with ⟨T3, p3, e1, e2, e3, e4⟩ | ⟨T3, e1, e2, e3⟩
        · obtain ⟨yy, hyy⟩ := T_slotNamed (D := dRw (dHd D (some 9)) (nI r)) (Rd_name (dRw (dHd D (some 9)) (nI r)))
          have hda := T_da_9 (R := R) (D := dRw (dHd D (some 9)) (nI r)) rfl hyy
          exact .inl ⟨dRw (dHd D (some 9)) (nI r), eSn E ev (nI r) x, R, T3, dRw (dHd D (some 9)) (nI r), R, p3, n, m, c, (S3, upd (upd fr (12 + r) z) 5 (nI (ev + 1)), lt3, mk, upd oq ev (nI r), ow, rd, sl), hcl _ _ _ (.inr rfl) e1, hda, hmo, TE_trans te2 e2, SE_FM s5, hf3, SE_size s5, by omega, e4, ⟨kn, u, ev + 1, po, le, fun k => if k = ev then r else rw' k, f1, (SE_fault s5).trans f2, HD_cong hd (hne 0 (by omega) (by omega)) (hne 1 (by omega) (by omega)) (hne 3 (by omega) (by omega)) (hne 7 (by omega) (by omega)), (SE_ring s5).trans rg, FR_mono (by omega) hb F, nc, (hne 6 (by omega) (by omega)).trans n6, NR_cong hN (fun k h1 h2 => hne k (by omega) (by omega)), OW_cong hkn ho (fun k h1 h2 => hne k (by omega) (by omega)), hs, hq, uc, UN_cong hu (hne 4 (by omega) (by omega)) (fun k h1 h2 => hne k (by omega) (by omega)), SN_add hsn hm.2 hrm y hxz⟩⟩
        · exact LO_tr (S3, upd (upd fr (12 + r) z) 5 (nI (ev + 1)), lt3, mk, upd oq ev (nI r), ow, rd, sl) (hcl _ _ _ (.inl rfl) e1) hmo ⟨TE_trans te2 e2, SE_FM s5, hf3, e3, rfl, rfl⟩
      have h5' : ∀ z : Int32, upd fr (12 + r) z 5 = nI ev := fun z => by rw [upd_ne (by omega)]; exact h5
      cases z10 : q 10
      · rw [z10] at hw10
        have hne10 : ¬ fi q 11 = some 10 := fun z => by
          have := (fi_some z).2.1
          rw [z10] at this
          cases this
        obtain ⟨t1, t2, t3, t⟩ := id a2
        have nobad : ¬ Mo_token S2 = nI 3 → ¬ Tape_kind T2 = nI 2 → LO D E R T S ((f_X10_step S lt tp).bind (fun q6 => if Mo_failed q6.1 = 0 then if Mo_token q6.1 = 3 then if zib 1 140 then (f_X10_in (Mo_whole q6.1) 0 (fr (Int32.toNatClampNeg 1) - 1)).bind (fun q7 => if q7 = 0 then (f_X10_wrong q6.1 4 (Mo_at q6.1)).bind (fun q8 => b_X10_seenLine_60 tp q8 fr q6.2 oq) else b_X10_seenLine_60 tp q6.1 fr q6.2 oq) else none else (f_X10_wrong q6.1 1 (Mo_at q6.1)).bind (fun q9 => b_X10_seenLine_60 tp q9 fr q6.2 oq) else some (q6.1, fr, q6.2, oq)) |>.bind (fun q10 => some (q10.1, q10.2.1, q10.2.2.1, mk, q10.2.2.2, ow, rd, sl))) kf L p b := fun ht hkd => by
          have hnb := M_number_bad (lt := lt2) (tp := tp) hf2 ht (nI 0) (nI 999)
          have hff : Mo_failed (wrS S2 (nI 1) (Mo_at S2)) = nI 1 := rfl
          refine LO_bad (wrS S2 (nI 1) (Mo_at S2), fr, lt2, mk, oq, ow, rd, sl) (E' := E) (R' := R) (T' := T2) (D' := flD (dRw (dHd D (some 9)) (nI r)) (nI 1) (Tape_start T2)) ?_ ?_ ⟨TE_trans v6 a4, FM_trans (SE_FM s4) (FM_wr _ _ _), rfl, rfl, t1.trans t2.symm⟩
          · rw [hrl]
            simp (disch := omega) only [RC_rc F.1, ew, hrow, ↓lm1, ↓lm2, i0, i1, i2, i3, i4, i5, i6, i7, i8, i9, i10, i12, i16, i20, i24, i31, i32, i44, i48, i57, i59, i63, i64, i74, i75, i90, i96, i97, i99, i100, i122, i139, i140, i144, i192, i200, i240, i255, i304, i309, i310, i311, i323, i324, i325, i899, i900, i975, i999, i5200, i4875, i65536, i65537, i15, ob_some, nI_add, nI_clamp, zn_zib, zn_eq, zn_lt, zn_le, m2_lt, m2_le, lt_m2, le_m2, eq_m2, m2_eq, m1_lt, m1_le, lt_m1, le_m1, eq_m1, m1_eq, m1_m2, m2_m1, m2_lt_m1, bI_0, bI_1, bI_t, bI_f, bI_bo, nI0_bo, nI1_bo, if_true, if_false, ite_true, ite_false, Nat.zero_add, Nat.not_lt_zero, Nat.zero_le, not_true_eq_false, not_false_eq_true, or_false, false_or, true_or, or_true, and_true, true_and, Bool.false_eq_true, Bool.true_eq_false, reduceCtorEq, eq_self]
            have er2 : Rd_whole (dWh (dHd D (some 9)) (nI r)) = nI r := rfl
            simp (disch := omega) only [kRd_fault, kRd_place, kRd_nameCount, kRd_names, kRd_nameStamps, kRd_nameSlots, kRd_unsureNames, kRd_unsureCount, kRd_head, kRd_name, kRd_row, kRd_whole, er2, hrs, a1, hres, hgd, hne10, hkd, T_fail, ↓lm1, ↓lm2, i0, i1, i2, i3, i4, i5, i6, i7, i8, i9, i10, i12, i16, i20, i24, i31, i32, i44, i48, i57, i59, i63, i64, i74, i75, i90, i96, i97, i99, i100, i122, i139, i140, i144, i192, i200, i240, i255, i304, i309, i310, i311, i323, i324, i325, i899, i900, i975, i999, i5200, i4875, i65536, i65537, i15, ob_some, nI_add, nI_clamp, zn_zib, zn_eq, zn_lt, zn_le, m2_lt, m2_le, lt_m2, le_m2, eq_m2, m2_eq, m1_lt, m1_le, lt_m1, le_m1, eq_m1, m1_eq, m1_m2, m2_m1, m2_lt_m1, bI_0, bI_1, bI_t, bI_f, bI_bo, nI0_bo, nI1_bo, if_true, if_false, ite_true, ite_false, Nat.zero_add, Nat.not_lt_zero, Nat.zero_le, not_true_eq_false, not_false_eq_true, or_false, false_or, true_or, or_true, and_true, true_and, Bool.false_eq_true, Bool.true_eq_false, reduceCtorEq, eq_self]
            rfl
          · have h132 := M_132f (S := wrS S2 (nI 1) (Mo_at S2)) (tp := tp) (fr := fr) (lt := lt2) (oq := oq) rfl (nI r) (nI 0)
            have h93 : b_X10_seenLine_93 tp S1 fr lt1 oq (nI r) = some (wrS S2 (nI 1) (Mo_at S2), fr, lt2, oq) := by
              unfold b_X10_seenLine_93 f_X10_pass
              simp (disch := omega) only [hf1, g1, hf2, hw10, hnb, h132, ↓lm1, ↓lm2, i0, i1, i2, i3, i4, i5, i6, i7, i8, i9, i10, i12, i16, i20, i24, i31, i32, i44, i48, i57, i59, i63, i64, i74, i75, i90, i96, i97, i99, i100, i122, i139, i140, i144, i192, i200, i240, i255, i304, i309, i310, i311, i323, i324, i325, i899, i900, i975, i999, i5200, i4875, i65536, i65537, i15, ob_some, nI_add, nI_clamp, zn_zib, zn_eq, zn_lt, zn_le, m2_lt, m2_le, lt_m2, le_m2, eq_m2, m2_eq, m1_lt, m1_le, lt_m1, le_m1, eq_m1, m1_eq, m1_m2, m2_m1, m2_lt_m1, bI_0, bI_1, bI_t, bI_f, bI_bo, nI0_bo, nI1_bo, if_true, if_false, ite_true, ite_false, Nat.zero_add, Nat.not_lt_zero, Nat.zero_le, not_true_eq_false, not_false_eq_true, or_false, false_or, true_or, or_true, and_true, true_and, Bool.false_eq_true, Bool.true_eq_false, reduceCtorEq, eq_self]
            have h60 := (M_60 (tp := tp) (lt := lt1) (oq := oq) hf1 (by omega : r < 8) v10 h0).trans h93
            simp (disch := omega) only [s1, hf1, v9, v10, h1, ew, hin', h60, ↓lm1, ↓lm2, i0, i1, i2, i3, i4, i5, i6, i7, i8, i9, i10, i12, i16, i20, i24, i31, i32, i44, i48, i57, i59, i63, i64, i74, i75, i90, i96, i97, i99, i100, i122, i139, i140, i144, i192, i200, i240, i255, i304, i309, i310, i311, i323, i324, i325, i899, i900, i975, i999, i5200, i4875, i65536, i65537, i15, ob_some, nI_add, nI_clamp, zn_zib, zn_eq, zn_lt, zn_le, m2_lt, m2_le, lt_m2, le_m2, eq_m2, m2_eq, m1_lt, m1_le, lt_m1, le_m1, eq_m1, m1_eq, m1_m2, m2_m1, m2_lt_m1, bI_0, bI_1, bI_t, bI_f, bI_bo, nI0_bo, nI1_bo, if_true, if_false, ite_true, ite_false, Nat.zero_add, Nat.not_lt_zero, Nat.zero_le, not_true_eq_false, not_false_eq_true, or_false, false_or, true_or, or_true, and_true, true_and, Bool.false_eq_true, Bool.true_eq_false, reduceCtorEq, eq_self]
        rcases t with t | ⟨e', t⟩ | ⟨e', v, t⟩ | t | t
        · exact nobad (by rw [t.2, zn_eq (by omega) (by omega)]; omega) (by rw [t.1, zn_eq (by omega) (by omega)]; omega)
        · exact nobad (by rw [t.2.1, zn_eq (by omega) (by omega)]; omega) (by rw [t.1, zn_eq (by omega) (by omega)]; omega)
        · obtain ⟨S3, lt3, k1, k2, k3⟩ := go_n (lt := lt2) C2' t
          have hf3 : Mo_failed S3 = nI 0 := (SE_failed k3).trans hf2
          have hin3 := M_in2 (a := v) (b := 0) (c := 999) (by have := t.2.2.2.2.2.2.1; omega) (by omega) (by omega)
          rw [decide_eq_true (Nat.zero_le v), decide_eq_true t.2.2.2.2.2.2.1] at hin3
          have hin3' : f_X10_in (nI v) (nI 0) (nI 999) = some (nI 1) := hin3
          have hnum : f_X10_number S2 lt2 tp (nI 0) (nI 999) = some (nI v, S3, lt3) := by
            unfold f_X10_number b_X10_number_50 f_X10_pass
            simp (disch := omega) only [hf2, t.2.1, t.2.2.2.2.2.2.2.1, hin3', k1, hf3, ↓lm1, ↓lm2, i0, i1, i2, i3, i4, i5, i6, i7, i8, i9, i10, i12, i16, i20, i24, i31, i32, i44, i48, i57, i59, i63, i64, i74, i75, i90, i96, i97, i99, i100, i122, i139, i140, i144, i192, i200, i240, i255, i304, i309, i310, i311, i323, i324, i325, i899, i900, i975, i999, i5200, i4875, i65536, i65537, i15, ob_some, nI_add, nI_clamp, zn_zib, zn_eq, zn_lt, zn_le, m2_lt, m2_le, lt_m2, le_m2, eq_m2, m2_eq, m1_lt, m1_le, lt_m1, le_m1, eq_m1, m1_eq, m1_m2, m2_m1, m2_lt_m1, bI_0, bI_1, bI_t, bI_f, bI_bo, nI0_bo, nI1_bo, if_true, if_false, ite_true, ite_false, Nat.zero_add, Nat.not_lt_zero, Nat.zero_le, not_true_eq_false, not_false_eq_true, or_false, false_or, true_or, or_true, and_true, true_and, Bool.false_eq_true, Bool.true_eq_false, reduceCtorEq, eq_self]
          refine fin _ (nI v) (nI (v + 2)) S3 lt3 (.inr ⟨v, t.2.2.2.2.2.2.1, rfl, rfl⟩) k3 (AH_mono k2 (by omega)) (fun Dx Tx qx hz he => ?_) ?_
          · rw [hrl]
            have hkd : Tape_kind T2 = nI 2 := t.1
            have hvl : Tape_value T2 = lN v := t.2.2.2.2.2.2.2.2
            have hadd := T_addSeen (E := E) hsn.2.1 hev (nI r) (nI v)
            simp (disch := omega) only [RC_rc F.1, ew, hrow, ↓lm1, ↓lm2, i0, i1, i2, i3, i4, i5, i6, i7, i8, i9, i10, i12, i16, i20, i24, i31, i32, i44, i48, i57, i59, i63, i64, i74, i75, i90, i96, i97, i99, i100, i122, i139, i140, i144, i192, i200, i240, i255, i304, i309, i310, i311, i323, i324, i325, i899, i900, i975, i999, i5200, i4875, i65536, i65537, i15, ob_some, nI_add, nI_clamp, zn_zib, zn_eq, zn_lt, zn_le, m2_lt, m2_le, lt_m2, le_m2, eq_m2, m2_eq, m1_lt, m1_le, lt_m1, le_m1, eq_m1, m1_eq, m1_m2, m2_m1, m2_lt_m1, bI_0, bI_1, bI_t, bI_f, bI_bo, nI0_bo, nI1_bo, if_true, if_false, ite_true, ite_false, Nat.zero_add, Nat.not_lt_zero, Nat.zero_le, not_true_eq_false, not_false_eq_true, or_false, false_or, true_or, or_true, and_true, true_and, Bool.false_eq_true, Bool.true_eq_false, reduceCtorEq, eq_self]
            have er2 : Rd_whole (dWh (dHd D (some 9)) (nI r)) = nI r := rfl
            unfold dRw at he
            simp (disch := omega) only [kRd_fault, kRd_place, kRd_nameCount, kRd_names, kRd_nameStamps, kRd_nameSlots, kRd_unsureNames, kRd_unsureCount, kRd_head, kRd_name, kRd_row, kRd_whole, er2, hrs, a1, hres, hgd, hne10, hkd, hvl, lN_i, hadd, ↓lm1, ↓lm2, i0, i1, i2, i3, i4, i5, i6, i7, i8, i9, i10, i12, i16, i20, i24, i31, i32, i44, i48, i57, i59, i63, i64, i74, i75, i90, i96, i97, i99, i100, i122, i139, i140, i144, i192, i200, i240, i255, i304, i309, i310, i311, i323, i324, i325, i899, i900, i975, i999, i5200, i4875, i65536, i65537, i15, ob_some, nI_add, nI_clamp, zn_zib, zn_eq, zn_lt, zn_le, m2_lt, m2_le, lt_m2, le_m2, eq_m2, m2_eq, m1_lt, m1_le, lt_m1, le_m1, eq_m1, m1_eq, m1_m2, m2_m1, m2_lt_m1, bI_0, bI_1, bI_t, bI_f, bI_bo, nI0_bo, nI1_bo, if_true, if_false, ite_true, ite_false, Nat.zero_add, Nat.not_lt_zero, Nat.zero_le, not_true_eq_false, not_false_eq_true, or_false, false_or, true_or, or_true, and_true, true_and, Bool.false_eq_true, Bool.true_eq_false, reduceCtorEq, eq_self]
            have he' : f_X5_takeLineEnd (mkRd (Rd_fault (dWh (dHd D (some 9)) (nI r))) (Rd_place (dWh (dHd D (some 9)) (nI r))) (Rd_nameCount (dWh (dHd D (some 9)) (nI r))) (Rd_names (dWh (dHd D (some 9)) (nI r))) (Rd_nameStamps (dWh (dHd D (some 9)) (nI r))) (Rd_nameSlots (dWh (dHd D (some 9)) (nI r))) (Rd_unsureNames (dWh (dHd D (some 9)) (nI r))) (Rd_unsureCount (dWh (dHd D (some 9)) (nI r))) (Rd_head (dWh (dHd D (some 9)) (nI r))) (Rd_name (dWh (dHd D (some 9)) (nI r))) (nI r) (nI r)) T2 = some (qx, Dx, Tx) := he
            rw [he', ob_some]
            simp only [eq_true hz, if_true, ob_some]
          · have h132 := M_132 (tp := tp) (lt := lt3) (oq := oq) hf3 (by omega : r < 8) h5 hev (nI v) (nI (v + 2)) (nI_add v 2)
            have h93 : b_X10_seenLine_93 tp S1 fr lt1 oq (nI r) = some (S3, upd (upd fr (12 + r) (nI (v + 2))) 5 (nI (ev + 1)), lt3, upd oq ev (nI r)) := by
              unfold b_X10_seenLine_93 f_X10_pass
              simp (disch := omega) only [hf1, g1, hf2, hw10, hnum, h132, ↓lm1, ↓lm2, i0, i1, i2, i3, i4, i5, i6, i7, i8, i9, i10, i12, i16, i20, i24, i31, i32, i44, i48, i57, i59, i63, i64, i74, i75, i90, i96, i97, i99, i100, i122, i139, i140, i144, i192, i200, i240, i255, i304, i309, i310, i311, i323, i324, i325, i899, i900, i975, i999, i5200, i4875, i65536, i65537, i15, ob_some, nI_add, nI_clamp, zn_zib, zn_eq, zn_lt, zn_le, m2_lt, m2_le, lt_m2, le_m2, eq_m2, m2_eq, m1_lt, m1_le, lt_m1, le_m1, eq_m1, m1_eq, m1_m2, m2_m1, m2_lt_m1, bI_0, bI_1, bI_t, bI_f, bI_bo, nI0_bo, nI1_bo, if_true, if_false, ite_true, ite_false, Nat.zero_add, Nat.not_lt_zero, Nat.zero_le, not_true_eq_false, not_false_eq_true, or_false, false_or, true_or, or_true, and_true, true_and, Bool.false_eq_true, Bool.true_eq_false, reduceCtorEq, eq_self]
            have h60 := (M_60 (tp := tp) (lt := lt1) (oq := oq) hf1 (by omega : r < 8) v10 h0).trans h93
            simp (disch := omega) only [s1, hf1, v9, v10, h1, ew, hin', h60, ↓lm1, ↓lm2, i0, i1, i2, i3, i4, i5, i6, i7, i8, i9, i10, i12, i16, i20, i24, i31, i32, i44, i48, i57, i59, i63, i64, i74, i75, i90, i96, i97, i99, i100, i122, i139, i140, i144, i192, i200, i240, i255, i304, i309, i310, i311, i323, i324, i325, i899, i900, i975, i999, i5200, i4875, i65536, i65537, i15, ob_some, nI_add, nI_clamp, zn_zib, zn_eq, zn_lt, zn_le, m2_lt, m2_le, lt_m2, le_m2, eq_m2, m2_eq, m1_lt, m1_le, lt_m1, le_m1, eq_m1, m1_eq, m1_m2, m2_m1, m2_lt_m1, bI_0, bI_1, bI_t, bI_f, bI_bo, nI0_bo, nI1_bo, if_true, if_false, ite_true, ite_false, Nat.zero_add, Nat.not_lt_zero, Nat.zero_le, not_true_eq_false, not_false_eq_true, or_false, false_or, true_or, or_true, and_true, true_and, Bool.false_eq_true, Bool.true_eq_false, reduceCtorEq, eq_self]
        · exact nobad (by rw [t.2.1, zn_eq (by omega) (by omega)]; omega) (by rw [t.1, zn_eq (by omega) (by omega)]; omega)
        · exact nobad (by rw [t.2, zn_eq (by omega) (by omega)]; omega) (by rw [t.1, zn_eq (by omega) (by omega)]; omega)
      · rw [z10] at hw10
        have h10 : fi q 11 = some 10 := fi_eq (by omega) z10 (fun k hk => by
          cases z : q k
          · rfl
          · have := w2 k 10 (by omega) (by omega) z z10
            omega)
        obtain ⟨e', t⟩ := w3 10 z10
        obtain ⟨S3, lt3, k1, k2, k3⟩ := go_w C2' t
        have hf3 : Mo_failed S3 = nI 0 := (SE_failed k3).trans hf2
        refine fin _ m2 (nI 1) S3 lt3 (.inl ⟨rfl, rfl⟩) k3 (AH_mono k2 (by omega)) (fun Dx Tx qx hz he => ?_) ?_
        · rw [hrl]
          rw [h10] at hres hgd
          have hadd := T_addSeen (E := E) hsn.2.1 hev (nI r) m2
          simp (disch := omega) only [RC_rc F.1, ew, hrow, ↓lm1, ↓lm2, i0, i1, i2, i3, i4, i5, i6, i7, i8, i9, i10, i12, i16, i20, i24, i31, i32, i44, i48, i57, i59, i63, i64, i74, i75, i90, i96, i97, i99, i100, i122, i139, i140, i144, i192, i200, i240, i255, i304, i309, i310, i311, i323, i324, i325, i899, i900, i975, i999, i5200, i4875, i65536, i65537, i15, ob_some, nI_add, nI_clamp, zn_zib, zn_eq, zn_lt, zn_le, m2_lt, m2_le, lt_m2, le_m2, eq_m2, m2_eq, m1_lt, m1_le, lt_m1, le_m1, eq_m1, m1_eq, m1_m2, m2_m1, m2_lt_m1, bI_0, bI_1, bI_t, bI_f, bI_bo, nI0_bo, nI1_bo, if_true, if_false, ite_true, ite_false, Nat.zero_add, Nat.not_lt_zero, Nat.zero_le, not_true_eq_false, not_false_eq_true, or_false, false_or, true_or, or_true, and_true, true_and, Bool.false_eq_true, Bool.true_eq_false, reduceCtorEq, eq_self]
          have er2 : Rd_whole (dWh (dHd D (some 9)) (nI r)) = nI r := rfl
          unfold dRw at he
          simp (disch := omega) only [kRd_fault, kRd_place, kRd_nameCount, kRd_names, kRd_nameStamps, kRd_nameSlots, kRd_unsureNames, kRd_unsureCount, kRd_head, kRd_name, kRd_row, kRd_whole, er2, hrs, a1, hres, hgd, hadd, ↓lm1, ↓lm2, i0, i1, i2, i3, i4, i5, i6, i7, i8, i9, i10, i12, i16, i20, i24, i31, i32, i44, i48, i57, i59, i63, i64, i74, i75, i90, i96, i97, i99, i100, i122, i139, i140, i144, i192, i200, i240, i255, i304, i309, i310, i311, i323, i324, i325, i899, i900, i975, i999, i5200, i4875, i65536, i65537, i15, ob_some, nI_add, nI_clamp, zn_zib, zn_eq, zn_lt, zn_le, m2_lt, m2_le, lt_m2, le_m2, eq_m2, m2_eq, m1_lt, m1_le, lt_m1, le_m1, eq_m1, m1_eq, m1_m2, m2_m1, m2_lt_m1, bI_0, bI_1, bI_t, bI_f, bI_bo, nI0_bo, nI1_bo, if_true, if_false, ite_true, ite_false, Nat.zero_add, Nat.not_lt_zero, Nat.zero_le, not_true_eq_false, not_false_eq_true, or_false, false_or, true_or, or_true, and_true, true_and, Bool.false_eq_true, Bool.true_eq_false, reduceCtorEq, eq_self]
          have he' : f_X5_takeLineEnd (mkRd (Rd_fault (dWh (dHd D (some 9)) (nI r))) (Rd_place (dWh (dHd D (some 9)) (nI r))) (Rd_nameCount (dWh (dHd D (some 9)) (nI r))) (Rd_names (dWh (dHd D (some 9)) (nI r))) (Rd_nameStamps (dWh (dHd D (some 9)) (nI r))) (Rd_nameSlots (dWh (dHd D (some 9)) (nI r))) (Rd_unsureNames (dWh (dHd D (some 9)) (nI r))) (Rd_unsureCount (dWh (dHd D (some 9)) (nI r))) (Rd_head (dWh (dHd D (some 9)) (nI r))) (Rd_name (dWh (dHd D (some 9)) (nI r))) (nI r) (nI r)) T2 = some (qx, Dx, Tx) := he
          rw [he', ob_some]
          simp only [eq_true hz, if_true, ob_some]
        · have em : m1 + nI 2 = nI 1 := by decide
          have h132 := M_132 (tp := tp) (lt := lt3) (oq := oq) hf3 (by omega : r < 8) h5 hev m1 (nI 1) em
          have h93 : b_X10_seenLine_93 tp S1 fr lt1 oq (nI r) = some (S3, upd (upd fr (12 + r) (nI 1)) 5 (nI (ev + 1)), lt3, upd oq ev (nI r)) := by
            unfold b_X10_seenLine_93 f_X10_pass
            simp (disch := omega) only [hf1, g1, hf2, hw10, k1, h132, ↓lm1, ↓lm2, i0, i1, i2, i3, i4, i5, i6, i7, i8, i9, i10, i12, i16, i20, i24, i31, i32, i44, i48, i57, i59, i63, i64, i74, i75, i90, i96, i97, i99, i100, i122, i139, i140, i144, i192, i200, i240, i255, i304, i309, i310, i311, i323, i324, i325, i899, i900, i975, i999, i5200, i4875, i65536, i65537, i15, ob_some, nI_add, nI_clamp, zn_zib, zn_eq, zn_lt, zn_le, m2_lt, m2_le, lt_m2, le_m2, eq_m2, m2_eq, m1_lt, m1_le, lt_m1, le_m1, eq_m1, m1_eq, m1_m2, m2_m1, m2_lt_m1, bI_0, bI_1, bI_t, bI_f, bI_bo, nI0_bo, nI1_bo, if_true, if_false, ite_true, ite_false, Nat.zero_add, Nat.not_lt_zero, Nat.zero_le, not_true_eq_false, not_false_eq_true, or_false, false_or, true_or, or_true, and_true, true_and, Bool.false_eq_true, Bool.true_eq_false, reduceCtorEq, eq_self]
          have h60 := (M_60 (tp := tp) (lt := lt1) (oq := oq) hf1 (by omega : r < 8) v10 h0).trans h93
          simp (disch := omega) only [s1, hf1, v9, v10, h1, ew, hin', h60, ↓lm1, ↓lm2, i0, i1, i2, i3, i4, i5, i6, i7, i8, i9, i10, i12, i16, i20, i24, i31, i32, i44, i48, i57, i59, i63, i64, i74, i75, i90, i96, i97, i99, i100, i122, i139, i140, i144, i192, i200, i240, i255, i304, i309, i310, i311, i323, i324, i325, i899, i900, i975, i999, i5200, i4875, i65536, i65537, i15, ob_some, nI_add, nI_clamp, zn_zib, zn_eq, zn_lt, zn_le, m2_lt, m2_le, lt_m2, le_m2, eq_m2, m2_eq, m1_lt, m1_le, lt_m1, le_m1, eq_m1, m1_eq, m1_m2, m2_m1, m2_lt_m1, bI_0, bI_1, bI_t, bI_f, bI_bo, nI0_bo, nI1_bo, if_true, if_false, ite_true, ite_false, Nat.zero_add, Nat.not_lt_zero, Nat.zero_le, not_true_eq_false, not_false_eq_true, or_false, false_or, true_or, or_true, and_true, true_and, Bool.false_eq_true, Bool.true_eq_false, reduceCtorEq, eq_self]
    · rw [y] at hrs
      obtain ⟨k, hk', hkr⟩ := an_iff.mp y
      have hkr := of_decide_eq_true hkr
      have h0 : ∃ a, 0 < a ∧ a < 2 ^ 30 ∧ fr (12 + r) = nI a := by
        obtain ⟨-, -, -, x | ⟨v, x1, x2, x3⟩⟩ := hsn.2.2.2.2.1 k hk'
        · exact ⟨1, by omega, by omega, hkr ▸ x.2⟩
        · exact ⟨v + 2, by omega, by omega, hkr ▸ x3⟩
      obtain ⟨a, a1, a2, a3⟩ := h0
      have l0 : ¬ a ≤ 0 := by omega
      have hff : Mo_failed (wrS S1 (nI 3) (Mo_at S1)) = nI 1 := rfl
      have hpf := M_pass_f (S := wrS S1 (nI 3) (Mo_at S1)) (lt := lt1) (tp := tp) rfl
      refine LO_bad (wrS S1 (nI 3) (Mo_at S1), fr, lt1, mk, oq, ow, rd, sl) (E' := E) (R' := R) (T' := T1) (D' := flD (dRw (dHd D (some 9)) (nI r)) (nI 3) (Tape_start T1)) ?_ ?_ ⟨v6, FM_trans (SE_FM s3) (FM_wr _ _ _), rfl, rfl, v11⟩
      · rw [hrl]
        simp (disch := omega) only [RC_rc F.1, ew, hrow, ↓lm1, ↓lm2, i0, i1, i2, i3, i4, i5, i6, i7, i8, i9, i10, i12, i16, i20, i24, i31, i32, i44, i48, i57, i59, i63, i64, i74, i75, i90, i96, i97, i99, i100, i122, i139, i140, i144, i192, i200, i240, i255, i304, i309, i310, i311, i323, i324, i325, i899, i900, i975, i999, i5200, i4875, i65536, i65537, i15, ob_some, nI_add, nI_clamp, zn_zib, zn_eq, zn_lt, zn_le, m2_lt, m2_le, lt_m2, le_m2, eq_m2, m2_eq, m1_lt, m1_le, lt_m1, le_m1, eq_m1, m1_eq, m1_m2, m2_m1, m2_lt_m1, bI_0, bI_1, bI_t, bI_f, bI_bo, nI0_bo, nI1_bo, if_true, if_false, ite_true, ite_false, Nat.zero_add, Nat.not_lt_zero, Nat.zero_le, not_true_eq_false, not_false_eq_true, or_false, false_or, true_or, or_true, and_true, true_and, Bool.false_eq_true, Bool.true_eq_false, reduceCtorEq, eq_self]
        have er2 : Rd_whole (dWh (dHd D (some 9)) (nI r)) = nI r := rfl
        simp (disch := omega) only [kRd_fault, kRd_place, kRd_nameCount, kRd_names, kRd_nameStamps, kRd_nameSlots, kRd_unsureNames, kRd_unsureCount, kRd_head, kRd_name, kRd_row, kRd_whole, er2, hrs, T_fail, ↓lm1, ↓lm2, i0, i1, i2, i3, i4, i5, i6, i7, i8, i9, i10, i12, i16, i20, i24, i31, i32, i44, i48, i57, i59, i63, i64, i74, i75, i90, i96, i97, i99, i100, i122, i139, i140, i144, i192, i200, i240, i255, i304, i309, i310, i311, i323, i324, i325, i899, i900, i975, i999, i5200, i4875, i65536, i65537, i15, ob_some, nI_add, nI_clamp, zn_zib, zn_eq, zn_lt, zn_le, m2_lt, m2_le, lt_m2, le_m2, eq_m2, m2_eq, m1_lt, m1_le, lt_m1, le_m1, eq_m1, m1_eq, m1_m2, m2_m1, m2_lt_m1, bI_0, bI_1, bI_t, bI_f, bI_bo, nI0_bo, nI1_bo, if_true, if_false, ite_true, ite_false, Nat.zero_add, Nat.not_lt_zero, Nat.zero_le, not_true_eq_false, not_false_eq_true, or_false, false_or, true_or, or_true, and_true, true_and, Bool.false_eq_true, Bool.true_eq_false, reduceCtorEq, eq_self]
        rfl
      · unfold b_X10_seenLine_60 b_X10_seenLine_93
        simp (disch := omega) only [s1, hf1, v9, v10, h1, ew, hin', a3, l0, M_wrong hf1, hpf, hff, ↓lm1, ↓lm2, i0, i1, i2, i3, i4, i5, i6, i7, i8, i9, i10, i12, i16, i20, i24, i31, i32, i44, i48, i57, i59, i63, i64, i74, i75, i90, i96, i97, i99, i100, i122, i139, i140, i144, i192, i200, i240, i255, i304, i309, i310, i311, i323, i324, i325, i899, i900, i975, i999, i5200, i4875, i65536, i65537, i15, ob_some, nI_add, nI_clamp, zn_zib, zn_eq, zn_lt, zn_le, m2_lt, m2_le, lt_m2, le_m2, eq_m2, m2_eq, m1_lt, m1_le, lt_m1, le_m1, eq_m1, m1_eq, m1_m2, m2_m1, m2_lt_m1, bI_0, bI_1, bI_t, bI_f, bI_bo, nI0_bo, nI1_bo, if_true, if_false, ite_true, ite_false, Nat.zero_add, Nat.not_lt_zero, Nat.zero_le, not_true_eq_false, not_false_eq_true, or_false, false_or, true_or, or_true, and_true, true_and, Bool.false_eq_true, Bool.true_eq_false, reduceCtorEq, eq_self]
  · obtain ⟨b1, b2, b3, b4, b5⟩ := id v6
    have v4' : f_X5_takeWhole (dHd D (some 9)) T (nI 0) (nI (m - 1)) = some (nI 0, D', T1) := v4
    have cls : f_X5_readLine D E R T = some (nI 0, mkRd (Rd_fault D') (Rd_place D') (Rd_nameCount D') (Rd_names D') (Rd_nameStamps D') (Rd_nameSlots D') (Rd_unsureNames D') (Rd_unsureCount D') (Rd_head D') (Rd_name D') (Rd_whole D') (Rd_whole D'), E, R, T1) := by
      rw [hrl]
      simp (disch := omega) only [RC_rc F.1, ew, v4', ↓lm1, ↓lm2, i0, i1, i2, i3, i4, i5, i6, i7, i8, i9, i10, i12, i16, i20, i24, i31, i32, i44, i48, i57, i59, i63, i64, i74, i75, i90, i96, i97, i99, i100, i122, i139, i140, i144, i192, i200, i240, i255, i304, i309, i310, i311, i323, i324, i325, i899, i900, i975, i999, i5200, i4875, i65536, i65537, i15, ob_some, nI_add, nI_clamp, zn_zib, zn_eq, zn_lt, zn_le, m2_lt, m2_le, lt_m2, le_m2, eq_m2, m2_eq, m1_lt, m1_le, lt_m1, le_m1, eq_m1, m1_eq, m1_m2, m2_m1, m2_lt_m1, bI_0, bI_1, bI_t, bI_f, bI_bo, nI0_bo, nI1_bo, if_true, if_false, ite_true, ite_false, Nat.zero_add, Nat.not_lt_zero, Nat.zero_le, not_true_eq_false, not_false_eq_true, or_false, false_or, true_or, or_true, and_true, true_and, Bool.false_eq_true, Bool.true_eq_false, reduceCtorEq, eq_self]
    rcases v8 with ⟨x1, x2⟩ | ⟨v, x1, x2, x3, x4, x5⟩
    · have hff : Mo_failed (wrS S1 (nI 1) (Mo_at S1)) = nI 1 := rfl
      have hpf := M_pass_f (S := wrS S1 (nI 1) (Mo_at S1)) (lt := lt1) (tp := tp) rfl
      have x1' : ¬ Mo_token S1 = nI 3 := x1
      refine LO_bad (wrS S1 (nI 1) (Mo_at S1), fr, lt1, mk, oq, ow, rd, sl) cls ?_ ⟨b1, FM_trans (SE_FM s3) (FM_wr _ _ _), rfl, b4.trans x2, b5.trans v9⟩
      unfold b_X10_seenLine_60 b_X10_seenLine_93
      simp (disch := omega) only [s1, hf1, x1', M_wrong hf1, hpf, hff, ↓lm1, ↓lm2, i0, i1, i2, i3, i4, i5, i6, i7, i8, i9, i10, i12, i16, i20, i24, i31, i32, i44, i48, i57, i59, i63, i64, i74, i75, i90, i96, i97, i99, i100, i122, i139, i140, i144, i192, i200, i240, i255, i304, i309, i310, i311, i323, i324, i325, i899, i900, i975, i999, i5200, i4875, i65536, i65537, i15, ob_some, nI_add, nI_clamp, zn_zib, zn_eq, zn_lt, zn_le, m2_lt, m2_le, lt_m2, le_m2, eq_m2, m2_eq, m1_lt, m1_le, lt_m1, le_m1, eq_m1, m1_eq, m1_m2, m2_m1, m2_lt_m1, bI_0, bI_1, bI_t, bI_f, bI_bo, nI0_bo, nI1_bo, if_true, if_false, ite_true, ite_false, Nat.zero_add, Nat.not_lt_zero, Nat.zero_le, not_true_eq_false, not_false_eq_true, or_false, false_or, true_or, or_true, and_true, true_and, Bool.false_eq_true, Bool.true_eq_false, reduceCtorEq, eq_self]
    · have hff : Mo_failed (wrS S1 (nI 4) (Mo_at S1)) = nI 1 := rfl
      have hpf := M_pass_f (S := wrS S1 (nI 4) (Mo_at S1)) (lt := lt1) (tp := tp) rfl
      have hin := M_in2 (a := v) (b := 0) (c := m - 1) (by omega) (by omega) (by omega)
      rw [decide_eq_true (Nat.zero_le v), decide_eq_false (by omega)] at hin
      have hin' : f_X10_in (nI v) (nI 0) (nI (m - 1)) = some (nI 0) := hin
      refine LO_bad (wrS S1 (nI 4) (Mo_at S1), fr, lt1, mk, oq, ow, rd, sl) cls ?_ ⟨b1, FM_trans (SE_FM s3) (FM_wr _ _ _), rfl, b4.trans x5, b5.trans v9⟩
      unfold b_X10_seenLine_60 b_X10_seenLine_93
      simp (disch := omega) only [s1, hf1, x1, x2, h1, ew, hin', M_wrong hf1, hpf, hff, ↓lm1, ↓lm2, i0, i1, i2, i3, i4, i5, i6, i7, i8, i9, i10, i12, i16, i20, i24, i31, i32, i44, i48, i57, i59, i63, i64, i74, i75, i90, i96, i97, i99, i100, i122, i139, i140, i144, i192, i200, i240, i255, i304, i309, i310, i311, i323, i324, i325, i899, i900, i975, i999, i5200, i4875, i65536, i65537, i15, ob_some, nI_add, nI_clamp, zn_zib, zn_eq, zn_lt, zn_le, m2_lt, m2_le, lt_m2, le_m2, eq_m2, m2_eq, m1_lt, m1_le, lt_m1, le_m1, eq_m1, m1_eq, m1_m2, m2_m1, m2_lt_m1, bI_0, bI_1, bI_t, bI_f, bI_bo, nI0_bo, nI1_bo, if_true, if_false, ite_true, ite_false, Nat.zero_add, Nat.not_lt_zero, Nat.zero_le, not_true_eq_false, not_false_eq_true, or_false, false_or, true_or, or_true, and_true, true_and, Bool.false_eq_true, Bool.true_eq_false, reduceCtorEq, eq_self]
end
