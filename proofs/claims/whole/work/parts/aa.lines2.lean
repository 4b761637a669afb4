/-! the lines of a text: unsure, seen -/
section
variable {nm : Nat → Int64} {ns un fr fr' ow oq : Nat → Int32} {kf po le rw' : Nat → Nat} {n m c kn u ev : Nat} {E : SEv}
theorem HD_cong (h : HD fr n m c) (h0 : fr' 0 = fr 0) (h1 : fr' 1 = fr 1) (h3 : fr' 3 = fr 3) (h7 : fr' 7 = fr 7) : HD fr' n m c := ⟨h0.trans h.1, h1.trans h.2.1, h3.trans h.2.2.1, h7.trans h.2.2.2⟩
theorem NR_cong (h : NR nm fr kf po le kn) (g : ∀ i, 32 ≤ i → i < 140 → fr' i = fr i) : NR nm fr' kf po le kn := by
  obtain ⟨h1, h2, h3, h4⟩ := h
  refine ⟨h1, fun i hi => ?_, h3, fun i hi hi2 => (g _ (by omega) (by omega)).trans (h4 i hi hi2)⟩
  obtain ⟨a1, a2, a3, a4, a5, a6⟩ := h2 i hi
  exact ⟨a1, a2, a3, a4, (g _ (by omega) (by omega)).trans a5, fun k hk => (g _ (by omega) (by omega)).trans (a6 k hk)⟩
theorem OW_cong (hk : kn ≤ 12) (h : OW ns fr ow n kn) (g : ∀ i, 20 ≤ i → i < 32 → fr' i = fr i) : OW ns fr' ow n kn := fun i hi => by
  obtain ⟨s, s1, s2, s3, s4⟩ := h i hi
  refine ⟨s, s1, s2, (g _ (by omega) (by omega)).trans s3, s4.trans ⟨fun z j h1 h2 => ?_, fun z j h1 h2 => ?_⟩⟩
  · rw [g _ (by omega) (by omega)]
    exact z j h1 h2
  · have := z j h1 h2
    rw [g _ (by omega) (by omega)] at this
    exact this
theorem UN_cong (h : UN un fr kn u) (h4 : fr' 4 = fr 4) (g : ∀ i, 8 ≤ i → i < 12 → fr' i = fr i) : UN un fr' kn u := by
  obtain ⟨h1, h2, h3⟩ := h
  refine ⟨h1, h4.trans h2, fun k hk => ?_⟩
  obtain ⟨i, a1, a2, a3⟩ := h3 k hk
  exact ⟨i, a1, a2, (g _ (by omega) (by omega)).trans a3⟩
theorem SN_cong (hm : m ≤ 8) (h : SN E fr oq m ev rw') (h5 : fr' 5 = fr 5) (g : ∀ i, 12 ≤ i → i < 20 → fr' i = fr i) : SN E fr' oq m ev rw' := by
  obtain ⟨a1, a2, a3, a4, a5, a6, a7⟩ := h
  refine ⟨a1, a2, a3, h5.trans a4, fun k hk => ?_, a6, fun r hr hn => (g _ (by omega) (by omega)).trans (a7 r hr hn)⟩
  obtain ⟨b1, b2, b3, b4⟩ := a5 k hk
  refine ⟨b1, b2, b3, ?_⟩
  rw [g _ (by omega) (by omega)]
  exact b4
end
section
variable {T : STape} {S S' : SMo} {D : SRd} {E : SEv} {R : SRows} {lt tp fr mk oq ow rd rd' sl : Nat → Int32} {kf : Nat → Nat} {L p p0 e n m c b kn u : Nat} {mr : Option MXt}
theorem M_wpUf (h4 : fr 4 = nI u) (hu : u ≤ 4) (hf : Mo_failed S = nI 1) (x : Int32) : zl4 (b_X10_writerPassed_42 fr sl tp (nI 0)) FU S lt x (nI 0) = some (nI 0, S, lt) := by
  refine zl4_up u 0 (fun _ a1 a2 a3 => a1 = S ∧ a2 = lt ∧ a3 = x) _ (by omega) (Nat.zero_le _) ⟨rfl, rfl, rfl⟩ (fun k i a1 a2 a3 hi hI => ?_) (fun k a1 a2 a3 hI => ?_)
  · obtain ⟨rfl, rfl, rfl⟩ := hI
    refine .inr ⟨a1, a2, a3, ⟨rfl, rfl, rfl⟩, ?_⟩
    have b1 : ¬ u ≤ i := by omega
    unfold b_X10_writerPassed_42
    simp (disch := omega) only [h4, b1, hf, ↓lm1, ↓lm2, i0, i1, i2, i3, i4, i5, i6, i7, i8, i9, i10, i12, i16, i20, i24, i31, i32, i44, i48, i57, i59, i63, i64, i74, i75, i90, i96, i97, i99, i100, i122, i139, i140, i144, i192, i200, i240, i255, i304, i309, i310, i311, i323, i324, i325, i899, i900, i975, i999, i5200, i4875, i65536, i65537, i15, ob_some, nI_add, nI_clamp, zn_zib, zn_eq, zn_lt, zn_le, m2_lt, m2_le, lt_m2, le_m2, eq_m2, m2_eq, m1_lt, m1_le, lt_m1, le_m1, eq_m1, m1_eq, m1_m2, m2_m1, m2_lt_m1, bI_0, bI_1, bI_t, bI_f, bI_bo, nI0_bo, nI1_bo, if_true, if_false, ite_true, ite_false, Nat.zero_add, Nat.not_lt_zero, Nat.zero_le, not_true_eq_false, not_false_eq_true, or_false, false_or, true_or, or_true, and_true, true_and, Bool.false_eq_true, Bool.true_eq_false, reduceCtorEq, eq_self]
  · obtain ⟨rfl, rfl, rfl⟩ := hI
    have b1 : u ≤ u := Nat.le_refl _
    unfold b_X10_writerPassed_42
    simp (disch := omega) only [h4, b1, M_91f hf, ↓lm1, ↓lm2, i0, i1, i2, i3, i4, i5, i6, i7, i8, i9, i10, i12, i16, i20, i24, i31, i32, i44, i48, i57, i59, i63, i64, i74, i75, i90, i96, i97, i99, i100, i122, i139, i140, i144, i192, i200, i240, i255, i304, i309, i310, i311, i323, i324, i325, i899, i900, i975, i999, i5200, i4875, i65536, i65537, i15, ob_some, nI_add, nI_clamp, zn_zib, zn_eq, zn_lt, zn_le, m2_lt, m2_le, lt_m2, le_m2, eq_m2, m2_eq, m1_lt, m1_le, lt_m1, le_m1, eq_m1, m1_eq, m1_m2, m2_m1, m2_lt_m1, bI_0, bI_1, bI_t, bI_f, bI_bo, nI0_bo, nI1_bo, if_true, if_false, ite_true, ite_false, Nat.zero_add, Nat.not_lt_zero, Nat.zero_le, not_true_eq_false, not_false_eq_true, or_false, false_or, true_or, or_true, and_true, true_and, Bool.false_eq_true, Bool.true_eq_false, reduceCtorEq, eq_self]
theorem M_wpU (h4 : fr 4 = nI u) (hu : u ≤ 4) (hf : Mo_failed S = nI 0) {i : Nat} (hi : i < 12) : zl4 (b_X10_writerPassed_42 fr sl tp (nI 0)) FU S lt (nI i) (nI 0) = if an (fun k => decide (fr (8 + k) = nI i)) u then some (nI 0, wrS S (nI 3) (Mo_at S), lt) else b_X10_writerPassed_91 fr sl tp (nI 0) S lt (nI i) := by
  refine zl4_up u 0 (fun j a1 a2 a3 => a2 = lt ∧ a3 = nI i ∧ ((an (fun k => decide (fr (8 + k) = nI i)) j = false ∧ a1 = S) ∨ (an (fun k => decide (fr (8 + k) = nI i)) j = true ∧ a1 = wrS S (nI 3) (Mo_at S)))) _ (by omega) (Nat.zero_le _) ⟨rfl, rfl, .inl ⟨rfl, rfl⟩⟩ (fun k j a1 a2 a3 hj hI => ?_) (fun k a1 a2 a3 hI => ?_)
  · obtain ⟨rfl, rfl, hI⟩ := hI
    have b1 : ¬ u ≤ j := by omega
    rcases hI with ⟨z, rfl⟩ | ⟨z, rfl⟩
    · by_cases y : fr (8 + j) = nI i
      · refine .inr ⟨wrS a1 (nI 3) (Mo_at a1), a2, nI i, ⟨rfl, rfl, .inr ⟨?_, rfl⟩⟩, ?_⟩
        · rw [an_s, decide_eq_true y, Bool.or_true]
        · unfold b_X10_writerPassed_42
          simp (disch := omega) only [h4, b1, hf, y, M_wrong hf, ↓lm1, ↓lm2, i0, i1, i2, i3, i4, i5, i6, i7, i8, i9, i10, i12, i16, i20, i24, i31, i32, i44, i48, i57, i59, i63, i64, i74, i75, i90, i96, i97, i99, i100, i122, i139, i140, i144, i192, i200, i240, i255, i304, i309, i310, i311, i323, i324, i325, i899, i900, i975, i999, i5200, i4875, i65536, i65537, i15, ob_some, nI_add, nI_clamp, zn_zib, zn_eq, zn_lt, zn_le, m2_lt, m2_le, lt_m2, le_m2, eq_m2, m2_eq, m1_lt, m1_le, lt_m1, le_m1, eq_m1, m1_eq, m1_m2, m2_m1, m2_lt_m1, bI_0, bI_1, bI_t, bI_f, bI_bo, nI0_bo, nI1_bo, if_true, if_false, ite_true, ite_false, Nat.zero_add, Nat.not_lt_zero, Nat.zero_le, not_true_eq_false, not_false_eq_true, or_false, false_or, true_or, or_true, and_true, true_and, Bool.false_eq_true, Bool.true_eq_false, reduceCtorEq, eq_self]
      · refine .inr ⟨a1, a2, nI i, ⟨rfl, rfl, .inl ⟨?_, rfl⟩⟩, ?_⟩
        · rw [an_s, z, decide_eq_false y, Bool.or_false]
        · unfold b_X10_writerPassed_42
          simp (disch := omega) only [h4, b1, hf, y, ↓lm1, ↓lm2, i0, i1, i2, i3, i4, i5, i6, i7, i8, i9, i10, i12, i16, i20, i24, i31, i32, i44, i48, i57, i59, i63, i64, i74, i75, i90, i96, i97, i99, i100, i122, i139, i140, i144, i192, i200, i240, i255, i304, i309, i310, i311, i323, i324, i325, i899, i900, i975, i999, i5200, i4875, i65536, i65537, i15, ob_some, nI_add, nI_clamp, zn_zib, zn_eq, zn_lt, zn_le, m2_lt, m2_le, lt_m2, le_m2, eq_m2, m2_eq, m1_lt, m1_le, lt_m1, le_m1, eq_m1, m1_eq, m1_m2, m2_m1, m2_lt_m1, bI_0, bI_1, bI_t, bI_f, bI_bo, nI0_bo, nI1_bo, if_true, if_false, ite_true, ite_false, Nat.zero_add, Nat.not_lt_zero, Nat.zero_le, not_true_eq_false, not_false_eq_true, or_false, false_or, true_or, or_true, and_true, true_and, Bool.false_eq_true, Bool.true_eq_false, reduceCtorEq, eq_self]
    · have hff : Mo_failed (wrS S (nI 3) (Mo_at S)) = nI 1 := rfl
      refine .inr ⟨wrS S (nI 3) (Mo_at S), a2, nI i, ⟨rfl, rfl, .inr ⟨?_, rfl⟩⟩, ?_⟩
      · rw [an_s, z, Bool.true_or]
      · unfold b_X10_writerPassed_42
        simp (disch := omega) only [h4, b1, hff, ↓lm1, ↓lm2, i0, i1, i2, i3, i4, i5, i6, i7, i8, i9, i10, i12, i16, i20, i24, i31, i32, i44, i48, i57, i59, i63, i64, i74, i75, i90, i96, i97, i99, i100, i122, i139, i140, i144, i192, i200, i240, i255, i304, i309, i310, i311, i323, i324, i325, i899, i900, i975, i999, i5200, i4875, i65536, i65537, i15, ob_some, nI_add, nI_clamp, zn_zib, zn_eq, zn_lt, zn_le, m2_lt, m2_le, lt_m2, le_m2, eq_m2, m2_eq, m1_lt, m1_le, lt_m1, le_m1, eq_m1, m1_eq, m1_m2, m2_m1, m2_lt_m1, bI_0, bI_1, bI_t, bI_f, bI_bo, nI0_bo, nI1_bo, if_true, if_false, ite_true, ite_false, Nat.zero_add, Nat.not_lt_zero, Nat.zero_le, not_true_eq_false, not_false_eq_true, or_false, false_or, true_or, or_true, and_true, true_and, Bool.false_eq_true, Bool.true_eq_false, reduceCtorEq, eq_self]
  · obtain ⟨rfl, rfl, hI⟩ := hI
    have b1 : u ≤ u := Nat.le_refl _
    unfold b_X10_writerPassed_42
    rcases hI with ⟨z, rfl⟩ | ⟨z, rfl⟩
    · simp (disch := omega) only [h4, b1, z, ↓lm1, ↓lm2, i0, i1, i2, i3, i4, i5, i6, i7, i8, i9, i10, i12, i16, i20, i24, i31, i32, i44, i48, i57, i59, i63, i64, i74, i75, i90, i96, i97, i99, i100, i122, i139, i140, i144, i192, i200, i240, i255, i304, i309, i310, i311, i323, i324, i325, i899, i900, i975, i999, i5200, i4875, i65536, i65537, i15, ob_some, nI_add, nI_clamp, zn_zib, zn_eq, zn_lt, zn_le, m2_lt, m2_le, lt_m2, le_m2, eq_m2, m2_eq, m1_lt, m1_le, lt_m1, le_m1, eq_m1, m1_eq, m1_m2, m2_m1, m2_lt_m1, bI_0, bI_1, bI_t, bI_f, bI_bo, nI0_bo, nI1_bo, if_true, if_false, ite_true, ite_false, Nat.zero_add, Nat.not_lt_zero, Nat.zero_le, not_true_eq_false, not_false_eq_true, or_false, false_or, true_or, or_true, and_true, true_and, Bool.false_eq_true, Bool.true_eq_false, reduceCtorEq, eq_self]
    · have hz := M_91f (S := wrS S (nI 3) (Mo_at S)) (lt := a2) (tp := tp) (sl := sl) (fr := fr) rfl (nI i) (nI 0)
      simp (disch := omega) only [h4, b1, z, hz, ↓lm1, ↓lm2, i0, i1, i2, i3, i4, i5, i6, i7, i8, i9, i10, i12, i16, i20, i24, i31, i32, i44, i48, i57, i59, i63, i64, i74, i75, i90, i96, i97, i99, i100, i122, i139, i140, i144, i192, i200, i240, i255, i304, i309, i310, i311, i323, i324, i325, i899, i900, i975, i999, i5200, i4875, i65536, i65537, i15, ob_some, nI_add, nI_clamp, zn_zib, zn_eq, zn_lt, zn_le, m2_lt, m2_le, lt_m2, le_m2, eq_m2, m2_eq, m1_lt, m1_le, lt_m1, le_m1, eq_m1, m1_eq, m1_m2, m2_m1, m2_lt_m1, bI_0, bI_1, bI_t, bI_f, bI_bo, nI0_bo, nI1_bo, if_true, if_false, ite_true, ite_false, Nat.zero_add, Nat.not_lt_zero, Nat.zero_le, not_true_eq_false, not_false_eq_true, or_false, false_or, true_or, or_true, and_true, true_and, Bool.false_eq_true, Bool.true_eq_false, reduceCtorEq, eq_self]
theorem T_isUnsure (hu : UN (Rd_unsureNames D) fr kn u) (hc : Rd_unsureCount D = nI u) (hkn : kn ≤ 12) {i : Nat} (hi : i < 12) : f_X5_isUnsure D (nI i) = some (bI (an (fun k => decide (fr (8 + k) = nI i)) u)) := by
  have hu4 := hu.1
  unfold f_X5_isUnsure
  refine zl1_up u 0 (fun j => an (fun k => decide (fr (8 + k) = nI i)) j = false) _ (by omega) (Nat.zero_le _) rfl (fun k j hj hI => ?_) (fun k hI => ?_)
  · have b1 : ¬ u ≤ j := by omega
    have b2 : ¬ 4 ≤ j := by omega
    obtain ⟨x, x1, x2, x3⟩ := hu.2.2 j hj
    unfold b_X5_isUnsure_2
    by_cases y : x = i
    · refine .inl ?_
      have : an (fun k => decide (fr (8 + k) = nI i)) u = true := an_iff.mpr ⟨j, hj, decide_eq_true (by rw [x3, y])⟩
      rw [this]
      simp (disch := omega) only [hc, b1, b2, x2, y, ↓lm1, ↓lm2, i0, i1, i2, i3, i4, i5, i6, i7, i8, i9, i10, i12, i16, i20, i24, i31, i32, i44, i48, i57, i59, i63, i64, i74, i75, i90, i96, i97, i99, i100, i122, i139, i140, i144, i192, i200, i240, i255, i304, i309, i310, i311, i323, i324, i325, i899, i900, i975, i999, i5200, i4875, i65536, i65537, i15, ob_some, nI_add, nI_clamp, zn_zib, zn_eq, zn_lt, zn_le, m2_lt, m2_le, lt_m2, le_m2, eq_m2, m2_eq, m1_lt, m1_le, lt_m1, le_m1, eq_m1, m1_eq, m1_m2, m2_m1, m2_lt_m1, bI_0, bI_1, bI_t, bI_f, bI_bo, nI0_bo, nI1_bo, if_true, if_false, ite_true, ite_false, Nat.zero_add, Nat.not_lt_zero, Nat.zero_le, not_true_eq_false, not_false_eq_true, or_false, false_or, true_or, or_true, and_true, true_and, Bool.false_eq_true, Bool.true_eq_false, reduceCtorEq, eq_self]
    · refine .inr ⟨?_, ?_⟩
      · rw [an_s, hI, decide_eq_false (by rw [x3, zn_eq (by omega) (by omega)]; exact y)]
        rfl
      · simp (disch := omega) only [hc, b1, b2, x2, y, ↓lm1, ↓lm2, i0, i1, i2, i3, i4, i5, i6, i7, i8, i9, i10, i12, i16, i20, i24, i31, i32, i44, i48, i57, i59, i63, i64, i74, i75, i90, i96, i97, i99, i100, i122, i139, i140, i144, i192, i200, i240, i255, i304, i309, i310, i311, i323, i324, i325, i899, i900, i975, i999, i5200, i4875, i65536, i65537, i15, ob_some, nI_add, nI_clamp, zn_zib, zn_eq, zn_lt, zn_le, m2_lt, m2_le, lt_m2, le_m2, eq_m2, m2_eq, m1_lt, m1_le, lt_m1, le_m1, eq_m1, m1_eq, m1_m2, m2_m1, m2_lt_m1, bI_0, bI_1, bI_t, bI_f, bI_bo, nI0_bo, nI1_bo, if_true, if_false, ite_true, ite_false, Nat.zero_add, Nat.not_lt_zero, Nat.zero_le, not_true_eq_false, not_false_eq_true, or_false, false_or, true_or, or_true, and_true, true_and, Bool.false_eq_true, Bool.true_eq_false, reduceCtorEq, eq_self]
  · have b1 : u ≤ u := Nat.le_refl _
    unfold b_X5_isUnsure_2
    rw [hI]
    simp (disch := omega) only [hc, b1, ↓lm1, ↓lm2, i0, i1, i2, i3, i4, i5, i6, i7, i8, i9, i10, i12, i16, i20, i24, i31, i32, i44, i48, i57, i59, i63, i64, i74, i75, i90, i96, i97, i99, i100, i122, i139, i140, i144, i192, i200, i240, i255, i304, i309, i310, i311, i323, i324, i325, i899, i900, i975, i999, i5200, i4875, i65536, i65537, i15, ob_some, nI_add, nI_clamp, zn_zib, zn_eq, zn_lt, zn_le, m2_lt, m2_le, lt_m2, le_m2, eq_m2, m2_eq, m1_lt, m1_le, lt_m1, le_m1, eq_m1, m1_eq, m1_m2, m2_m1, m2_lt_m1, bI_0, bI_1, bI_t, bI_f, bI_bo, nI0_bo, nI1_bo, if_true, if_false, ite_true, ite_false, Nat.zero_add, Nat.not_lt_zero, Nat.zero_le, not_true_eq_false, not_false_eq_true, or_false, false_or, true_or, or_true, and_true, true_and, Bool.false_eq_true, Bool.true_eq_false, reduceCtorEq, eq_self]
def dUn (D : SRd) (u i : Nat) : SRd := mkRd (Rd_fault D) (Rd_place D) (Rd_nameCount D) (Rd_names D) (Rd_nameStamps D) (Rd_nameSlots D) (upd (Rd_unsureNames D) u (nI i)) (nI (u + 1)) (Rd_head D) (Rd_name D) (Rd_row D) (Rd_whole D)
theorem LO_tr {D' : SRd} {E' : SEv} {R' : SRows} {T' : STape} (X : MXt) (h : f_X5_readLine D E R T = some (nI 0, D', E', R', T')) (hm : mr = some X) (f : TE T T' ∧ FM S X.1 ∧ Mo_failed X.1 = nI 0 ∧ NE X.1 ∧ Rd_fault D' = nI 1 ∧ Rd_place D' = Mo_at X.1) : LO D E R T S mr kf L p b := .inr ⟨D', T', X, ⟨E', R', .inl h⟩, hm, .inr f⟩
theorem line_8 (C : CX T S tp kf L) (hk : TK T S lt kf L p) (hw : TKw T S lt kf L p e) (hr : f_X7_reserved T = some (some 8)) (hj : f_X10_isWord S lt 8 = some (nI 1)) (g : ∀ x, x < 11 → x ≠ 8 → f_X10_isWord S lt x = some (nI 0)) (P : PS D E R S fr oq ow rd sl kf n m c b) (hb : b + 1 < 2 ^ 29) : LO D E R T S (f_X10_readLine S fr lt mk oq ow rd sl tp) kf L p b := by
  obtain ⟨S1, lt1, s1, s2, s3⟩ := go_w C hw
  have C1 := CX_TE C (TE_rfl T) s3
  obtain ⟨kn, u, ev, po, le, rw', f1, f2, hd, rg, F, nc, n6, hN, ho, hs, hq, uc, hu, hsn⟩ := id P
  have hring := PS_ring P
  have hrl := T_rl_8 (D := D) (E := E) hr hring
  have hf := C.2.2.2.2.2
  have hf1 := C1.2.2.2.2.2
  have hu4 := hu.1
  have h4 := hu.2.1
  have hkn := hN.1
  have hm := WS_m (RC_W F.1)
  have uc' : Rd_unsureCount (dHd D (some 8)) = nI u := uc
  unfold f_X5_readUnsure at hrl
  by_cases q : u < 4
  · rw [M_rl_8 hf hj g hd.2.2.2 h4 q]
    unfold f_X10_unsureLine f_X10_writerPassed
    rcases b_name (D := dHd D (some 8)) C1 s2 hN nc with ⟨T1, p1, e1, n1, n2, n3, n4, n5, n6', n7⟩ | ⟨D', T1, n1, n2, n3⟩
    · have hst := n6'.1.trans n6'.2.1.symm
      have C1' : CX T1 S1 tp kf L := CX_TE C1 n4 (SE_rfl S1)
      cases z : fi (nmP kf po le kn p1 (e1 - p1)) 12 with
      | none =>
        rw [z] at n1 n3
        have n1' : f_X5_takeName (dHd D (some 8)) T = some (nI 1, dNm (dHd D (some 8)) m2, T1) := n1
        have n3' : f_X10_find S1 fr lt1 = some m1 := n3
        have en : Rd_name (dNm (dHd D (some 8)) m2) = m2 := rfl
        have hz := M_wpUf (S := wrS S1 (nI 2) (Mo_at S1)) (lt := lt1) (tp := tp) (sl := sl) h4 hu4 rfl m1
        have hff : Mo_failed (wrS S1 (nI 2) (Mo_at S1)) = nI 1 := rfl
        refine LO_bad (wrS S1 (nI 2) (Mo_at S1), fr, lt1, mk, oq, ow, rd, sl) (E' := E) (R' := R) (T' := T1) (D' := flD (dNm (dHd D (some 8)) m2) (nI 2) (Tape_start T1)) ?_ ?_ ⟨n4, FM_trans (SE_FM s3) (FM_wr _ _ _), rfl, rfl, hst⟩
        · rw [hrl]
          simp (disch := omega) only [uc', q, n1', en, T_fail, ↓lm1, ↓lm2, i0, i1, i2, i3, i4, i5, i6, i7, i8, i9, i10, i12, i16, i20, i24, i31, i32, i44, i48, i57, i59, i63, i64, i74, i75, i90, i96, i97, i99, i100, i122, i139, i140, i144, i192, i200, i240, i255, i304, i309, i310, i311, i323, i324, i325, i899, i900, i975, i999, i5200, i4875, i65536, i65537, i15, ob_some, nI_add, nI_clamp, zn_zib, zn_eq, zn_lt, zn_le, m2_lt, m2_le, lt_m2, le_m2, eq_m2, m2_eq, m1_lt, m1_le, lt_m1, le_m1, eq_m1, m1_eq, m1_m2, m2_m1, m2_lt_m1, bI_0, bI_1, bI_t, bI_f, bI_bo, nI0_bo, nI1_bo, if_true, if_false, ite_true, ite_false, Nat.zero_add, Nat.not_lt_zero, Nat.zero_le, not_true_eq_false, not_false_eq_true, or_false, false_or, true_or, or_true, and_true, true_and, Bool.false_eq_true, Bool.true_eq_false, reduceCtorEq, eq_self]
        · simp (disch := omega) only [s1, hf1, n2, n3', M_wrong hf1, hz, hff, ↓lm1, ↓lm2, i0, i1, i2, i3, i4, i5, i6, i7, i8, i9, i10, i12, i16, i20, i24, i31, i32, i44, i48, i57, i59, i63, i64, i74, i75, i90, i96, i97, i99, i100, i122, i139, i140, i144, i192, i200, i240, i255, i304, i309, i310, i311, i323, i324, i325, i899, i900, i975, i999, i5200, i4875, i65536, i65537, i15, ob_some, nI_add, nI_clamp, zn_zib, zn_eq, zn_lt, zn_le, m2_lt, m2_le, lt_m2, le_m2, eq_m2, m2_eq, m1_lt, m1_le, lt_m1, le_m1, eq_m1, m1_eq, m1_m2, m2_m1, m2_lt_m1, bI_0, bI_1, bI_t, bI_f, bI_bo, nI0_bo, nI1_bo, if_true, if_false, ite_true, ite_false, Nat.zero_add, Nat.not_lt_zero, Nat.zero_le, not_true_eq_false, not_false_eq_true, or_false, false_or, true_or, or_true, and_true, true_and, Bool.false_eq_true, Bool.true_eq_false, reduceCtorEq, eq_self]
      | some i =>
        rw [z] at n1 n3
        have n1' : f_X5_takeName (dHd D (some 8)) T = some (nI 1, dNm (dHd D (some 8)) (nI i), T1) := n1
        have n3' : f_X10_find S1 fr lt1 = some (nI i) := n3
        have en : Rd_name (dNm (dHd D (some 8)) (nI i)) = nI i := rfl
        have uc2 : Rd_unsureCount (dNm (dHd D (some 8)) (nI i)) = nI u := uc
        have hi := nmP_lt (fi_some z).2.1
        have hiu := T_isUnsure (D := dNm (dHd D (some 8)) (nI i)) (i := i) hu uc hkn (by omega)
        have hz := M_wpU (S := S1) (lt := lt1) (tp := tp) (sl := sl) (i := i) h4 hu4 hf1 (by omega)
        have hsl := T_slotNamed_at (D := dNm (dHd D (some 8)) (nI i)) (i := i) (by omega)
        cases y : an (fun k => decide (fr (8 + k) = nI i)) u
        · rw [y] at hiu hz
          rw [if_neg (by decide)] at hz
          rcases hs i hi with ⟨x1, x2⟩ | ⟨w, hw6, x1, x2⟩
          · have x1' : Rd_nameSlots (dNm (dHd D (some 8)) (nI i)) i = m2 := x1
            rw [x1'] at hsl
            obtain ⟨S2, lt2, g1, g2, g3⟩ := go_w C1' n7
            have C2 := CX_TE C1' (TE_rfl T1) g3
            have hf2 := C2.2.2.2.2.2
            have s4 := SE_trans s3 g3
            have l0 : 0 ≤ 0 := Nat.le_refl 0
            unfold b_X10_writerPassed_91 b_X10_writerPassed_126 f_X10_pass at hz
            simp (disch := omega) only [hf1, x2, l0, g1, hf2, ↓lm1, ↓lm2, i0, i1, i2, i3, i4, i5, i6, i7, i8, i9, i10, i12, i16, i20, i24, i31, i32, i44, i48, i57, i59, i63, i64, i74, i75, i90, i96, i97, i99, i100, i122, i139, i140, i144, i192, i200, i240, i255, i304, i309, i310, i311, i323, i324, i325, i899, i900, i975, i999, i5200, i4875, i65536, i65537, i15, ob_some, nI_add, nI_clamp, zn_zib, zn_eq, zn_lt, zn_le, m2_lt, m2_le, lt_m2, le_m2, eq_m2, m2_eq, m1_lt, m1_le, lt_m1, le_m1, eq_m1, m1_eq, m1_m2, m2_m1, m2_lt_m1, bI_0, bI_1, bI_t, bI_f, bI_bo, nI0_bo, nI1_bo, if_true, if_false, ite_true, ite_false, Nat.zero_add, Nat.not_lt_zero, Nat.zero_le, not_true_eq_false, not_false_eq_true, or_false, false_or, true_or, or_true, and_true, true_and, Bool.false_eq_true, Bool.true_eq_false, reduceCtorEq, eq_self] at hz
            have hmr : (f_X10_step S lt tp).bind (fun q1 => (if Mo_failed q1.1 = 0 then (f_X10_mustName q1.1 q1.2).bind (fun q5 => if Mo_failed q5 = 0 then (f_X10_find q5 fr q1.2).bind (fun q6 => if 0 ≤ q6 then zl4 (b_X10_writerPassed_42 fr sl tp 0) FU q5 q1.2 q6 0 else (f_X10_wrong q5 2 (Mo_at q5)).bind (fun q7 => zl4 (b_X10_writerPassed_42 fr sl tp 0) FU q7 q1.2 q6 0)) else some (0, q5, q1.2)) else some (0, q1.1, q1.2))) = some (nI i, S2, lt2) := by
              simp (disch := omega) only [s1, hf1, n2, n3', hz, ↓lm1, ↓lm2, i0, i1, i2, i3, i4, i5, i6, i7, i8, i9, i10, i12, i16, i20, i24, i31, i32, i44, i48, i57, i59, i63, i64, i74, i75, i90, i96, i97, i99, i100, i122, i139, i140, i144, i192, i200, i240, i255, i304, i309, i310, i311, i323, i324, i325, i899, i900, i975, i999, i5200, i4875, i65536, i65537, i15, ob_some, nI_add, nI_clamp, zn_zib, zn_eq, zn_lt, zn_le, m2_lt, m2_le, lt_m2, le_m2, eq_m2, m2_eq, m1_lt, m1_le, lt_m1, le_m1, eq_m1, m1_eq, m1_m2, m2_m1, m2_lt_m1, bI_0, bI_1, bI_t, bI_f, bI_bo, nI0_bo, nI1_bo, if_true, if_false, ite_true, ite_false, Nat.zero_add, Nat.not_lt_zero, Nat.zero_le, not_true_eq_false, not_false_eq_true, or_false, false_or, true_or, or_true, and_true, true_and, Bool.false_eq_true, Bool.true_eq_false, reduceCtorEq, eq_self]
            rcases b_end (D := dUn (dNm (dHd D (some 8)) (nI i)) u i) g2 with ⟨T2, p2, e1', e2, e3, e4⟩ | ⟨T2, e1', e2, e3⟩
            · unfold dUn at e1'
              rw [en] at e1'
              have hE : upd (upd fr (8 + u) (nI i)) 4 (nI (u + 1)) 4 = nI (u + 1) := upd_eq
              have hne : ∀ k, k ≠ 4 → k ≠ 8 + u → upd (upd fr (8 + u) (nI i)) 4 (nI (u + 1)) k = fr k := fun k h1 h2 => by rw [upd_ne h1, upd_ne h2]
              have hu8 : upd (upd fr (8 + u) (nI i)) 4 (nI (u + 1)) (8 + u) = nI i := by rw [upd_ne (by omega), upd_eq]
              have hda := T_da_8 (R := R) (D := dUn (dNm (dHd D (some 8)) (nI i)) u i) rfl ((T_slotNamed_at (D := dUn (dNm (dHd D (some 8)) (nI i)) u i) (i := i) (by omega)))
              refine .inl ⟨dUn (dNm (dHd D (some 8)) (nI i)) u i, E, R, T2, dUn (dNm (dHd D (some 8)) (nI i)) u i, R, p2, n, m, c, (S2, upd (upd fr (8 + u) (nI i)) 4 (nI (u + 1)), lt2, mk, oq, ow, rd, sl), ?_, hda, ?_, TE_trans n4 e2, SE_FM s4, hf2, SE_size s4, by omega, e4, ⟨kn, u + 1, ev, po, le, rw', f1, (SE_fault s4).trans f2, HD_cong hd (hne 0 (by omega) (by omega)) (hne 1 (by omega) (by omega)) (hne 3 (by omega) (by omega)) (hne 7 (by omega) (by omega)), (SE_ring s4).trans rg, FR_mono (by omega) hb F, nc, (hne 6 (by omega) (by omega)).trans n6, NR_cong hN (fun k h1 h2 => hne k (by omega) (by omega)), OW_cong hkn ho (fun k h1 h2 => hne k (by omega) (by omega)), hs, hq, rfl, ⟨by omega, hE, fun k hk => ?_⟩, SN_cong hm.2 hsn (hne 5 (by omega) (by omega)) (fun k h1 h2 => hne k (by omega) (by omega))⟩⟩
              · rw [hrl]
                simp (disch := omega) only [uc', uc2, q, n1', en, hiu, hsl, e1', ↓lm1, ↓lm2, i0, i1, i2, i3, i4, i5, i6, i7, i8, i9, i10, i12, i16, i20, i24, i31, i32, i44, i48, i57, i59, i63, i64, i74, i75, i90, i96, i97, i99, i100, i122, i139, i140, i144, i192, i200, i240, i255, i304, i309, i310, i311, i323, i324, i325, i899, i900, i975, i999, i5200, i4875, i65536, i65537, i15, ob_some, nI_add, nI_clamp, zn_zib, zn_eq, zn_lt, zn_le, m2_lt, m2_le, lt_m2, le_m2, eq_m2, m2_eq, m1_lt, m1_le, lt_m1, le_m1, eq_m1, m1_eq, m1_m2, m2_m1, m2_lt_m1, bI_0, bI_1, bI_t, bI_f, bI_bo, nI0_bo, nI1_bo, if_true, if_false, ite_true, ite_false, Nat.zero_add, Nat.not_lt_zero, Nat.zero_le, not_true_eq_false, not_false_eq_true, or_false, false_or, true_or, or_true, and_true, true_and, Bool.false_eq_true, Bool.true_eq_false, reduceCtorEq, eq_self]
                rfl
              · have h4' : upd fr (8 + u) (nI i) 4 = nI u := by rw [upd_ne (by omega)]; exact h4
                have hmr' := hmr
                simp (disch := omega) only [hf2, h4, h4', ↓lm1, ↓lm2, i0, i1, i2, i3, i4, i5, i6, i7, i8, i9, i10, i12, i16, i20, i24, i31, i32, i44, i48, i57, i59, i63, i64, i74, i75, i90, i96, i97, i99, i100, i122, i139, i140, i144, i192, i200, i240, i255, i304, i309, i310, i311, i323, i324, i325, i899, i900, i975, i999, i5200, i4875, i65536, i65537, i15, ob_some, nI_add, nI_clamp, zn_zib, zn_eq, zn_lt, zn_le, m2_lt, m2_le, lt_m2, le_m2, eq_m2, m2_eq, m1_lt, m1_le, lt_m1, le_m1, eq_m1, m1_eq, m1_m2, m2_m1, m2_lt_m1, bI_0, bI_1, bI_t, bI_f, bI_bo, nI0_bo, nI1_bo, if_true, if_false, ite_true, ite_false, Nat.zero_add, Nat.not_lt_zero, Nat.zero_le, not_true_eq_false, not_false_eq_true, or_false, false_or, true_or, or_true, and_true, true_and, Bool.false_eq_true, Bool.true_eq_false, reduceCtorEq, eq_self] at hmr' ⊢
                rw [s1, ob_some] at hmr' ⊢
                dsimp only at hmr' ⊢
                rw [hmr', ob_some]
                simp (disch := omega) only [hf2, h4, h4', ↓lm1, ↓lm2, i0, i1, i2, i3, i4, i5, i6, i7, i8, i9, i10, i12, i16, i20, i24, i31, i32, i44, i48, i57, i59, i63, i64, i74, i75, i90, i96, i97, i99, i100, i122, i139, i140, i144, i192, i200, i240, i255, i304, i309, i310, i311, i323, i324, i325, i899, i900, i975, i999, i5200, i4875, i65536, i65537, i15, ob_some, nI_add, nI_clamp, zn_zib, zn_eq, zn_lt, zn_le, m2_lt, m2_le, lt_m2, le_m2, eq_m2, m2_eq, m1_lt, m1_le, lt_m1, le_m1, eq_m1, m1_eq, m1_m2, m2_m1, m2_lt_m1, bI_0, bI_1, bI_t, bI_f, bI_bo, nI0_bo, nI1_bo, if_true, if_false, ite_true, ite_false, Nat.zero_add, Nat.not_lt_zero, Nat.zero_le, not_true_eq_false, not_false_eq_true, or_false, false_or, true_or, or_true, and_true, true_and, Bool.false_eq_true, Bool.true_eq_false, reduceCtorEq, eq_self]
              · show ∃ j, j < kn ∧ upd (Rd_unsureNames D) u (nI i) k = nI j ∧ upd (upd fr (8 + u) (nI i)) 4 (nI (u + 1)) (8 + k) = nI j
                by_cases w : k = u
                · rw [w, upd_eq, hu8]
                  exact ⟨i, hi, rfl, rfl⟩
                · rw [upd_ne w, hne _ (by omega) (by omega)]
                  exact hu.2.2 k (by omega)
            · unfold dUn at e1'
              rw [en] at e1'
              refine LO_tr (S2, upd (upd fr (8 + u) (nI i)) 4 (nI (u + 1)), lt2, mk, oq, ow, rd, sl) (E' := E) (R' := R) (T' := T2) (D' := flD (dUn (dNm (dHd D (some 8)) (nI i)) u i) (nI 1) (Mo_at S2)) ?_ ?_ ⟨TE_trans n4 e2, SE_FM s4, hf2, e3, rfl, rfl⟩
              · rw [hrl]
                simp (disch := omega) only [uc', uc2, q, n1', en, hiu, hsl, e1', ↓lm1, ↓lm2, i0, i1, i2, i3, i4, i5, i6, i7, i8, i9, i10, i12, i16, i20, i24, i31, i32, i44, i48, i57, i59, i63, i64, i74, i75, i90, i96, i97, i99, i100, i122, i139, i140, i144, i192, i200, i240, i255, i304, i309, i310, i311, i323, i324, i325, i899, i900, i975, i999, i5200, i4875, i65536, i65537, i15, ob_some, nI_add, nI_clamp, zn_zib, zn_eq, zn_lt, zn_le, m2_lt, m2_le, lt_m2, le_m2, eq_m2, m2_eq, m1_lt, m1_le, lt_m1, le_m1, eq_m1, m1_eq, m1_m2, m2_m1, m2_lt_m1, bI_0, bI_1, bI_t, bI_f, bI_bo, nI0_bo, nI1_bo, if_true, if_false, ite_true, ite_false, Nat.zero_add, Nat.not_lt_zero, Nat.zero_le, not_true_eq_false, not_false_eq_true, or_false, false_or, true_or, or_true, and_true, true_and, Bool.false_eq_true, Bool.true_eq_false, reduceCtorEq, eq_self]
                rfl
              · have h4' : upd fr (8 + u) (nI i) 4 = nI u := by rw [upd_ne (by omega)]; exact h4
                have hmr' := hmr
                simp (disch := omega) only [hf2, h4, h4', ↓lm1, ↓lm2, i0, i1, i2, i3, i4, i5, i6, i7, i8, i9, i10, i12, i16, i20, i24, i31, i32, i44, i48, i57, i59, i63, i64, i74, i75, i90, i96, i97, i99, i100, i122, i139, i140, i144, i192, i200, i240, i255, i304, i309, i310, i311, i323, i324, i325, i899, i900, i975, i999, i5200, i4875, i65536, i65537, i15, ob_some, nI_add, nI_clamp, zn_zib, zn_eq, zn_lt, zn_le, m2_lt, m2_le, lt_m2, le_m2, eq_m2, m2_eq, m1_lt, m1_le, lt_m1, le_m1, eq_m1, m1_eq, m1_m2, m2_m1, m2_lt_m1, bI_0, bI_1, bI_t, bI_f, bI_bo, nI0_bo, nI1_bo, if_true, if_false, ite_true, ite_false, Nat.zero_add, Nat.not_lt_zero, Nat.zero_le, not_true_eq_false, not_false_eq_true, or_false, false_or, true_or, or_true, and_true, true_and, Bool.false_eq_true, Bool.true_eq_false, reduceCtorEq, eq_self] at hmr' ⊢
                rw [s1, ob_some] at hmr' ⊢
                dsimp only at hmr' ⊢
                rw [hmr', ob_some]
                simp (disch := omega) only [hf2, h4, h4', ↓lm1, ↓lm2, i0, i1, i2, i3, i4, i5, i6, i7, i8, i9, i10, i12, i16, i20, i24, i31, i32, i44, i48, i57, i59, i63, i64, i74, i75, i90, i96, i97, i99, i100, i122, i139, i140, i144, i192, i200, i240, i255, i304, i309, i310, i311, i323, i324, i325, i899, i900, i975, i999, i5200, i4875, i65536, i65537, i15, ob_some, nI_add, nI_clamp, zn_zib, zn_eq, zn_lt, zn_le, m2_lt, m2_le, lt_m2, le_m2, eq_m2, m2_eq, m1_lt, m1_le, lt_m1, le_m1, eq_m1, m1_eq, m1_m2, m2_m1, m2_lt_m1, bI_0, bI_1, bI_t, bI_f, bI_bo, nI0_bo, nI1_bo, if_true, if_false, ite_true, ite_false, Nat.zero_add, Nat.not_lt_zero, Nat.zero_le, not_true_eq_false, not_false_eq_true, or_false, false_or, true_or, or_true, and_true, true_and, Bool.false_eq_true, Bool.true_eq_false, reduceCtorEq, eq_self]
          · have x1' : Rd_nameSlots (dNm (dHd D (some 8)) (nI i)) i = nI w := x1
            rw [x1'] at hsl
            have hff : Mo_failed (wrS S1 (nI 7) (Mo_at S1)) = nI 1 := rfl
            have hz2 := M_126f (S := wrS S1 (nI 7) (Mo_at S1)) (lt := lt1) (tp := tp) (sl := sl) (fr := fr) rfl (nI i) (nI 0)
            have l0 : ¬ w + 1 ≤ 0 := by omega
            unfold b_X10_writerPassed_91 at hz
            simp (disch := omega) only [hf1, x2, l0, M_wrong hf1, hz2, ↓lm1, ↓lm2, i0, i1, i2, i3, i4, i5, i6, i7, i8, i9, i10, i12, i16, i20, i24, i31, i32, i44, i48, i57, i59, i63, i64, i74, i75, i90, i96, i97, i99, i100, i122, i139, i140, i144, i192, i200, i240, i255, i304, i309, i310, i311, i323, i324, i325, i899, i900, i975, i999, i5200, i4875, i65536, i65537, i15, ob_some, nI_add, nI_clamp, zn_zib, zn_eq, zn_lt, zn_le, m2_lt, m2_le, lt_m2, le_m2, eq_m2, m2_eq, m1_lt, m1_le, lt_m1, le_m1, eq_m1, m1_eq, m1_m2, m2_m1, m2_lt_m1, bI_0, bI_1, bI_t, bI_f, bI_bo, nI0_bo, nI1_bo, if_true, if_false, ite_true, ite_false, Nat.zero_add, Nat.not_lt_zero, Nat.zero_le, not_true_eq_false, not_false_eq_true, or_false, false_or, true_or, or_true, and_true, true_and, Bool.false_eq_true, Bool.true_eq_false, reduceCtorEq, eq_self] at hz
            refine LO_bad (wrS S1 (nI 7) (Mo_at S1), fr, lt1, mk, oq, ow, rd, sl) (E' := E) (R' := R) (T' := T1) (D' := flD (dNm (dHd D (some 8)) (nI i)) (nI 7) (Tape_start T1)) ?_ ?_ ⟨n4, FM_trans (SE_FM s3) (FM_wr _ _ _), rfl, rfl, hst⟩
            · rw [hrl]
              simp (disch := omega) only [uc', q, n1', en, hiu, hsl, T_fail, ↓lm1, ↓lm2, i0, i1, i2, i3, i4, i5, i6, i7, i8, i9, i10, i12, i16, i20, i24, i31, i32, i44, i48, i57, i59, i63, i64, i74, i75, i90, i96, i97, i99, i100, i122, i139, i140, i144, i192, i200, i240, i255, i304, i309, i310, i311, i323, i324, i325, i899, i900, i975, i999, i5200, i4875, i65536, i65537, i15, ob_some, nI_add, nI_clamp, zn_zib, zn_eq, zn_lt, zn_le, m2_lt, m2_le, lt_m2, le_m2, eq_m2, m2_eq, m1_lt, m1_le, lt_m1, le_m1, eq_m1, m1_eq, m1_m2, m2_m1, m2_lt_m1, bI_0, bI_1, bI_t, bI_f, bI_bo, nI0_bo, nI1_bo, if_true, if_false, ite_true, ite_false, Nat.zero_add, Nat.not_lt_zero, Nat.zero_le, not_true_eq_false, not_false_eq_true, or_false, false_or, true_or, or_true, and_true, true_and, Bool.false_eq_true, Bool.true_eq_false, reduceCtorEq, eq_self]
            · simp (disch := omega) only [s1, hf1, n2, n3', hz, hff, ↓lm1, ↓lm2, i0, i1, i2, i3, i4, i5, i6, i7, i8, i9, i10, i12, i16, i20, i24, i31, i32, i44, i48, i57, i59, i63, i64, i74, i75, i90, i96, i97, i99, i100, i122, i139, i140, i144, i192, i200, i240, i255, i304, i309, i310, i311, i323, i324, i325, i899, i900, i975, i999, i5200, i4875, i65536, i65537, i15, ob_some, nI_add, nI_clamp, zn_zib, zn_eq, zn_lt, zn_le, m2_lt, m2_le, lt_m2, le_m2, eq_m2, m2_eq, m1_lt, m1_le, lt_m1, le_m1, eq_m1, m1_eq, m1_m2, m2_m1, m2_lt_m1, bI_0, bI_1, bI_t, bI_f, bI_bo, nI0_bo, nI1_bo, if_true, if_false, ite_true, ite_false, Nat.zero_add, Nat.not_lt_zero, Nat.zero_le, not_true_eq_false, not_false_eq_true, or_false, false_or, true_or, or_true, and_true, true_and, Bool.false_eq_true, Bool.true_eq_false, reduceCtorEq, eq_self]
        · rw [y] at hiu hz
          rw [if_pos rfl] at hz
          have hff : Mo_failed (wrS S1 (nI 3) (Mo_at S1)) = nI 1 := rfl
          refine LO_bad (wrS S1 (nI 3) (Mo_at S1), fr, lt1, mk, oq, ow, rd, sl) (E' := E) (R' := R) (T' := T1) (D' := flD (dNm (dHd D (some 8)) (nI i)) (nI 3) (Tape_start T1)) ?_ ?_ ⟨n4, FM_trans (SE_FM s3) (FM_wr _ _ _), rfl, rfl, hst⟩
          · rw [hrl]
            simp (disch := omega) only [uc', q, n1', en, hiu, T_fail, ↓lm1, ↓lm2, i0, i1, i2, i3, i4, i5, i6, i7, i8, i9, i10, i12, i16, i20, i24, i31, i32, i44, i48, i57, i59, i63, i64, i74, i75, i90, i96, i97, i99, i100, i122, i139, i140, i144, i192, i200, i240, i255, i304, i309, i310, i311, i323, i324, i325, i899, i900, i975, i999, i5200, i4875, i65536, i65537, i15, ob_some, nI_add, nI_clamp, zn_zib, zn_eq, zn_lt, zn_le, m2_lt, m2_le, lt_m2, le_m2, eq_m2, m2_eq, m1_lt, m1_le, lt_m1, le_m1, eq_m1, m1_eq, m1_m2, m2_m1, m2_lt_m1, bI_0, bI_1, bI_t, bI_f, bI_bo, nI0_bo, nI1_bo, if_true, if_false, ite_true, ite_false, Nat.zero_add, Nat.not_lt_zero, Nat.zero_le, not_true_eq_false, not_false_eq_true, or_false, false_or, true_or, or_true, and_true, true_and, Bool.false_eq_true, Bool.true_eq_false, reduceCtorEq, eq_self]
          · simp (disch := omega) only [s1, hf1, n2, n3', hz, hff, ↓lm1, ↓lm2, i0, i1, i2, i3, i4, i5, i6, i7, i8, i9, i10, i12, i16, i20, i24, i31, i32, i44, i48, i57, i59, i63, i64, i74, i75, i90, i96, i97, i99, i100, i122, i139, i140, i144, i192, i200, i240, i255, i304, i309, i310, i311, i323, i324, i325, i899, i900, i975, i999, i5200, i4875, i65536, i65537, i15, ob_some, nI_add, nI_clamp, zn_zib, zn_eq, zn_lt, zn_le, m2_lt, m2_le, lt_m2, le_m2, eq_m2, m2_eq, m1_lt, m1_le, lt_m1, le_m1, eq_m1, m1_eq, m1_m2, m2_m1, m2_lt_m1, bI_0, bI_1, bI_t, bI_f, bI_bo, nI0_bo, nI1_bo, if_true, if_false, ite_true, ite_false, Nat.zero_add, Nat.not_lt_zero, Nat.zero_le, not_true_eq_false, not_false_eq_true, or_false, false_or, true_or, or_true, and_true, true_and, Bool.false_eq_true, Bool.true_eq_false, reduceCtorEq, eq_self]
    · have hff : Mo_failed (wrS S1 (nI 1) (Mo_at S1)) = nI 1 := rfl
      refine LO_bad (wrS S1 (nI 1) (Mo_at S1), fr, lt1, mk, oq, ow, rd, sl) (E' := E) (R' := R) (T' := T1) (D' := D') ?_ ?_ (FB_pre (TE_rfl T) s3 n3)
      · rw [hrl]
        simp (disch := omega) only [uc', q, n1, ↓lm1, ↓lm2, i0, i1, i2, i3, i4, i5, i6, i7, i8, i9, i10, i12, i16, i20, i24, i31, i32, i44, i48, i57, i59, i63, i64, i74, i75, i90, i96, i97, i99, i100, i122, i139, i140, i144, i192, i200, i240, i255, i304, i309, i310, i311, i323, i324, i325, i899, i900, i975, i999, i5200, i4875, i65536, i65537, i15, ob_some, nI_add, nI_clamp, zn_zib, zn_eq, zn_lt, zn_le, m2_lt, m2_le, lt_m2, le_m2, eq_m2, m2_eq, m1_lt, m1_le, lt_m1, le_m1, eq_m1, m1_eq, m1_m2, m2_m1, m2_lt_m1, bI_0, bI_1, bI_t, bI_f, bI_bo, nI0_bo, nI1_bo, if_true, if_false, ite_true, ite_false, Nat.zero_add, Nat.not_lt_zero, Nat.zero_le, not_true_eq_false, not_false_eq_true, or_false, false_or, true_or, or_true, and_true, true_and, Bool.false_eq_true, Bool.true_eq_false, reduceCtorEq, eq_self]
      · simp (disch := omega) only [s1, hf1, n2, hff, ↓lm1, ↓lm2, i0, i1, i2, i3, i4, i5, i6, i7, i8, i9, i10, i12, i16, i20, i24, i31, i32, i44, i48, i57, i59, i63, i64, i74, i75, i90, i96, i97, i99, i100, i122, i139, i140, i144, i192, i200, i240, i255, i304, i309, i310, i311, i323, i324, i325, i899, i900, i975, i999, i5200, i4875, i65536, i65537, i15, ob_some, nI_add, nI_clamp, zn_zib, zn_eq, zn_lt, zn_le, m2_lt, m2_le, lt_m2, le_m2, eq_m2, m2_eq, m1_lt, m1_le, lt_m1, le_m1, eq_m1, m1_eq, m1_m2, m2_m1, m2_lt_m1, bI_0, bI_1, bI_t, bI_f, bI_bo, nI0_bo, nI1_bo, if_true, if_false, ite_true, ite_false, Nat.zero_add, Nat.not_lt_zero, Nat.zero_le, not_true_eq_false, not_false_eq_true, or_false, false_or, true_or, or_true, and_true, true_and, Bool.false_eq_true, Bool.true_eq_false, reduceCtorEq, eq_self]
  · have hu5 : u = 4 := by omega
    rw [hu5] at h4 uc'
    rw [M_rlfull_8 hf hj g hd.2.2.2 h4]
    refine LO_bad (wrS S (nI 5) (Mo_at S), fr, lt, mk, oq, ow, rd, sl) (E' := E) (R' := R) (T' := T) (D' := flD (dHd D (some 8)) (nI 5) (Tape_start T)) ?_ rfl ⟨TE_rfl T, FM_wr _ _ _, rfl, rfl, hk.1.trans hk.2.1.symm⟩
    rw [hrl]
    have b1 : ¬ 4 < 4 := by omega
    simp (disch := omega) only [uc', b1, T_fail, ↓lm1, ↓lm2, i0, i1, i2, i3, i4, i5, i6, i7, i8, i9, i10, i12, i16, i20, i24, i31, i32, i44, i48, i57, i59, i63, i64, i74, i75, i90, i96, i97, i99, i100, i122, i139, i140, i144, i192, i200, i240, i255, i304, i309, i310, i311, i323, i324, i325, i899, i900, i975, i999, i5200, i4875, i65536, i65537, i15, ob_some, nI_add, nI_clamp, zn_zib, zn_eq, zn_lt, zn_le, m2_lt, m2_le, lt_m2, le_m2, eq_m2, m2_eq, m1_lt, m1_le, lt_m1, le_m1, eq_m1, m1_eq, m1_m2, m2_m1, m2_lt_m1, bI_0, bI_1, bI_t, bI_f, bI_bo, nI0_bo, nI1_bo, if_true, if_false, ite_true, ite_false, Nat.zero_add, Nat.not_lt_zero, Nat.zero_le, not_true_eq_false, not_false_eq_true, or_false, false_or, true_or, or_true, and_true, true_and, Bool.false_eq_true, Bool.true_eq_false, reduceCtorEq, eq_self]
end
