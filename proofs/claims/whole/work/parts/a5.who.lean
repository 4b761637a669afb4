/-! who is meant -/
theorem ch_if (b c : Bool) (X : Option Int32) (hX : X = some (bI c)) : (if bI b = 0 then X else some 1) = some (bI (b || c)) := by
  cases b
  · rw [if_pos (by decide), hX, Bool.false_or]
  · rw [if_neg (by decide)]
    rfl
theorem ch_last (b : Bool) : (if bI b = 0 then some (0 : Int32) else some 1) = some (bI b) := by
  cases b <;> rfl
def SLR (ns sl : Nat → Int32) (kn : Nat) : Prop := ∀ i, i < kn → (ns i = m2 ∧ sl i = nI 0) ∨ ∃ w, w < 6 ∧ ns i = nI w ∧ sl i = nI (w + 1)
section
variable {T T' : STape} {S S' : SMo} {D : SRd} {lt tp fr sl : Nat → Int32} {kf po le : Nat → Nat} {L p e p0 kn u : Nat} {q : Nat → Bool}
theorem M_isLine (h : ∀ x, x < 15 → f_X10_isWord S lt x = some (bI (q x))) : f_X10_isLine S lt = some (bI (q 0 || (q 1 || (q 2 || (q 3 || (q 4 || (q 5 || (q 6 || (q 7 || (q 8 || q 9)))))))))) := by
  unfold f_X10_isLine
  simp only [h 0 (by omega), h 1 (by omega), h 2 (by omega), h 3 (by omega), h 4 (by omega), h 5 (by omega), h 6 (by omega), h 7 (by omega), h 8 (by omega), h 9 (by omega), ob_some]
  exact ch_if _ _ _ (ch_if _ _ _ (ch_if _ _ _ (ch_if _ _ _ (ch_if _ _ _ (ch_if _ _ _ (ch_if _ _ _ (ch_if _ _ _ (ch_if _ _ _ (ch_last _)))))))))
theorem M_mustName_y (h : ∀ x, x < 15 → f_X10_isWord S lt x = some (bI (q x))) (ht : Mo_token S = nI 2) (hq : ∀ x, x < 11 → q x = false) : f_X10_mustName S lt = some S := by
  unfold f_X10_mustName
  simp (disch := omega) only [ht, M_isLine h, h 10 (by omega), hq 0 (by omega), hq 1 (by omega), hq 2 (by omega), hq 3 (by omega), hq 4 (by omega), hq 5 (by omega), hq 6 (by omega), hq 7 (by omega), hq 8 (by omega), hq 9 (by omega), hq 10 (by omega), Bool.or_self, ↓lm1, ↓lm2, i0, i1, i2, i3, i4, i5, i6, i7, i8, i9, i10, i12, i16, i20, i24, i31, i32, i44, i48, i57, i59, i63, i64, i74, i75, i90, i96, i97, i99, i100, i122, i139, i140, i144, i192, i200, i240, i255, i304, i309, i310, i311, i323, i324, i325, i899, i900, i975, i999, i5200, i4875, i65536, i65537, i15, ob_some, nI_add, nI_clamp, zn_zib, zn_eq, zn_lt, zn_le, m2_lt, m2_le, lt_m2, le_m2, eq_m2, m2_eq, m1_lt, m1_le, lt_m1, le_m1, eq_m1, m1_eq, m1_m2, m2_m1, m2_lt_m1, bI_0, bI_1, bI_t, bI_f, bI_bo, nI0_bo, nI1_bo, if_true, if_false, ite_true, ite_false, Nat.zero_add, Nat.not_lt_zero, Nat.zero_le, not_true_eq_false, not_false_eq_true, or_false, false_or, true_or, or_true, and_true, true_and, Bool.false_eq_true, Bool.true_eq_false, reduceCtorEq, eq_self]
theorem M_mustName_w (hf : Mo_failed S = nI 0) (h : ∀ x, x < 15 → f_X10_isWord S lt x = some (bI (q x))) (ht : Mo_token S = nI 2) {y : Nat} (hy : y < 11) (hq : q y = true) : f_X10_mustName S lt = some (wrS S (nI 1) (Mo_at S)) := by
  unfold f_X10_mustName
  by_cases z : y = 10
  · rw [z] at hq
    simp (disch := omega) only [ht, M_isLine h, h 10 (by omega), hq, M_wrong hf, ↓lm1, ↓lm2, i0, i1, i2, i3, i4, i5, i6, i7, i8, i9, i10, i12, i16, i20, i24, i31, i32, i44, i48, i57, i59, i63, i64, i74, i75, i90, i96, i97, i99, i100, i122, i139, i140, i144, i192, i200, i240, i255, i304, i309, i310, i311, i323, i324, i325, i899, i900, i975, i999, i5200, i4875, i65536, i65537, i15, ob_some, nI_add, nI_clamp, zn_zib, zn_eq, zn_lt, zn_le, m2_lt, m2_le, lt_m2, le_m2, eq_m2, m2_eq, m1_lt, m1_le, lt_m1, le_m1, eq_m1, m1_eq, m1_m2, m2_m1, m2_lt_m1, bI_0, bI_1, bI_t, bI_f, bI_bo, nI0_bo, nI1_bo, if_true, if_false, ite_true, ite_false, Nat.zero_add, Nat.not_lt_zero, Nat.zero_le, not_true_eq_false, not_false_eq_true, or_false, false_or, true_or, or_true, and_true, true_and, Bool.false_eq_true, Bool.true_eq_false, reduceCtorEq, eq_self]
    cases (q 0 || (q 1 || (q 2 || (q 3 || (q 4 || (q 5 || (q 6 || (q 7 || (q 8 || q 9))))))))) <;> simp (disch := omega) only [↓lm1, ↓lm2, i0, i1, i2, i3, i4, i5, i6, i7, i8, i9, i10, i12, i16, i20, i24, i31, i32, i44, i48, i57, i59, i63, i64, i74, i75, i90, i96, i97, i99, i100, i122, i139, i140, i144, i192, i200, i240, i255, i304, i309, i310, i311, i323, i324, i325, i899, i900, i975, i999, i5200, i4875, i65536, i65537, i15, ob_some, nI_add, nI_clamp, zn_zib, zn_eq, zn_lt, zn_le, m2_lt, m2_le, lt_m2, le_m2, eq_m2, m2_eq, m1_lt, m1_le, lt_m1, le_m1, eq_m1, m1_eq, m1_m2, m2_m1, m2_lt_m1, bI_0, bI_1, bI_t, bI_f, bI_bo, nI0_bo, nI1_bo, if_true, if_false, ite_true, ite_false, Nat.zero_add, Nat.not_lt_zero, Nat.zero_le, not_true_eq_false, not_false_eq_true, or_false, false_or, true_or, or_true, and_true, true_and, Bool.false_eq_true, Bool.true_eq_false, reduceCtorEq, eq_self]
  · have e : (q 0 || (q 1 || (q 2 || (q 3 || (q 4 || (q 5 || (q 6 || (q 7 || (q 8 || q 9))))))))) = true := by
      have : ∀ k, k < 10 → q k = true → (q 0 || (q 1 || (q 2 || (q 3 || (q 4 || (q 5 || (q 6 || (q 7 || (q 8 || q 9))))))))) = true := by
        intro k hk
        match k, hk with
        | 0, _ => intro z; rw [z]; rfl
        | 1, _ => intro z; rw [z]; simp only [Bool.true_or, Bool.or_true]
        | 2, _ => intro z; rw [z]; simp only [Bool.true_or, Bool.or_true]
        | 3, _ => intro z; rw [z]; simp only [Bool.true_or, Bool.or_true]
        | 4, _ => intro z; rw [z]; simp only [Bool.true_or, Bool.or_true]
        | 5, _ => intro z; rw [z]; simp only [Bool.true_or, Bool.or_true]
        | 6, _ => intro z; rw [z]; simp only [Bool.true_or, Bool.or_true]
        | 7, _ => intro z; rw [z]; simp only [Bool.true_or, Bool.or_true]
        | 8, _ => intro z; rw [z]; simp only [Bool.true_or, Bool.or_true]
        | 9, _ => intro z; rw [z]; simp only [Bool.or_true]
      exact this y (by omega) hq
    simp (disch := omega) only [ht, M_isLine h, e, M_wrong hf, ↓lm1, ↓lm2, i0, i1, i2, i3, i4, i5, i6, i7, i8, i9, i10, i12, i16, i20, i24, i31, i32, i44, i48, i57, i59, i63, i64, i74, i75, i90, i96, i97, i99, i100, i122, i139, i140, i144, i192, i200, i240, i255, i304, i309, i310, i311, i323, i324, i325, i899, i900, i975, i999, i5200, i4875, i65536, i65537, i15, ob_some, nI_add, nI_clamp, zn_zib, zn_eq, zn_lt, zn_le, m2_lt, m2_le, lt_m2, le_m2, eq_m2, m2_eq, m1_lt, m1_le, lt_m1, le_m1, eq_m1, m1_eq, m1_m2, m2_m1, m2_lt_m1, bI_0, bI_1, bI_t, bI_f, bI_bo, nI0_bo, nI1_bo, if_true, if_false, ite_true, ite_false, Nat.zero_add, Nat.not_lt_zero, Nat.zero_le, not_true_eq_false, not_false_eq_true, or_false, false_or, true_or, or_true, and_true, true_and, Bool.false_eq_true, Bool.true_eq_false, reduceCtorEq, eq_self]
theorem M_mustName_t (hf : Mo_failed S = nI 0) (ht : ¬ Mo_token S = nI 2) : f_X10_mustName S lt = some (wrS S (nI 1) (Mo_at S)) := by
  unfold f_X10_mustName
  simp (disch := omega) only [ht, M_wrong hf, ↓lm1, ↓lm2, i0, i1, i2, i3, i4, i5, i6, i7, i8, i9, i10, i12, i16, i20, i24, i31, i32, i44, i48, i57, i59, i63, i64, i74, i75, i90, i96, i97, i99, i100, i122, i139, i140, i144, i192, i200, i240, i255, i304, i309, i310, i311, i323, i324, i325, i899, i900, i975, i999, i5200, i4875, i65536, i65537, i15, ob_some, nI_add, nI_clamp, zn_zib, zn_eq, zn_lt, zn_le, m2_lt, m2_le, lt_m2, le_m2, eq_m2, m2_eq, m1_lt, m1_le, lt_m1, le_m1, eq_m1, m1_eq, m1_m2, m2_m1, m2_lt_m1, bI_0, bI_1, bI_t, bI_f, bI_bo, nI0_bo, nI1_bo, if_true, if_false, ite_true, ite_false, Nat.zero_add, Nat.not_lt_zero, Nat.zero_le, not_true_eq_false, not_false_eq_true, or_false, false_or, true_or, or_true, and_true, true_and, Bool.false_eq_true, Bool.true_eq_false, reduceCtorEq, eq_self]
theorem b_name (C : CX T S tp kf L) (A : AH T S lt kf L p0) (hN : NR (Rd_names D) fr kf po le kn) (hc : Rd_nameCount D = nI kn) : (∃ T' p e, f_X5_takeName D T = some (nI 1, dNm D (eo (fi (nmP kf po le kn p (e - p)) 12)), T') ∧ f_X10_mustName S lt = some S ∧ f_X10_find S fr lt = some (eo1 (fi (nmP kf po le kn p (e - p)) 12)) ∧ TE T T' ∧ p0 ≤ p ∧ TK T' S lt kf L p ∧ TKw T' S lt kf L p e) ∨ (∃ D' T', f_X5_takeName D T = some (nI 0, D', T') ∧ f_X10_mustName S lt = some (wrS S (nI 1) (Mo_at S)) ∧ FB D' T T' S (wrS S (nI 1) (Mo_at S))) := by
  obtain ⟨T', p, a1, a2, a3, a4⟩ := A
  have C' : CX T' S tp kf L := CX_TE C a4 (SE_rfl S)
  have hf := C.2.2.2.2.2
  have hst := a2.1.trans a2.2.1.symm
  have bad : ∀ {k t : Nat}, Tape_kind T' = nI k → Mo_token S = nI t → k < 5 → k ≠ 1 → t < 60 → t ≠ 2 → (∃ D' T', f_X5_takeName D T = some (nI 0, D', T') ∧ f_X10_mustName S lt = some (wrS S (nI 1) (Mo_at S)) ∧ FB D' T T' S (wrS S (nI 1) (Mo_at S))) := fun {k t} e1 e2 hk hk1 ht ht2 => by
    refine ⟨flD D (nI 1) (Tape_start T'), T', ?_, M_mustName_t hf (by rw [e2, zn_eq (by omega) (by omega)]; exact ht2), FB_wr a4 hst⟩
    unfold f_X5_takeName
    simp (disch := omega) only [a1, e1, hk1, T_fail, ↓lm1, ↓lm2, i0, i1, i2, i3, i4, i5, i6, i7, i8, i9, i10, i12, i16, i20, i24, i31, i32, i44, i48, i57, i59, i63, i64, i74, i75, i90, i96, i97, i99, i100, i122, i139, i140, i144, i192, i200, i240, i255, i304, i309, i310, i311, i323, i324, i325, i899, i900, i975, i999, i5200, i4875, i65536, i65537, i15, ob_some, nI_add, nI_clamp, zn_zib, zn_eq, zn_lt, zn_le, m2_lt, m2_le, lt_m2, le_m2, eq_m2, m2_eq, m1_lt, m1_le, lt_m1, le_m1, eq_m1, m1_eq, m1_m2, m2_m1, m2_lt_m1, bI_0, bI_1, bI_t, bI_f, bI_bo, nI0_bo, nI1_bo, if_true, if_false, ite_true, ite_false, Nat.zero_add, Nat.not_lt_zero, Nat.zero_le, not_true_eq_false, not_false_eq_true, or_false, false_or, true_or, or_true, and_true, true_and, Bool.false_eq_true, Bool.true_eq_false, reduceCtorEq, eq_self]
  obtain ⟨t1, t2, t3, t | ⟨e, t⟩ | ⟨e, v, t⟩ | t | t⟩ := id a2
  · exact .inr (bad t.1 t.2 (by omega) (by omega) (by omega) (by omega))
  · obtain ⟨q, w1, w2, w3⟩ := TK_words C'.1 C'.2.1 C'.2.2.1 hf a2
    have hr := T_reserved (fun x hx => (w1 x hx).1)
    have hw2 : ∀ x, x < 15 → f_X10_isWord S lt x = some (bI (q x)) := fun x hx => (w1 x hx).2
    cases z : fi q 11 with
    | none =>
      rw [z] at hr
      refine .inl ⟨T', p, e, ?_, M_mustName_y hw2 t.2.1 (fi_none z), M_find hN t, a4, a3, a2, t⟩
      have hT := T_names hN hc t
      rw [fi_kn kf po le hN.1 p (e - p)] at hT
      unfold f_X5_takeName
      simp (disch := omega) only [a1, t.1, hr, ↓lm1, ↓lm2, i0, i1, i2, i3, i4, i5, i6, i7, i8, i9, i10, i12, i16, i20, i24, i31, i32, i44, i48, i57, i59, i63, i64, i74, i75, i90, i96, i97, i99, i100, i122, i139, i140, i144, i192, i200, i240, i255, i304, i309, i310, i311, i323, i324, i325, i899, i900, i975, i999, i5200, i4875, i65536, i65537, i15, ob_some, nI_add, nI_clamp, zn_zib, zn_eq, zn_lt, zn_le, m2_lt, m2_le, lt_m2, le_m2, eq_m2, m2_eq, m1_lt, m1_le, lt_m1, le_m1, eq_m1, m1_eq, m1_m2, m2_m1, m2_lt_m1, bI_0, bI_1, bI_t, bI_f, bI_bo, nI0_bo, nI1_bo, if_true, if_false, ite_true, ite_false, Nat.zero_add, Nat.not_lt_zero, Nat.zero_le, not_true_eq_false, not_false_eq_true, or_false, false_or, true_or, or_true, and_true, true_and, Bool.false_eq_true, Bool.true_eq_false, reduceCtorEq, eq_self]
      exact hT
    | some j =>
      rw [z] at hr
      obtain ⟨j1, j2, -⟩ := fi_some z
      refine .inr ⟨flD D (nI 1) (Tape_start T'), T', ?_, M_mustName_w hf hw2 t.2.1 j1 j2, FB_wr a4 hst⟩
      unfold f_X5_takeName
      simp (disch := omega) only [a1, t.1, hr, T_fail, ↓lm1, ↓lm2, i0, i1, i2, i3, i4, i5, i6, i7, i8, i9, i10, i12, i16, i20, i24, i31, i32, i44, i48, i57, i59, i63, i64, i74, i75, i90, i96, i97, i99, i100, i122, i139, i140, i144, i192, i200, i240, i255, i304, i309, i310, i311, i323, i324, i325, i899, i900, i975, i999, i5200, i4875, i65536, i65537, i15, ob_some, nI_add, nI_clamp, zn_zib, zn_eq, zn_lt, zn_le, m2_lt, m2_le, lt_m2, le_m2, eq_m2, m2_eq, m1_lt, m1_le, lt_m1, le_m1, eq_m1, m1_eq, m1_m2, m2_m1, m2_lt_m1, bI_0, bI_1, bI_t, bI_f, bI_bo, nI0_bo, nI1_bo, if_true, if_false, ite_true, ite_false, Nat.zero_add, Nat.not_lt_zero, Nat.zero_le, not_true_eq_false, not_false_eq_true, or_false, false_or, true_or, or_true, and_true, true_and, Bool.false_eq_true, Bool.true_eq_false, reduceCtorEq, eq_self]
  · exact .inr (bad t.1 t.2.1 (by omega) (by omega) (by omega) (by omega))
  · exact .inr (bad t.1 t.2.1 (by omega) (by omega) (by omega) (by omega))
  · exact .inr (bad t.1 t.2 (by omega) (by omega) (by omega) (by omega))
theorem M_wp42 (h4 : fr 4 = nI u) (x : Int32) : zl4 (b_X10_writerPassed_42 fr sl tp (nI 1)) FU S lt x (nI 0) = b_X10_writerPassed_91 fr sl tp (nI 1) S lt x := by
  have eF : FU = 5999 + 1 := rfl
  rw [eF, zl4_s]
  unfold b_X10_writerPassed_42
  simp (disch := omega) only [h4, ↓lm1, ↓lm2, i0, i1, i2, i3, i4, i5, i6, i7, i8, i9, i10, i12, i16, i20, i24, i31, i32, i44, i48, i57, i59, i63, i64, i74, i75, i90, i96, i97, i99, i100, i122, i139, i140, i144, i192, i200, i240, i255, i304, i309, i310, i311, i323, i324, i325, i899, i900, i975, i999, i5200, i4875, i65536, i65537, i15, ob_some, nI_add, nI_clamp, zn_zib, zn_eq, zn_lt, zn_le, m2_lt, m2_le, lt_m2, le_m2, eq_m2, m2_eq, m1_lt, m1_le, lt_m1, le_m1, eq_m1, m1_eq, m1_m2, m2_m1, m2_lt_m1, bI_0, bI_1, bI_t, bI_f, bI_bo, nI0_bo, nI1_bo, if_true, if_false, ite_true, ite_false, Nat.zero_add, Nat.not_lt_zero, Nat.zero_le, not_true_eq_false, not_false_eq_true, or_false, false_or, true_or, or_true, and_true, true_and, Bool.false_eq_true, Bool.true_eq_false, reduceCtorEq, eq_self, ite_self]
theorem M_126f (hf : Mo_failed S = nI 1) (x y : Int32) : b_X10_writerPassed_126 fr sl tp y S lt x = some (nI 0, S, lt) := by
  unfold b_X10_writerPassed_126
  simp (disch := omega) only [M_pass_f hf, hf, ↓lm1, ↓lm2, i0, i1, i2, i3, i4, i5, i6, i7, i8, i9, i10, i12, i16, i20, i24, i31, i32, i44, i48, i57, i59, i63, i64, i74, i75, i90, i96, i97, i99, i100, i122, i139, i140, i144, i192, i200, i240, i255, i304, i309, i310, i311, i323, i324, i325, i899, i900, i975, i999, i5200, i4875, i65536, i65537, i15, ob_some, nI_add, nI_clamp, zn_zib, zn_eq, zn_lt, zn_le, m2_lt, m2_le, lt_m2, le_m2, eq_m2, m2_eq, m1_lt, m1_le, lt_m1, le_m1, eq_m1, m1_eq, m1_m2, m2_m1, m2_lt_m1, bI_0, bI_1, bI_t, bI_f, bI_bo, nI0_bo, nI1_bo, if_true, if_false, ite_true, ite_false, Nat.zero_add, Nat.not_lt_zero, Nat.zero_le, not_true_eq_false, not_false_eq_true, or_false, false_or, true_or, or_true, and_true, true_and, Bool.false_eq_true, Bool.true_eq_false, reduceCtorEq, eq_self]
theorem M_91f (hf : Mo_failed S = nI 1) (x y : Int32) : b_X10_writerPassed_91 fr sl tp y S lt x = some (nI 0, S, lt) := by
  unfold b_X10_writerPassed_91
  simp (disch := omega) only [hf, M_126f hf, ↓lm1, ↓lm2, i0, i1, i2, i3, i4, i5, i6, i7, i8, i9, i10, i12, i16, i20, i24, i31, i32, i44, i48, i57, i59, i63, i64, i74, i75, i90, i96, i97, i99, i100, i122, i139, i140, i144, i192, i200, i240, i255, i304, i309, i310, i311, i323, i324, i325, i899, i900, i975, i999, i5200, i4875, i65536, i65537, i15, ob_some, nI_add, nI_clamp, zn_zib, zn_eq, zn_lt, zn_le, m2_lt, m2_le, lt_m2, le_m2, eq_m2, m2_eq, m1_lt, m1_le, lt_m1, le_m1, eq_m1, m1_eq, m1_m2, m2_m1, m2_lt_m1, bI_0, bI_1, bI_t, bI_f, bI_bo, nI0_bo, nI1_bo, if_true, if_false, ite_true, ite_false, Nat.zero_add, Nat.not_lt_zero, Nat.zero_le, not_true_eq_false, not_false_eq_true, or_false, false_or, true_or, or_true, and_true, true_and, Bool.false_eq_true, Bool.true_eq_false, reduceCtorEq, eq_self]
theorem nmP_lt {n i : Nat} (h : nmP kf po le kn p n i = true) : i < kn := by
  unfold nmP at h
  rw [Bool.and_eq_true, decide_eq_true_iff] at h
  exact h.1
theorem b_running (C : CX T S tp kf L) (A : AH T S lt kf L p0) (hN : NR (Rd_names D) fr kf po le kn) (hc : Rd_nameCount D = nI kn) (hs : SLR (Rd_nameSlots D) sl kn) (h4 : fr 4 = nI u) : (∃ i w T' S' lt', i < kn ∧ w < 6 ∧ Rd_nameSlots D i = nI w ∧ sl i = nI (w + 1) ∧ f_X5_takeRunning D T = some (nI 1, dNm D (nI i), T') ∧ f_X10_writerPassed S fr lt sl tp (nI 1) = some (nI i, S', lt') ∧ TE T T' ∧ SE S S' ∧ AH T' S' lt' kf L (p0 + 1)) ∨ (∃ D' T' S', f_X5_takeRunning D T = some (nI 0, D', T') ∧ f_X10_writerPassed S fr lt sl tp (nI 1) = some (nI 0, S', lt) ∧ FB D' T T' S S') := by
  have hf := C.2.2.2.2.2
  have hkn := hN.1
  unfold f_X5_takeRunning f_X10_writerPassed
  rcases b_name C A hN hc with ⟨T', p, e, n1, n2, n3, n4, n5, n6, n7⟩ | ⟨D', T', n1, n2, n3⟩
  · have hst := n6.1.trans n6.2.1.symm
    have C' : CX T' S tp kf L := CX_TE C n4 (SE_rfl S)
    cases z : fi (nmP kf po le kn p (e - p)) 12 with
    | none =>
      rw [z] at n1 n3
      have n1' : f_X5_takeName D T = some (nI 1, dNm D m2, T') := n1
      have n3' : f_X10_find S fr lt = some m1 := n3
      have en : Rd_name (dNm D m2) = m2 := rfl
      refine .inr ⟨flD (dNm D m2) (nI 2) (Tape_start T'), T', wrS S (nI 2) (Mo_at S), ?_, ?_, FB_wr n4 hst⟩
      · simp (disch := omega) only [n1', en, T_fail, ↓lm1, ↓lm2, i0, i1, i2, i3, i4, i5, i6, i7, i8, i9, i10, i12, i16, i20, i24, i31, i32, i44, i48, i57, i59, i63, i64, i74, i75, i90, i96, i97, i99, i100, i122, i139, i140, i144, i192, i200, i240, i255, i304, i309, i310, i311, i323, i324, i325, i899, i900, i975, i999, i5200, i4875, i65536, i65537, i15, ob_some, nI_add, nI_clamp, zn_zib, zn_eq, zn_lt, zn_le, m2_lt, m2_le, lt_m2, le_m2, eq_m2, m2_eq, m1_lt, m1_le, lt_m1, le_m1, eq_m1, m1_eq, m1_m2, m2_m1, m2_lt_m1, bI_0, bI_1, bI_t, bI_f, bI_bo, nI0_bo, nI1_bo, if_true, if_false, ite_true, ite_false, Nat.zero_add, Nat.not_lt_zero, Nat.zero_le, not_true_eq_false, not_false_eq_true, or_false, false_or, true_or, or_true, and_true, true_and, Bool.false_eq_true, Bool.true_eq_false, reduceCtorEq, eq_self]
      · have hz := M_wp42 (S := wrS S (nI 2) (Mo_at S)) (lt := lt) (tp := tp) (sl := sl) h4 m1
        have hz2 := M_91f (S := wrS S (nI 2) (Mo_at S)) (lt := lt) (tp := tp) (sl := sl) (fr := fr) rfl m1 (nI 1)
        simp (disch := omega) only [hf, n2, n3', M_wrong hf, hz, hz2, ↓lm1, ↓lm2, i0, i1, i2, i3, i4, i5, i6, i7, i8, i9, i10, i12, i16, i20, i24, i31, i32, i44, i48, i57, i59, i63, i64, i74, i75, i90, i96, i97, i99, i100, i122, i139, i140, i144, i192, i200, i240, i255, i304, i309, i310, i311, i323, i324, i325, i899, i900, i975, i999, i5200, i4875, i65536, i65537, i15, ob_some, nI_add, nI_clamp, zn_zib, zn_eq, zn_lt, zn_le, m2_lt, m2_le, lt_m2, le_m2, eq_m2, m2_eq, m1_lt, m1_le, lt_m1, le_m1, eq_m1, m1_eq, m1_m2, m2_m1, m2_lt_m1, bI_0, bI_1, bI_t, bI_f, bI_bo, nI0_bo, nI1_bo, if_true, if_false, ite_true, ite_false, Nat.zero_add, Nat.not_lt_zero, Nat.zero_le, not_true_eq_false, not_false_eq_true, or_false, false_or, true_or, or_true, and_true, true_and, Bool.false_eq_true, Bool.true_eq_false, reduceCtorEq, eq_self]
    | some i =>
      rw [z] at n1 n3
      have n1' : f_X5_takeName D T = some (nI 1, dNm D (nI i), T') := n1
      have n3' : f_X10_find S fr lt = some (nI i) := n3
      have en : Rd_name (dNm D (nI i)) = nI i := rfl
      have es : Rd_nameSlots (dNm D (nI i)) = Rd_nameSlots D := rfl
      have hi := nmP_lt (fi_some z).2.1
      have b1 : ¬ 12 ≤ i := by omega
      have hz := M_wp42 (S := S) (lt := lt) (tp := tp) (sl := sl) h4 (nI i)
      rcases hs i hi with ⟨s1, s2⟩ | ⟨w, hw, s1, s2⟩
      · refine .inr ⟨flD (dNm D (nI i)) (nI 7) (Tape_start T'), T', wrS S (nI 7) (Mo_at S), ?_, ?_, FB_wr n4 hst⟩
        · unfold f_X5_slotNamed
          simp (disch := omega) only [n1', en, es, b1, s1, T_fail, ↓lm1, ↓lm2, i0, i1, i2, i3, i4, i5, i6, i7, i8, i9, i10, i12, i16, i20, i24, i31, i32, i44, i48, i57, i59, i63, i64, i74, i75, i90, i96, i97, i99, i100, i122, i139, i140, i144, i192, i200, i240, i255, i304, i309, i310, i311, i323, i324, i325, i899, i900, i975, i999, i5200, i4875, i65536, i65537, i15, ob_some, nI_add, nI_clamp, zn_zib, zn_eq, zn_lt, zn_le, m2_lt, m2_le, lt_m2, le_m2, eq_m2, m2_eq, m1_lt, m1_le, lt_m1, le_m1, eq_m1, m1_eq, m1_m2, m2_m1, m2_lt_m1, bI_0, bI_1, bI_t, bI_f, bI_bo, nI0_bo, nI1_bo, if_true, if_false, ite_true, ite_false, Nat.zero_add, Nat.not_lt_zero, Nat.zero_le, not_true_eq_false, not_false_eq_true, or_false, false_or, true_or, or_true, and_true, true_and, Bool.false_eq_true, Bool.true_eq_false, reduceCtorEq, eq_self]
        · have hz2 := M_126f (S := wrS S (nI 7) (Mo_at S)) (lt := lt) (tp := tp) (sl := sl) (fr := fr) rfl (nI i) (nI 1)
          have l0 : 0 ≤ 0 := Nat.le_refl 0
          unfold b_X10_writerPassed_91 at hz
          simp (disch := omega) only [hf, s2, l0, M_wrong hf, hz2, ↓lm1, ↓lm2, i0, i1, i2, i3, i4, i5, i6, i7, i8, i9, i10, i12, i16, i20, i24, i31, i32, i44, i48, i57, i59, i63, i64, i74, i75, i90, i96, i97, i99, i100, i122, i139, i140, i144, i192, i200, i240, i255, i304, i309, i310, i311, i323, i324, i325, i899, i900, i975, i999, i5200, i4875, i65536, i65537, i15, ob_some, nI_add, nI_clamp, zn_zib, zn_eq, zn_lt, zn_le, m2_lt, m2_le, lt_m2, le_m2, eq_m2, m2_eq, m1_lt, m1_le, lt_m1, le_m1, eq_m1, m1_eq, m1_m2, m2_m1, m2_lt_m1, bI_0, bI_1, bI_t, bI_f, bI_bo, nI0_bo, nI1_bo, if_true, if_false, ite_true, ite_false, Nat.zero_add, Nat.not_lt_zero, Nat.zero_le, not_true_eq_false, not_false_eq_true, or_false, false_or, true_or, or_true, and_true, true_and, Bool.false_eq_true, Bool.true_eq_false, reduceCtorEq, eq_self] at hz
          simp (disch := omega) only [hf, n2, n3', hz, ↓lm1, ↓lm2, i0, i1, i2, i3, i4, i5, i6, i7, i8, i9, i10, i12, i16, i20, i24, i31, i32, i44, i48, i57, i59, i63, i64, i74, i75, i90, i96, i97, i99, i100, i122, i139, i140, i144, i192, i200, i240, i255, i304, i309, i310, i311, i323, i324, i325, i899, i900, i975, i999, i5200, i4875, i65536, i65537, i15, ob_some, nI_add, nI_clamp, zn_zib, zn_eq, zn_lt, zn_le, m2_lt, m2_le, lt_m2, le_m2, eq_m2, m2_eq, m1_lt, m1_le, lt_m1, le_m1, eq_m1, m1_eq, m1_m2, m2_m1, m2_lt_m1, bI_0, bI_1, bI_t, bI_f, bI_bo, nI0_bo, nI1_bo, if_true, if_false, ite_true, ite_false, Nat.zero_add, Nat.not_lt_zero, Nat.zero_le, not_true_eq_false, not_false_eq_true, or_false, false_or, true_or, or_true, and_true, true_and, Bool.false_eq_true, Bool.true_eq_false, reduceCtorEq, eq_self]
      · obtain ⟨S', lt', g1, g2, g3⟩ := go_w C' n7
        have hf' := (SE_failed g3).trans hf
        refine .inl ⟨i, w, T', S', lt', hi, hw, s1, s2, ?_, ?_, n4, g3, AH_mono g2 (by omega)⟩
        · unfold f_X5_slotNamed
          simp (disch := omega) only [n1', en, es, b1, s1, ↓lm1, ↓lm2, i0, i1, i2, i3, i4, i5, i6, i7, i8, i9, i10, i12, i16, i20, i24, i31, i32, i44, i48, i57, i59, i63, i64, i74, i75, i90, i96, i97, i99, i100, i122, i139, i140, i144, i192, i200, i240, i255, i304, i309, i310, i311, i323, i324, i325, i899, i900, i975, i999, i5200, i4875, i65536, i65537, i15, ob_some, nI_add, nI_clamp, zn_zib, zn_eq, zn_lt, zn_le, m2_lt, m2_le, lt_m2, le_m2, eq_m2, m2_eq, m1_lt, m1_le, lt_m1, le_m1, eq_m1, m1_eq, m1_m2, m2_m1, m2_lt_m1, bI_0, bI_1, bI_t, bI_f, bI_bo, nI0_bo, nI1_bo, if_true, if_false, ite_true, ite_false, Nat.zero_add, Nat.not_lt_zero, Nat.zero_le, not_true_eq_false, not_false_eq_true, or_false, false_or, true_or, or_true, and_true, true_and, Bool.false_eq_true, Bool.true_eq_false, reduceCtorEq, eq_self]
        · have l0 : ¬ w + 1 ≤ 0 := by omega
          unfold b_X10_writerPassed_91 b_X10_writerPassed_126 f_X10_pass at hz
          simp (disch := omega) only [hf, s2, l0, g1, hf', ↓lm1, ↓lm2, i0, i1, i2, i3, i4, i5, i6, i7, i8, i9, i10, i12, i16, i20, i24, i31, i32, i44, i48, i57, i59, i63, i64, i74, i75, i90, i96, i97, i99, i100, i122, i139, i140, i144, i192, i200, i240, i255, i304, i309, i310, i311, i323, i324, i325, i899, i900, i975, i999, i5200, i4875, i65536, i65537, i15, ob_some, nI_add, nI_clamp, zn_zib, zn_eq, zn_lt, zn_le, m2_lt, m2_le, lt_m2, le_m2, eq_m2, m2_eq, m1_lt, m1_le, lt_m1, le_m1, eq_m1, m1_eq, m1_m2, m2_m1, m2_lt_m1, bI_0, bI_1, bI_t, bI_f, bI_bo, nI0_bo, nI1_bo, if_true, if_false, ite_true, ite_false, Nat.zero_add, Nat.not_lt_zero, Nat.zero_le, not_true_eq_false, not_false_eq_true, or_false, false_or, true_or, or_true, and_true, true_and, Bool.false_eq_true, Bool.true_eq_false, reduceCtorEq, eq_self] at hz
          simp (disch := omega) only [hf, n2, n3', hz, ↓lm1, ↓lm2, i0, i1, i2, i3, i4, i5, i6, i7, i8, i9, i10, i12, i16, i20, i24, i31, i32, i44, i48, i57, i59, i63, i64, i74, i75, i90, i96, i97, i99, i100, i122, i139, i140, i144, i192, i200, i240, i255, i304, i309, i310, i311, i323, i324, i325, i899, i900, i975, i999, i5200, i4875, i65536, i65537, i15, ob_some, nI_add, nI_clamp, zn_zib, zn_eq, zn_lt, zn_le, m2_lt, m2_le, lt_m2, le_m2, eq_m2, m2_eq, m1_lt, m1_le, lt_m1, le_m1, eq_m1, m1_eq, m1_m2, m2_m1, m2_lt_m1, bI_0, bI_1, bI_t, bI_f, bI_bo, nI0_bo, nI1_bo, if_true, if_false, ite_true, ite_false, Nat.zero_add, Nat.not_lt_zero, Nat.zero_le, not_true_eq_false, not_false_eq_true, or_false, false_or, true_or, or_true, and_true, true_and, Bool.false_eq_true, Bool.true_eq_false, reduceCtorEq, eq_self]
  · have hff : Mo_failed (wrS S (nI 1) (Mo_at S)) = nI 1 := rfl
    refine .inr ⟨D', T', wrS S (nI 1) (Mo_at S), ?_, ?_, n3⟩
    · simp (disch := omega) only [n1, ↓lm1, ↓lm2, i0, i1, i2, i3, i4, i5, i6, i7, i8, i9, i10, i12, i16, i20, i24, i31, i32, i44, i48, i57, i59, i63, i64, i74, i75, i90, i96, i97, i99, i100, i122, i139, i140, i144, i192, i200, i240, i255, i304, i309, i310, i311, i323, i324, i325, i899, i900, i975, i999, i5200, i4875, i65536, i65537, i15, ob_some, nI_add, nI_clamp, zn_zib, zn_eq, zn_lt, zn_le, m2_lt, m2_le, lt_m2, le_m2, eq_m2, m2_eq, m1_lt, m1_le, lt_m1, le_m1, eq_m1, m1_eq, m1_m2, m2_m1, m2_lt_m1, bI_0, bI_1, bI_t, bI_f, bI_bo, nI0_bo, nI1_bo, if_true, if_false, ite_true, ite_false, Nat.zero_add, Nat.not_lt_zero, Nat.zero_le, not_true_eq_false, not_false_eq_true, or_false, false_or, true_or, or_true, and_true, true_and, Bool.false_eq_true, Bool.true_eq_false, reduceCtorEq, eq_self]
    · simp (disch := omega) only [hf, n2, hff, ↓lm1, ↓lm2, i0, i1, i2, i3, i4, i5, i6, i7, i8, i9, i10, i12, i16, i20, i24, i31, i32, i44, i48, i57, i59, i63, i64, i74, i75, i90, i96, i97, i99, i100, i122, i139, i140, i144, i192, i200, i240, i255, i304, i309, i310, i311, i323, i324, i325, i899, i900, i975, i999, i5200, i4875, i65536, i65537, i15, ob_some, nI_add, nI_clamp, zn_zib, zn_eq, zn_lt, zn_le, m2_lt, m2_le, lt_m2, le_m2, eq_m2, m2_eq, m1_lt, m1_le, lt_m1, le_m1, eq_m1, m1_eq, m1_m2, m2_m1, m2_lt_m1, bI_0, bI_1, bI_t, bI_f, bI_bo, nI0_bo, nI1_bo, if_true, if_false, ite_true, ite_false, Nat.zero_add, Nat.not_lt_zero, Nat.zero_le, not_true_eq_false, not_false_eq_true, or_false, false_or, true_or, or_true, and_true, true_and, Bool.false_eq_true, Bool.true_eq_false, reduceCtorEq, eq_self]
end
