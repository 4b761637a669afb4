section
variable {R : SRows} {S : SMo} {st : Nat → Int32} {n m c b : Nat}
theorem drop_both (hr : Mo_ring S = nI n) (H : RC R st n m c) (I : IS st n) (K : MK st b) {w r : Nat} (hw : w < 6) (hrn : rn st w = true) (hrr : r < m) :
    (∃ q, 0 < q ∧ q < 8 ∧ f_X6_dropTrouble R (nI w) (nI r) = some (nI q) ∧ f_X10_dropOn S st (nI w) (nI r) = some (m2, sMo_refused S (nI q), st)) ∨
    (∃ x R' st', f_X6_dropTrouble R (nI w) (nI r) = some (nI 0) ∧ f_X6_dropValue R (nI w) (nI r) = some (x, R') ∧ f_X10_dropOn S st (nI w) (nI r) = some (x, sMo_refused S (nI 0), st') ∧ RC R' st' n m c ∧ IS st' n ∧ MK st' b ∧ (x = m2 ∨ ∃ v, v < 48 ∧ x = nI v)) := by
  have W := RC_W H
  have hn := WS_n W
  have hm := WS_m W
  obtain ⟨s, hs, es⟩ := run_s W hw hrn
  have hbar := M_isBarred hr W I hw hrn hrr
  have hver := X6_verdict H hw hrn hrr
  have hlt := vd_lt (st := st) (n := n) (w := w) (r := r)
  by_cases v13 : vd st n w r = 1 ∨ vd st n w r = 3
  · left
    refine ⟨5, by omega, by omega, ?_, ?_⟩
    · unfold f_X6_dropTrouble
      rw [hver, ob_some]
      rcases v13 with z | z <;> rw [z] <;> rfl
    · unfold f_X10_dropOn
      rw [hbar, ob_some, if_pos v13]
      have h2 : ¬ vd st n w r = 2 := by omega
      have h0 : decide (vd st n w r ≠ 0) = true := decide_eq_true (by omega)
      rw [if_neg h2, h0]
      rfl
  · by_cases v2 : vd st n w r = 2
    · right
      obtain ⟨h1, h2, h3⟩ := lost_all H I K hw hrn rfl
      refine ⟨m2, _, lostS st w, ?_, ?_, ?_, h1, h2, h3, .inl rfl⟩
      · unfold f_X6_dropTrouble
        rw [hver, ob_some, v2]
        rfl
      · unfold f_X6_dropValue
        rw [hver, ob_some, v2]
        rfl
      · unfold f_X10_dropOn
        rw [hbar, ob_some, if_neg v13, if_pos v2]
        have h0 : decide (vd st n w r ≠ 0) = true := decide_eq_true (by omega)
        rw [h0]
        rfl
    · have v0 : vd st n w r = 0 := by omega
      obtain ⟨C, hC, hC2⟩ := X6_countingFor H hw hrn
      have hseen : f_X6_versionSeen R (nI r) C = some (eo (bst st (sp st (cw st n w) r) 48)) := by rw [X6_versionSeen H C hrr, bst_cong (fun v hv => sp_cong W hC2 r hv)]
      have hr' : Mo_ring (sMo_refused S (nI 0)) = nI n := hr
      have hmseen := M_seenIn (who_for hr' W hw hrn) W hrr
      have hstamp : f_X6_stampOf R (nI w) = some (nI s) := by rw [X6_stampOf H hw, hrn, es, if_pos rfl]
      rw [v0] at hver
      rw [if_neg v13, if_neg v2, v0] at hbar
      cases hb : bst st (sp st (cw st n w) r) 48 with
      | none =>
        rw [hb] at hseen hmseen
        left
        refine ⟨6, by omega, by omega, ?_, ?_⟩
        · unfold f_X6_dropTrouble
          simp (disch := omega) only [hver, hC, hseen, eo_n, ↓lm1, ↓lm2, i0, i1, i2, i3, i4, i5, i6, i7, i8, i9, i10, i12, i16, i20, i24, i31, i32, i44, i48, i57, i59, i63, i64, i74, i75, i90, i96, i97, i99, i100, i122, i139, i140, i144, i192, i200, i240, i255, i304, i309, i310, i311, i323, i324, i325, i899, i900, i975, i999, i5200, i4875, i65536, i65537, i15, ob_some, nI_add, nI_clamp, zn_zib, zn_eq, zn_lt, zn_le, m2_lt, m2_le, lt_m2, le_m2, eq_m2, m2_eq, m1_lt, m1_le, lt_m1, le_m1, eq_m1, m1_eq, m1_m2, m2_m1, m2_lt_m1, bI_0, bI_1, bI_t, bI_f, bI_bo, nI0_bo, nI1_bo, if_true, if_false, ite_true, ite_false, Nat.zero_add, Nat.not_lt_zero, Nat.zero_le, not_true_eq_false, not_false_eq_true, or_false, false_or, true_or, or_true, and_true, true_and, Bool.false_eq_true, Bool.true_eq_false, reduceCtorEq, eq_self]
        · unfold f_X10_dropOn
          simp (disch := omega) only [hbar, hmseen, eo_n, es, ne_eq, decide_false, ↓lm1, ↓lm2, i0, i1, i2, i3, i4, i5, i6, i7, i8, i9, i10, i12, i16, i20, i24, i31, i32, i44, i48, i57, i59, i63, i64, i74, i75, i90, i96, i97, i99, i100, i122, i139, i140, i144, i192, i200, i240, i255, i304, i309, i310, i311, i323, i324, i325, i899, i900, i975, i999, i5200, i4875, i65536, i65537, i15, ob_some, nI_add, nI_clamp, zn_zib, zn_eq, zn_lt, zn_le, m2_lt, m2_le, lt_m2, le_m2, eq_m2, m2_eq, m1_lt, m1_le, lt_m1, le_m1, eq_m1, m1_eq, m1_m2, m2_m1, m2_lt_m1, bI_0, bI_1, bI_t, bI_f, bI_bo, nI0_bo, nI1_bo, if_true, if_false, ite_true, ite_false, Nat.zero_add, Nat.not_lt_zero, Nat.zero_le, not_true_eq_false, not_false_eq_true, or_false, false_or, true_or, or_true, and_true, true_and, Bool.false_eq_true, Bool.true_eq_false, reduceCtorEq, eq_self]
          rfl
      | some v =>
        rw [hb] at hseen hmseen
        have hv := (bst_some hb).1
        have hl := sp_live hv.2
        right
        obtain ⟨h1, h2, h3⟩ := till_all H I K hv.1 hs rfl
        refine ⟨nI v, _, tillS st v (nI s), ?_, ?_, ?_, h1, h2, h3, .inr ⟨v, hv.1, rfl⟩⟩
        · unfold f_X6_dropTrouble
          simp (disch := omega) only [hver, hC, hseen, eo_s, ↓lm1, ↓lm2, i0, i1, i2, i3, i4, i5, i6, i7, i8, i9, i10, i12, i16, i20, i24, i31, i32, i44, i48, i57, i59, i63, i64, i74, i75, i90, i96, i97, i99, i100, i122, i139, i140, i144, i192, i200, i240, i255, i304, i309, i310, i311, i323, i324, i325, i899, i900, i975, i999, i5200, i4875, i65536, i65537, i15, ob_some, nI_add, nI_clamp, zn_zib, zn_eq, zn_lt, zn_le, m2_lt, m2_le, lt_m2, le_m2, eq_m2, m2_eq, m1_lt, m1_le, lt_m1, le_m1, eq_m1, m1_eq, m1_m2, m2_m1, m2_lt_m1, bI_0, bI_1, bI_t, bI_f, bI_bo, nI0_bo, nI1_bo, if_true, if_false, ite_true, ite_false, Nat.zero_add, Nat.not_lt_zero, Nat.zero_le, not_true_eq_false, not_false_eq_true, or_false, false_or, true_or, or_true, and_true, true_and, Bool.false_eq_true, Bool.true_eq_false, reduceCtorEq, eq_self]
        · unfold f_X6_dropValue
          simp (disch := omega) only [hver, hC, hseen, eo_s, X6_isVersion H hv.1, lv_ne.mpr hl, hstamp, ↓lm1, ↓lm2, i0, i1, i2, i3, i4, i5, i6, i7, i8, i9, i10, i12, i16, i20, i24, i31, i32, i44, i48, i57, i59, i63, i64, i74, i75, i90, i96, i97, i99, i100, i122, i139, i140, i144, i192, i200, i240, i255, i304, i309, i310, i311, i323, i324, i325, i899, i900, i975, i999, i5200, i4875, i65536, i65537, i15, ob_some, nI_add, nI_clamp, zn_zib, zn_eq, zn_lt, zn_le, m2_lt, m2_le, lt_m2, le_m2, eq_m2, m2_eq, m1_lt, m1_le, lt_m1, le_m1, eq_m1, m1_eq, m1_m2, m2_m1, m2_lt_m1, bI_0, bI_1, bI_t, bI_f, bI_bo, nI0_bo, nI1_bo, if_true, if_false, ite_true, ite_false, Nat.zero_add, Nat.not_lt_zero, Nat.zero_le, not_true_eq_false, not_false_eq_true, or_false, false_or, true_or, or_true, and_true, true_and, Bool.false_eq_true, Bool.true_eq_false, reduceCtorEq, eq_self]
        · unfold f_X10_dropOn
          simp (disch := omega) only [hbar, hmseen, eo_s, es, ne_eq, decide_false, ↓lm1, ↓lm2, i0, i1, i2, i3, i4, i5, i6, i7, i8, i9, i10, i12, i16, i20, i24, i31, i32, i44, i48, i57, i59, i63, i64, i74, i75, i90, i96, i97, i99, i100, i122, i139, i140, i144, i192, i200, i240, i255, i304, i309, i310, i311, i323, i324, i325, i899, i900, i975, i999, i5200, i4875, i65536, i65537, i15, ob_some, nI_add, nI_clamp, zn_zib, zn_eq, zn_lt, zn_le, m2_lt, m2_le, lt_m2, le_m2, eq_m2, m2_eq, m1_lt, m1_le, lt_m1, le_m1, eq_m1, m1_eq, m1_m2, m2_m1, m2_lt_m1, bI_0, bI_1, bI_t, bI_f, bI_bo, nI0_bo, nI1_bo, if_true, if_false, ite_true, ite_false, Nat.zero_add, Nat.not_lt_zero, Nat.zero_le, not_true_eq_false, not_false_eq_true, or_false, false_or, true_or, or_true, and_true, true_and, Bool.false_eq_true, Bool.true_eq_false, reduceCtorEq, eq_self]
          rfl
end
