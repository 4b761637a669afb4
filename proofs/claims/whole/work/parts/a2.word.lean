/-! the words -/
theorem i11 : (11 : Int32) = nI 11 := rfl
def chN (x k : Nat) : Nat := ((bytS.getD x []).getD k 0).toNatClampNeg
def lnN (x : Nat) : Nat := lenS.getD x 0
theorem ln_le {x : Nat} (hx : x < 15) : lnN x ≤ 6 := by
  have : ∀ y : Fin 15, lnN y.1 ≤ 6 := by decide +kernel
  exact this ⟨x, hx⟩
theorem J_len {x : Nat} (hx : x < 15) : f_J0_length_8abf5 x = some (nI (lnN x)) := by
  have : ∀ y : Fin 15, f_J0_length_8abf5 y.1 = some (nI (lnN y.1)) := by decide +kernel
  exact this ⟨x, hx⟩
theorem J_chr {x k : Nat} (hx : x < 15) (hk : k < lnN x) : f_J0_charAt_5068e x (nI k) = some (nI (chN x k)) := by
  have : ∀ y : Fin 15, ∀ j : Fin 8, j.1 < lnN y.1 → f_J0_charAt_5068e y.1 (nI j.1) = some (nI (chN y.1 j.1)) := by decide +kernel
  have h6 := ln_le hx
  exact this ⟨x, hx⟩ ⟨k, by omega⟩ hk
theorem ch_lt {x k : Nat} (hx : x < 15) (hk : k < lnN x) : chN x k < 128 := by
  have : ∀ y : Fin 15, ∀ j : Fin 8, j.1 < lnN y.1 → chN y.1 j.1 < 128 := by decide +kernel
  have h6 := ln_le hx
  exact this ⟨x, hx⟩ ⟨k, by omega⟩ hk
def alB (P : Nat → Bool) : Nat → Bool
  | 0 => true
  | n + 1 => alB P n && P n
theorem alB_s (P : Nat → Bool) (n : Nat) : alB P (n + 1) = (alB P n && P n) := rfl
theorem alB_t {P : Nat → Bool} : ∀ {n : Nat}, alB P n = true ↔ ∀ k, k < n → P k = true
  | 0 => ⟨fun _ k hk => absurd hk (Nat.not_lt_zero k), fun _ => rfl⟩
  | n + 1 => by
    rw [alB_s, Bool.and_eq_true, alB_t (n := n)]
    exact ⟨fun h k hk => by
      by_cases e : k = n
      · rw [e]
        exact h.2
      · exact h.1 k (by omega), fun h => ⟨fun k hk => h k (by omega), h n (by omega)⟩⟩
theorem alB_f {P : Nat → Bool} {n k : Nat} (hk : k < n) (h : P k = false) : alB P n = false := by
  cases e : alB P n
  · rfl
  · rw [alB_t.mp e k hk] at h
    cases h
def chE (kf : Nat → Nat) (p x k : Nat) : Bool := decide (kf (p + k) = chN x k)
def wqB (kf : Nat → Nat) (p n x : Nat) : Bool := decide (n = lnN x) && alB (chE kf p x) n
theorem wq_one {kf : Nat → Nat} {p n i j : Nat} (hi : i < 15) (hj : j < 15) (h : wqB kf p n i = true) (g : wqB kf p n j = true) : i = j := by
  have tb : ∀ a b : Fin 15, a.1 = b.1 ∨ lnN a.1 ≠ lnN b.1 ∨ ∃ k : Fin 8, k.1 < lnN a.1 ∧ chN a.1 k.1 ≠ chN b.1 k.1 := by decide +kernel
  unfold wqB at h g
  rw [Bool.and_eq_true, decide_eq_true_iff, alB_t] at h g
  rcases tb ⟨i, hi⟩ ⟨j, hj⟩ with e | e | ⟨k, hk, e⟩
  · exact e
  · exact absurd (h.1.symm.trans g.1) e
  · have hk : k.1 < lnN i := hk
    have e1 := of_decide_eq_true (h.2 k.1 (by omega))
    have e2 := of_decide_eq_true (g.2 k.1 (by omega))
    exact absurd (e1.symm.trans e2) e
section
variable {T : STape} {S : SMo} {lt tp : Nat → Int32} {kf : Nat → Nat} {L p e x : Nat}
theorem T_isText (hB : TB (Tape_bytes T) tp kf L) (hL : L ≤ 900) (h1 : Tape_length T = nI L) (h2 : Tape_start T = nI p) (hw : TKw T S lt kf L p e) (hx : x < 15) : f_X7_isText T x = some (bI (wqB kf p (e - p) x)) := by
  obtain ⟨w1, w2, w3, w4, w5, w6, w7, w8, w9, w10, w11⟩ := hw
  have hl := ln_le hx
  unfold f_X7_isText wqB
  by_cases q : e - p = lnN x
  · have key : zl1 (b_X7_isText_28 T x) FU (nI 0) = some (bI (alB (chE kf p x) (e - p))) := by
      refine zl1_up (e - p) 0 (fun i => ∀ k, k < i → chE kf p x k = true) _ (by omega) (Nat.zero_le _) (fun k hk => absurd hk (Nat.not_lt_zero k)) (fun k i hi hI => ?_) (fun k hI => ?_)
      · have b1 : ¬ lnN x ≤ i := by omega
        have b2 : ¬ L ≤ p + i := by omega
        have b3 := w8 (p + i) (by omega) (by omega)
        have b4 := TB_eq hB (i := p + i) (c := chN x i) (by omega) (ch_lt hx (by omega))
        have b5 := ch_lt hx (by omega : i < lnN x)
        have b6 : (nI (chN x i) = Tape_bytes T (p + i)) = (kf (p + i) = chN x i) := by
          rw [← b4]
          exact propext ⟨Eq.symm, Eq.symm⟩
        unfold b_X7_isText_28
        by_cases y : kf (p + i) = chN x i
        · refine .inr ⟨fun k hk => ?_, ?_⟩
          · by_cases z : k = i
            · subst z
              exact decide_eq_true y
            · exact hI k (by omega)
          · simp (disch := omega) only [hx, J_len hx, J_chr hx (by omega : i < lnN x), h1, h2, b1, b2, b6, eq_true y, ↓lm1, ↓lm2, i0, i1, i2, i3, i4, i5, i6, i7, i8, i9, i10, i12, i16, i20, i24, i31, i32, i44, i48, i57, i59, i63, i64, i74, i75, i90, i96, i97, i99, i100, i122, i139, i140, i144, i192, i200, i240, i255, i304, i309, i310, i311, i323, i324, i325, i899, i900, i975, i999, i5200, i4875, i65536, i65537, i15, ob_some, nI_add, nI_clamp, zn_zib, zn_eq, zn_lt, zn_le, m2_lt, m2_le, lt_m2, le_m2, eq_m2, m2_eq, m1_lt, m1_le, lt_m1, le_m1, eq_m1, m1_eq, m1_m2, m2_m1, m2_lt_m1, bI_0, bI_1, bI_t, bI_f, bI_bo, nI0_bo, nI1_bo, if_true, if_false, ite_true, ite_false, Nat.zero_add, Nat.not_lt_zero, Nat.zero_le, not_true_eq_false, not_false_eq_true, or_false, false_or, true_or, or_true, and_true, true_and, Bool.false_eq_true, Bool.true_eq_false, reduceCtorEq, eq_self]
        · refine .inl ?_
          rw [alB_f hi (decide_eq_false y)]
          simp (disch := omega) only [hx, J_len hx, J_chr hx (by omega : i < lnN x), h1, h2, b1, b2, b6, eq_false y, ↓lm1, ↓lm2, i0, i1, i2, i3, i4, i5, i6, i7, i8, i9, i10, i12, i16, i20, i24, i31, i32, i44, i48, i57, i59, i63, i64, i74, i75, i90, i96, i97, i99, i100, i122, i139, i140, i144, i192, i200, i240, i255, i304, i309, i310, i311, i323, i324, i325, i899, i900, i975, i999, i5200, i4875, i65536, i65537, i15, ob_some, nI_add, nI_clamp, zn_zib, zn_eq, zn_lt, zn_le, m2_lt, m2_le, lt_m2, le_m2, eq_m2, m2_eq, m1_lt, m1_le, lt_m1, le_m1, eq_m1, m1_eq, m1_m2, m2_m1, m2_lt_m1, bI_0, bI_1, bI_t, bI_f, bI_bo, nI0_bo, nI1_bo, if_true, if_false, ite_true, ite_false, Nat.zero_add, Nat.not_lt_zero, Nat.zero_le, not_true_eq_false, not_false_eq_true, or_false, false_or, true_or, or_true, and_true, true_and, Bool.false_eq_true, Bool.true_eq_false, reduceCtorEq, eq_self]
      · have b1 : lnN x ≤ e - p := by omega
        unfold b_X7_isText_28
        rw [alB_t.mpr hI]
        simp (disch := omega) only [hx, J_len hx, b1, ↓lm1, ↓lm2, i0, i1, i2, i3, i4, i5, i6, i7, i8, i9, i10, i12, i16, i20, i24, i31, i32, i44, i48, i57, i59, i63, i64, i74, i75, i90, i96, i97, i99, i100, i122, i139, i140, i144, i192, i200, i240, i255, i304, i309, i310, i311, i323, i324, i325, i899, i900, i975, i999, i5200, i4875, i65536, i65537, i15, ob_some, nI_add, nI_clamp, zn_zib, zn_eq, zn_lt, zn_le, m2_lt, m2_le, lt_m2, le_m2, eq_m2, m2_eq, m1_lt, m1_le, lt_m1, le_m1, eq_m1, m1_eq, m1_m2, m2_m1, m2_lt_m1, bI_0, bI_1, bI_t, bI_f, bI_bo, nI0_bo, nI1_bo, if_true, if_false, ite_true, ite_false, Nat.zero_add, Nat.not_lt_zero, Nat.zero_le, not_true_eq_false, not_false_eq_true, or_false, false_or, true_or, or_true, and_true, true_and, Bool.false_eq_true, Bool.true_eq_false, reduceCtorEq, eq_self]
    have q2 := eq_true q.symm
    simp (disch := omega) only [w1, hx, J_len hx, w3, h2, pk_sub (Nat.le_of_lt w5), q, q2, key, ↓lm1, ↓lm2, i0, i1, i2, i3, i4, i5, i6, i7, i8, i9, i10, i12, i16, i20, i24, i31, i32, i44, i48, i57, i59, i63, i64, i74, i75, i90, i96, i97, i99, i100, i122, i139, i140, i144, i192, i200, i240, i255, i304, i309, i310, i311, i323, i324, i325, i899, i900, i975, i999, i5200, i4875, i65536, i65537, i15, ob_some, nI_add, nI_clamp, zn_zib, zn_eq, zn_lt, zn_le, m2_lt, m2_le, lt_m2, le_m2, eq_m2, m2_eq, m1_lt, m1_le, lt_m1, le_m1, eq_m1, m1_eq, m1_m2, m2_m1, m2_lt_m1, bI_0, bI_1, bI_t, bI_f, bI_bo, nI0_bo, nI1_bo, if_true, if_false, ite_true, ite_false, Nat.zero_add, Nat.not_lt_zero, Nat.zero_le, not_true_eq_false, not_false_eq_true, or_false, false_or, true_or, or_true, and_true, true_and, Bool.false_eq_true, Bool.true_eq_false, reduceCtorEq, eq_self, decide_true, Bool.true_and]
  · have q2 : (lnN x = e - p) = False := eq_false (fun z => q z.symm)
    simp (disch := omega) only [w1, hx, J_len hx, w3, h2, pk_sub (Nat.le_of_lt w5), q, q2, ↓lm1, ↓lm2, i0, i1, i2, i3, i4, i5, i6, i7, i8, i9, i10, i12, i16, i20, i24, i31, i32, i44, i48, i57, i59, i63, i64, i74, i75, i90, i96, i97, i99, i100, i122, i139, i140, i144, i192, i200, i240, i255, i304, i309, i310, i311, i323, i324, i325, i899, i900, i975, i999, i5200, i4875, i65536, i65537, i15, ob_some, nI_add, nI_clamp, zn_zib, zn_eq, zn_lt, zn_le, m2_lt, m2_le, lt_m2, le_m2, eq_m2, m2_eq, m1_lt, m1_le, lt_m1, le_m1, eq_m1, m1_eq, m1_m2, m2_m1, m2_lt_m1, bI_0, bI_1, bI_t, bI_f, bI_bo, nI0_bo, nI1_bo, if_true, if_false, ite_true, ite_false, Nat.zero_add, Nat.not_lt_zero, Nat.zero_le, not_true_eq_false, not_false_eq_true, or_false, false_or, true_or, or_true, and_true, true_and, Bool.false_eq_true, Bool.true_eq_false, reduceCtorEq, eq_self, decide_false, Bool.false_and]
theorem M_isWord (hf : Mo_failed S = nI 0) (hw : TKw T S lt kf L p e) (hx : x < 15) (hk : ∀ i, p ≤ i → i < e → kf i < 256) : f_X10_isWord S lt x = some (bI (wqB kf p (e - p) x)) := by
  obtain ⟨w1, w2, w3, w4, w5, w6, w7, w8, w9, w10, w11⟩ := hw
  have hl := ln_le hx
  unfold f_X10_isWord wqB
  by_cases q : e - p = lnN x
  · have key : zl2 (b_X10_isWord_32 S lt x) FU (nI 1) (nI 0) = some (bI (alB (chE kf p x) (e - p))) := by
      refine Eq.trans ?_ (zl2_fold (f := b_X10_isWord_32 S lt x) (e - p) (fun i => bI (alB (chE kf p x) i)) _ (by omega) (fun k i hi => ?_) (fun k => ?_))
      · rfl
      · have b1 : ¬ e - p ≤ i := by omega
        have b2 := hk (p + i) (by omega) (by omega)
        have b5 := ch_lt hx (by omega : i < lnN x)
        unfold b_X10_isWord_32
        rw [alB_s]
        cases z : alB (chE kf p x) i
        · simp (disch := omega) only [w9, b1, ↓lm1, ↓lm2, i0, i1, i2, i3, i4, i5, i6, i7, i8, i9, i10, i12, i16, i20, i24, i31, i32, i44, i48, i57, i59, i63, i64, i74, i75, i90, i96, i97, i99, i100, i122, i139, i140, i144, i192, i200, i240, i255, i304, i309, i310, i311, i323, i324, i325, i899, i900, i975, i999, i5200, i4875, i65536, i65537, i15, ob_some, nI_add, nI_clamp, zn_zib, zn_eq, zn_lt, zn_le, m2_lt, m2_le, lt_m2, le_m2, eq_m2, m2_eq, m1_lt, m1_le, lt_m1, le_m1, eq_m1, m1_eq, m1_m2, m2_m1, m2_lt_m1, bI_0, bI_1, bI_t, bI_f, bI_bo, nI0_bo, nI1_bo, if_true, if_false, ite_true, ite_false, Nat.zero_add, Nat.not_lt_zero, Nat.zero_le, not_true_eq_false, not_false_eq_true, or_false, false_or, true_or, or_true, and_true, true_and, Bool.false_eq_true, Bool.true_eq_false, reduceCtorEq, eq_self, Bool.false_and]
        · by_cases y : kf (p + i) = chN x i
          · have y2 : chE kf p x i = true := decide_eq_true y
            simp (disch := omega) only [w9, b1, hx, J_chr hx (by omega : i < lnN x), w10 i hi, eq_true y, y2, ↓lm1, ↓lm2, i0, i1, i2, i3, i4, i5, i6, i7, i8, i9, i10, i12, i16, i20, i24, i31, i32, i44, i48, i57, i59, i63, i64, i74, i75, i90, i96, i97, i99, i100, i122, i139, i140, i144, i192, i200, i240, i255, i304, i309, i310, i311, i323, i324, i325, i899, i900, i975, i999, i5200, i4875, i65536, i65537, i15, ob_some, nI_add, nI_clamp, zn_zib, zn_eq, zn_lt, zn_le, m2_lt, m2_le, lt_m2, le_m2, eq_m2, m2_eq, m1_lt, m1_le, lt_m1, le_m1, eq_m1, m1_eq, m1_m2, m2_m1, m2_lt_m1, bI_0, bI_1, bI_t, bI_f, bI_bo, nI0_bo, nI1_bo, if_true, if_false, ite_true, ite_false, Nat.zero_add, Nat.not_lt_zero, Nat.zero_le, not_true_eq_false, not_false_eq_true, or_false, false_or, true_or, or_true, and_true, true_and, Bool.false_eq_true, Bool.true_eq_false, reduceCtorEq, eq_self, Bool.true_and]
          · have y2 : chE kf p x i = false := decide_eq_false y
            simp (disch := omega) only [w9, b1, hx, J_chr hx (by omega : i < lnN x), w10 i hi, eq_false y, y2, ↓lm1, ↓lm2, i0, i1, i2, i3, i4, i5, i6, i7, i8, i9, i10, i12, i16, i20, i24, i31, i32, i44, i48, i57, i59, i63, i64, i74, i75, i90, i96, i97, i99, i100, i122, i139, i140, i144, i192, i200, i240, i255, i304, i309, i310, i311, i323, i324, i325, i899, i900, i975, i999, i5200, i4875, i65536, i65537, i15, ob_some, nI_add, nI_clamp, zn_zib, zn_eq, zn_lt, zn_le, m2_lt, m2_le, lt_m2, le_m2, eq_m2, m2_eq, m1_lt, m1_le, lt_m1, le_m1, eq_m1, m1_eq, m1_m2, m2_m1, m2_lt_m1, bI_0, bI_1, bI_t, bI_f, bI_bo, nI0_bo, nI1_bo, if_true, if_false, ite_true, ite_false, Nat.zero_add, Nat.not_lt_zero, Nat.zero_le, not_true_eq_false, not_false_eq_true, or_false, false_or, true_or, or_true, and_true, true_and, Bool.false_eq_true, Bool.true_eq_false, reduceCtorEq, eq_self, Bool.true_and]
      · have b1 : e - p ≤ e - p := Nat.le_refl _
        unfold b_X10_isWord_32
        simp (disch := omega) only [w9, b1, ↓lm1, ↓lm2, i0, i1, i2, i3, i4, i5, i6, i7, i8, i9, i10, i12, i16, i20, i24, i31, i32, i44, i48, i57, i59, i63, i64, i74, i75, i90, i96, i97, i99, i100, i122, i139, i140, i144, i192, i200, i240, i255, i304, i309, i310, i311, i323, i324, i325, i899, i900, i975, i999, i5200, i4875, i65536, i65537, i15, ob_some, nI_add, nI_clamp, zn_zib, zn_eq, zn_lt, zn_le, m2_lt, m2_le, lt_m2, le_m2, eq_m2, m2_eq, m1_lt, m1_le, lt_m1, le_m1, eq_m1, m1_eq, m1_m2, m2_m1, m2_lt_m1, bI_0, bI_1, bI_t, bI_f, bI_bo, nI0_bo, nI1_bo, if_true, if_false, ite_true, ite_false, Nat.zero_add, Nat.not_lt_zero, Nat.zero_le, not_true_eq_false, not_false_eq_true, or_false, false_or, true_or, or_true, and_true, true_and, Bool.false_eq_true, Bool.true_eq_false, reduceCtorEq, eq_self]
    simp (disch := omega) only [hf, w2, hx, J_len hx, w9, q, ↓lm1, ↓lm2, i0, i1, i2, i3, i4, i5, i6, i7, i8, i9, i10, i12, i16, i20, i24, i31, i32, i44, i48, i57, i59, i63, i64, i74, i75, i90, i96, i97, i99, i100, i122, i139, i140, i144, i192, i200, i240, i255, i304, i309, i310, i311, i323, i324, i325, i899, i900, i975, i999, i5200, i4875, i65536, i65537, i15, ob_some, nI_add, nI_clamp, zn_zib, zn_eq, zn_lt, zn_le, m2_lt, m2_le, lt_m2, le_m2, eq_m2, m2_eq, m1_lt, m1_le, lt_m1, le_m1, eq_m1, m1_eq, m1_m2, m2_m1, m2_lt_m1, bI_0, bI_1, bI_t, bI_f, bI_bo, nI0_bo, nI1_bo, if_true, if_false, ite_true, ite_false, Nat.zero_add, Nat.not_lt_zero, Nat.zero_le, not_true_eq_false, not_false_eq_true, or_false, false_or, true_or, or_true, and_true, true_and, Bool.false_eq_true, Bool.true_eq_false, reduceCtorEq, eq_self, decide_true, Bool.true_and]
    rw [q] at key
    exact key
  · simp (disch := omega) only [hf, w2, hx, J_len hx, w9, q, ↓lm1, ↓lm2, i0, i1, i2, i3, i4, i5, i6, i7, i8, i9, i10, i12, i16, i20, i24, i31, i32, i44, i48, i57, i59, i63, i64, i74, i75, i90, i96, i97, i99, i100, i122, i139, i140, i144, i192, i200, i240, i255, i304, i309, i310, i311, i323, i324, i325, i899, i900, i975, i999, i5200, i4875, i65536, i65537, i15, ob_some, nI_add, nI_clamp, zn_zib, zn_eq, zn_lt, zn_le, m2_lt, m2_le, lt_m2, le_m2, eq_m2, m2_eq, m1_lt, m1_le, lt_m1, le_m1, eq_m1, m1_eq, m1_m2, m2_m1, m2_lt_m1, bI_0, bI_1, bI_t, bI_f, bI_bo, nI0_bo, nI1_bo, if_true, if_false, ite_true, ite_false, Nat.zero_add, Nat.not_lt_zero, Nat.zero_le, not_true_eq_false, not_false_eq_true, or_false, false_or, true_or, or_true, and_true, true_and, Bool.false_eq_true, Bool.true_eq_false, reduceCtorEq, eq_self, decide_false, Bool.false_and]
theorem T_isText_no (hx : x < 15) (h : ¬ Tape_kind T = nI 1) : f_X7_isText T x = some (bI false) := by
  have h' : ¬ Tape_kind T = 1 := h
  unfold f_X7_isText
  rw [if_neg h']
  rfl
theorem M_isWord_no (h : ¬ Mo_token S = nI 2) : f_X10_isWord S lt x = some (bI false) := by
  have h' : ¬ Mo_token S = 2 := h
  unfold f_X10_isWord
  by_cases q : Mo_failed S = 0
  · rw [if_pos q, if_neg h']
    rfl
  · rw [if_neg q]
    rfl
theorem M_isWord_failed (h : Mo_failed S = nI 1) : f_X10_isWord S lt x = some (nI 0) := by
  unfold f_X10_isWord
  simp (disch := omega) only [h, ↓lm1, ↓lm2, i0, i1, i2, i3, i4, i5, i6, i7, i8, i9, i10, i12, i16, i20, i24, i31, i32, i44, i48, i57, i59, i63, i64, i74, i75, i90, i96, i97, i99, i100, i122, i139, i140, i144, i192, i200, i240, i255, i304, i309, i310, i311, i323, i324, i325, i899, i900, i975, i999, i5200, i4875, i65536, i65537, i15, ob_some, nI_add, nI_clamp, zn_zib, zn_eq, zn_lt, zn_le, m2_lt, m2_le, lt_m2, le_m2, eq_m2, m2_eq, m1_lt, m1_le, lt_m1, le_m1, eq_m1, m1_eq, m1_m2, m2_m1, m2_lt_m1, bI_0, bI_1, bI_t, bI_f, bI_bo, nI0_bo, nI1_bo, if_true, if_false, ite_true, ite_false, Nat.zero_add, Nat.not_lt_zero, Nat.zero_le, not_true_eq_false, not_false_eq_true, or_false, false_or, true_or, or_true, and_true, true_and, Bool.false_eq_true, Bool.true_eq_false, reduceCtorEq, eq_self]
theorem TK_words (hB : TB (Tape_bytes T) tp kf L) (hL : L ≤ 900) (h1 : Tape_length T = nI L) (hf : Mo_failed S = nI 0) (h : TK T S lt kf L p) : ∃ q : Nat → Bool, (∀ x, x < 15 → f_X7_isText T x = some (bI (q x)) ∧ f_X10_isWord S lt x = some (bI (q x))) ∧ (∀ i j, i < 15 → j < 15 → q i = true → q j = true → i = j) ∧ (∀ x, q x = true → ∃ e, TKw T S lt kf L p e) := by
  have no : ∀ {k t : Nat}, Tape_kind T = nI k → Mo_token S = nI t → k < 5 → k ≠ 1 → t < 60 → t ≠ 2 → ∃ q : Nat → Bool, (∀ x, x < 15 → f_X7_isText T x = some (bI (q x)) ∧ f_X10_isWord S lt x = some (bI (q x))) ∧ (∀ i j, i < 15 → j < 15 → q i = true → q j = true → i = j) ∧ (∀ x, q x = true → ∃ e, TKw T S lt kf L p e) := fun {k t} e1 e2 hk hk1 ht ht2 => ⟨fun _ => false, fun x hx => ⟨T_isText_no hx (by rw [e1, zn_eq (by omega) (by omega)]; exact hk1), M_isWord_no (by rw [e2, zn_eq (by omega) (by omega)]; exact ht2)⟩, fun i j _ _ z => absurd z Bool.false_ne_true, fun x z => absurd z Bool.false_ne_true⟩
  obtain ⟨t1, t2, t3, t | ⟨e, t⟩ | ⟨e, v, t⟩ | t | t⟩ := h
  · exact no t.1 t.2 (by omega) (by omega) (by omega) (by omega)
  · refine ⟨wqB kf p (e - p), fun x hx => ⟨T_isText hB hL h1 t1 t hx, M_isWord hf t hx (fun i h1 h2 => ?_)⟩, fun i j hi hj a b => wq_one hi hj a b, fun x _ => ⟨e, t⟩⟩
    have := t.2.2.2.2.2.2.2.1 i h1 h2
    omega
  · exact no t.1 t.2.1 (by omega) (by omega) (by omega) (by omega)
  · exact no t.1 t.2.1 (by omega) (by omega) (by omega) (by omega)
  · exact no t.1 t.2 (by omega) (by omega) (by omega) (by omega)
theorem T_reserved {q : Nat → Bool} (h : ∀ x, x < 15 → f_X7_isText T x = some (bI (q x))) : f_X7_reserved T = some (fi q 11) := by
  unfold f_X7_reserved
  refine zl1_up 11 0 (fun i => ∀ k, k < i → q k = false) _ (by omega) (Nat.zero_le _) (fun k hk => absurd hk (Nat.not_lt_zero k)) (fun k i hi hI => ?_) (fun k hI => ?_)
  · have b1 : ¬ 11 ≤ i := by omega
    unfold b_X7_reserved_2
    cases z : q i
    · refine .inr ⟨fun k hk => ?_, ?_⟩
      · by_cases y : k = i
        · rw [y]
          exact z
        · exact hI k (by omega)
      · simp (disch := omega) only [i11, b1, h i (by omega), z, ↓lm1, ↓lm2, i0, i1, i2, i3, i4, i5, i6, i7, i8, i9, i10, i12, i16, i20, i24, i31, i32, i44, i48, i57, i59, i63, i64, i74, i75, i90, i96, i97, i99, i100, i122, i139, i140, i144, i192, i200, i240, i255, i304, i309, i310, i311, i323, i324, i325, i899, i900, i975, i999, i5200, i4875, i65536, i65537, i15, ob_some, nI_add, nI_clamp, zn_zib, zn_eq, zn_lt, zn_le, m2_lt, m2_le, lt_m2, le_m2, eq_m2, m2_eq, m1_lt, m1_le, lt_m1, le_m1, eq_m1, m1_eq, m1_m2, m2_m1, m2_lt_m1, bI_0, bI_1, bI_t, bI_f, bI_bo, nI0_bo, nI1_bo, if_true, if_false, ite_true, ite_false, Nat.zero_add, Nat.not_lt_zero, Nat.zero_le, not_true_eq_false, not_false_eq_true, or_false, false_or, true_or, or_true, and_true, true_and, Bool.false_eq_true, Bool.true_eq_false, reduceCtorEq, eq_self]
    · refine .inl ?_
      rw [fi_eq hi z hI]
      simp (disch := omega) only [i11, b1, h i (by omega), z, ↓lm1, ↓lm2, i0, i1, i2, i3, i4, i5, i6, i7, i8, i9, i10, i12, i16, i20, i24, i31, i32, i44, i48, i57, i59, i63, i64, i74, i75, i90, i96, i97, i99, i100, i122, i139, i140, i144, i192, i200, i240, i255, i304, i309, i310, i311, i323, i324, i325, i899, i900, i975, i999, i5200, i4875, i65536, i65537, i15, ob_some, nI_add, nI_clamp, zn_zib, zn_eq, zn_lt, zn_le, m2_lt, m2_le, lt_m2, le_m2, eq_m2, m2_eq, m1_lt, m1_le, lt_m1, le_m1, eq_m1, m1_eq, m1_m2, m2_m1, m2_lt_m1, bI_0, bI_1, bI_t, bI_f, bI_bo, nI0_bo, nI1_bo, if_true, if_false, ite_true, ite_false, Nat.zero_add, Nat.not_lt_zero, Nat.zero_le, not_true_eq_false, not_false_eq_true, or_false, false_or, true_or, or_true, and_true, true_and, Bool.false_eq_true, Bool.true_eq_false, reduceCtorEq, eq_self]
  · have b1 : (11 : Int32) ≤ nI 11 := by decide
    unfold b_X7_reserved_2
    rw [fi_eqn hI, if_pos b1]
end
