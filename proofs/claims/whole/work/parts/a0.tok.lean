/-! the tape: tokens -/
def rnE (P : Nat → Bool) : Nat → Nat → Nat
  | 0, e => e
  | k + 1, e => if P e then rnE P k (e + 1) else e
theorem rnE_0 (P : Nat → Bool) (e : Nat) : rnE P 0 e = e := rfl
theorem rnE_s (P : Nat → Bool) (k e : Nat) : rnE P (k + 1) e = if P e then rnE P k (e + 1) else e := rfl
theorem rnE_ge (P : Nat → Bool) : ∀ k e, e ≤ rnE P k e
  | 0, e => Nat.le_refl e
  | k + 1, e => by
    rw [rnE_s]
    split
    · exact Nat.le_trans (Nat.le_succ e) (rnE_ge P k (e + 1))
    · exact Nat.le_refl e
theorem rnE_le (P : Nat → Bool) : ∀ k e, rnE P k e ≤ e + k
  | 0, e => Nat.le_refl e
  | k + 1, e => by
    rw [rnE_s]
    split
    · have := rnE_le P k (e + 1)
      omega
    · omega
theorem rnE_in (P : Nat → Bool) : ∀ k e i, e ≤ i → i < rnE P k e → P i = true
  | 0, e, i, h1, h2 => by
    rw [rnE_0] at h2
    omega
  | k + 1, e, i, h1, h2 => by
    rw [rnE_s] at h2
    split at h2
    · rename_i q
      by_cases z : i = e
      · subst z
        exact q
      · exact rnE_in P k (e + 1) i (by omega) h2
    · omega
theorem rnE_at (P : Nat → Bool) : ∀ k e, rnE P k e < e + k → P (rnE P k e) = false
  | 0, e, h => by
    rw [rnE_0] at h
    omega
  | k + 1, e, h => by
    rw [rnE_s] at h ⊢
    by_cases q : P e = true
    · rw [if_pos q] at h ⊢
      exact rnE_at P k (e + 1) (by omega)
    · rw [if_neg q]
      exact ts_nt q
def TB (B tp : Nat → Int32) (kf : Nat → Nat) (L : Nat) : Prop := ∀ i, i < L → kf i < 256 ∧ tp i = nI (kf i) ∧ ((kf i < 128 ∧ B i = nI (kf i)) ∨ (128 ≤ kf i ∧ B i < nI 0))
def spb (kf : Nat → Nat) (i : Nat) : Bool := decide (kf i = 32)
def smb (kf : Nat → Nat) (i : Nat) : Bool := decide (97 ≤ kf i) && decide (kf i ≤ 122)
def dgb (kf : Nat → Nat) (i : Nat) : Bool := decide (48 ≤ kf i) && decide (kf i ≤ 57)
theorem smb_t {kf : Nat → Nat} {i : Nat} : smb kf i = true ↔ 97 ≤ kf i ∧ kf i ≤ 122 := by
  unfold smb
  rw [Bool.and_eq_true, decide_eq_true_iff, decide_eq_true_iff]
theorem dgb_t {kf : Nat → Nat} {i : Nat} : dgb kf i = true ↔ 48 ≤ kf i ∧ kf i ≤ 57 := by
  unfold dgb
  rw [Bool.and_eq_true, decide_eq_true_iff, decide_eq_true_iff]
theorem smb_f {kf : Nat → Nat} {i : Nat} : smb kf i = false ↔ ¬ (97 ≤ kf i ∧ kf i ≤ 122) := by
  rw [← smb_t, Bool.not_eq_true]
theorem dgb_f {kf : Nat → Nat} {i : Nat} : dgb kf i = false ↔ ¬ (48 ≤ kf i ∧ kf i ≤ 57) := by
  rw [← dgb_t, Bool.not_eq_true]
section
variable {B tp : Nat → Int32} {kf : Nat → Nat} {L : Nat}
theorem TB_eq (h : TB B tp kf L) {i c : Nat} (hi : i < L) (hc : c < 128) : (B i = nI c) = (kf i = c) := by
  obtain ⟨h1, -, h2 | h2⟩ := h i hi
  · rw [h2.2, zn_eq (by omega) (by omega)]
  · refine propext ⟨fun z => ?_, fun z => ?_⟩
    · have := h2.2
      rw [z, zn_lt (by omega) (by omega)] at this
      omega
    · omega
theorem TB_rng (h : TB B tp kf L) {i : Nat} (hi : i < L) (lo hg : Nat) (hc : hg < 128) (hlo : lo < 128) : (lo ≤ kf i ∧ kf i ≤ hg ∧ ¬ B i < nI lo ∧ ¬ nI hg < B i ∧ B i = nI (kf i)) ∨ (¬ (lo ≤ kf i ∧ kf i ≤ hg) ∧ (B i < nI lo ∨ (¬ B i < nI lo ∧ nI hg < B i))) := by
  obtain ⟨h1, -, h2 | h2⟩ := h i hi
  · rw [h2.2, zn_lt (by omega) (by omega), zn_lt (by omega) (by omega)]
    by_cases q : lo ≤ kf i
    · by_cases q2 : kf i ≤ hg
      · exact .inl ⟨q, q2, by omega, by omega, rfl⟩
      · exact .inr ⟨by omega, .inr ⟨by omega, by omega⟩⟩
    · exact .inr ⟨by omega, .inl (by omega)⟩
  · refine .inr ⟨by omega, .inl ?_⟩
    have := h2.2
    rw [fa_lt, nI_toInt (by omega)] at this ⊢
    omega
theorem TB_tp (h : TB B tp kf L) {i : Nat} (hi : i < L) : tp i = nI (kf i) := (h i hi).2.1
theorem TB_256 (h : TB B tp kf L) {i : Nat} (hi : i < L) : kf i < 256 := (h i hi).1
theorem M_see_lt {S : SMo} (hB : TB B tp kf L) (hL : L ≤ 900) (hs : Mo_size S = nI L) {i : Nat} (hi : i < L) : f_X10_see S tp (nI i) = some (nI (kf i)) := by
  unfold f_X10_see
  have h1 : ¬ L ≤ i := by omega
  simp (disch := omega) only [hs, h1, TB_tp hB hi, ↓lm1, ↓lm2, i0, i1, i2, i3, i4, i5, i6, i7, i8, i9, i10, i12, i16, i20, i24, i31, i32, i44, i48, i57, i59, i63, i64, i74, i75, i90, i96, i97, i99, i100, i122, i139, i140, i144, i192, i200, i240, i255, i304, i309, i310, i311, i323, i324, i325, i899, i900, i975, i999, i5200, i4875, i65536, i65537, i15, ob_some, nI_add, nI_clamp, zn_zib, zn_eq, zn_lt, zn_le, m2_lt, m2_le, lt_m2, le_m2, eq_m2, m2_eq, m1_lt, m1_le, lt_m1, le_m1, eq_m1, m1_eq, m1_m2, m2_m1, m2_lt_m1, bI_0, bI_1, bI_t, bI_f, bI_bo, nI0_bo, nI1_bo, if_true, if_false, ite_true, ite_false, Nat.zero_add, Nat.not_lt_zero, Nat.zero_le, not_true_eq_false, not_false_eq_true, or_false, false_or, true_or, or_true, and_true, true_and, Bool.false_eq_true, Bool.true_eq_false, reduceCtorEq, eq_self]
theorem M_see_ge {S : SMo} (hL : L ≤ 900) (hs : Mo_size S = nI L) {i : Nat} (hi : i = L) : f_X10_see S tp (nI i) = some m1 := by
  unfold f_X10_see
  have h1 : L ≤ i := by omega
  simp (disch := omega) only [hs, h1, ↓lm1, ↓lm2, i0, i1, i2, i3, i4, i5, i6, i7, i8, i9, i10, i12, i16, i20, i24, i31, i32, i44, i48, i57, i59, i63, i64, i74, i75, i90, i96, i97, i99, i100, i122, i139, i140, i144, i192, i200, i240, i255, i304, i309, i310, i311, i323, i324, i325, i899, i900, i975, i999, i5200, i4875, i65536, i65537, i15, ob_some, nI_add, nI_clamp, zn_zib, zn_eq, zn_lt, zn_le, m2_lt, m2_le, lt_m2, le_m2, eq_m2, m2_eq, m1_lt, m1_le, lt_m1, le_m1, eq_m1, m1_eq, m1_m2, m2_m1, m2_lt_m1, bI_0, bI_1, bI_t, bI_f, bI_bo, nI0_bo, nI1_bo, if_true, if_false, ite_true, ite_false, Nat.zero_add, Nat.not_lt_zero, Nat.zero_le, not_true_eq_false, not_false_eq_true, or_false, false_or, true_or, or_true, and_true, true_and, Bool.false_eq_true, Bool.true_eq_false, reduceCtorEq, eq_self]
theorem M_isSmall {i : Nat} (h : kf i < 256) : f_X10_isSmall (nI (kf i)) = some (bI (smb kf i)) := by
  unfold f_X10_isSmall smb
  by_cases q : 97 ≤ kf i
  · have q1 : ¬ kf i < 97 := by omega
    by_cases q2 : kf i ≤ 122
    · have q3 : ¬ 122 < kf i := by omega
      simp (disch := omega) only [q, q1, q2, q3, ↓lm1, ↓lm2, i0, i1, i2, i3, i4, i5, i6, i7, i8, i9, i10, i12, i16, i20, i24, i31, i32, i44, i48, i57, i59, i63, i64, i74, i75, i90, i96, i97, i99, i100, i122, i139, i140, i144, i192, i200, i240, i255, i304, i309, i310, i311, i323, i324, i325, i899, i900, i975, i999, i5200, i4875, i65536, i65537, i15, ob_some, nI_add, nI_clamp, zn_zib, zn_eq, zn_lt, zn_le, m2_lt, m2_le, lt_m2, le_m2, eq_m2, m2_eq, m1_lt, m1_le, lt_m1, le_m1, eq_m1, m1_eq, m1_m2, m2_m1, m2_lt_m1, bI_0, bI_1, bI_t, bI_f, bI_bo, nI0_bo, nI1_bo, if_true, if_false, ite_true, ite_false, Nat.zero_add, Nat.not_lt_zero, Nat.zero_le, not_true_eq_false, not_false_eq_true, or_false, false_or, true_or, or_true, and_true, true_and, Bool.false_eq_true, Bool.true_eq_false, reduceCtorEq, eq_self, decide_true, Bool.and_self]
    · have q3 : 122 < kf i := by omega
      simp (disch := omega) only [q, q1, q2, q3, ↓lm1, ↓lm2, i0, i1, i2, i3, i4, i5, i6, i7, i8, i9, i10, i12, i16, i20, i24, i31, i32, i44, i48, i57, i59, i63, i64, i74, i75, i90, i96, i97, i99, i100, i122, i139, i140, i144, i192, i200, i240, i255, i304, i309, i310, i311, i323, i324, i325, i899, i900, i975, i999, i5200, i4875, i65536, i65537, i15, ob_some, nI_add, nI_clamp, zn_zib, zn_eq, zn_lt, zn_le, m2_lt, m2_le, lt_m2, le_m2, eq_m2, m2_eq, m1_lt, m1_le, lt_m1, le_m1, eq_m1, m1_eq, m1_m2, m2_m1, m2_lt_m1, bI_0, bI_1, bI_t, bI_f, bI_bo, nI0_bo, nI1_bo, if_true, if_false, ite_true, ite_false, Nat.zero_add, Nat.not_lt_zero, Nat.zero_le, not_true_eq_false, not_false_eq_true, or_false, false_or, true_or, or_true, and_true, true_and, Bool.false_eq_true, Bool.true_eq_false, reduceCtorEq, eq_self, decide_true, decide_false, Bool.and_false]
  · have q1 : kf i < 97 := by omega
    simp (disch := omega) only [q, q1, ↓lm1, ↓lm2, i0, i1, i2, i3, i4, i5, i6, i7, i8, i9, i10, i12, i16, i20, i24, i31, i32, i44, i48, i57, i59, i63, i64, i74, i75, i90, i96, i97, i99, i100, i122, i139, i140, i144, i192, i200, i240, i255, i304, i309, i310, i311, i323, i324, i325, i899, i900, i975, i999, i5200, i4875, i65536, i65537, i15, ob_some, nI_add, nI_clamp, zn_zib, zn_eq, zn_lt, zn_le, m2_lt, m2_le, lt_m2, le_m2, eq_m2, m2_eq, m1_lt, m1_le, lt_m1, le_m1, eq_m1, m1_eq, m1_m2, m2_m1, m2_lt_m1, bI_0, bI_1, bI_t, bI_f, bI_bo, nI0_bo, nI1_bo, if_true, if_false, ite_true, ite_false, Nat.zero_add, Nat.not_lt_zero, Nat.zero_le, not_true_eq_false, not_false_eq_true, or_false, false_or, true_or, or_true, and_true, true_and, Bool.false_eq_true, Bool.true_eq_false, reduceCtorEq, eq_self, decide_false, Bool.false_and]
theorem M_isDigit {i : Nat} (h : kf i < 256) : f_X10_isDigit (nI (kf i)) = some (bI (dgb kf i)) := by
  unfold f_X10_isDigit dgb
  by_cases q : 48 ≤ kf i
  · have q1 : ¬ kf i < 48 := by omega
    by_cases q2 : kf i ≤ 57
    · have q3 : ¬ 57 < kf i := by omega
      simp (disch := omega) only [q, q1, q2, q3, ↓lm1, ↓lm2, i0, i1, i2, i3, i4, i5, i6, i7, i8, i9, i10, i12, i16, i20, i24, i31, i32, i44, i48, i57, i59, i63, i64, i74, i75, i90, i96, i97, i99, i100, i122, i139, i140, i144, i192, i200, i240, i255, i304, i309, i310, i311, i323, i324, i325, i899, i900, i975, i999, i5200, i4875, i65536, i65537, i15, ob_some, nI_add, nI_clamp, zn_zib, zn_eq, zn_lt, zn_le, m2_lt, m2_le, lt_m2, le_m2, eq_m2, m2_eq, m1_lt, m1_le, lt_m1, le_m1, eq_m1, m1_eq, m1_m2, m2_m1, m2_lt_m1, bI_0, bI_1, bI_t, bI_f, bI_bo, nI0_bo, nI1_bo, if_true, if_false, ite_true, ite_false, Nat.zero_add, Nat.not_lt_zero, Nat.zero_le, not_true_eq_false, not_false_eq_true, or_false, false_or, true_or, or_true, and_true, true_and, Bool.false_eq_true, Bool.true_eq_false, reduceCtorEq, eq_self, decide_true, Bool.and_self]
    · have q3 : 57 < kf i := by omega
      simp (disch := omega) only [q, q1, q2, q3, ↓lm1, ↓lm2, i0, i1, i2, i3, i4, i5, i6, i7, i8, i9, i10, i12, i16, i20, i24, i31, i32, i44, i48, i57, i59, i63, i64, i74, i75, i90, i96, i97, i99, i100, i122, i139, i140, i144, i192, i200, i240, i255, i304, i309, i310, i311, i323, i324, i325, i899, i900, i975, i999, i5200, i4875, i65536, i65537, i15, ob_some, nI_add, nI_clamp, zn_zib, zn_eq, zn_lt, zn_le, m2_lt, m2_le, lt_m2, le_m2, eq_m2, m2_eq, m1_lt, m1_le, lt_m1, le_m1, eq_m1, m1_eq, m1_m2, m2_m1, m2_lt_m1, bI_0, bI_1, bI_t, bI_f, bI_bo, nI0_bo, nI1_bo, if_true, if_false, ite_true, ite_false, Nat.zero_add, Nat.not_lt_zero, Nat.zero_le, not_true_eq_false, not_false_eq_true, or_false, false_or, true_or, or_true, and_true, true_and, Bool.false_eq_true, Bool.true_eq_false, reduceCtorEq, eq_self, decide_true, decide_false, Bool.and_false]
  · have q1 : kf i < 48 := by omega
    simp (disch := omega) only [q, q1, ↓lm1, ↓lm2, i0, i1, i2, i3, i4, i5, i6, i7, i8, i9, i10, i12, i16, i20, i24, i31, i32, i44, i48, i57, i59, i63, i64, i74, i75, i90, i96, i97, i99, i100, i122, i139, i140, i144, i192, i200, i240, i255, i304, i309, i310, i311, i323, i324, i325, i899, i900, i975, i999, i5200, i4875, i65536, i65537, i15, ob_some, nI_add, nI_clamp, zn_zib, zn_eq, zn_lt, zn_le, m2_lt, m2_le, lt_m2, le_m2, eq_m2, m2_eq, m1_lt, m1_le, lt_m1, le_m1, eq_m1, m1_eq, m1_m2, m2_m1, m2_lt_m1, bI_0, bI_1, bI_t, bI_f, bI_bo, nI0_bo, nI1_bo, if_true, if_false, ite_true, ite_false, Nat.zero_add, Nat.not_lt_zero, Nat.zero_le, not_true_eq_false, not_false_eq_true, or_false, false_or, true_or, or_true, and_true, true_and, Bool.false_eq_true, Bool.true_eq_false, reduceCtorEq, eq_self, decide_false, Bool.false_and]
theorem M_isSmall_m1 : f_X10_isSmall m1 = some (nI 0) := by
  unfold f_X10_isSmall
  simp (disch := omega) only [↓lm1, ↓lm2, i0, i1, i2, i3, i4, i5, i6, i7, i8, i9, i10, i12, i16, i20, i24, i31, i32, i44, i48, i57, i59, i63, i64, i74, i75, i90, i96, i97, i99, i100, i122, i139, i140, i144, i192, i200, i240, i255, i304, i309, i310, i311, i323, i324, i325, i899, i900, i975, i999, i5200, i4875, i65536, i65537, i15, ob_some, nI_add, nI_clamp, zn_zib, zn_eq, zn_lt, zn_le, m2_lt, m2_le, lt_m2, le_m2, eq_m2, m2_eq, m1_lt, m1_le, lt_m1, le_m1, eq_m1, m1_eq, m1_m2, m2_m1, m2_lt_m1, bI_0, bI_1, bI_t, bI_f, bI_bo, nI0_bo, nI1_bo, if_true, if_false, ite_true, ite_false, Nat.zero_add, Nat.not_lt_zero, Nat.zero_le, not_true_eq_false, not_false_eq_true, or_false, false_or, true_or, or_true, and_true, true_and, Bool.false_eq_true, Bool.true_eq_false, reduceCtorEq, eq_self]
theorem M_isDigit_m1 : f_X10_isDigit m1 = some (nI 0) := by
  unfold f_X10_isDigit
  simp (disch := omega) only [↓lm1, ↓lm2, i0, i1, i2, i3, i4, i5, i6, i7, i8, i9, i10, i12, i16, i20, i24, i31, i32, i44, i48, i57, i59, i63, i64, i74, i75, i90, i96, i97, i99, i100, i122, i139, i140, i144, i192, i200, i240, i255, i304, i309, i310, i311, i323, i324, i325, i899, i900, i975, i999, i5200, i4875, i65536, i65537, i15, ob_some, nI_add, nI_clamp, zn_zib, zn_eq, zn_lt, zn_le, m2_lt, m2_le, lt_m2, le_m2, eq_m2, m2_eq, m1_lt, m1_le, lt_m1, le_m1, eq_m1, m1_eq, m1_m2, m2_m1, m2_lt_m1, bI_0, bI_1, bI_t, bI_f, bI_bo, nI0_bo, nI1_bo, if_true, if_false, ite_true, ite_false, Nat.zero_add, Nat.not_lt_zero, Nat.zero_le, not_true_eq_false, not_false_eq_true, or_false, false_or, true_or, or_true, and_true, true_and, Bool.false_eq_true, Bool.true_eq_false, reduceCtorEq, eq_self]
end
def enc (kf : Nat → Nat) (p : Nat) : Nat → Nat
  | 0 => 0
  | j + 1 => enc kf p j * 32 + (kf (p + j) - 96)
def dcN (kf : Nat → Nat) (p : Nat) : Nat → Nat
  | 0 => 0
  | j + 1 => dcN kf p j * 10 + (kf (p + j) - 48)
section
variable {B tp : Nat → Int32} {kf : Nat → Nat} {L p : Nat} {sz kd va : Int32} {v : Int64}
theorem T_skip (hB : TB B tp kf L) (hL : L ≤ 900) : ∀ (j e fu : Nat), e + j = L → j < fu → zl1 b_X7_advance_8 fu (mkTape sz kd (nI e) v va (nI L) B) = b_X7_advance_46 (mkTape sz kd (nI (rnE (spb kf) j e)) v va (nI L) B) := by
  intro j
  induction j with
  | zero =>
    intro e fu he hf
    obtain ⟨fu, rfl⟩ : ∃ m, fu = m + 1 := ⟨fu - 1, by omega⟩
    have h1 : L ≤ e := by omega
    rw [zl1_s, rnE_0]
    unfold b_X7_advance_8
    simp (disch := omega) only [kTape_size, kTape_kind, kTape_start, kTape_value, kTape_after, kTape_length, kTape_bytes, h1, ↓lm1, ↓lm2, i0, i1, i2, i3, i4, i5, i6, i7, i8, i9, i10, i12, i16, i20, i24, i31, i32, i44, i48, i57, i59, i63, i64, i74, i75, i90, i96, i97, i99, i100, i122, i139, i140, i144, i192, i200, i240, i255, i304, i309, i310, i311, i323, i324, i325, i899, i900, i975, i999, i5200, i4875, i65536, i65537, i15, ob_some, nI_add, nI_clamp, zn_zib, zn_eq, zn_lt, zn_le, m2_lt, m2_le, lt_m2, le_m2, eq_m2, m2_eq, m1_lt, m1_le, lt_m1, le_m1, eq_m1, m1_eq, m1_m2, m2_m1, m2_lt_m1, bI_0, bI_1, bI_t, bI_f, bI_bo, nI0_bo, nI1_bo, if_true, if_false, ite_true, ite_false, Nat.zero_add, Nat.not_lt_zero, Nat.zero_le, not_true_eq_false, not_false_eq_true, or_false, false_or, true_or, or_true, and_true, true_and, Bool.false_eq_true, Bool.true_eq_false, reduceCtorEq, eq_self]
  | succ j ih =>
    intro e fu he hf
    obtain ⟨fu, rfl⟩ : ∃ m, fu = m + 1 := ⟨fu - 1, by omega⟩
    have h1 : ¬ L ≤ e := by omega
    have h2 := TB_eq hB (i := e) (c := 32) (by omega) (by omega)
    rw [zl1_s, rnE_s]
    unfold b_X7_advance_8
    by_cases q : kf e = 32
    · have q2 : spb kf e = true := decide_eq_true q
      simp (disch := omega) only [kTape_size, kTape_kind, kTape_start, kTape_value, kTape_after, kTape_length, kTape_bytes, h1, h2, q, q2, ↓lm1, ↓lm2, i0, i1, i2, i3, i4, i5, i6, i7, i8, i9, i10, i12, i16, i20, i24, i31, i32, i44, i48, i57, i59, i63, i64, i74, i75, i90, i96, i97, i99, i100, i122, i139, i140, i144, i192, i200, i240, i255, i304, i309, i310, i311, i323, i324, i325, i899, i900, i975, i999, i5200, i4875, i65536, i65537, i15, ob_some, nI_add, nI_clamp, zn_zib, zn_eq, zn_lt, zn_le, m2_lt, m2_le, lt_m2, le_m2, eq_m2, m2_eq, m1_lt, m1_le, lt_m1, le_m1, eq_m1, m1_eq, m1_m2, m2_m1, m2_lt_m1, bI_0, bI_1, bI_t, bI_f, bI_bo, nI0_bo, nI1_bo, if_true, if_false, ite_true, ite_false, Nat.zero_add, Nat.not_lt_zero, Nat.zero_le, not_true_eq_false, not_false_eq_true, or_false, false_or, true_or, or_true, and_true, true_and, Bool.false_eq_true, Bool.true_eq_false, reduceCtorEq, eq_self]
      exact ih (e + 1) fu (by omega) (by omega)
    · have q2 : spb kf e = false := decide_eq_false q
      simp (disch := omega) only [kTape_size, kTape_kind, kTape_start, kTape_value, kTape_after, kTape_length, kTape_bytes, h1, h2, q, q2, ↓lm1, ↓lm2, i0, i1, i2, i3, i4, i5, i6, i7, i8, i9, i10, i12, i16, i20, i24, i31, i32, i44, i48, i57, i59, i63, i64, i74, i75, i90, i96, i97, i99, i100, i122, i139, i140, i144, i192, i200, i240, i255, i304, i309, i310, i311, i323, i324, i325, i899, i900, i975, i999, i5200, i4875, i65536, i65537, i15, ob_some, nI_add, nI_clamp, zn_zib, zn_eq, zn_lt, zn_le, m2_lt, m2_le, lt_m2, le_m2, eq_m2, m2_eq, m1_lt, m1_le, lt_m1, le_m1, eq_m1, m1_eq, m1_m2, m2_m1, m2_lt_m1, bI_0, bI_1, bI_t, bI_f, bI_bo, nI0_bo, nI1_bo, if_true, if_false, ite_true, ite_false, Nat.zero_add, Nat.not_lt_zero, Nat.zero_le, not_true_eq_false, not_false_eq_true, or_false, false_or, true_or, or_true, and_true, true_and, Bool.false_eq_true, Bool.true_eq_false, reduceCtorEq, eq_self]
theorem T_word (hB : TB B tp kf L) (hL : L ≤ 900) : ∀ (j e fu : Nat), e + j = L → j < fu → p ≤ e → zl1 b_X7_scanWord_5 fu (mkTape sz kd (nI p) (lN (enc kf p (e - p))) (nI e) (nI L) B) = b_X7_scanWord_85 (mkTape sz kd (nI p) (lN (enc kf p (rnE (smb kf) j e - p))) (nI (rnE (smb kf) j e)) (nI L) B) := by
  intro j
  induction j with
  | zero =>
    intro e fu he hf hp
    obtain ⟨fu, rfl⟩ : ∃ m, fu = m + 1 := ⟨fu - 1, by omega⟩
    have h1 : L ≤ e := by omega
    rw [zl1_s, rnE_0]
    unfold b_X7_scanWord_5
    simp (disch := omega) only [kTape_size, kTape_kind, kTape_start, kTape_value, kTape_after, kTape_length, kTape_bytes, h1, ↓lm1, ↓lm2, i0, i1, i2, i3, i4, i5, i6, i7, i8, i9, i10, i12, i16, i20, i24, i31, i32, i44, i48, i57, i59, i63, i64, i74, i75, i90, i96, i97, i99, i100, i122, i139, i140, i144, i192, i200, i240, i255, i304, i309, i310, i311, i323, i324, i325, i899, i900, i975, i999, i5200, i4875, i65536, i65537, i15, ob_some, nI_add, nI_clamp, zn_zib, zn_eq, zn_lt, zn_le, m2_lt, m2_le, lt_m2, le_m2, eq_m2, m2_eq, m1_lt, m1_le, lt_m1, le_m1, eq_m1, m1_eq, m1_m2, m2_m1, m2_lt_m1, bI_0, bI_1, bI_t, bI_f, bI_bo, nI0_bo, nI1_bo, if_true, if_false, ite_true, ite_false, Nat.zero_add, Nat.not_lt_zero, Nat.zero_le, not_true_eq_false, not_false_eq_true, or_false, false_or, true_or, or_true, and_true, true_and, Bool.false_eq_true, Bool.true_eq_false, reduceCtorEq, eq_self]
  | succ j ih =>
    intro e fu he hf hp
    obtain ⟨fu, rfl⟩ : ∃ m, fu = m + 1 := ⟨fu - 1, by omega⟩
    have h1 : ¬ L ≤ e := by omega
    rw [zl1_s, rnE_s]
    unfold b_X7_scanWord_5
    rcases TB_rng hB (i := e) (by omega) 97 122 (by omega) (by omega) with ⟨q1, q2, q3, q4, q5⟩ | ⟨q0, q⟩
    · have hs : smb kf e = true := smb_t.mpr ⟨q1, q2⟩
      have ev : lN (enc kf p (e - p)) * (32 : Int64) + (B e - nI 97 + nI 1).toInt64 = lN (enc kf p (e + 1 - p)) := by
        have e32 : (32 : Int64) = lN 32 := rfl
        rw [q5, pk_sub q1, nI_add, nI_l (by omega), e32, lN_mul, lN_add, show e + 1 - p = (e - p) + 1 by omega]
        congr 1
        show _ = enc kf p (e - p) * 32 + (kf (p + (e - p)) - 96)
        rw [show p + (e - p) = e by omega]
        omega
      simp (disch := omega) only [kTape_size, kTape_kind, kTape_start, kTape_value, kTape_after, kTape_length, kTape_bytes, h1, q3, q4, hs, ↓lm1, ↓lm2, i0, i1, i2, i3, i4, i5, i6, i7, i8, i9, i10, i12, i16, i20, i24, i31, i32, i44, i48, i57, i59, i63, i64, i74, i75, i90, i96, i97, i99, i100, i122, i139, i140, i144, i192, i200, i240, i255, i304, i309, i310, i311, i323, i324, i325, i899, i900, i975, i999, i5200, i4875, i65536, i65537, i15, ob_some, nI_add, nI_clamp, zn_zib, zn_eq, zn_lt, zn_le, m2_lt, m2_le, lt_m2, le_m2, eq_m2, m2_eq, m1_lt, m1_le, lt_m1, le_m1, eq_m1, m1_eq, m1_m2, m2_m1, m2_lt_m1, bI_0, bI_1, bI_t, bI_f, bI_bo, nI0_bo, nI1_bo, if_true, if_false, ite_true, ite_false, Nat.zero_add, Nat.not_lt_zero, Nat.zero_le, not_true_eq_false, not_false_eq_true, or_false, false_or, true_or, or_true, and_true, true_and, Bool.false_eq_true, Bool.true_eq_false, reduceCtorEq, eq_self]
      rw [ev]
      exact ih (e + 1) fu (by omega) (by omega) (by omega)
    · have hs : smb kf e = false := smb_f.mpr q0
      rcases q with q | ⟨q3, q⟩
      · simp (disch := omega) only [kTape_size, kTape_kind, kTape_start, kTape_value, kTape_after, kTape_length, kTape_bytes, h1, q, hs, ↓lm1, ↓lm2, i0, i1, i2, i3, i4, i5, i6, i7, i8, i9, i10, i12, i16, i20, i24, i31, i32, i44, i48, i57, i59, i63, i64, i74, i75, i90, i96, i97, i99, i100, i122, i139, i140, i144, i192, i200, i240, i255, i304, i309, i310, i311, i323, i324, i325, i899, i900, i975, i999, i5200, i4875, i65536, i65537, i15, ob_some, nI_add, nI_clamp, zn_zib, zn_eq, zn_lt, zn_le, m2_lt, m2_le, lt_m2, le_m2, eq_m2, m2_eq, m1_lt, m1_le, lt_m1, le_m1, eq_m1, m1_eq, m1_m2, m2_m1, m2_lt_m1, bI_0, bI_1, bI_t, bI_f, bI_bo, nI0_bo, nI1_bo, if_true, if_false, ite_true, ite_false, Nat.zero_add, Nat.not_lt_zero, Nat.zero_le, not_true_eq_false, not_false_eq_true, or_false, false_or, true_or, or_true, and_true, true_and, Bool.false_eq_true, Bool.true_eq_false, reduceCtorEq, eq_self]
      · simp (disch := omega) only [kTape_size, kTape_kind, kTape_start, kTape_value, kTape_after, kTape_length, kTape_bytes, h1, q3, q, hs, ↓lm1, ↓lm2, i0, i1, i2, i3, i4, i5, i6, i7, i8, i9, i10, i12, i16, i20, i24, i31, i32, i44, i48, i57, i59, i63, i64, i74, i75, i90, i96, i97, i99, i100, i122, i139, i140, i144, i192, i200, i240, i255, i304, i309, i310, i311, i323, i324, i325, i899, i900, i975, i999, i5200, i4875, i65536, i65537, i15, ob_some, nI_add, nI_clamp, zn_zib, zn_eq, zn_lt, zn_le, m2_lt, m2_le, lt_m2, le_m2, eq_m2, m2_eq, m1_lt, m1_le, lt_m1, le_m1, eq_m1, m1_eq, m1_m2, m2_m1, m2_lt_m1, bI_0, bI_1, bI_t, bI_f, bI_bo, nI0_bo, nI1_bo, if_true, if_false, ite_true, ite_false, Nat.zero_add, Nat.not_lt_zero, Nat.zero_le, not_true_eq_false, not_false_eq_true, or_false, false_or, true_or, or_true, and_true, true_and, Bool.false_eq_true, Bool.true_eq_false, reduceCtorEq, eq_self]
theorem T_whole (hB : TB B tp kf L) (hL : L ≤ 900) : ∀ (j e fu : Nat), e + j = L → j < fu → p ≤ e → zl1 b_X7_scanWhole_5 fu (mkTape sz kd (nI p) (lN (dcN kf p (e - p))) (nI e) (nI L) B) = b_X7_scanWhole_83 (mkTape sz kd (nI p) (lN (dcN kf p (rnE (dgb kf) j e - p))) (nI (rnE (dgb kf) j e)) (nI L) B) := by
  intro j
  induction j with
  | zero =>
    intro e fu he hf hp
    obtain ⟨fu, rfl⟩ : ∃ m, fu = m + 1 := ⟨fu - 1, by omega⟩
    have h1 : L ≤ e := by omega
    rw [zl1_s, rnE_0]
    unfold b_X7_scanWhole_5
    simp (disch := omega) only [kTape_size, kTape_kind, kTape_start, kTape_value, kTape_after, kTape_length, kTape_bytes, h1, ↓lm1, ↓lm2, i0, i1, i2, i3, i4, i5, i6, i7, i8, i9, i10, i12, i16, i20, i24, i31, i32, i44, i48, i57, i59, i63, i64, i74, i75, i90, i96, i97, i99, i100, i122, i139, i140, i144, i192, i200, i240, i255, i304, i309, i310, i311, i323, i324, i325, i899, i900, i975, i999, i5200, i4875, i65536, i65537, i15, ob_some, nI_add, nI_clamp, zn_zib, zn_eq, zn_lt, zn_le, m2_lt, m2_le, lt_m2, le_m2, eq_m2, m2_eq, m1_lt, m1_le, lt_m1, le_m1, eq_m1, m1_eq, m1_m2, m2_m1, m2_lt_m1, bI_0, bI_1, bI_t, bI_f, bI_bo, nI0_bo, nI1_bo, if_true, if_false, ite_true, ite_false, Nat.zero_add, Nat.not_lt_zero, Nat.zero_le, not_true_eq_false, not_false_eq_true, or_false, false_or, true_or, or_true, and_true, true_and, Bool.false_eq_true, Bool.true_eq_false, reduceCtorEq, eq_self]
  | succ j ih =>
    intro e fu he hf hp
    obtain ⟨fu, rfl⟩ : ∃ m, fu = m + 1 := ⟨fu - 1, by omega⟩
    have h1 : ¬ L ≤ e := by omega
    rw [zl1_s, rnE_s]
    unfold b_X7_scanWhole_5
    rcases TB_rng hB (i := e) (by omega) 48 57 (by omega) (by omega) with ⟨q1, q2, q3, q4, q5⟩ | ⟨q0, q⟩
    · have hs : dgb kf e = true := dgb_t.mpr ⟨q1, q2⟩
      have ev : lN (dcN kf p (e - p)) * (10 : Int64) + (B e - nI 48).toInt64 = lN (dcN kf p (e + 1 - p)) := by
        have e32 : (10 : Int64) = lN 10 := rfl
        rw [q5, pk_sub q1, nI_l (by omega), e32, lN_mul, lN_add, show e + 1 - p = (e - p) + 1 by omega]
        congr 1
        show _ = dcN kf p (e - p) * 10 + (kf (p + (e - p)) - 48)
        rw [show p + (e - p) = e by omega]
      simp (disch := omega) only [kTape_size, kTape_kind, kTape_start, kTape_value, kTape_after, kTape_length, kTape_bytes, h1, q3, q4, hs, ↓lm1, ↓lm2, i0, i1, i2, i3, i4, i5, i6, i7, i8, i9, i10, i12, i16, i20, i24, i31, i32, i44, i48, i57, i59, i63, i64, i74, i75, i90, i96, i97, i99, i100, i122, i139, i140, i144, i192, i200, i240, i255, i304, i309, i310, i311, i323, i324, i325, i899, i900, i975, i999, i5200, i4875, i65536, i65537, i15, ob_some, nI_add, nI_clamp, zn_zib, zn_eq, zn_lt, zn_le, m2_lt, m2_le, lt_m2, le_m2, eq_m2, m2_eq, m1_lt, m1_le, lt_m1, le_m1, eq_m1, m1_eq, m1_m2, m2_m1, m2_lt_m1, bI_0, bI_1, bI_t, bI_f, bI_bo, nI0_bo, nI1_bo, if_true, if_false, ite_true, ite_false, Nat.zero_add, Nat.not_lt_zero, Nat.zero_le, not_true_eq_false, not_false_eq_true, or_false, false_or, true_or, or_true, and_true, true_and, Bool.false_eq_true, Bool.true_eq_false, reduceCtorEq, eq_self]
      rw [ev]
      exact ih (e + 1) fu (by omega) (by omega) (by omega)
    · have hs : dgb kf e = false := dgb_f.mpr q0
      rcases q with q | ⟨q3, q⟩
      · simp (disch := omega) only [kTape_size, kTape_kind, kTape_start, kTape_value, kTape_after, kTape_length, kTape_bytes, h1, q, hs, ↓lm1, ↓lm2, i0, i1, i2, i3, i4, i5, i6, i7, i8, i9, i10, i12, i16, i20, i24, i31, i32, i44, i48, i57, i59, i63, i64, i74, i75, i90, i96, i97, i99, i100, i122, i139, i140, i144, i192, i200, i240, i255, i304, i309, i310, i311, i323, i324, i325, i899, i900, i975, i999, i5200, i4875, i65536, i65537, i15, ob_some, nI_add, nI_clamp, zn_zib, zn_eq, zn_lt, zn_le, m2_lt, m2_le, lt_m2, le_m2, eq_m2, m2_eq, m1_lt, m1_le, lt_m1, le_m1, eq_m1, m1_eq, m1_m2, m2_m1, m2_lt_m1, bI_0, bI_1, bI_t, bI_f, bI_bo, nI0_bo, nI1_bo, if_true, if_false, ite_true, ite_false, Nat.zero_add, Nat.not_lt_zero, Nat.zero_le, not_true_eq_false, not_false_eq_true, or_false, false_or, true_or, or_true, and_true, true_and, Bool.false_eq_true, Bool.true_eq_false, reduceCtorEq, eq_self]
      · simp (disch := omega) only [kTape_size, kTape_kind, kTape_start, kTape_value, kTape_after, kTape_length, kTape_bytes, h1, q3, q, hs, ↓lm1, ↓lm2, i0, i1, i2, i3, i4, i5, i6, i7, i8, i9, i10, i12, i16, i20, i24, i31, i32, i44, i48, i57, i59, i63, i64, i74, i75, i90, i96, i97, i99, i100, i122, i139, i140, i144, i192, i200, i240, i255, i304, i309, i310, i311, i323, i324, i325, i899, i900, i975, i999, i5200, i4875, i65536, i65537, i15, ob_some, nI_add, nI_clamp, zn_zib, zn_eq, zn_lt, zn_le, m2_lt, m2_le, lt_m2, le_m2, eq_m2, m2_eq, m1_lt, m1_le, lt_m1, le_m1, eq_m1, m1_eq, m1_m2, m2_m1, m2_lt_m1, bI_0, bI_1, bI_t, bI_f, bI_bo, nI0_bo, nI1_bo, if_true, if_false, ite_true, ite_false, Nat.zero_add, Nat.not_lt_zero, Nat.zero_le, not_true_eq_false, not_false_eq_true, or_false, false_or, true_or, or_true, and_true, true_and, Bool.false_eq_true, Bool.true_eq_false, reduceCtorEq, eq_self]
end
def stp (S : SMo) (a en tk wh ns : Int32) : SMo := mkMo (Mo_thrown S) (Mo_taped S) (Mo_size S) a en tk wh ns (Mo_fault S) (Mo_place S) (Mo_trouble S) (Mo_failed S) (Mo_hasStore S) (Mo_undos S) (Mo_images S) (Mo_ring S) (Mo_refused S) (Mo_setMany S) (Mo_someOf S) (Mo_allOf S) (Mo_firstRest S) (Mo_allWeight S) (Mo_seenWeight S) (Mo_sumWeight S)
def SE (S S' : SMo) : Prop := Mo_taped S' = Mo_taped S ∧ Mo_size S' = Mo_size S ∧ Mo_fault S' = Mo_fault S ∧ Mo_place S' = Mo_place S ∧ Mo_trouble S' = Mo_trouble S ∧ Mo_failed S' = Mo_failed S ∧ Mo_hasStore S' = Mo_hasStore S ∧ Mo_undos S' = Mo_undos S ∧ Mo_images S' = Mo_images S ∧ Mo_ring S' = Mo_ring S
theorem SE_rfl (S : SMo) : SE S S := ⟨rfl, rfl, rfl, rfl, rfl, rfl, rfl, rfl, rfl, rfl⟩
theorem SE_trans {S S' S'' : SMo} (h : SE S S') (g : SE S' S'') : SE S S'' := ⟨g.1.trans h.1, g.2.1.trans h.2.1, g.2.2.1.trans h.2.2.1, g.2.2.2.1.trans h.2.2.2.1, g.2.2.2.2.1.trans h.2.2.2.2.1, g.2.2.2.2.2.1.trans h.2.2.2.2.2.1, g.2.2.2.2.2.2.1.trans h.2.2.2.2.2.2.1, g.2.2.2.2.2.2.2.1.trans h.2.2.2.2.2.2.2.1, g.2.2.2.2.2.2.2.2.1.trans h.2.2.2.2.2.2.2.2.1, g.2.2.2.2.2.2.2.2.2.trans h.2.2.2.2.2.2.2.2.2⟩
theorem SE_size {S S' : SMo} (h : SE S S') : Mo_size S' = Mo_size S := h.2.1
theorem SE_fault {S S' : SMo} (h : SE S S') : Mo_fault S' = Mo_fault S := h.2.2.1
theorem SE_failed {S S' : SMo} (h : SE S S') : Mo_failed S' = Mo_failed S := h.2.2.2.2.2.1
theorem SE_ring {S S' : SMo} (h : SE S S') : Mo_ring S' = Mo_ring S := h.2.2.2.2.2.2.2.2.2
section
variable {B tp : Nat → Int32} {kf : Nat → Nat} {L p : Nat}
theorem M_skip (hB : TB B tp kf L) (hL : L ≤ 900) {S : SMo} {lt : Nat → Int32} (hs : Mo_size S = nI L) : ∀ (j e fu : Nat), e + j = L → j < fu → ∃ k, zl3 (b_X10_step_5 tp) fu S lt (nI e) = b_X10_step_5 tp k S lt (nI (rnE (spb kf) j e)) := by
  intro j
  induction j with
  | zero =>
    intro e fu he hf
    obtain ⟨fu, rfl⟩ : ∃ m, fu = m + 1 := ⟨fu - 1, by omega⟩
    exact ⟨_, by rw [zl3_s, rnE_0]⟩
  | succ j ih =>
    intro e fu he hf
    obtain ⟨fu, rfl⟩ : ∃ m, fu = m + 1 := ⟨fu - 1, by omega⟩
    by_cases q : kf e = 32
    · have q2 : spb kf e = true := decide_eq_true q
      obtain ⟨k, hk⟩ := ih (e + 1) fu (by omega) (by omega)
      refine ⟨k, ?_⟩
      rw [zl3_s, rnE_s, if_pos q2, ← hk]
      unfold b_X10_step_5
      simp (disch := omega) only [M_see_lt hB hL hs (by omega : e < L), q, ↓lm1, ↓lm2, i0, i1, i2, i3, i4, i5, i6, i7, i8, i9, i10, i12, i16, i20, i24, i31, i32, i44, i48, i57, i59, i63, i64, i74, i75, i90, i96, i97, i99, i100, i122, i139, i140, i144, i192, i200, i240, i255, i304, i309, i310, i311, i323, i324, i325, i899, i900, i975, i999, i5200, i4875, i65536, i65537, i15, ob_some, nI_add, nI_clamp, zn_zib, zn_eq, zn_lt, zn_le, m2_lt, m2_le, lt_m2, le_m2, eq_m2, m2_eq, m1_lt, m1_le, lt_m1, le_m1, eq_m1, m1_eq, m1_m2, m2_m1, m2_lt_m1, bI_0, bI_1, bI_t, bI_f, bI_bo, nI0_bo, nI1_bo, if_true, if_false, ite_true, ite_false, Nat.zero_add, Nat.not_lt_zero, Nat.zero_le, not_true_eq_false, not_false_eq_true, or_false, false_or, true_or, or_true, and_true, true_and, Bool.false_eq_true, Bool.true_eq_false, reduceCtorEq, eq_self]
    · have q2 : spb kf e = false := decide_eq_false q
      exact ⟨_, by rw [zl3_s, rnE_s, if_neg (by rw [q2]; decide)]⟩
theorem M_word (hB : TB B tp kf L) (hL : L ≤ 900) : ∀ (j e fu : Nat) (S : SMo) (lt : Nat → Int32), e + j = L → j < fu → p ≤ e → Mo_size S = nI L → Mo_nameSize S = nI (e - p) → (∀ k, k < e - p → k < 8 → lt k = nI (kf (p + k))) → ∃ S' lt', zl3 (b_X10_step_67 tp) fu S lt (nI e) = some (S', lt') ∧ SE S S' ∧ Mo_at S' = Mo_at S ∧ Mo_end S' = nI (rnE (smb kf) j e) ∧ Mo_token S' = (if rnE (smb kf) j e - p ≤ 8 then nI 2 else nI 1) ∧ Mo_nameSize S' = nI (rnE (smb kf) j e - p) ∧ (∀ k, k < rnE (smb kf) j e - p → k < 8 → lt' k = nI (kf (p + k))) := by
  intro j
  induction j with
  | zero =>
    intro e fu S lt he hf hp hs hn hl
    obtain ⟨fu, rfl⟩ : ∃ m, fu = m + 1 := ⟨fu - 1, by omega⟩
    rw [zl3_s, rnE_0]
    unfold b_X10_step_67
    by_cases q : e - p ≤ 8
    · refine ⟨stp S (Mo_at S) (nI e) (nI 2) (Mo_whole S) (nI (e - p)), lt, by simp (disch := omega) only [M_see_ge hL hs (by omega : e = L), M_isSmall_m1, hn, q, ↓lm1, ↓lm2, i0, i1, i2, i3, i4, i5, i6, i7, i8, i9, i10, i12, i16, i20, i24, i31, i32, i44, i48, i57, i59, i63, i64, i74, i75, i90, i96, i97, i99, i100, i122, i139, i140, i144, i192, i200, i240, i255, i304, i309, i310, i311, i323, i324, i325, i899, i900, i975, i999, i5200, i4875, i65536, i65537, i15, ob_some, nI_add, nI_clamp, zn_zib, zn_eq, zn_lt, zn_le, m2_lt, m2_le, lt_m2, le_m2, eq_m2, m2_eq, m1_lt, m1_le, lt_m1, le_m1, eq_m1, m1_eq, m1_m2, m2_m1, m2_lt_m1, bI_0, bI_1, bI_t, bI_f, bI_bo, nI0_bo, nI1_bo, if_true, if_false, ite_true, ite_false, Nat.zero_add, Nat.not_lt_zero, Nat.zero_le, not_true_eq_false, not_false_eq_true, or_false, false_or, true_or, or_true, and_true, true_and, Bool.false_eq_true, Bool.true_eq_false, reduceCtorEq, eq_self]; rfl, ⟨rfl, rfl, rfl, rfl, rfl, rfl, rfl, rfl, rfl, rfl⟩, rfl, rfl, by rw [if_pos q]; rfl, rfl, hl⟩
    · refine ⟨stp S (Mo_at S) (nI e) (nI 1) (Mo_whole S) (nI (e - p)), lt, by simp (disch := omega) only [M_see_ge hL hs (by omega : e = L), M_isSmall_m1, hn, q, ↓lm1, ↓lm2, i0, i1, i2, i3, i4, i5, i6, i7, i8, i9, i10, i12, i16, i20, i24, i31, i32, i44, i48, i57, i59, i63, i64, i74, i75, i90, i96, i97, i99, i100, i122, i139, i140, i144, i192, i200, i240, i255, i304, i309, i310, i311, i323, i324, i325, i899, i900, i975, i999, i5200, i4875, i65536, i65537, i15, ob_some, nI_add, nI_clamp, zn_zib, zn_eq, zn_lt, zn_le, m2_lt, m2_le, lt_m2, le_m2, eq_m2, m2_eq, m1_lt, m1_le, lt_m1, le_m1, eq_m1, m1_eq, m1_m2, m2_m1, m2_lt_m1, bI_0, bI_1, bI_t, bI_f, bI_bo, nI0_bo, nI1_bo, if_true, if_false, ite_true, ite_false, Nat.zero_add, Nat.not_lt_zero, Nat.zero_le, not_true_eq_false, not_false_eq_true, or_false, false_or, true_or, or_true, and_true, true_and, Bool.false_eq_true, Bool.true_eq_false, reduceCtorEq, eq_self]; rfl, ⟨rfl, rfl, rfl, rfl, rfl, rfl, rfl, rfl, rfl, rfl⟩, rfl, rfl, by rw [if_neg q]; rfl, rfl, hl⟩
  | succ j ih =>
    intro e fu S lt he hf hp hs hn hl
    obtain ⟨fu, rfl⟩ : ∃ m, fu = m + 1 := ⟨fu - 1, by omega⟩
    rw [zl3_s]
    have h1 := M_see_lt hB hL hs (by omega : e < L)
    have h2 := M_isSmall (TB_256 hB (by omega : e < L))
    unfold b_X10_step_67
    cases hs2 : smb kf e
    · rw [hs2] at h2
      have hE : rnE (smb kf) (j + 1) e = e := by
        rw [rnE_s, hs2]
        rfl
      rw [hE]
      by_cases q : e - p ≤ 8
      · refine ⟨stp S (Mo_at S) (nI e) (nI 2) (Mo_whole S) (nI (e - p)), lt, by simp (disch := omega) only [h1, h2, hn, q, ↓lm1, ↓lm2, i0, i1, i2, i3, i4, i5, i6, i7, i8, i9, i10, i12, i16, i20, i24, i31, i32, i44, i48, i57, i59, i63, i64, i74, i75, i90, i96, i97, i99, i100, i122, i139, i140, i144, i192, i200, i240, i255, i304, i309, i310, i311, i323, i324, i325, i899, i900, i975, i999, i5200, i4875, i65536, i65537, i15, ob_some, nI_add, nI_clamp, zn_zib, zn_eq, zn_lt, zn_le, m2_lt, m2_le, lt_m2, le_m2, eq_m2, m2_eq, m1_lt, m1_le, lt_m1, le_m1, eq_m1, m1_eq, m1_m2, m2_m1, m2_lt_m1, bI_0, bI_1, bI_t, bI_f, bI_bo, nI0_bo, nI1_bo, if_true, if_false, ite_true, ite_false, Nat.zero_add, Nat.not_lt_zero, Nat.zero_le, not_true_eq_false, not_false_eq_true, or_false, false_or, true_or, or_true, and_true, true_and, Bool.false_eq_true, Bool.true_eq_false, reduceCtorEq, eq_self]; rfl, ⟨rfl, rfl, rfl, rfl, rfl, rfl, rfl, rfl, rfl, rfl⟩, rfl, rfl, by rw [if_pos q]; rfl, rfl, hl⟩
      · refine ⟨stp S (Mo_at S) (nI e) (nI 1) (Mo_whole S) (nI (e - p)), lt, by simp (disch := omega) only [h1, h2, hn, q, ↓lm1, ↓lm2, i0, i1, i2, i3, i4, i5, i6, i7, i8, i9, i10, i12, i16, i20, i24, i31, i32, i44, i48, i57, i59, i63, i64, i74, i75, i90, i96, i97, i99, i100, i122, i139, i140, i144, i192, i200, i240, i255, i304, i309, i310, i311, i323, i324, i325, i899, i900, i975, i999, i5200, i4875, i65536, i65537, i15, ob_some, nI_add, nI_clamp, zn_zib, zn_eq, zn_lt, zn_le, m2_lt, m2_le, lt_m2, le_m2, eq_m2, m2_eq, m1_lt, m1_le, lt_m1, le_m1, eq_m1, m1_eq, m1_m2, m2_m1, m2_lt_m1, bI_0, bI_1, bI_t, bI_f, bI_bo, nI0_bo, nI1_bo, if_true, if_false, ite_true, ite_false, Nat.zero_add, Nat.not_lt_zero, Nat.zero_le, not_true_eq_false, not_false_eq_true, or_false, false_or, true_or, or_true, and_true, true_and, Bool.false_eq_true, Bool.true_eq_false, reduceCtorEq, eq_self]; rfl, ⟨rfl, rfl, rfl, rfl, rfl, rfl, rfl, rfl, rfl, rfl⟩, rfl, rfl, by rw [if_neg q]; rfl, rfl, hl⟩
    · rw [hs2] at h2
      have hE : rnE (smb kf) (j + 1) e = rnE (smb kf) j (e + 1) := by
        rw [rnE_s, hs2]
        rfl
      rw [hE]
      have en : e - p + 1 = e + 1 - p := by omega
      by_cases q : 8 ≤ e - p
      · obtain ⟨S', lt', g1, g2, g3, g4, g5, g6, g7⟩ := ih (e + 1) fu (sMo_nameSize S (nI (e + 1 - p))) lt (by omega) (by omega) (by omega) hs rfl (fun k hk h8 => hl k (by omega) h8)
        refine ⟨S', lt', ?_, SE_trans ⟨rfl, rfl, rfl, rfl, rfl, rfl, rfl, rfl, rfl, rfl⟩ g2, g3, g4, g5, g6, g7⟩
        rw [← g1]
        simp (disch := omega) only [h1, h2, hn, q, en, ↓lm1, ↓lm2, i0, i1, i2, i3, i4, i5, i6, i7, i8, i9, i10, i12, i16, i20, i24, i31, i32, i44, i48, i57, i59, i63, i64, i74, i75, i90, i96, i97, i99, i100, i122, i139, i140, i144, i192, i200, i240, i255, i304, i309, i310, i311, i323, i324, i325, i899, i900, i975, i999, i5200, i4875, i65536, i65537, i15, ob_some, nI_add, nI_clamp, zn_zib, zn_eq, zn_lt, zn_le, m2_lt, m2_le, lt_m2, le_m2, eq_m2, m2_eq, m1_lt, m1_le, lt_m1, le_m1, eq_m1, m1_eq, m1_m2, m2_m1, m2_lt_m1, bI_0, bI_1, bI_t, bI_f, bI_bo, nI0_bo, nI1_bo, if_true, if_false, ite_true, ite_false, Nat.zero_add, Nat.not_lt_zero, Nat.zero_le, not_true_eq_false, not_false_eq_true, or_false, false_or, true_or, or_true, and_true, true_and, Bool.false_eq_true, Bool.true_eq_false, reduceCtorEq, eq_self]
        rfl
      · obtain ⟨S', lt', g1, g2, g3, g4, g5, g6, g7⟩ := ih (e + 1) fu (sMo_nameSize S (nI (e + 1 - p))) (upd lt (e - p) (nI (kf e))) (by omega) (by omega) (by omega) hs rfl (fun k hk h8 => by
          unfold upd
          by_cases z : k = e - p
          · rw [if_pos z, show p + k = e by omega]
          · rw [if_neg z]
            exact hl k (by omega) h8)
        refine ⟨S', lt', ?_, SE_trans ⟨rfl, rfl, rfl, rfl, rfl, rfl, rfl, rfl, rfl, rfl⟩ g2, g3, g4, g5, g6, g7⟩
        rw [← g1]
        simp (disch := omega) only [h1, h2, hn, q, en, ↓lm1, ↓lm2, i0, i1, i2, i3, i4, i5, i6, i7, i8, i9, i10, i12, i16, i20, i24, i31, i32, i44, i48, i57, i59, i63, i64, i74, i75, i90, i96, i97, i99, i100, i122, i139, i140, i144, i192, i200, i240, i255, i304, i309, i310, i311, i323, i324, i325, i899, i900, i975, i999, i5200, i4875, i65536, i65537, i15, ob_some, nI_add, nI_clamp, zn_zib, zn_eq, zn_lt, zn_le, m2_lt, m2_le, lt_m2, le_m2, eq_m2, m2_eq, m1_lt, m1_le, lt_m1, le_m1, eq_m1, m1_eq, m1_m2, m2_m1, m2_lt_m1, bI_0, bI_1, bI_t, bI_f, bI_bo, nI0_bo, nI1_bo, if_true, if_false, ite_true, ite_false, Nat.zero_add, Nat.not_lt_zero, Nat.zero_le, not_true_eq_false, not_false_eq_true, or_false, false_or, true_or, or_true, and_true, true_and, Bool.false_eq_true, Bool.true_eq_false, reduceCtorEq, eq_self]
        rfl
theorem M_whole (hB : TB B tp kf L) (hL : L ≤ 900) : ∀ (j e fu : Nat) (S : SMo) (lt : Nat → Int32), e + j = L → j < fu → p ≤ e → Mo_size S = nI L → (∀ i, p ≤ i → i < e → 48 ≤ kf i ∧ kf i ≤ 57) → (e - p ≤ 3 → Mo_whole S = nI (dcN kf p (e - p))) → ∃ S', zl4 (b_X10_step_152 tp) fu S lt (nI e) (nI (e - p)) = some (S', lt) ∧ SE S S' ∧ Mo_at S' = Mo_at S ∧ Mo_end S' = nI (rnE (dgb kf) j e) ∧ Mo_token S' = (if rnE (dgb kf) j e - p ≤ 3 then nI 3 else nI 1) ∧ (rnE (dgb kf) j e - p ≤ 3 → Mo_whole S' = nI (dcN kf p (rnE (dgb kf) j e - p))) := by
  intro j
  induction j with
  | zero =>
    intro e fu S lt he hf hp hs hd hw
    obtain ⟨fu, rfl⟩ : ∃ m, fu = m + 1 := ⟨fu - 1, by omega⟩
    rw [zl4_s, rnE_0]
    unfold b_X10_step_152
    by_cases q : e - p ≤ 3
    · refine ⟨stp S (Mo_at S) (nI e) (nI 3) (Mo_whole S) (Mo_nameSize S), by simp (disch := omega) only [M_see_ge hL hs (by omega : e = L), M_isDigit_m1, q, ↓lm1, ↓lm2, i0, i1, i2, i3, i4, i5, i6, i7, i8, i9, i10, i12, i16, i20, i24, i31, i32, i44, i48, i57, i59, i63, i64, i74, i75, i90, i96, i97, i99, i100, i122, i139, i140, i144, i192, i200, i240, i255, i304, i309, i310, i311, i323, i324, i325, i899, i900, i975, i999, i5200, i4875, i65536, i65537, i15, ob_some, nI_add, nI_clamp, zn_zib, zn_eq, zn_lt, zn_le, m2_lt, m2_le, lt_m2, le_m2, eq_m2, m2_eq, m1_lt, m1_le, lt_m1, le_m1, eq_m1, m1_eq, m1_m2, m2_m1, m2_lt_m1, bI_0, bI_1, bI_t, bI_f, bI_bo, nI0_bo, nI1_bo, if_true, if_false, ite_true, ite_false, Nat.zero_add, Nat.not_lt_zero, Nat.zero_le, not_true_eq_false, not_false_eq_true, or_false, false_or, true_or, or_true, and_true, true_and, Bool.false_eq_true, Bool.true_eq_false, reduceCtorEq, eq_self]; rfl, ⟨rfl, rfl, rfl, rfl, rfl, rfl, rfl, rfl, rfl, rfl⟩, rfl, rfl, by rw [if_pos q]; rfl, hw⟩
    · refine ⟨stp S (Mo_at S) (nI e) (nI 1) (Mo_whole S) (Mo_nameSize S), by simp (disch := omega) only [M_see_ge hL hs (by omega : e = L), M_isDigit_m1, q, ↓lm1, ↓lm2, i0, i1, i2, i3, i4, i5, i6, i7, i8, i9, i10, i12, i16, i20, i24, i31, i32, i44, i48, i57, i59, i63, i64, i74, i75, i90, i96, i97, i99, i100, i122, i139, i140, i144, i192, i200, i240, i255, i304, i309, i310, i311, i323, i324, i325, i899, i900, i975, i999, i5200, i4875, i65536, i65537, i15, ob_some, nI_add, nI_clamp, zn_zib, zn_eq, zn_lt, zn_le, m2_lt, m2_le, lt_m2, le_m2, eq_m2, m2_eq, m1_lt, m1_le, lt_m1, le_m1, eq_m1, m1_eq, m1_m2, m2_m1, m2_lt_m1, bI_0, bI_1, bI_t, bI_f, bI_bo, nI0_bo, nI1_bo, if_true, if_false, ite_true, ite_false, Nat.zero_add, Nat.not_lt_zero, Nat.zero_le, not_true_eq_false, not_false_eq_true, or_false, false_or, true_or, or_true, and_true, true_and, Bool.false_eq_true, Bool.true_eq_false, reduceCtorEq, eq_self]; rfl, ⟨rfl, rfl, rfl, rfl, rfl, rfl, rfl, rfl, rfl, rfl⟩, rfl, rfl, by rw [if_neg q]; rfl, hw⟩
  | succ j ih =>
    intro e fu S lt he hf hp hs hd hw
    obtain ⟨fu, rfl⟩ : ∃ m, fu = m + 1 := ⟨fu - 1, by omega⟩
    rw [zl4_s]
    have h1 := M_see_lt hB hL hs (by omega : e < L)
    have h2 := M_isDigit (TB_256 hB (by omega : e < L))
    unfold b_X10_step_152
    cases hs2 : dgb kf e
    · rw [hs2] at h2
      have hE : rnE (dgb kf) (j + 1) e = e := by
        rw [rnE_s, hs2]
        rfl
      rw [hE]
      by_cases q : e - p ≤ 3
      · refine ⟨stp S (Mo_at S) (nI e) (nI 3) (Mo_whole S) (Mo_nameSize S), by simp (disch := omega) only [h1, h2, q, ↓lm1, ↓lm2, i0, i1, i2, i3, i4, i5, i6, i7, i8, i9, i10, i12, i16, i20, i24, i31, i32, i44, i48, i57, i59, i63, i64, i74, i75, i90, i96, i97, i99, i100, i122, i139, i140, i144, i192, i200, i240, i255, i304, i309, i310, i311, i323, i324, i325, i899, i900, i975, i999, i5200, i4875, i65536, i65537, i15, ob_some, nI_add, nI_clamp, zn_zib, zn_eq, zn_lt, zn_le, m2_lt, m2_le, lt_m2, le_m2, eq_m2, m2_eq, m1_lt, m1_le, lt_m1, le_m1, eq_m1, m1_eq, m1_m2, m2_m1, m2_lt_m1, bI_0, bI_1, bI_t, bI_f, bI_bo, nI0_bo, nI1_bo, if_true, if_false, ite_true, ite_false, Nat.zero_add, Nat.not_lt_zero, Nat.zero_le, not_true_eq_false, not_false_eq_true, or_false, false_or, true_or, or_true, and_true, true_and, Bool.false_eq_true, Bool.true_eq_false, reduceCtorEq, eq_self]; rfl, ⟨rfl, rfl, rfl, rfl, rfl, rfl, rfl, rfl, rfl, rfl⟩, rfl, rfl, by rw [if_pos q]; rfl, hw⟩
      · refine ⟨stp S (Mo_at S) (nI e) (nI 1) (Mo_whole S) (Mo_nameSize S), by simp (disch := omega) only [h1, h2, q, ↓lm1, ↓lm2, i0, i1, i2, i3, i4, i5, i6, i7, i8, i9, i10, i12, i16, i20, i24, i31, i32, i44, i48, i57, i59, i63, i64, i74, i75, i90, i96, i97, i99, i100, i122, i139, i140, i144, i192, i200, i240, i255, i304, i309, i310, i311, i323, i324, i325, i899, i900, i975, i999, i5200, i4875, i65536, i65537, i15, ob_some, nI_add, nI_clamp, zn_zib, zn_eq, zn_lt, zn_le, m2_lt, m2_le, lt_m2, le_m2, eq_m2, m2_eq, m1_lt, m1_le, lt_m1, le_m1, eq_m1, m1_eq, m1_m2, m2_m1, m2_lt_m1, bI_0, bI_1, bI_t, bI_f, bI_bo, nI0_bo, nI1_bo, if_true, if_false, ite_true, ite_false, Nat.zero_add, Nat.not_lt_zero, Nat.zero_le, not_true_eq_false, not_false_eq_true, or_false, false_or, true_or, or_true, and_true, true_and, Bool.false_eq_true, Bool.true_eq_false, reduceCtorEq, eq_self]; rfl, ⟨rfl, rfl, rfl, rfl, rfl, rfl, rfl, rfl, rfl, rfl⟩, rfl, rfl, by rw [if_neg q]; rfl, hw⟩
    · rw [hs2] at h2
      have hE : rnE (dgb kf) (j + 1) e = rnE (dgb kf) j (e + 1) := by
        rw [rnE_s, hs2]
        rfl
      rw [hE]
      have en : e - p + 1 = e + 1 - p := by omega
      have hd2 : ∀ i, p ≤ i → i < e + 1 → 48 ≤ kf i ∧ kf i ≤ 57 := fun i h3 h4 => by
        by_cases z : i = e
        · subst z
          exact dgb_t.mp hs2
        · exact hd i h3 (by omega)
      by_cases q : 3 ≤ e - p
      · obtain ⟨S', g1, g2, g3, g4, g5, g6⟩ := ih (e + 1) fu S lt (by omega) (by omega) (by omega) hs hd2 (fun z => by omega)
        refine ⟨S', ?_, g2, g3, g4, g5, g6⟩
        rw [← g1]
        simp (disch := omega) only [h1, h2, q, en, ↓lm1, ↓lm2, i0, i1, i2, i3, i4, i5, i6, i7, i8, i9, i10, i12, i16, i20, i24, i31, i32, i44, i48, i57, i59, i63, i64, i74, i75, i90, i96, i97, i99, i100, i122, i139, i140, i144, i192, i200, i240, i255, i304, i309, i310, i311, i323, i324, i325, i899, i900, i975, i999, i5200, i4875, i65536, i65537, i15, ob_some, nI_add, nI_clamp, zn_zib, zn_eq, zn_lt, zn_le, m2_lt, m2_le, lt_m2, le_m2, eq_m2, m2_eq, m1_lt, m1_le, lt_m1, le_m1, eq_m1, m1_eq, m1_m2, m2_m1, m2_lt_m1, bI_0, bI_1, bI_t, bI_f, bI_bo, nI0_bo, nI1_bo, if_true, if_false, ite_true, ite_false, Nat.zero_add, Nat.not_lt_zero, Nat.zero_le, not_true_eq_false, not_false_eq_true, or_false, false_or, true_or, or_true, and_true, true_and, Bool.false_eq_true, Bool.true_eq_false, reduceCtorEq, eq_self]
        rfl
      · have hk := dgb_t.mp hs2
        have hv : nI 10 * Mo_whole S + nI (kf e) - nI 48 = nI (dcN kf p (e + 1 - p)) := by
          rw [hw (by omega), pk_mul, nI_add, pk_sub (by omega), show e + 1 - p = (e - p) + 1 by omega]
          congr 1
          show _ = dcN kf p (e - p) * 10 + (kf (p + (e - p)) - 48)
          rw [show p + (e - p) = e by omega]
          omega
        obtain ⟨S', g1, g2, g3, g4, g5, g6⟩ := ih (e + 1) fu (sMo_whole S (nI (dcN kf p (e + 1 - p)))) lt (by omega) (by omega) (by omega) hs hd2 (fun z => rfl)
        refine ⟨S', ?_, SE_trans ⟨rfl, rfl, rfl, rfl, rfl, rfl, rfl, rfl, rfl, rfl⟩ g2, g3, g4, g5, g6⟩
        rw [← g1]
        simp (disch := omega) only [h1, h2, q, en, hv, ↓lm1, ↓lm2, i0, i1, i2, i3, i4, i5, i6, i7, i8, i9, i10, i12, i16, i20, i24, i31, i32, i44, i48, i57, i59, i63, i64, i74, i75, i90, i96, i97, i99, i100, i122, i139, i140, i144, i192, i200, i240, i255, i304, i309, i310, i311, i323, i324, i325, i899, i900, i975, i999, i5200, i4875, i65536, i65537, i15, ob_some, nI_add, nI_clamp, zn_zib, zn_eq, zn_lt, zn_le, m2_lt, m2_le, lt_m2, le_m2, eq_m2, m2_eq, m1_lt, m1_le, lt_m1, le_m1, eq_m1, m1_eq, m1_m2, m2_m1, m2_lt_m1, bI_0, bI_1, bI_t, bI_f, bI_bo, nI0_bo, nI1_bo, if_true, if_false, ite_true, ite_false, Nat.zero_add, Nat.not_lt_zero, Nat.zero_le, not_true_eq_false, not_false_eq_true, or_false, false_or, true_or, or_true, and_true, true_and, Bool.false_eq_true, Bool.true_eq_false, reduceCtorEq, eq_self]
        rfl
end
