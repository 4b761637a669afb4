/-! the calls: what both sides hold between them -/
def SA (S S' : SMo) (q : Int32) : Prop := Mo_trouble S' = q ∧ Mo_taped S' = Mo_taped S ∧ Mo_fault S' = Mo_fault S ∧ Mo_place S' = Mo_place S ∧ Mo_hasStore S' = Mo_hasStore S ∧ Mo_undos S' = Mo_undos S ∧ Mo_images S' = Mo_images S ∧ Mo_ring S' = Mo_ring S
def AN (S : SMo) : SMo := sMo_trouble (sMo_thrown S (nI 0)) (nI 0)
def Q0 (R : SRows) (S : SMo) : Prop := Mo_hasStore S = nI 0 ∧ Mo_ring S = nI 0 ∧ Rows_ring R = nI 0 ∧ Rows_rowCount R = nI 0 ∧ Rows_crash R = nI 0 ∧ Rows_count R = nI 0 ∧ (∀ w, w < 6 → Rows_stamps R w = m2) ∧ ∀ v, v < 48 → Rows_rowsOf R v = m2
def Q1 (R : SRows) (S : SMo) (r st : Nat → Int32) (n m c b : Nat) : Prop := Mo_hasStore S = nI 1 ∧ Mo_ring S = nI n ∧ r 0 = nI n ∧ r 1 = nI m ∧ r 3 = nI c ∧ RC R st n m c ∧ IS st n ∧ MK st b
def QB (T : SSR) (S : SMo) (a : Option (Int32 × SSR)) (b : Option (Int32 × SMo)) : Prop := ∃ x q S', a = some (x, sSR_troubleNumber T q) ∧ b = some (x, S') ∧ SA S S' q
theorem SA_AN (S : SMo) : SA S (AN S) (nI 0) := ⟨rfl, rfl, rfl, rfl, rfl, rfl, rfl, rfl⟩
theorem SA_no (S : SMo) (q : Int32) : SA S (sMo_trouble (AN S) q) q := ⟨rfl, rfl, rfl, rfl, rfl, rfl, rfl, rfl⟩
theorem M_anew (S : SMo) : f_X10_anew S = some (AN S) := rfl
theorem M_no (S : SMo) (x : Int32) : f_X10_no S x = some (m1, sMo_trouble S x) := rfl
theorem X9_ans (T : SSR) (x : Int32) : f_X9_answer T x = some (x, sSR_troubleNumber T (nI 0)) := rfl
theorem X9_ref (T : SSR) (x : Int32) : f_X9_refuse T x = some (m1, sSR_troubleNumber T x) := rfl
theorem QB_ans {T : SSR} {S : SMo} {a : Option (Int32 × SSR)} {b : Option (Int32 × SMo)} (x : Int32) (h1 : a = some (x, sSR_troubleNumber T (nI 0))) (h2 : b = some (x, AN S)) : QB T S a b := ⟨x, nI 0, AN S, h1, h2, SA_AN S⟩
theorem QB_no {T : SSR} {S : SMo} {a : Option (Int32 × SSR)} {b : Option (Int32 × SMo)} (q : Int32) (h1 : a = some (m1, sSR_troubleNumber T q)) (h2 : b = some (m1, sMo_trouble (AN S) q)) : QB T S a b := ⟨m1, q, _, h1, h2, SA_no S q⟩
theorem M_in {x : Int32} {k : Nat} (hk : k < 2 ^ 30) : f_X10_in x (nI 0) (nI k - nI 1) = some (bI (!decide (x < nI 0) && decide (x < nI k))) := by
  unfold f_X10_in
  by_cases h0 : x < nI 0
  · simp only [h0, if_true, decide_true, Bool.not_true, Bool.false_and]
    rfl
  · obtain ⟨j, hj, rfl⟩ := nI_of h0
    have e : (nI k - nI 1 < nI j) = ¬ (nI j < nI k) := by
      rw [fa_lt, pk_sub_toInt (by omega) (by omega), nI_toInt hj, zn_lt hj (by omega)]
      exact propext ⟨fun h => by omega, fun h => by omega⟩
    by_cases q : nI j < nI k
    · simp only [h0, if_false, e, q, not_true_eq_false, decide_true, decide_false, Bool.not_false, Bool.true_and]
      rfl
    · simp only [h0, if_false, e, q, not_false_eq_true, if_true, decide_false, Bool.not_false, Bool.true_and]
      rfl
theorem ix_cases (x : Int32) {k : Nat} (hk : k < 2 ^ 30) : ((!decide (x < nI 0) && decide (x < nI k)) = false ∧ (x < nI 0 ∨ nI k ≤ x)) ∨ ((!decide (x < nI 0) && decide (x < nI k)) = true ∧ ∃ j, j < k ∧ x = nI j) := by
  rcases pk_ix x (by omega : k < 2 ^ 31) with h | h | ⟨j, hj, rfl⟩
  · have h : x < nI 0 := h
    exact .inl ⟨by rw [decide_eq_true h]; rfl, .inl h⟩
  · refine .inl ⟨?_, .inr h⟩
    have : ¬ x < nI k := by rw [fa_lt]; rw [fa_le] at h; omega
    rw [decide_eq_false this, Bool.and_false]
  · refine .inr ⟨?_, j, hj, rfl⟩
    rw [decide_eq_false (by rw [zn_lt (by omega) (by omega)]; omega), decide_eq_true (by rw [zn_lt (by omega) (by omega)]; exact hj)]
    rfl
section
variable {T : SSR} {R : SRows} {S : SMo} {r st : Nat → Int32} {n m c b : Nat}
def QQ (R : SRows) (S : SMo) (r st : Nat → Int32) (b : Nat) : Prop := Q0 R S ∨ ∃ n m c, Q1 R S r st n m c b
theorem g_has (h : QQ R S r st b) : ∃ hs : Bool, f_X9_hasStore T R = some (bI hs) ∧ Mo_hasStore S = bI hs ∧ (hs = true → ∃ n m c, Q1 R S r st n m c b) := by
  rcases h with h | ⟨n, m, c, h⟩
  · refine ⟨false, ?_, h.1, fun z => by cases z⟩
    unfold f_X9_hasStore
    simp (disch := omega) only [h.2.2.1, ↓lm1, ↓lm2, i0, i1, i2, i3, i4, i5, i6, i7, i8, i9, i10, i12, i16, i20, i24, i31, i32, i44, i48, i57, i59, i63, i64, i74, i75, i90, i96, i97, i99, i100, i122, i139, i140, i144, i192, i200, i240, i255, i304, i309, i310, i311, i323, i324, i325, i899, i900, i975, i999, i5200, i4875, i65536, i65537, i15, ob_some, nI_add, nI_clamp, zn_zib, zn_eq, zn_lt, zn_le, m2_lt, m2_le, lt_m2, le_m2, eq_m2, m2_eq, m1_lt, m1_le, lt_m1, le_m1, eq_m1, m1_eq, m1_m2, m2_m1, m2_lt_m1, bI_0, bI_1, bI_t, bI_f, bI_bo, nI0_bo, nI1_bo, if_true, if_false, ite_true, ite_false, Nat.zero_add, Nat.not_lt_zero, Nat.zero_le, not_true_eq_false, not_false_eq_true, or_false, false_or, true_or, or_true, and_true, true_and, Bool.false_eq_true, Bool.true_eq_false, reduceCtorEq, eq_self]
  · have hn := WS_n (RC_W h.2.2.2.2.2.1)
    refine ⟨true, ?_, h.1, fun _ => ⟨n, m, c, h⟩⟩
    unfold f_X9_hasStore
    have h0 : ¬ n = 0 := by omega
    simp (disch := omega) only [RC_ring h.2.2.2.2.2.1, h0, ↓lm1, ↓lm2, i0, i1, i2, i3, i4, i5, i6, i7, i8, i9, i10, i12, i16, i20, i24, i31, i32, i44, i48, i57, i59, i63, i64, i74, i75, i90, i96, i97, i99, i100, i122, i139, i140, i144, i192, i200, i240, i255, i304, i309, i310, i311, i323, i324, i325, i899, i900, i975, i999, i5200, i4875, i65536, i65537, i15, ob_some, nI_add, nI_clamp, zn_zib, zn_eq, zn_lt, zn_le, m2_lt, m2_le, lt_m2, le_m2, eq_m2, m2_eq, m1_lt, m1_le, lt_m1, le_m1, eq_m1, m1_eq, m1_m2, m2_m1, m2_lt_m1, bI_0, bI_1, bI_t, bI_f, bI_bo, nI0_bo, nI1_bo, if_true, if_false, ite_true, ite_false, Nat.zero_add, Nat.not_lt_zero, Nat.zero_le, not_true_eq_false, not_false_eq_true, or_false, false_or, true_or, or_true, and_true, true_and, Bool.false_eq_true, Bool.true_eq_false, reduceCtorEq, eq_self]
theorem g_slot (h : QQ R S r st b) (x : Int32) : ∃ q : Bool, f_X6_runs R x = some (bI q) ∧ f_X10_isSlot (AN S) st x = some (bI q) ∧ (q = true → ∃ n m c w, Q1 R S r st n m c b ∧ w < 6 ∧ x = nI w ∧ rn st w = true) := by
  rcases h with h | ⟨n, m, c, h⟩
  · refine ⟨false, ?_, ?_, fun z => by cases z⟩
    · rcases ix_cases x (by omega : 6 < 2 ^ 30) with ⟨-, e⟩ | ⟨-, j, hj, rfl⟩
      · exact X6_runs_out e
      · unfold f_X6_runs
        have q1 : ¬ 6 ≤ j := by omega
        simp (disch := omega) only [q1, h.2.2.2.2.2.2.1 j hj, ↓lm1, ↓lm2, i0, i1, i2, i3, i4, i5, i6, i7, i8, i9, i10, i12, i16, i20, i24, i31, i32, i44, i48, i57, i59, i63, i64, i74, i75, i90, i96, i97, i99, i100, i122, i139, i140, i144, i192, i200, i240, i255, i304, i309, i310, i311, i323, i324, i325, i899, i900, i975, i999, i5200, i4875, i65536, i65537, i15, ob_some, nI_add, nI_clamp, zn_zib, zn_eq, zn_lt, zn_le, m2_lt, m2_le, lt_m2, le_m2, eq_m2, m2_eq, m1_lt, m1_le, lt_m1, le_m1, eq_m1, m1_eq, m1_m2, m2_m1, m2_lt_m1, bI_0, bI_1, bI_t, bI_f, bI_bo, nI0_bo, nI1_bo, if_true, if_false, ite_true, ite_false, Nat.zero_add, Nat.not_lt_zero, Nat.zero_le, not_true_eq_false, not_false_eq_true, or_false, false_or, true_or, or_true, and_true, true_and, Bool.false_eq_true, Bool.true_eq_false, reduceCtorEq, eq_self]
    · unfold f_X10_isSlot
      have e : Mo_hasStore (AN S) = nI 0 := h.1
      simp (disch := omega) only [e, ↓lm1, ↓lm2, i0, i1, i2, i3, i4, i5, i6, i7, i8, i9, i10, i12, i16, i20, i24, i31, i32, i44, i48, i57, i59, i63, i64, i74, i75, i90, i96, i97, i99, i100, i122, i139, i140, i144, i192, i200, i240, i255, i304, i309, i310, i311, i323, i324, i325, i899, i900, i975, i999, i5200, i4875, i65536, i65537, i15, ob_some, nI_add, nI_clamp, zn_zib, zn_eq, zn_lt, zn_le, m2_lt, m2_le, lt_m2, le_m2, eq_m2, m2_eq, m1_lt, m1_le, lt_m1, le_m1, eq_m1, m1_eq, m1_m2, m2_m1, m2_lt_m1, bI_0, bI_1, bI_t, bI_f, bI_bo, nI0_bo, nI1_bo, if_true, if_false, ite_true, ite_false, Nat.zero_add, Nat.not_lt_zero, Nat.zero_le, not_true_eq_false, not_false_eq_true, or_false, false_or, true_or, or_true, and_true, true_and, Bool.false_eq_true, Bool.true_eq_false, reduceCtorEq, eq_self]
  · have H := h.2.2.2.2.2.1
    have e : Mo_hasStore (AN S) = nI 1 := h.1
    have e5 : (5 : Int32) = nI 6 - nI 1 := by decide
    rcases ix_cases x (by omega : 6 < 2 ^ 30) with ⟨e0, e1⟩ | ⟨e0, j, hj, rfl⟩
    · refine ⟨false, X6_runs_out e1, ?_, fun z => by cases z⟩
      have hin := M_in (x := x) (by omega : 6 < 2 ^ 30)
      rw [e0, ← e5] at hin
      unfold f_X10_isSlot
      have hin' : f_X10_in x 0 5 = some (bI false) := hin
      rw [e, hin']
      rfl
    · refine ⟨rn st j, X6_runs H hj, ?_, fun z => ⟨n, m, c, j, h, hj, rfl, z⟩⟩
      have hin := M_in (x := nI j) (by omega : 6 < 2 ^ 30)
      rw [e0, ← e5] at hin
      unfold f_X10_isSlot
      have hin' : f_X10_in (nI j) 0 5 = some (bI true) := hin
      rw [e, hin']
      simp (disch := omega) only [M_doesRun (RC_W H) hj, ↓lm1, ↓lm2, i0, i1, i2, i3, i4, i5, i6, i7, i8, i9, i10, i12, i16, i20, i24, i31, i32, i44, i48, i57, i59, i63, i64, i74, i75, i90, i96, i97, i99, i100, i122, i139, i140, i144, i192, i200, i240, i255, i304, i309, i310, i311, i323, i324, i325, i899, i900, i975, i999, i5200, i4875, i65536, i65537, i15, ob_some, nI_add, nI_clamp, zn_zib, zn_eq, zn_lt, zn_le, m2_lt, m2_le, lt_m2, le_m2, eq_m2, m2_eq, m1_lt, m1_le, lt_m1, le_m1, eq_m1, m1_eq, m1_m2, m2_m1, m2_lt_m1, bI_0, bI_1, bI_t, bI_f, bI_bo, nI0_bo, nI1_bo, if_true, if_false, ite_true, ite_false, Nat.zero_add, Nat.not_lt_zero, Nat.zero_le, not_true_eq_false, not_false_eq_true, or_false, false_or, true_or, or_true, and_true, true_and, Bool.false_eq_true, Bool.true_eq_false, reduceCtorEq, eq_self]
      cases rn st j <;> simp (disch := omega) only [↓lm1, ↓lm2, i0, i1, i2, i3, i4, i5, i6, i7, i8, i9, i10, i12, i16, i20, i24, i31, i32, i44, i48, i57, i59, i63, i64, i74, i75, i90, i96, i97, i99, i100, i122, i139, i140, i144, i192, i200, i240, i255, i304, i309, i310, i311, i323, i324, i325, i899, i900, i975, i999, i5200, i4875, i65536, i65537, i15, ob_some, nI_add, nI_clamp, zn_zib, zn_eq, zn_lt, zn_le, m2_lt, m2_le, lt_m2, le_m2, eq_m2, m2_eq, m1_lt, m1_le, lt_m1, le_m1, eq_m1, m1_eq, m1_m2, m2_m1, m2_lt_m1, bI_0, bI_1, bI_t, bI_f, bI_bo, nI0_bo, nI1_bo, if_true, if_false, ite_true, ite_false, Nat.zero_add, Nat.not_lt_zero, Nat.zero_le, not_true_eq_false, not_false_eq_true, or_false, false_or, true_or, or_true, and_true, true_and, Bool.false_eq_true, Bool.true_eq_false, reduceCtorEq, eq_self]
theorem g_row (h : QQ R S r st b) (x : Int32) : ∃ q : Bool, f_X6_isRow R x = some (bI q) ∧ f_X10_isRow (AN S) r x = some (bI q) ∧ (q = true → ∃ n m c j, Q1 R S r st n m c b ∧ j < m ∧ x = nI j) := by
  rcases h with h | ⟨n, m, c, h⟩
  · refine ⟨false, ?_, ?_, fun z => by cases z⟩
    · have e0 : Rows_rowCount R = nI 0 := h.2.2.2.1
      refine X6_isRow_out e0 ?_
      by_cases z : x < nI 0
      · exact .inl z
      · obtain ⟨j, hj, rfl⟩ := nI_of z
        exact .inr (by rw [zn_le (by omega) (by omega)]; omega)
    · unfold f_X10_isRow
      have e : Mo_hasStore (AN S) = nI 0 := h.1
      simp (disch := omega) only [e, ↓lm1, ↓lm2, i0, i1, i2, i3, i4, i5, i6, i7, i8, i9, i10, i12, i16, i20, i24, i31, i32, i44, i48, i57, i59, i63, i64, i74, i75, i90, i96, i97, i99, i100, i122, i139, i140, i144, i192, i200, i240, i255, i304, i309, i310, i311, i323, i324, i325, i899, i900, i975, i999, i5200, i4875, i65536, i65537, i15, ob_some, nI_add, nI_clamp, zn_zib, zn_eq, zn_lt, zn_le, m2_lt, m2_le, lt_m2, le_m2, eq_m2, m2_eq, m1_lt, m1_le, lt_m1, le_m1, eq_m1, m1_eq, m1_m2, m2_m1, m2_lt_m1, bI_0, bI_1, bI_t, bI_f, bI_bo, nI0_bo, nI1_bo, if_true, if_false, ite_true, ite_false, Nat.zero_add, Nat.not_lt_zero, Nat.zero_le, not_true_eq_false, not_false_eq_true, or_false, false_or, true_or, or_true, and_true, true_and, Bool.false_eq_true, Bool.true_eq_false, reduceCtorEq, eq_self]
  · have H := h.2.2.2.2.2.1
    have hm := WS_m (RC_W H)
    have e : Mo_hasStore (AN S) = nI 1 := h.1
    have er : r 1 = nI m := h.2.2.2.1
    have hin := M_in (x := x) (by omega : m < 2 ^ 30)
    rcases ix_cases x (by omega : m < 2 ^ 30) with ⟨e0, e1⟩ | ⟨e0, j, hj, rfl⟩
    · refine ⟨false, X6_isRow_out (RC_rc H) e1, ?_, fun z => by cases z⟩
      rw [e0] at hin
      unfold f_X10_isRow
      simp (disch := omega) only [e, er, hin, ↓lm1, ↓lm2, i0, i1, i2, i3, i4, i5, i6, i7, i8, i9, i10, i12, i16, i20, i24, i31, i32, i44, i48, i57, i59, i63, i64, i74, i75, i90, i96, i97, i99, i100, i122, i139, i140, i144, i192, i200, i240, i255, i304, i309, i310, i311, i323, i324, i325, i899, i900, i975, i999, i5200, i4875, i65536, i65537, i15, ob_some, nI_add, nI_clamp, zn_zib, zn_eq, zn_lt, zn_le, m2_lt, m2_le, lt_m2, le_m2, eq_m2, m2_eq, m1_lt, m1_le, lt_m1, le_m1, eq_m1, m1_eq, m1_m2, m2_m1, m2_lt_m1, bI_0, bI_1, bI_t, bI_f, bI_bo, nI0_bo, nI1_bo, if_true, if_false, ite_true, ite_false, Nat.zero_add, Nat.not_lt_zero, Nat.zero_le, not_true_eq_false, not_false_eq_true, or_false, false_or, true_or, or_true, and_true, true_and, Bool.false_eq_true, Bool.true_eq_false, reduceCtorEq, eq_self]
    · refine ⟨true, X6_isRow H hj, ?_, fun z => ⟨n, m, c, j, h, hj, rfl⟩⟩
      rw [e0] at hin
      unfold f_X10_isRow
      simp (disch := omega) only [e, er, hin, ↓lm1, ↓lm2, i0, i1, i2, i3, i4, i5, i6, i7, i8, i9, i10, i12, i16, i20, i24, i31, i32, i44, i48, i57, i59, i63, i64, i74, i75, i90, i96, i97, i99, i100, i122, i139, i140, i144, i192, i200, i240, i255, i304, i309, i310, i311, i323, i324, i325, i899, i900, i975, i999, i5200, i4875, i65536, i65537, i15, ob_some, nI_add, nI_clamp, zn_zib, zn_eq, zn_lt, zn_le, m2_lt, m2_le, lt_m2, le_m2, eq_m2, m2_eq, m1_lt, m1_le, lt_m1, le_m1, eq_m1, m1_eq, m1_m2, m2_m1, m2_lt_m1, bI_0, bI_1, bI_t, bI_f, bI_bo, nI0_bo, nI1_bo, if_true, if_false, ite_true, ite_false, Nat.zero_add, Nat.not_lt_zero, Nat.zero_le, not_true_eq_false, not_false_eq_true, or_false, false_or, true_or, or_true, and_true, true_and, Bool.false_eq_true, Bool.true_eq_false, reduceCtorEq, eq_self]
theorem g_stamp (h : QQ R S r st b) (x : Int32) : ∃ q : Bool, f_X6_isStamp R x = some (bI q) ∧ f_X10_isStamp (AN S) x = some (bI q) ∧ (q = true → ∃ n m c j, Q1 R S r st n m c b ∧ j < n ∧ x = nI j) := by
  have key : ∀ k, k < 2 ^ 30 → Mo_ring S = nI k → f_X10_isStamp (AN S) x = some (bI (!decide (x < nI 0) && decide (x < nI k))) := fun k hk e => by
    unfold f_X10_isStamp
    have e2 : Mo_ring (AN S) = nI k := e
    have hin := M_in (x := x) hk
    simp (disch := omega) only [e2, hin, ↓lm1, ↓lm2, i0, i1, i2, i3, i4, i5, i6, i7, i8, i9, i10, i12, i16, i20, i24, i31, i32, i44, i48, i57, i59, i63, i64, i74, i75, i90, i96, i97, i99, i100, i122, i139, i140, i144, i192, i200, i240, i255, i304, i309, i310, i311, i323, i324, i325, i899, i900, i975, i999, i5200, i4875, i65536, i65537, i15, ob_some, nI_add, nI_clamp, zn_zib, zn_eq, zn_lt, zn_le, m2_lt, m2_le, lt_m2, le_m2, eq_m2, m2_eq, m1_lt, m1_le, lt_m1, le_m1, eq_m1, m1_eq, m1_m2, m2_m1, m2_lt_m1, bI_0, bI_1, bI_t, bI_f, bI_bo, nI0_bo, nI1_bo, if_true, if_false, ite_true, ite_false, Nat.zero_add, Nat.not_lt_zero, Nat.zero_le, not_true_eq_false, not_false_eq_true, or_false, false_or, true_or, or_true, and_true, true_and, Bool.false_eq_true, Bool.true_eq_false, reduceCtorEq, eq_self]
  rcases h with h | ⟨n, m, c, h⟩
  · have h2 := key 0 (by omega) h.2.1
    rcases ix_cases x (by omega : 0 < 2 ^ 30) with ⟨e0, e1⟩ | ⟨e0, j, hj, -⟩
    · rw [e0] at h2
      exact ⟨false, X6_isStamp_out (n := 0) h.2.2.1 e1, h2, fun z => by cases z⟩
    · exact absurd hj (Nat.not_lt_zero j)
  · have H := h.2.2.2.2.2.1
    have hn := WS_n (RC_W H)
    have h2 := key n (by omega) h.2.1
    rcases ix_cases x (by omega : n < 2 ^ 30) with ⟨e0, e1⟩ | ⟨e0, j, hj, rfl⟩
    · rw [e0] at h2
      exact ⟨false, X6_isStamp_out (RC_ring H) e1, h2, fun z => by cases z⟩
    · rw [e0] at h2
      exact ⟨true, X6_isStamp H hj, h2, fun _ => ⟨n, m, c, j, h, hj, rfl⟩⟩
theorem g_ver (h : QQ R S r st b) (x : Int32) : ∃ q : Bool, f_X6_isVersion R x = some (bI q) ∧ f_X10_isVersion (AN S) st x = some (bI q) ∧ (q = true → ∃ n m c v, Q1 R S r st n m c b ∧ v < 48 ∧ x = nI v ∧ lv st v = true) := by
  rcases h with h | ⟨n, m, c, h⟩
  · refine ⟨false, ?_, ?_, fun z => by cases z⟩
    · rcases ix_cases x (by omega : 48 < 2 ^ 30) with ⟨-, e⟩ | ⟨-, j, hj, rfl⟩
      · exact X6_isVersion_out e
      · unfold f_X6_isVersion
        have q1 : ¬ 48 ≤ j := by omega
        simp (disch := omega) only [q1, h.2.2.2.2.2.2.2 j hj, ↓lm1, ↓lm2, i0, i1, i2, i3, i4, i5, i6, i7, i8, i9, i10, i12, i16, i20, i24, i31, i32, i44, i48, i57, i59, i63, i64, i74, i75, i90, i96, i97, i99, i100, i122, i139, i140, i144, i192, i200, i240, i255, i304, i309, i310, i311, i323, i324, i325, i899, i900, i975, i999, i5200, i4875, i65536, i65537, i15, ob_some, nI_add, nI_clamp, zn_zib, zn_eq, zn_lt, zn_le, m2_lt, m2_le, lt_m2, le_m2, eq_m2, m2_eq, m1_lt, m1_le, lt_m1, le_m1, eq_m1, m1_eq, m1_m2, m2_m1, m2_lt_m1, bI_0, bI_1, bI_t, bI_f, bI_bo, nI0_bo, nI1_bo, if_true, if_false, ite_true, ite_false, Nat.zero_add, Nat.not_lt_zero, Nat.zero_le, not_true_eq_false, not_false_eq_true, or_false, false_or, true_or, or_true, and_true, true_and, Bool.false_eq_true, Bool.true_eq_false, reduceCtorEq, eq_self]
    · unfold f_X10_isVersion
      have e : Mo_hasStore (AN S) = nI 0 := h.1
      simp (disch := omega) only [e, ↓lm1, ↓lm2, i0, i1, i2, i3, i4, i5, i6, i7, i8, i9, i10, i12, i16, i20, i24, i31, i32, i44, i48, i57, i59, i63, i64, i74, i75, i90, i96, i97, i99, i100, i122, i139, i140, i144, i192, i200, i240, i255, i304, i309, i310, i311, i323, i324, i325, i899, i900, i975, i999, i5200, i4875, i65536, i65537, i15, ob_some, nI_add, nI_clamp, zn_zib, zn_eq, zn_lt, zn_le, m2_lt, m2_le, lt_m2, le_m2, eq_m2, m2_eq, m1_lt, m1_le, lt_m1, le_m1, eq_m1, m1_eq, m1_m2, m2_m1, m2_lt_m1, bI_0, bI_1, bI_t, bI_f, bI_bo, nI0_bo, nI1_bo, if_true, if_false, ite_true, ite_false, Nat.zero_add, Nat.not_lt_zero, Nat.zero_le, not_true_eq_false, not_false_eq_true, or_false, false_or, true_or, or_true, and_true, true_and, Bool.false_eq_true, Bool.true_eq_false, reduceCtorEq, eq_self]
  · have H := h.2.2.2.2.2.1
    have hm := WS_m (RC_W H)
    have e : Mo_hasStore (AN S) = nI 1 := h.1
    have e5 : (47 : Int32) = nI 48 - nI 1 := by decide
    rcases ix_cases x (by omega : 48 < 2 ^ 30) with ⟨e0, e1⟩ | ⟨e0, j, hj, rfl⟩
    · refine ⟨false, X6_isVersion_out e1, ?_, fun z => by cases z⟩
      have hin := M_in (x := x) (by omega : 48 < 2 ^ 30)
      rw [e0, ← e5] at hin
      unfold f_X10_isVersion
      have hin' : f_X10_in x 0 47 = some (bI false) := hin
      rw [e, hin']
      rfl
    · refine ⟨lv st j, X6_isVersion H hj, ?_, fun z => ⟨n, m, c, j, h, hj, rfl, z⟩⟩
      have hin := M_in (x := nI j) (by omega : 48 < 2 ^ 30)
      rw [e0, ← e5] at hin
      unfold f_X10_isVersion
      have hin' : f_X10_in (nI j) 0 47 = some (bI true) := hin
      rw [e, hin']
      rcases WS_l (RC_W H) hj with e1 | ⟨k, hk, e1⟩
      · simp (disch := omega) only [e1, lv_f e1, Nat.le_refl, ↓lm1, ↓lm2, i0, i1, i2, i3, i4, i5, i6, i7, i8, i9, i10, i12, i16, i20, i24, i31, i32, i44, i48, i57, i59, i63, i64, i74, i75, i90, i96, i97, i99, i100, i122, i139, i140, i144, i192, i200, i240, i255, i304, i309, i310, i311, i323, i324, i325, i899, i900, i975, i999, i5200, i4875, i65536, i65537, i15, ob_some, nI_add, nI_clamp, zn_zib, zn_eq, zn_lt, zn_le, m2_lt, m2_le, lt_m2, le_m2, eq_m2, m2_eq, m1_lt, m1_le, lt_m1, le_m1, eq_m1, m1_eq, m1_m2, m2_m1, m2_lt_m1, bI_0, bI_1, bI_t, bI_f, bI_bo, nI0_bo, nI1_bo, if_true, if_false, ite_true, ite_false, Nat.zero_add, Nat.not_lt_zero, Nat.zero_le, not_true_eq_false, not_false_eq_true, or_false, false_or, true_or, or_true, and_true, true_and, Bool.false_eq_true, Bool.true_eq_false, reduceCtorEq, eq_self]
      · have q1 : ¬ k + 1 ≤ 0 := by omega
        simp (disch := omega) only [e1, lv_t e1 (by omega : k < 100), q1, ↓lm1, ↓lm2, i0, i1, i2, i3, i4, i5, i6, i7, i8, i9, i10, i12, i16, i20, i24, i31, i32, i44, i48, i57, i59, i63, i64, i74, i75, i90, i96, i97, i99, i100, i122, i139, i140, i144, i192, i200, i240, i255, i304, i309, i310, i311, i323, i324, i325, i899, i900, i975, i999, i5200, i4875, i65536, i65537, i15, ob_some, nI_add, nI_clamp, zn_zib, zn_eq, zn_lt, zn_le, m2_lt, m2_le, lt_m2, le_m2, eq_m2, m2_eq, m1_lt, m1_le, lt_m1, le_m1, eq_m1, m1_eq, m1_m2, m2_m1, m2_lt_m1, bI_0, bI_1, bI_t, bI_f, bI_bo, nI0_bo, nI1_bo, if_true, if_false, ite_true, ite_false, Nat.zero_add, Nat.not_lt_zero, Nat.zero_le, not_true_eq_false, not_false_eq_true, or_false, false_or, true_or, or_true, and_true, true_and, Bool.false_eq_true, Bool.true_eq_false, reduceCtorEq, eq_self]
end
