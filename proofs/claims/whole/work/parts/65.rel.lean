/-! the model's array as the store, and how the class's rows stand to it -/
def lv (st : Nat → Int32) (v : Nat) : Bool := decide (st v ≠ nI 0)
def rn (st : Nat → Int32) (w : Nat) : Bool := decide (¬ st (304 + w) < nI 0)
def sb (st : Nat → Int32) (w s : Nat) : Bool := bt (st (311 + 2 * w + s / 32)) (s % 32)
def od (st : Nat → Int32) (v : Nat) : Nat := (st (192 + v)).toNatClampNeg
def okS (n : Nat) (x : Int32) : Prop := x = m2 ∨ ∃ s, s < n ∧ x = nI s
def WN (n m : Nat) : Prop := 8 ≤ n ∧ n ≤ 64 ∧ n % 2 = 0 ∧ 1 ≤ m ∧ m ≤ 8
def WV (st : Nat → Int32) (n m v : Nat) : Prop := (st v = nI 0 ∨ ∃ r, r < m ∧ st v = nI (r + 1)) ∧ (∃ k, k ≤ 999 ∧ st (48 + v) = nI k) ∧ okS n (st (96 + v)) ∧ okS n (st (144 + v)) ∧ ∃ k, k < 2 ^ 30 ∧ st (192 + v) = nI k
def WS (st : Nat → Int32) (n m : Nat) : Prop := WN n m ∧ (∃ x, x < n ∧ st 323 = nI x) ∧ (∀ v, v < 48 → WV st n m v) ∧ (∀ s, s < 64 → ∃ k, k < 4 ∧ st (240 + s) = nI k) ∧ (∀ w, w < 6 → st (304 + w) = m1 ∨ ∃ s, s < n ∧ st (304 + w) = nI s)
def RW (R : SRows) (st : Nat → Int32) (n w : Nat) : Prop := (st (304 + w) = m1 ∧ Rows_stamps R w = m2 ∧ Rows_held R w = 0) ∨ (∃ s, s < n ∧ st (304 + w) = nI s ∧ Rows_stamps R w = nI s ∧ (∀ t, t < 64 → lb (Rows_held R w) t = (sb st w t || decide (t = s))) ∧ bt (Rows_lostSlots R) w = bt (st 310) w)
def RV (R : SRows) (st : Nat → Int32) (m v : Nat) : Prop := (st v = nI 0 ∧ Rows_rowsOf R v = m2) ∨ (∃ r, r < m ∧ st v = nI (r + 1) ∧ Rows_rowsOf R v = nI r ∧ Rows_values R v = st (48 + v) ∧ Rows_froms R v = st (96 + v) ∧ Rows_tills R v = st (144 + v))
def RO (R : SRows) (st : Nat → Int32) : Prop := ∃ (c : Nat) (md : Nat → Nat), Rows_count R = nI c ∧ c ≤ 48 ∧ (∀ i, i < c → Rows_made R i = nI (md i) ∧ md i < 48 ∧ st (md i) ≠ nI 0) ∧ (∀ i j, i < j → j < c → od st (md i) < od st (md j)) ∧ (∀ v, v < 48 → st v ≠ nI 0 → ∃ i, i < c ∧ md i = v)
def RT (R : SRows) (st : Nat → Int32) (s : Nat) : Prop := lb (Rows_runningStamps R) s = decide (st (240 + s) = nI 1) ∧ lb (Rows_doneStamps R) s = decide (st (240 + s) = nI 2) ∧ lb (Rows_goneStamps R) s = decide (st (240 + s) = nI 3)
def RC (R : SRows) (st : Nat → Int32) (n m c : Nat) : Prop := WS st n m ∧ c ≤ 100 ∧ Rows_ring R = nI n ∧ Rows_rowCount R = nI m ∧ Rows_crash R = nI c ∧ Rows_nextStamp R = st 323 ∧ (∀ s, s < 64 → RT R st s) ∧ (∀ w, w < 6 → RW R st n w) ∧ (∀ v, v < 48 → RV R st m v) ∧ RO R st
section
variable {R : SRows} {st : Nat → Int32} {n m c : Nat}
theorem WS_n (W : WS st n m) : 8 ≤ n ∧ n ≤ 64 ∧ n % 2 = 0 := ⟨W.1.1, W.1.2.1, W.1.2.2.1⟩
theorem WS_m (W : WS st n m) : 1 ≤ m ∧ m ≤ 8 := W.1.2.2.2
theorem WS_x (W : WS st n m) : ∃ x, x < n ∧ st 323 = nI x := W.2.1
theorem WS_v (W : WS st n m) {v : Nat} (hv : v < 48) : WV st n m v := W.2.2.1 v hv
theorem WS_t (W : WS st n m) {s : Nat} (hs : s < 64) : ∃ k, k < 4 ∧ st (240 + s) = nI k := W.2.2.2.1 s hs
theorem WS_w (W : WS st n m) {w : Nat} (hw : w < 6) : st (304 + w) = m1 ∨ ∃ s, s < n ∧ st (304 + w) = nI s := W.2.2.2.2 w hw
theorem WS_l (W : WS st n m) {v : Nat} (hv : v < 48) : st v = nI 0 ∨ ∃ r, r < m ∧ st v = nI (r + 1) := (WS_v W hv).1
theorem WS_f (W : WS st n m) {v : Nat} (hv : v < 48) : okS n (st (96 + v)) := (WS_v W hv).2.2.1
theorem WS_d (W : WS st n m) {v : Nat} (hv : v < 48) : okS n (st (144 + v)) := (WS_v W hv).2.2.2.1
theorem WS_a (W : WS st n m) {v : Nat} (hv : v < 48) : ∃ k, k ≤ 999 ∧ st (48 + v) = nI k := (WS_v W hv).2.1
theorem WS_o (W : WS st n m) {v : Nat} (hv : v < 48) : st (192 + v) = nI (od st v) ∧ od st v < 2 ^ 30 := by
  obtain ⟨k, hk, e⟩ := (WS_v W hv).2.2.2.2
  have e2 : od st v = k := by
    unfold od
    rw [e, nI_clamp (by omega)]
  rw [e2]
  exact ⟨e, hk⟩
theorem RC_W (H : RC R st n m c) : WS st n m := H.1
theorem RC_c (H : RC R st n m c) : c ≤ 100 := H.2.1
theorem RC_ring (H : RC R st n m c) : Rows_ring R = nI n := H.2.2.1
theorem RC_rc (H : RC R st n m c) : Rows_rowCount R = nI m := H.2.2.2.1
theorem RC_cr (H : RC R st n m c) : Rows_crash R = nI c := H.2.2.2.2.1
theorem RC_nx (H : RC R st n m c) : Rows_nextStamp R = st 323 := H.2.2.2.2.2.1
theorem RC_t (H : RC R st n m c) {s : Nat} (hs : s < 64) : RT R st s := H.2.2.2.2.2.2.1 s hs
theorem RC_w (H : RC R st n m c) {w : Nat} (hw : w < 6) : RW R st n w := H.2.2.2.2.2.2.2.1 w hw
theorem RC_v (H : RC R st n m c) {v : Nat} (hv : v < 48) : RV R st m v := H.2.2.2.2.2.2.2.2.1 v hv
theorem RC_o (H : RC R st n m c) : RO R st := H.2.2.2.2.2.2.2.2.2
/-! the class's small questions -/
theorem X6_isStamp (H : RC R st n m c) {s : Nat} (hs : s < n) : f_X6_isStamp R (nI s) = some (nI 1) := by
  have hn := WS_n (RC_W H)
  unfold f_X6_isStamp
  have h1 : ¬ n ≤ s := by omega
  simp (disch := omega) only [RC_ring H, h1, ↓lm1, ↓lm2, i0, i1, i2, i3, i4, i5, i6, i7, i8, i9, i10, i12, i16, i20, i24, i31, i32, i44, i48, i57, i59, i63, i64, i74, i75, i90, i96, i97, i99, i100, i122, i139, i140, i144, i192, i200, i240, i255, i304, i309, i310, i311, i323, i324, i325, i899, i900, i975, i999, i5200, i4875, i65536, i65537, i15, ob_some, nI_add, nI_clamp, zn_zib, zn_eq, zn_lt, zn_le, m2_lt, m2_le, lt_m2, le_m2, eq_m2, m2_eq, m1_lt, m1_le, lt_m1, le_m1, eq_m1, m1_eq, m1_m2, m2_m1, m2_lt_m1, bI_0, bI_1, bI_t, bI_f, bI_bo, nI0_bo, nI1_bo, if_true, if_false, ite_true, ite_false, Nat.zero_add, Nat.not_lt_zero, Nat.zero_le, not_true_eq_false, not_false_eq_true, or_false, false_or, true_or, or_true, and_true, true_and, Bool.false_eq_true, Bool.true_eq_false, reduceCtorEq, eq_self]
theorem X6_isRow (H : RC R st n m c) {s : Nat} (hs : s < m) : f_X6_isRow R (nI s) = some (nI 1) := by
  have hn := WS_m (RC_W H)
  unfold f_X6_isRow
  have h1 : ¬ m ≤ s := by omega
  simp (disch := omega) only [RC_rc H, h1, ↓lm1, ↓lm2, i0, i1, i2, i3, i4, i5, i6, i7, i8, i9, i10, i12, i16, i20, i24, i31, i32, i44, i48, i57, i59, i63, i64, i74, i75, i90, i96, i97, i99, i100, i122, i139, i140, i144, i192, i200, i240, i255, i304, i309, i310, i311, i323, i324, i325, i899, i900, i975, i999, i5200, i4875, i65536, i65537, i15, ob_some, nI_add, nI_clamp, zn_zib, zn_eq, zn_lt, zn_le, m2_lt, m2_le, lt_m2, le_m2, eq_m2, m2_eq, m1_lt, m1_le, lt_m1, le_m1, eq_m1, m1_eq, m1_m2, m2_m1, m2_lt_m1, bI_0, bI_1, bI_t, bI_f, bI_bo, nI0_bo, nI1_bo, if_true, if_false, ite_true, ite_false, Nat.zero_add, Nat.not_lt_zero, Nat.zero_le, not_true_eq_false, not_false_eq_true, or_false, false_or, true_or, or_true, and_true, true_and, Bool.false_eq_true, Bool.true_eq_false, reduceCtorEq, eq_self]
theorem X6_isVersion (H : RC R st n m c) {v : Nat} (hv : v < 48) : f_X6_isVersion R (nI v) = some (bI (lv st v)) := by
  have h1 : ¬ 48 ≤ v := by omega
  have hm := WS_m (RC_W H)
  unfold f_X6_isVersion lv
  rcases RC_v H hv with ⟨e, e2⟩ | ⟨r, hr, e, e2, -⟩
  · simp (disch := omega) only [h1, e, e2, ↓lm1, ↓lm2, i0, i1, i2, i3, i4, i5, i6, i7, i8, i9, i10, i12, i16, i20, i24, i31, i32, i44, i48, i57, i59, i63, i64, i74, i75, i90, i96, i97, i99, i100, i122, i139, i140, i144, i192, i200, i240, i255, i304, i309, i310, i311, i323, i324, i325, i899, i900, i975, i999, i5200, i4875, i65536, i65537, i15, ob_some, nI_add, nI_clamp, zn_zib, zn_eq, zn_lt, zn_le, m2_lt, m2_le, lt_m2, le_m2, eq_m2, m2_eq, m1_lt, m1_le, lt_m1, le_m1, eq_m1, m1_eq, m1_m2, m2_m1, m2_lt_m1, bI_0, bI_1, bI_t, bI_f, bI_bo, nI0_bo, nI1_bo, if_true, if_false, ite_true, ite_false, Nat.zero_add, Nat.not_lt_zero, Nat.zero_le, not_true_eq_false, not_false_eq_true, or_false, false_or, true_or, or_true, and_true, true_and, Bool.false_eq_true, Bool.true_eq_false, reduceCtorEq, eq_self, ne_eq, decide_false]
  · have h2 : ¬ (r + 1 = 0) := by omega
    simp (disch := omega) only [h1, h2, e, e2, ↓lm1, ↓lm2, i0, i1, i2, i3, i4, i5, i6, i7, i8, i9, i10, i12, i16, i20, i24, i31, i32, i44, i48, i57, i59, i63, i64, i74, i75, i90, i96, i97, i99, i100, i122, i139, i140, i144, i192, i200, i240, i255, i304, i309, i310, i311, i323, i324, i325, i899, i900, i975, i999, i5200, i4875, i65536, i65537, i15, ob_some, nI_add, nI_clamp, zn_zib, zn_eq, zn_lt, zn_le, m2_lt, m2_le, lt_m2, le_m2, eq_m2, m2_eq, m1_lt, m1_le, lt_m1, le_m1, eq_m1, m1_eq, m1_m2, m2_m1, m2_lt_m1, bI_0, bI_1, bI_t, bI_f, bI_bo, nI0_bo, nI1_bo, if_true, if_false, ite_true, ite_false, Nat.zero_add, Nat.not_lt_zero, Nat.zero_le, not_true_eq_false, not_false_eq_true, or_false, false_or, true_or, or_true, and_true, true_and, Bool.false_eq_true, Bool.true_eq_false, reduceCtorEq, eq_self, ne_eq, decide_true]
theorem X6_isVersion_m2 : f_X6_isVersion R m2 = some (nI 0) := by
  unfold f_X6_isVersion
  simp (disch := omega) only [↓lm1, ↓lm2, i0, i1, i2, i3, i4, i5, i6, i7, i8, i9, i10, i12, i16, i20, i24, i31, i32, i44, i48, i57, i59, i63, i64, i74, i75, i90, i96, i97, i99, i100, i122, i139, i140, i144, i192, i200, i240, i255, i304, i309, i310, i311, i323, i324, i325, i899, i900, i975, i999, i5200, i4875, i65536, i65537, i15, ob_some, nI_add, nI_clamp, zn_zib, zn_eq, zn_lt, zn_le, m2_lt, m2_le, lt_m2, le_m2, eq_m2, m2_eq, m1_lt, m1_le, lt_m1, le_m1, eq_m1, m1_eq, m1_m2, m2_m1, m2_lt_m1, bI_0, bI_1, bI_t, bI_f, bI_bo, nI0_bo, nI1_bo, if_true, if_false, ite_true, ite_false, Nat.zero_add, Nat.not_lt_zero, Nat.zero_le, not_true_eq_false, not_false_eq_true, or_false, false_or, true_or, or_true, and_true, true_and, Bool.false_eq_true, Bool.true_eq_false, reduceCtorEq, eq_self]
theorem X6_runs (H : RC R st n m c) {w : Nat} (hw : w < 6) : f_X6_runs R (nI w) = some (bI (rn st w)) := by
  have h1 : ¬ 6 ≤ w := by omega
  have hn := WS_n (RC_W H)
  unfold f_X6_runs rn
  rcases RC_w H hw with ⟨e, e2, -⟩ | ⟨s, hs, e, e2, -⟩
  · simp (disch := omega) only [h1, e, e2, ↓lm1, ↓lm2, i0, i1, i2, i3, i4, i5, i6, i7, i8, i9, i10, i12, i16, i20, i24, i31, i32, i44, i48, i57, i59, i63, i64, i74, i75, i90, i96, i97, i99, i100, i122, i139, i140, i144, i192, i200, i240, i255, i304, i309, i310, i311, i323, i324, i325, i899, i900, i975, i999, i5200, i4875, i65536, i65537, i15, ob_some, nI_add, nI_clamp, zn_zib, zn_eq, zn_lt, zn_le, m2_lt, m2_le, lt_m2, le_m2, eq_m2, m2_eq, m1_lt, m1_le, lt_m1, le_m1, eq_m1, m1_eq, m1_m2, m2_m1, m2_lt_m1, bI_0, bI_1, bI_t, bI_f, bI_bo, nI0_bo, nI1_bo, if_true, if_false, ite_true, ite_false, Nat.zero_add, Nat.not_lt_zero, Nat.zero_le, not_true_eq_false, not_false_eq_true, or_false, false_or, true_or, or_true, and_true, true_and, Bool.false_eq_true, Bool.true_eq_false, reduceCtorEq, eq_self, decide_false]
  · simp (disch := omega) only [h1, e, e2, ↓lm1, ↓lm2, i0, i1, i2, i3, i4, i5, i6, i7, i8, i9, i10, i12, i16, i20, i24, i31, i32, i44, i48, i57, i59, i63, i64, i74, i75, i90, i96, i97, i99, i100, i122, i139, i140, i144, i192, i200, i240, i255, i304, i309, i310, i311, i323, i324, i325, i899, i900, i975, i999, i5200, i4875, i65536, i65537, i15, ob_some, nI_add, nI_clamp, zn_zib, zn_eq, zn_lt, zn_le, m2_lt, m2_le, lt_m2, le_m2, eq_m2, m2_eq, m1_lt, m1_le, lt_m1, le_m1, eq_m1, m1_eq, m1_m2, m2_m1, m2_lt_m1, bI_0, bI_1, bI_t, bI_f, bI_bo, nI0_bo, nI1_bo, if_true, if_false, ite_true, ite_false, Nat.zero_add, Nat.not_lt_zero, Nat.zero_le, not_true_eq_false, not_false_eq_true, or_false, false_or, true_or, or_true, and_true, true_and, Bool.false_eq_true, Bool.true_eq_false, reduceCtorEq, eq_self, decide_true]
theorem X6_runs_m2 : f_X6_runs R m2 = some (nI 0) := by
  unfold f_X6_runs
  simp (disch := omega) only [↓lm1, ↓lm2, i0, i1, i2, i3, i4, i5, i6, i7, i8, i9, i10, i12, i16, i20, i24, i31, i32, i44, i48, i57, i59, i63, i64, i74, i75, i90, i96, i97, i99, i100, i122, i139, i140, i144, i192, i200, i240, i255, i304, i309, i310, i311, i323, i324, i325, i899, i900, i975, i999, i5200, i4875, i65536, i65537, i15, ob_some, nI_add, nI_clamp, zn_zib, zn_eq, zn_lt, zn_le, m2_lt, m2_le, lt_m2, le_m2, eq_m2, m2_eq, m1_lt, m1_le, lt_m1, le_m1, eq_m1, m1_eq, m1_m2, m2_m1, m2_lt_m1, bI_0, bI_1, bI_t, bI_f, bI_bo, nI0_bo, nI1_bo, if_true, if_false, ite_true, ite_false, Nat.zero_add, Nat.not_lt_zero, Nat.zero_le, not_true_eq_false, not_false_eq_true, or_false, false_or, true_or, or_true, and_true, true_and, Bool.false_eq_true, Bool.true_eq_false, reduceCtorEq, eq_self]
theorem X6_runs_out {x : Int32} (h : x < nI 0 ∨ nI 6 ≤ x) : f_X6_runs R x = some (nI 0) := by
  unfold f_X6_runs
  by_cases h0 : x < nI 0
  · simp (disch := omega) only [h0, ↓lm1, ↓lm2, i0, i1, i2, i3, i4, i5, i6, i7, i8, i9, i10, i12, i16, i20, i24, i31, i32, i44, i48, i57, i59, i63, i64, i74, i75, i90, i96, i97, i99, i100, i122, i139, i140, i144, i192, i200, i240, i255, i304, i309, i310, i311, i323, i324, i325, i899, i900, i975, i999, i5200, i4875, i65536, i65537, i15, ob_some, nI_add, nI_clamp, zn_zib, zn_eq, zn_lt, zn_le, m2_lt, m2_le, lt_m2, le_m2, eq_m2, m2_eq, m1_lt, m1_le, lt_m1, le_m1, eq_m1, m1_eq, m1_m2, m2_m1, m2_lt_m1, bI_0, bI_1, bI_t, bI_f, bI_bo, nI0_bo, nI1_bo, if_true, if_false, ite_true, ite_false, Nat.zero_add, Nat.not_lt_zero, Nat.zero_le, not_true_eq_false, not_false_eq_true, or_false, false_or, true_or, or_true, and_true, true_and, Bool.false_eq_true, Bool.true_eq_false, reduceCtorEq, eq_self]
  · simp (disch := omega) only [h0, h.resolve_left h0, ↓lm1, ↓lm2, i0, i1, i2, i3, i4, i5, i6, i7, i8, i9, i10, i12, i16, i20, i24, i31, i32, i44, i48, i57, i59, i63, i64, i74, i75, i90, i96, i97, i99, i100, i122, i139, i140, i144, i192, i200, i240, i255, i304, i309, i310, i311, i323, i324, i325, i899, i900, i975, i999, i5200, i4875, i65536, i65537, i15, ob_some, nI_add, nI_clamp, zn_zib, zn_eq, zn_lt, zn_le, m2_lt, m2_le, lt_m2, le_m2, eq_m2, m2_eq, m1_lt, m1_le, lt_m1, le_m1, eq_m1, m1_eq, m1_m2, m2_m1, m2_lt_m1, bI_0, bI_1, bI_t, bI_f, bI_bo, nI0_bo, nI1_bo, if_true, if_false, ite_true, ite_false, Nat.zero_add, Nat.not_lt_zero, Nat.zero_le, not_true_eq_false, not_false_eq_true, or_false, false_or, true_or, or_true, and_true, true_and, Bool.false_eq_true, Bool.true_eq_false, reduceCtorEq, eq_self]
theorem X6_isVersion_out {x : Int32} (h : x < nI 0 ∨ nI 48 ≤ x) : f_X6_isVersion R x = some (nI 0) := by
  unfold f_X6_isVersion
  by_cases h0 : x < nI 0
  · simp (disch := omega) only [h0, ↓lm1, ↓lm2, i0, i1, i2, i3, i4, i5, i6, i7, i8, i9, i10, i12, i16, i20, i24, i31, i32, i44, i48, i57, i59, i63, i64, i74, i75, i90, i96, i97, i99, i100, i122, i139, i140, i144, i192, i200, i240, i255, i304, i309, i310, i311, i323, i324, i325, i899, i900, i975, i999, i5200, i4875, i65536, i65537, i15, ob_some, nI_add, nI_clamp, zn_zib, zn_eq, zn_lt, zn_le, m2_lt, m2_le, lt_m2, le_m2, eq_m2, m2_eq, m1_lt, m1_le, lt_m1, le_m1, eq_m1, m1_eq, m1_m2, m2_m1, m2_lt_m1, bI_0, bI_1, bI_t, bI_f, bI_bo, nI0_bo, nI1_bo, if_true, if_false, ite_true, ite_false, Nat.zero_add, Nat.not_lt_zero, Nat.zero_le, not_true_eq_false, not_false_eq_true, or_false, false_or, true_or, or_true, and_true, true_and, Bool.false_eq_true, Bool.true_eq_false, reduceCtorEq, eq_self]
  · simp (disch := omega) only [h0, h.resolve_left h0, ↓lm1, ↓lm2, i0, i1, i2, i3, i4, i5, i6, i7, i8, i9, i10, i12, i16, i20, i24, i31, i32, i44, i48, i57, i59, i63, i64, i74, i75, i90, i96, i97, i99, i100, i122, i139, i140, i144, i192, i200, i240, i255, i304, i309, i310, i311, i323, i324, i325, i899, i900, i975, i999, i5200, i4875, i65536, i65537, i15, ob_some, nI_add, nI_clamp, zn_zib, zn_eq, zn_lt, zn_le, m2_lt, m2_le, lt_m2, le_m2, eq_m2, m2_eq, m1_lt, m1_le, lt_m1, le_m1, eq_m1, m1_eq, m1_m2, m2_m1, m2_lt_m1, bI_0, bI_1, bI_t, bI_f, bI_bo, nI0_bo, nI1_bo, if_true, if_false, ite_true, ite_false, Nat.zero_add, Nat.not_lt_zero, Nat.zero_le, not_true_eq_false, not_false_eq_true, or_false, false_or, true_or, or_true, and_true, true_and, Bool.false_eq_true, Bool.true_eq_false, reduceCtorEq, eq_self]
theorem X6_isStamp_out (h : Rows_ring R = nI n) {x : Int32} (h1 : x < nI 0 ∨ nI n ≤ x) : f_X6_isStamp R x = some (nI 0) := by
  unfold f_X6_isStamp
  by_cases h0 : x < nI 0
  · simp (disch := omega) only [h0, ↓lm1, ↓lm2, i0, i1, i2, i3, i4, i5, i6, i7, i8, i9, i10, i12, i16, i20, i24, i31, i32, i44, i48, i57, i59, i63, i64, i74, i75, i90, i96, i97, i99, i100, i122, i139, i140, i144, i192, i200, i240, i255, i304, i309, i310, i311, i323, i324, i325, i899, i900, i975, i999, i5200, i4875, i65536, i65537, i15, ob_some, nI_add, nI_clamp, zn_zib, zn_eq, zn_lt, zn_le, m2_lt, m2_le, lt_m2, le_m2, eq_m2, m2_eq, m1_lt, m1_le, lt_m1, le_m1, eq_m1, m1_eq, m1_m2, m2_m1, m2_lt_m1, bI_0, bI_1, bI_t, bI_f, bI_bo, nI0_bo, nI1_bo, if_true, if_false, ite_true, ite_false, Nat.zero_add, Nat.not_lt_zero, Nat.zero_le, not_true_eq_false, not_false_eq_true, or_false, false_or, true_or, or_true, and_true, true_and, Bool.false_eq_true, Bool.true_eq_false, reduceCtorEq, eq_self]
  · simp (disch := omega) only [h, h0, h1.resolve_left h0, ↓lm1, ↓lm2, i0, i1, i2, i3, i4, i5, i6, i7, i8, i9, i10, i12, i16, i20, i24, i31, i32, i44, i48, i57, i59, i63, i64, i74, i75, i90, i96, i97, i99, i100, i122, i139, i140, i144, i192, i200, i240, i255, i304, i309, i310, i311, i323, i324, i325, i899, i900, i975, i999, i5200, i4875, i65536, i65537, i15, ob_some, nI_add, nI_clamp, zn_zib, zn_eq, zn_lt, zn_le, m2_lt, m2_le, lt_m2, le_m2, eq_m2, m2_eq, m1_lt, m1_le, lt_m1, le_m1, eq_m1, m1_eq, m1_m2, m2_m1, m2_lt_m1, bI_0, bI_1, bI_t, bI_f, bI_bo, nI0_bo, nI1_bo, if_true, if_false, ite_true, ite_false, Nat.zero_add, Nat.not_lt_zero, Nat.zero_le, not_true_eq_false, not_false_eq_true, or_false, false_or, true_or, or_true, and_true, true_and, Bool.false_eq_true, Bool.true_eq_false, reduceCtorEq, eq_self]
theorem X6_isRow_out (h : Rows_rowCount R = nI m) {x : Int32} (h1 : x < nI 0 ∨ nI m ≤ x) : f_X6_isRow R x = some (nI 0) := by
  unfold f_X6_isRow
  by_cases h0 : x < nI 0
  · simp (disch := omega) only [h0, ↓lm1, ↓lm2, i0, i1, i2, i3, i4, i5, i6, i7, i8, i9, i10, i12, i16, i20, i24, i31, i32, i44, i48, i57, i59, i63, i64, i74, i75, i90, i96, i97, i99, i100, i122, i139, i140, i144, i192, i200, i240, i255, i304, i309, i310, i311, i323, i324, i325, i899, i900, i975, i999, i5200, i4875, i65536, i65537, i15, ob_some, nI_add, nI_clamp, zn_zib, zn_eq, zn_lt, zn_le, m2_lt, m2_le, lt_m2, le_m2, eq_m2, m2_eq, m1_lt, m1_le, lt_m1, le_m1, eq_m1, m1_eq, m1_m2, m2_m1, m2_lt_m1, bI_0, bI_1, bI_t, bI_f, bI_bo, nI0_bo, nI1_bo, if_true, if_false, ite_true, ite_false, Nat.zero_add, Nat.not_lt_zero, Nat.zero_le, not_true_eq_false, not_false_eq_true, or_false, false_or, true_or, or_true, and_true, true_and, Bool.false_eq_true, Bool.true_eq_false, reduceCtorEq, eq_self]
  · simp (disch := omega) only [h, h0, h1.resolve_left h0, ↓lm1, ↓lm2, i0, i1, i2, i3, i4, i5, i6, i7, i8, i9, i10, i12, i16, i20, i24, i31, i32, i44, i48, i57, i59, i63, i64, i74, i75, i90, i96, i97, i99, i100, i122, i139, i140, i144, i192, i200, i240, i255, i304, i309, i310, i311, i323, i324, i325, i899, i900, i975, i999, i5200, i4875, i65536, i65537, i15, ob_some, nI_add, nI_clamp, zn_zib, zn_eq, zn_lt, zn_le, m2_lt, m2_le, lt_m2, le_m2, eq_m2, m2_eq, m1_lt, m1_le, lt_m1, le_m1, eq_m1, m1_eq, m1_m2, m2_m1, m2_lt_m1, bI_0, bI_1, bI_t, bI_f, bI_bo, nI0_bo, nI1_bo, if_true, if_false, ite_true, ite_false, Nat.zero_add, Nat.not_lt_zero, Nat.zero_le, not_true_eq_false, not_false_eq_true, or_false, false_or, true_or, or_true, and_true, true_and, Bool.false_eq_true, Bool.true_eq_false, reduceCtorEq, eq_self]
end
