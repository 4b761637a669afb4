/-! a store's beginning, on both sides -/
theorem J_fill (N : Nat) (hN : N ≤ 48) (x : Int32) : ∀ (j i fu : Nat) (f : Nat → Int32), i + j = N → j < fu → ∃ g, zl3 (b_J7_fill_53178_5 N x) fu f (nI i) (nI N) = some g ∧ (∀ k, k < i → g k = f k) ∧ ∀ k, i ≤ k → k < N → g k = x := by
  intro j
  induction j with
  | zero =>
    intro i fu f hi hf
    obtain ⟨fu, rfl⟩ : ∃ m, fu = m + 1 := ⟨fu - 1, by omega⟩
    have h1 : N ≤ i := by omega
    refine ⟨f, ?_, fun k _ => rfl, fun k h2 h3 => by omega⟩
    rw [zl3_s]
    unfold b_J7_fill_53178_5
    simp (disch := omega) only [h1, ↓lm1, ↓lm2, i0, i1, i2, i3, i4, i5, i6, i7, i8, i9, i10, i12, i16, i20, i24, i31, i32, i44, i48, i57, i59, i63, i64, i74, i75, i90, i96, i97, i99, i100, i122, i139, i140, i144, i192, i200, i240, i255, i304, i309, i310, i311, i323, i324, i325, i899, i900, i975, i999, i5200, i4875, i65536, i65537, i15, ob_some, nI_add, nI_clamp, zn_zib, zn_eq, zn_lt, zn_le, m2_lt, m2_le, lt_m2, le_m2, eq_m2, m2_eq, m1_lt, m1_le, lt_m1, le_m1, eq_m1, m1_eq, m1_m2, m2_m1, m2_lt_m1, bI_0, bI_1, bI_t, bI_f, bI_bo, nI0_bo, nI1_bo, if_true, if_false, ite_true, ite_false, Nat.zero_add, Nat.not_lt_zero, Nat.zero_le, not_true_eq_false, not_false_eq_true, or_false, false_or, true_or, or_true, and_true, true_and, Bool.false_eq_true, Bool.true_eq_false, reduceCtorEq, eq_self]
  | succ j ih =>
    intro i fu f hi hf
    obtain ⟨fu, rfl⟩ : ∃ m, fu = m + 1 := ⟨fu - 1, by omega⟩
    have h1 : ¬ N ≤ i := by omega
    obtain ⟨g, g1, g2, g3⟩ := ih (i + 1) fu (upd f i x) (by omega) (by omega)
    refine ⟨g, ?_, fun k hk => (g2 k (by omega)).trans (upd_ne (by omega)), fun k h2 h3 => ?_⟩
    · rw [← g1, zl3_s]
      unfold b_J7_fill_53178_5
      simp (disch := omega) only [h1, ↓lm1, ↓lm2, i0, i1, i2, i3, i4, i5, i6, i7, i8, i9, i10, i12, i16, i20, i24, i31, i32, i44, i48, i57, i59, i63, i64, i74, i75, i90, i96, i97, i99, i100, i122, i139, i140, i144, i192, i200, i240, i255, i304, i309, i310, i311, i323, i324, i325, i899, i900, i975, i999, i5200, i4875, i65536, i65537, i15, ob_some, nI_add, nI_clamp, zn_zib, zn_eq, zn_lt, zn_le, m2_lt, m2_le, lt_m2, le_m2, eq_m2, m2_eq, m1_lt, m1_le, lt_m1, le_m1, eq_m1, m1_eq, m1_m2, m2_m1, m2_lt_m1, bI_0, bI_1, bI_t, bI_f, bI_bo, nI0_bo, nI1_bo, if_true, if_false, ite_true, ite_false, Nat.zero_add, Nat.not_lt_zero, Nat.zero_le, not_true_eq_false, not_false_eq_true, or_false, false_or, true_or, or_true, and_true, true_and, Bool.false_eq_true, Bool.true_eq_false, reduceCtorEq, eq_self]
    · by_cases z : k = i
      · rw [z, g2 i (by omega)]
        exact upd_eq
      · exact g3 k (by omega) h3
theorem J_fillL (N : Nat) (hN : N ≤ 48) (x : Int64) : ∀ (j i fu : Nat) (f : Nat → Int64), i + j = N → j < fu → ∃ g, zl3 (b_J7_fill_d0a16_6 N x) fu f (nI i) (nI N) = some g ∧ (∀ k, k < i → g k = f k) ∧ ∀ k, i ≤ k → k < N → g k = x := by
  intro j
  induction j with
  | zero =>
    intro i fu f hi hf
    obtain ⟨fu, rfl⟩ : ∃ m, fu = m + 1 := ⟨fu - 1, by omega⟩
    have h1 : N ≤ i := by omega
    refine ⟨f, ?_, fun k _ => rfl, fun k h2 h3 => by omega⟩
    rw [zl3_s]
    unfold b_J7_fill_d0a16_6
    simp (disch := omega) only [h1, ↓lm1, ↓lm2, i0, i1, i2, i3, i4, i5, i6, i7, i8, i9, i10, i12, i16, i20, i24, i31, i32, i44, i48, i57, i59, i63, i64, i74, i75, i90, i96, i97, i99, i100, i122, i139, i140, i144, i192, i200, i240, i255, i304, i309, i310, i311, i323, i324, i325, i899, i900, i975, i999, i5200, i4875, i65536, i65537, i15, ob_some, nI_add, nI_clamp, zn_zib, zn_eq, zn_lt, zn_le, m2_lt, m2_le, lt_m2, le_m2, eq_m2, m2_eq, m1_lt, m1_le, lt_m1, le_m1, eq_m1, m1_eq, m1_m2, m2_m1, m2_lt_m1, bI_0, bI_1, bI_t, bI_f, bI_bo, nI0_bo, nI1_bo, if_true, if_false, ite_true, ite_false, Nat.zero_add, Nat.not_lt_zero, Nat.zero_le, not_true_eq_false, not_false_eq_true, or_false, false_or, true_or, or_true, and_true, true_and, Bool.false_eq_true, Bool.true_eq_false, reduceCtorEq, eq_self]
  | succ j ih =>
    intro i fu f hi hf
    obtain ⟨fu, rfl⟩ : ∃ m, fu = m + 1 := ⟨fu - 1, by omega⟩
    have h1 : ¬ N ≤ i := by omega
    obtain ⟨g, g1, g2, g3⟩ := ih (i + 1) fu (vp_updL f i x) (by omega) (by omega)
    refine ⟨g, ?_, fun k hk => (g2 k (by omega)).trans (updL_ne (by omega)), fun k h2 h3 => ?_⟩
    · rw [← g1, zl3_s]
      unfold b_J7_fill_d0a16_6
      simp (disch := omega) only [h1, ↓lm1, ↓lm2, i0, i1, i2, i3, i4, i5, i6, i7, i8, i9, i10, i12, i16, i20, i24, i31, i32, i44, i48, i57, i59, i63, i64, i74, i75, i90, i96, i97, i99, i100, i122, i139, i140, i144, i192, i200, i240, i255, i304, i309, i310, i311, i323, i324, i325, i899, i900, i975, i999, i5200, i4875, i65536, i65537, i15, ob_some, nI_add, nI_clamp, zn_zib, zn_eq, zn_lt, zn_le, m2_lt, m2_le, lt_m2, le_m2, eq_m2, m2_eq, m1_lt, m1_le, lt_m1, le_m1, eq_m1, m1_eq, m1_m2, m2_m1, m2_lt_m1, bI_0, bI_1, bI_t, bI_f, bI_bo, nI0_bo, nI1_bo, if_true, if_false, ite_true, ite_false, Nat.zero_add, Nat.not_lt_zero, Nat.zero_le, not_true_eq_false, not_false_eq_true, or_false, false_or, true_or, or_true, and_true, true_and, Bool.false_eq_true, Bool.true_eq_false, reduceCtorEq, eq_self]
    · by_cases z : k = i
      · rw [z, g2 i (by omega)]
        exact updL_eq
      · exact g3 k (by omega) h3
theorem X6_startAnew (R : SRows) (x y z u : Int32) : ∃ R', f_X6_startAnew R x y z u = some R' ∧ Rows_ring R' = x ∧ Rows_rowCount R' = y ∧ Rows_crash R' = u ∧ Rows_nextStamp R' = z ∧ Rows_count R' = nI 0 ∧ Rows_lostSlots R' = nI 0 ∧ Rows_runningStamps R' = 0 ∧ Rows_doneStamps R' = 0 ∧ Rows_goneStamps R' = 0 ∧ (∀ w, w < 6 → Rows_stamps R' w = m2) ∧ (∀ w, w < 6 → Rows_held R' w = 0) ∧ ∀ v, v < 48 → Rows_rowsOf R' v = m2 := by
  obtain ⟨g1, a1, -, a2⟩ := J_fill 6 (by omega) m2 6 0 FU (Rows_stamps R) (by omega) (by unfold FU; omega)
  obtain ⟨g2, b1, -, b2⟩ := J_fillL 6 (by omega) 0 6 0 FU (Rows_held R) (by omega) (by unfold FU; omega)
  obtain ⟨g3, c1, -, c2⟩ := J_fill 48 (by omega) m2 48 0 FU (Rows_rowsOf R) (by omega) (by unfold FU; omega)
  have a1' : f_J7_fill_53178 6 (Rows_stamps R) (-2 : Int32) = some g1 := a1
  have b1' : f_J7_fill_d0a16 6 (Rows_held R) (0 : Int64) = some g2 := b1
  have c1' : f_J7_fill_53178 48 (Rows_rowsOf R) (-2 : Int32) = some g3 := c1
  refine ⟨mkRows x y u z (nI 0) (nI 0) 0 0 0 g1 g2 g3 (Rows_values R) (Rows_froms R) (Rows_tills R) (Rows_made R), ?_, rfl, rfl, rfl, rfl, rfl, rfl, rfl, rfl, rfl, fun w hw => a2 w (by omega) hw, fun w hw => b2 w (by omega) hw, fun v hv => c2 v (by omega) hv⟩
  unfold f_X6_startAnew
  rw [a1', ob_some, b1', ob_some, c1', ob_some]
  rfl
def rd0 (rd : Nat → Int32) (s : Nat) : Prop := ∀ i, i < 325 → rd i = if 304 ≤ i ∧ i ≤ 309 then m1 else if i = 323 then nI s else nI 0
theorem bt_nI0 (i : Nat) : bt (nI 0) i = false := b_0 i
theorem init_FR {R : SRows} {rd : Nat → Int32} {n m c s b : Nat} (hn : WN n m) (hs : s < n) (hc : c ≤ 100) (hb : b < 2 ^ 29) (h : rd0 rd s) : ∃ R', f_X6_startAnew R (nI n) (nI m) (nI s) (nI c) = some R' ∧ FR R' rd n m c b := by
  obtain ⟨R', h0, r1, r2, r3, r4, r5, r6, r7, r8, r9, r10, r11, r12⟩ := X6_startAnew R (nI n) (nI m) (nI s) (nI c)
  obtain ⟨n1, n2, n3, n4, n5⟩ := id hn
  have z0 : ∀ i, i < 304 → rd i = nI 0 := fun i hi => by rw [h i (by omega), if_neg (by omega), if_neg (by omega)]
  have z1 : ∀ w, w < 6 → rd (304 + w) = m1 := fun w hw => by rw [h _ (by omega), if_pos (by omega)]
  have z2 : ∀ i, 310 ≤ i → i < 323 → rd i = nI 0 := fun i hi hi2 => by rw [h i (by omega), if_neg (by omega), if_neg (by omega)]
  have z3 : rd 323 = nI s := by rw [h 323 (by omega), if_neg (by omega), if_pos rfl]
  have z4 : rd 324 = nI 0 := by rw [h 324 (by omega), if_neg (by omega), if_neg (by omega)]
  have no : ∀ {w t : Nat}, w < 6 → t < n → rd (304 + w) = nI t → False := fun {w t} hw ht e => by
    rw [z1 w hw, m1_eq (by omega)] at e
    exact e
  refine ⟨R', h0, ⟨⟨hn, ⟨s, hs, z3⟩, fun v hv => ⟨.inl (z0 v (by omega)), ⟨0, by omega, z0 _ (by omega)⟩, .inr ⟨0, by omega, z0 _ (by omega)⟩, .inr ⟨0, by omega, z0 _ (by omega)⟩, ⟨0, by omega, z0 _ (by omega)⟩⟩, fun t ht => ⟨0, by omega, z0 _ (by omega)⟩, fun w hw => .inl (z1 w hw)⟩, hc, r1, r2, r3, r4.trans z3.symm, fun t ht => ?_, fun w hw => .inl ⟨z1 w hw, r10 w hw, r11 w hw⟩, fun v hv => .inl ⟨z0 v (by omega), r12 v hv⟩, ⟨0, fun _ => 0, r5, by omega, fun i hi => absurd hi (Nat.not_lt_zero i), fun i j _ hj => absurd hj (Nat.not_lt_zero j), fun v hv e => absurd (z0 v (by omega)) e⟩⟩, ⟨fun w hw t ht e => (no hw ht e).elim, fun t ht e => ?_, fun w u hw hu _ _ => z1 w hw, fun w hw t ht e => (no hw ht e).elim, fun v hv t ht e => absurd (z0 v (by omega)) e, fun w hw _ => ⟨z2 _ (by omega) (by omega), z2 _ (by omega) (by omega), by rw [z2 310 (by omega) (by omega)]; exact bt_nI0 w⟩, fun w hw t h1 h2 => ?_, fun w hw t ht e => (no hw ht e).elim⟩, ⟨hb, 0, z4, by omega, fun v hv e => absurd (z0 v (by omega)) e⟩⟩
  · unfold RT
    rw [r7, r8, r9, lb_0, z0 (240 + t) (by omega)]
    exact ⟨by decide, by decide, by decide⟩
  · rw [z0 (240 + t) (by omega), zn_eq (by omega) (by omega)] at e
    omega
  · unfold sb
    rw [z2 _ (by omega) (by omega)]
    exact bt_nI0 _
/-! what stands of the slots -/
theorem ob_ex {A B : Type} {o : Option A} {f : A → Option B} {r : B} (h : o.bind f = some r) : ∃ a, o = some a ∧ f a = some r := by
  cases o with
  | none => cases h
  | some a => exact ⟨a, rfl, h⟩
theorem if_ex {A : Type} {c : Prop} [Decidable c] {a : Option A} {r : A} (h : (if c then a else none) = some r) : a = some r := by
  by_cases q : c
  · rw [if_pos q] at h
    exact h
  · rw [if_neg q] at h
    cases h
theorem make_st {R R' : SRows} {a b c x : Int32} (h : f_X6_makeVersion R a b c = some (x, R')) : Rows_stamps R' = Rows_stamps R := by
  unfold f_X6_makeVersion at h
  obtain ⟨q, -, h⟩ := ob_ex h
  rcases zsw h with ⟨-, h⟩ | ⟨-, h⟩
  · cases h
    rfl
  · rcases zsw h with ⟨-, h⟩ | ⟨-, h⟩
    · have h := if_ex h
      have h := if_ex h
      have h := if_ex h
      have h := if_ex h
      have h := if_ex h
      cases h
      rfl
    · cases h
      rfl
theorem put_st {R R' : SRows} {a b c x : Int32} (h : f_X6_putValue R a b c = some (x, R')) : Rows_stamps R' = Rows_stamps R := by
  unfold f_X6_putValue at h
  obtain ⟨q1, -, h⟩ := ob_ex h
  rcases zsw h with ⟨-, h⟩ | ⟨-, h⟩
  · obtain ⟨q2, -, h⟩ := ob_ex h
    obtain ⟨q3, -, h⟩ := ob_ex h
    obtain ⟨q4, -, h⟩ := ob_ex h
    rcases zsw h with ⟨-, h⟩ | ⟨-, h⟩
    · obtain ⟨q5, -, h⟩ := ob_ex h
      rcases zsw h with ⟨-, h⟩ | ⟨-, h⟩
      · obtain ⟨q6, -, h⟩ := ob_ex h
        obtain ⟨q7, h7, h⟩ := ob_ex h
        cases h
        exact make_st h7
      · obtain ⟨q6, -, h⟩ := ob_ex h
        have h := if_ex h
        obtain ⟨q8, -, h⟩ := ob_ex h
        obtain ⟨q7, h7, h⟩ := ob_ex h
        cases h
        exact (make_st h7).trans rfl
    · have h := if_ex h
      cases h
      rfl
  · cases h
    rfl
theorem drop_st {R R' : SRows} {a b x : Int32} (h : f_X6_dropValue R a b = some (x, R')) : Rows_stamps R' = Rows_stamps R := by
  unfold f_X6_dropValue at h
  obtain ⟨q1, -, h⟩ := ob_ex h
  rcases zsw h with ⟨-, h⟩ | ⟨-, h⟩
  · obtain ⟨q2, -, h⟩ := ob_ex h
    obtain ⟨q3, -, h⟩ := ob_ex h
    obtain ⟨q4, -, h⟩ := ob_ex h
    rcases zsw h with ⟨-, h⟩ | ⟨-, h⟩
    · cases h
      rfl
    · obtain ⟨q5, -, h⟩ := ob_ex h
      have h := if_ex h
      cases h
      rfl
  · cases h
    rfl
theorem rn_of {R : SRows} {st : Nat → Int32} {n m c w : Nat} (H : RC R st n m c) (hw : w < 6) : rn st w = decide (¬ Rows_stamps R w = m2) := by
  have hn := WS_n (RC_W H)
  unfold rn
  rcases RC_w H hw with ⟨e, e2, -⟩ | ⟨s, hs, e, e2, -⟩
  · rw [e, e2]
    decide
  · rw [e, e2]
    rw [decide_eq_true (by rw [zn_lt (by omega) (by omega)]; omega), decide_eq_true (by rw [eq_m2 (by omega)]; exact not_false)]
theorem rn_same {R R' : SRows} {st st' : Nat → Int32} {n m c w : Nat} (H : RC R st n m c) (H' : RC R' st' n m c) (e : Rows_stamps R' = Rows_stamps R) (hw : w < 6) : rn st' w = rn st w := by
  rw [rn_of H hw, rn_of H' hw, e]
