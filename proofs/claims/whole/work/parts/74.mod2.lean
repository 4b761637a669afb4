/-! the model: ages, the dead, who is held -/
def IS (st : Nat → Int32) (n : Nat) : Prop :=
  (∀ w, w < 6 → ∀ s, s < n → st (304 + w) = nI s → st (240 + s) = nI 1) ∧
  (∀ s, s < 64 → st (240 + s) = nI 1 → ∃ w, w < 6 ∧ st (304 + w) = nI s) ∧
  (∀ w u, w < 6 → u < 6 → w ≠ u → st (304 + w) = st (304 + u) → st (304 + w) = m1) ∧
  (∀ w, w < 6 → ∀ s, s < n → st (304 + w) = nI s → 1 ≤ ag st n s ∧ ag st n s ≤ n / 2) ∧
  (∀ v, v < 48 → ∀ s, s < n → st v ≠ nI 0 → st (96 + v) = nI s → st (240 + s) ≠ nI 0) ∧
  (∀ w, w < 6 → st (304 + w) = m1 → st (311 + 2 * w) = nI 0 ∧ st (312 + 2 * w) = nI 0 ∧ bt (st 310) w = false) ∧
  (∀ w, w < 6 → ∀ t, n ≤ t → t < 64 → sb st w t = false) ∧
  (∀ w, w < 6 → ∀ s, s < n → st (304 + w) = nI s → sb st w s = false)
def MX (st : Nat → Int32) (n : Nat) (Q : Nat → Prop) (x : Int32) : Prop := (x = m2 ∧ ∀ s, s < n → ¬ Q s) ∨ ∃ a, a < n ∧ x = nI a ∧ (∃ s, s < n ∧ Q s ∧ ag st n s = a) ∧ ∀ s, s < n → Q s → ag st n s ≤ a
section
variable {S : SMo} {st : Nat → Int32} {n m : Nat}
theorem MX_iff {Q P : Nat → Prop} {x : Int32} (h : MX st n Q x) (e : ∀ s, s < n → (Q s ↔ P s)) : MX st n P x := by
  rcases h with ⟨h1, h2⟩ | ⟨a, ha, h1, ⟨s, hs, q, e2⟩, h3⟩
  · exact .inl ⟨h1, fun s hs z => h2 s hs ((e s hs).mpr z)⟩
  · exact .inr ⟨a, ha, h1, ⟨s, hs, (e s hs).mp q, e2⟩, fun s hs z => h3 s hs ((e s hs).mpr z)⟩
theorem MX_end {p : Nat → Bool} {x : Int32} (h : MX st n (fun s => p s = true) x) : x = eo (mxo p (ag st n) n) := by
  rcases h with ⟨h1, h2⟩ | ⟨a, ha, h1, ⟨s, hs, q, e2⟩, h3⟩
  · have hf : ∀ k, k < n → p k = false := fun k hk => by
      cases hp : p k
      · rfl
      · exact absurd hp (h2 k hk)
    rw [mxo_eqn hf]
    exact h1
  · rw [mxo_eq ⟨s, hs, q, e2⟩ h3]
    exact h1
theorem MX_join {Q P : Nat → Prop} {x : Int32} (hn : n ≤ 64) (h : MX st n Q x) {b : Nat} (hb : b < n) (h1 : ∃ s, s < n ∧ P s ∧ ag st n s = b) (h2 : ∀ s, s < n → P s → ag st n s ≤ b) : MX st n (fun s => Q s ∨ P s) (if nI b ≤ x then x else nI b) := by
  obtain ⟨t, ht, pt, et⟩ := h1
  rcases h with ⟨rfl, g2⟩ | ⟨a, ha, rfl, ⟨s, hs, q, e2⟩, h3⟩
  · rw [if_neg (by rw [le_m2 (by omega)]; exact id)]
    exact .inr ⟨b, hb, rfl, ⟨t, ht, .inr pt, et⟩, fun s hs z => z.elim (fun z => absurd z (g2 s hs)) (h2 s hs)⟩
  · by_cases c : b ≤ a
    · rw [if_pos (by rw [zn_le (by omega) (by omega)]; exact c)]
      exact .inr ⟨a, ha, rfl, ⟨s, hs, .inl q, e2⟩, fun s hs z => z.elim (h3 s hs) (fun z => Nat.le_trans (h2 s hs z) c)⟩
    · rw [if_neg (by rw [zn_le (by omega) (by omega)]; exact c)]
      exact .inr ⟨b, hb, rfl, ⟨t, ht, .inr pt, et⟩, fun s hs z => z.elim (fun z => by have := h3 s hs z; omega) (h2 s hs)⟩
theorem M_ageBack (hr : Mo_ring S = nI n) (W : WS st n m) {w : Nat} (hw : w < 6) (hrn : rn st w = true) : f_X10_ageBack S st (nI w) = some (nI (Aw st n w)) := by
  have hn := WS_n W
  rcases WS_w W hw with e | ⟨t, ht, e⟩
  · rw [rn_f e] at hrn
    cases hrn
  · have hbe : ∀ s, s < n → (hb st w s = true ↔ s = t ∨ sb st w s = true) := fun s hs => by
      unfold hb
      rw [hrn, Bool.true_and, Bool.or_eq_true, e, decide_eq_true_eq, zn_eq (by omega) (by omega)]
      exact ⟨fun z => z.elim .inr (fun q => .inl q.symm), fun z => z.elim (fun q => .inr q.symm) .inl⟩
    unfold f_X10_ageBack
    simp (disch := omega) only [e, M_ageOf hr W ht, ↓lm1, ↓lm2, i0, i1, i2, i3, i4, i5, i6, i7, i8, i9, i10, i12, i16, i20, i24, i31, i32, i44, i48, i57, i59, i63, i64, i74, i75, i90, i96, i97, i99, i100, i122, i139, i140, i144, i192, i200, i240, i255, i304, i309, i310, i311, i323, i324, i325, i899, i900, i975, i999, i5200, i4875, i65536, i65537, i15, ob_some, nI_add, nI_clamp, zn_zib, zn_eq, zn_lt, zn_le, m2_lt, m2_le, lt_m2, le_m2, eq_m2, m2_eq, m1_lt, m1_le, lt_m1, le_m1, eq_m1, m1_eq, m1_m2, m2_m1, m2_lt_m1, bI_0, bI_1, bI_t, bI_f, bI_bo, nI0_bo, nI1_bo, if_true, if_false, ite_true, ite_false, Nat.zero_add, Nat.not_lt_zero, Nat.zero_le, not_true_eq_false, not_false_eq_true, or_false, false_or, true_or, or_true, and_true, true_and, Bool.false_eq_true, Bool.true_eq_false, reduceCtorEq, eq_self]
    have g0 : ag st n t < n := gon_lt (by omega)
    refine zl2_up n 0 (fun i x => MX st n (fun s => s = t ∨ (s < i ∧ sb st w s = true)) x) _ (by omega) (by omega) ?_ ?_ ?_
    · exact .inr ⟨ag st n t, g0, rfl, ⟨t, ht, .inl rfl, rfl⟩, fun s hs z => z.elim (fun z => by rw [z]; exact Nat.le_refl _) (fun z => absurd z.1 (Nat.not_lt_zero s))⟩
    · intro k i x hi hI
      right
      have h1 : ¬ n ≤ i := by omega
      have g1 : ag st n i < n := gon_lt (by omega)
      unfold b_X10_ageBack_16
      simp (disch := omega) only [hr, h1, M_isIn hw (by omega : i < 64), M_ageOf hr W hi, ↓lm1, ↓lm2, i0, i1, i2, i3, i4, i5, i6, i7, i8, i9, i10, i12, i16, i20, i24, i31, i32, i44, i48, i57, i59, i63, i64, i74, i75, i90, i96, i97, i99, i100, i122, i139, i140, i144, i192, i200, i240, i255, i304, i309, i310, i311, i323, i324, i325, i899, i900, i975, i999, i5200, i4875, i65536, i65537, i15, ob_some, nI_add, nI_clamp, zn_zib, zn_eq, zn_lt, zn_le, m2_lt, m2_le, lt_m2, le_m2, eq_m2, m2_eq, m1_lt, m1_le, lt_m1, le_m1, eq_m1, m1_eq, m1_m2, m2_m1, m2_lt_m1, bI_0, bI_1, bI_t, bI_f, bI_bo, nI0_bo, nI1_bo, if_true, if_false, ite_true, ite_false, Nat.zero_add, Nat.not_lt_zero, Nat.zero_le, not_true_eq_false, not_false_eq_true, or_false, false_or, true_or, or_true, and_true, true_and, Bool.false_eq_true, Bool.true_eq_false, reduceCtorEq, eq_self]
      cases hs : sb st w i
      · refine ⟨x, MX_iff hI (fun s hs2 => ⟨fun z => z.imp id (fun z => ⟨by omega, z.2⟩), fun z => z.imp id (fun z => ⟨by
          by_cases c : s = i
          · rw [c, hs] at z
            exact absurd z.2 (by decide)
          · omega, z.2⟩)⟩), by simp (disch := omega) only [↓lm1, ↓lm2, i0, i1, i2, i3, i4, i5, i6, i7, i8, i9, i10, i12, i16, i20, i24, i31, i32, i44, i48, i57, i59, i63, i64, i74, i75, i90, i96, i97, i99, i100, i122, i139, i140, i144, i192, i200, i240, i255, i304, i309, i310, i311, i323, i324, i325, i899, i900, i975, i999, i5200, i4875, i65536, i65537, i15, ob_some, nI_add, nI_clamp, zn_zib, zn_eq, zn_lt, zn_le, m2_lt, m2_le, lt_m2, le_m2, eq_m2, m2_eq, m1_lt, m1_le, lt_m1, le_m1, eq_m1, m1_eq, m1_m2, m2_m1, m2_lt_m1, bI_0, bI_1, bI_t, bI_f, bI_bo, nI0_bo, nI1_bo, if_true, if_false, ite_true, ite_false, Nat.zero_add, Nat.not_lt_zero, Nat.zero_le, not_true_eq_false, not_false_eq_true, or_false, false_or, true_or, or_true, and_true, true_and, Bool.false_eq_true, Bool.true_eq_false, reduceCtorEq, eq_self]⟩
      · have hj := MX_join (P := fun s => s = i) (by omega) hI g1 ⟨i, hi, rfl, rfl⟩ (fun s hs z => by rw [z]; exact Nat.le_refl _)
        refine ⟨_, MX_iff hj (fun s hs2 => ⟨fun z => z.elim (fun z => z.imp id (fun z => ⟨by omega, z.2⟩)) (fun z => .inr ⟨by omega, by rw [z]; exact hs⟩), fun z => z.elim (fun z => .inl (.inl z)) (fun z => by
          by_cases c : s = i
          · exact .inr c
          · exact .inl (.inr ⟨by omega, z.2⟩))⟩), ?_⟩
        simp (disch := omega) only [↓lm1, ↓lm2, i0, i1, i2, i3, i4, i5, i6, i7, i8, i9, i10, i12, i16, i20, i24, i31, i32, i44, i48, i57, i59, i63, i64, i74, i75, i90, i96, i97, i99, i100, i122, i139, i140, i144, i192, i200, i240, i255, i304, i309, i310, i311, i323, i324, i325, i899, i900, i975, i999, i5200, i4875, i65536, i65537, i15, ob_some, nI_add, nI_clamp, zn_zib, zn_eq, zn_lt, zn_le, m2_lt, m2_le, lt_m2, le_m2, eq_m2, m2_eq, m1_lt, m1_le, lt_m1, le_m1, eq_m1, m1_eq, m1_m2, m2_m1, m2_lt_m1, bI_0, bI_1, bI_t, bI_f, bI_bo, nI0_bo, nI1_bo, if_true, if_false, ite_true, ite_false, Nat.zero_add, Nat.not_lt_zero, Nat.zero_le, not_true_eq_false, not_false_eq_true, or_false, false_or, true_or, or_true, and_true, true_and, Bool.false_eq_true, Bool.true_eq_false, reduceCtorEq, eq_self]
        split <;> rfl
    · intro k x hI
      unfold b_X10_ageBack_16
      simp (disch := omega) only [hr, Nat.le_refl, ↓lm1, ↓lm2, i0, i1, i2, i3, i4, i5, i6, i7, i8, i9, i10, i12, i16, i20, i24, i31, i32, i44, i48, i57, i59, i63, i64, i74, i75, i90, i96, i97, i99, i100, i122, i139, i140, i144, i192, i200, i240, i255, i304, i309, i310, i311, i323, i324, i325, i899, i900, i975, i999, i5200, i4875, i65536, i65537, i15, ob_some, nI_add, nI_clamp, zn_zib, zn_eq, zn_lt, zn_le, m2_lt, m2_le, lt_m2, le_m2, eq_m2, m2_eq, m1_lt, m1_le, lt_m1, le_m1, eq_m1, m1_eq, m1_m2, m2_m1, m2_lt_m1, bI_0, bI_1, bI_t, bI_f, bI_bo, nI0_bo, nI1_bo, if_true, if_false, ite_true, ite_false, Nat.zero_add, Nat.not_lt_zero, Nat.zero_le, not_true_eq_false, not_false_eq_true, or_false, false_or, true_or, or_true, and_true, true_and, Bool.false_eq_true, Bool.true_eq_false, reduceCtorEq, eq_self]
      have hI2 := MX_end (MX_iff (P := fun s => hb st w s = true) hI (fun s hs => by
        rw [hbe s hs]
        exact ⟨fun z => z.imp id (fun z => z.2), fun z => z.imp id (fun z => ⟨hs, z⟩)⟩))
      rw [hI2]
      unfold Aw
      obtain ⟨k, hk, e⟩ := hb_t W hw hrn
      cases hm : mxo (hb st w) (ag st n) n with
      | none =>
        rw [mxo_none hm k hk] at e
        cases e
      | some a => rfl
theorem Aw_mx (W : WS st n m) {w : Nat} (hw : w < 6) (hrn : rn st w = true) : (∃ s, s < n ∧ hb st w s = true ∧ ag st n s = Aw st n w) ∧ ∀ s, s < n → hb st w s = true → ag st n s ≤ Aw st n w := by
  obtain ⟨k, hk, e⟩ := hb_t W hw hrn
  unfold Aw
  cases hm : mxo (hb st w) (ag st n) n with
  | none =>
    rw [mxo_none hm k hk] at e
    cases e
  | some a => exact mxo_some hm
theorem hb_rn {w s : Nat} (h : hb st w s = true) : rn st w = true := by
  unfold hb at h
  rw [Bool.and_eq_true] at h
  exact h.1
theorem hbx_iff {s : Nat} : hbx st m2 s = true ↔ ∃ w, w < 6 ∧ hb st w s = true := by
  unfold hbx
  rw [an_iff]
  exact ⟨fun ⟨w, hw, h⟩ => ⟨w, hw, by rw [Bool.and_eq_true] at h; exact h.2⟩, fun ⟨w, hw, h⟩ => ⟨w, hw, by rw [Bool.and_eq_true]; exact ⟨by rw [decide_eq_false (by rw [eq_m2 (by omega)]; exact id)]; rfl, h⟩⟩⟩
theorem M_horizonOf (hr : Mo_ring S = nI n) (W : WS st n m) : f_X10_horizonOf S st = some (nI (hz st n m2)) := by
  have hn := WS_n W
  have hx := WS_nx W
  unfold f_X10_horizonOf
  refine zl2_up 6 0 (fun i x => ∃ a, a < n ∧ x = nI a ∧ (a = 0 ∨ ∃ w s, w < 6 ∧ s < n ∧ hb st w s = true ∧ ag st n s = a) ∧ ∀ w, w < i → rn st w = true → Aw st n w ≤ a) _ (by omega) (by omega) ⟨0, by omega, rfl, .inl rfl, fun w hw => absurd hw (Nat.not_lt_zero w)⟩ ?_ ?_
  · rintro k i x hi ⟨a, ha, rfl, h1, h2⟩
    right
    have q1 : ¬ 6 ≤ i := by omega
    have g1 := Aw_lt W i
    unfold b_X10_horizonOf_4
    cases hrn : rn st i
    · refine ⟨nI a, ⟨a, ha, rfl, h1, fun w hw hw2 => ?_⟩, by simp (disch := omega) only [q1, M_doesRun W hi, hrn, ↓lm1, ↓lm2, i0, i1, i2, i3, i4, i5, i6, i7, i8, i9, i10, i12, i16, i20, i24, i31, i32, i44, i48, i57, i59, i63, i64, i74, i75, i90, i96, i97, i99, i100, i122, i139, i140, i144, i192, i200, i240, i255, i304, i309, i310, i311, i323, i324, i325, i899, i900, i975, i999, i5200, i4875, i65536, i65537, i15, ob_some, nI_add, nI_clamp, zn_zib, zn_eq, zn_lt, zn_le, m2_lt, m2_le, lt_m2, le_m2, eq_m2, m2_eq, m1_lt, m1_le, lt_m1, le_m1, eq_m1, m1_eq, m1_m2, m2_m1, m2_lt_m1, bI_0, bI_1, bI_t, bI_f, bI_bo, nI0_bo, nI1_bo, if_true, if_false, ite_true, ite_false, Nat.zero_add, Nat.not_lt_zero, Nat.zero_le, not_true_eq_false, not_false_eq_true, or_false, false_or, true_or, or_true, and_true, true_and, Bool.false_eq_true, Bool.true_eq_false, reduceCtorEq, eq_self]⟩
      by_cases c : w = i
      · rw [c, hrn] at hw2
        cases hw2
      · exact h2 w (by omega) hw2
    · simp (disch := omega) only [q1, M_doesRun W hi, hrn, M_ageBack hr W hi hrn, ↓lm1, ↓lm2, i0, i1, i2, i3, i4, i5, i6, i7, i8, i9, i10, i12, i16, i20, i24, i31, i32, i44, i48, i57, i59, i63, i64, i74, i75, i90, i96, i97, i99, i100, i122, i139, i140, i144, i192, i200, i240, i255, i304, i309, i310, i311, i323, i324, i325, i899, i900, i975, i999, i5200, i4875, i65536, i65537, i15, ob_some, nI_add, nI_clamp, zn_zib, zn_eq, zn_lt, zn_le, m2_lt, m2_le, lt_m2, le_m2, eq_m2, m2_eq, m1_lt, m1_le, lt_m1, le_m1, eq_m1, m1_eq, m1_m2, m2_m1, m2_lt_m1, bI_0, bI_1, bI_t, bI_f, bI_bo, nI0_bo, nI1_bo, if_true, if_false, ite_true, ite_false, Nat.zero_add, Nat.not_lt_zero, Nat.zero_le, not_true_eq_false, not_false_eq_true, or_false, false_or, true_or, or_true, and_true, true_and, Bool.false_eq_true, Bool.true_eq_false, reduceCtorEq, eq_self]
      by_cases c : Aw st n i ≤ a
      · refine ⟨nI a, ⟨a, ha, rfl, h1, fun w hw hw2 => ?_⟩, by simp (disch := omega) only [c, ↓lm1, ↓lm2, i0, i1, i2, i3, i4, i5, i6, i7, i8, i9, i10, i12, i16, i20, i24, i31, i32, i44, i48, i57, i59, i63, i64, i74, i75, i90, i96, i97, i99, i100, i122, i139, i140, i144, i192, i200, i240, i255, i304, i309, i310, i311, i323, i324, i325, i899, i900, i975, i999, i5200, i4875, i65536, i65537, i15, ob_some, nI_add, nI_clamp, zn_zib, zn_eq, zn_lt, zn_le, m2_lt, m2_le, lt_m2, le_m2, eq_m2, m2_eq, m1_lt, m1_le, lt_m1, le_m1, eq_m1, m1_eq, m1_m2, m2_m1, m2_lt_m1, bI_0, bI_1, bI_t, bI_f, bI_bo, nI0_bo, nI1_bo, if_true, if_false, ite_true, ite_false, Nat.zero_add, Nat.not_lt_zero, Nat.zero_le, not_true_eq_false, not_false_eq_true, or_false, false_or, true_or, or_true, and_true, true_and, Bool.false_eq_true, Bool.true_eq_false, reduceCtorEq, eq_self]⟩
        by_cases z : w = i
        · rw [z]
          exact c
        · exact h2 w (by omega) hw2
      · refine ⟨_, ⟨Aw st n i, g1, rfl, .inr ?_, fun w hw hw2 => ?_⟩, by simp (disch := omega) only [c, ↓lm1, ↓lm2, i0, i1, i2, i3, i4, i5, i6, i7, i8, i9, i10, i12, i16, i20, i24, i31, i32, i44, i48, i57, i59, i63, i64, i74, i75, i90, i96, i97, i99, i100, i122, i139, i140, i144, i192, i200, i240, i255, i304, i309, i310, i311, i323, i324, i325, i899, i900, i975, i999, i5200, i4875, i65536, i65537, i15, ob_some, nI_add, nI_clamp, zn_zib, zn_eq, zn_lt, zn_le, m2_lt, m2_le, lt_m2, le_m2, eq_m2, m2_eq, m1_lt, m1_le, lt_m1, le_m1, eq_m1, m1_eq, m1_m2, m2_m1, m2_lt_m1, bI_0, bI_1, bI_t, bI_f, bI_bo, nI0_bo, nI1_bo, if_true, if_false, ite_true, ite_false, Nat.zero_add, Nat.not_lt_zero, Nat.zero_le, not_true_eq_false, not_false_eq_true, or_false, false_or, true_or, or_true, and_true, true_and, Bool.false_eq_true, Bool.true_eq_false, reduceCtorEq, eq_self]⟩
        · obtain ⟨⟨s, hs, e1, e2⟩, -⟩ := Aw_mx W hi hrn
          exact ⟨i, s, hi, hs, e1, e2⟩
        · by_cases z : w = i
          · rw [z]
            exact Nat.le_refl _
          · have := h2 w (by omega) hw2
            omega
  · rintro k x ⟨a, ha, rfl, h1, h2⟩
    unfold b_X10_horizonOf_4
    have h0 : ¬ n = 0 := by omega
    have e1 : nI (nx st) - nI a + nI n = nI (nx st + (n - a)) := sub_add_nI (by omega)
    have z1 : zib 323 325 := by decide
    have e2 : (323 : Int32).toNatClampNeg = 323 := by decide
    have q1 : (6 : Int32) ≤ nI 6 := by decide
    have q2 : ¬ nI n = 0 := nI_ne0 (by omega) (by omega)
    rw [if_pos q1, if_pos z1, e2, hx.2, hr, if_neg q2, e1, rem_nI (by omega) (by omega) (by omega)]
    congr 2
    unfold hz
    show gon n a (nx st) = gon n (Mx st n m2) (nx st)
    congr 1
    unfold Mx
    cases hm : mxo (hbx st m2) (ag st n) n with
    | none =>
      show a = 0
      rcases h1 with h1 | ⟨w, s, hw, hs, e3, e4⟩
      · exact h1
      · have := mxo_none hm s hs
        rw [hbx_iff.mpr ⟨w, hw, e3⟩] at this
        cases this
    | some b =>
      show a = b
      obtain ⟨⟨s, hs, e3, e4⟩, h4⟩ := mxo_some hm
      obtain ⟨w, hw, e5⟩ := hbx_iff.mp e3
      have b1 := (Aw_mx W hw (hb_rn e5)).2 s hs e5
      have b2 := h2 w hw (hb_rn e5)
      rcases h1 with h1 | ⟨w', s', hw', hs', e6, e7⟩
      · omega
      · have := h4 s' hs' (hbx_iff.mpr ⟨w', hw', e6⟩)
        omega
theorem M_usedAge (hr : Mo_ring S = nI n) (W : WS st n m) : f_X10_usedAge S st = some (eo (mxo (iu st) (ag st n) n)) := by
  have hn := WS_n W
  have hm := WS_m W
  unfold f_X10_usedAge
  refine zl2_up 6 0 (fun i x => MX st n (fun s => ∃ w, w < i ∧ hb st w s = true) x) _ (by omega) (by omega) (.inl ⟨rfl, fun s hs ⟨w, hw, _⟩ => absurd hw (Nat.not_lt_zero w)⟩) ?_ ?_
  · intro k i x hi hI
    right
    have q1 : ¬ 6 ≤ i := by omega
    have g1 := Aw_lt W i
    unfold b_X10_usedAge_5
    cases hrn : rn st i
    · refine ⟨x, MX_iff hI (fun s hs => ⟨fun ⟨w, hw, e⟩ => ⟨w, by omega, e⟩, fun ⟨w, hw, e⟩ => ⟨w, by
        by_cases c : w = i
        · have := hb_rn e
          rw [c, hrn] at this
          cases this
        · omega, e⟩⟩), by simp (disch := omega) only [q1, M_doesRun W hi, hrn, ↓lm1, ↓lm2, i0, i1, i2, i3, i4, i5, i6, i7, i8, i9, i10, i12, i16, i20, i24, i31, i32, i44, i48, i57, i59, i63, i64, i74, i75, i90, i96, i97, i99, i100, i122, i139, i140, i144, i192, i200, i240, i255, i304, i309, i310, i311, i323, i324, i325, i899, i900, i975, i999, i5200, i4875, i65536, i65537, i15, ob_some, nI_add, nI_clamp, zn_zib, zn_eq, zn_lt, zn_le, m2_lt, m2_le, lt_m2, le_m2, eq_m2, m2_eq, m1_lt, m1_le, lt_m1, le_m1, eq_m1, m1_eq, m1_m2, m2_m1, m2_lt_m1, bI_0, bI_1, bI_t, bI_f, bI_bo, nI0_bo, nI1_bo, if_true, if_false, ite_true, ite_false, Nat.zero_add, Nat.not_lt_zero, Nat.zero_le, not_true_eq_false, not_false_eq_true, or_false, false_or, true_or, or_true, and_true, true_and, Bool.false_eq_true, Bool.true_eq_false, reduceCtorEq, eq_self]⟩
    · have am := Aw_mx W hi hrn
      have hj := MX_join (P := fun s => hb st i s = true) (by omega) hI g1 am.1 am.2
      refine ⟨_, MX_iff hj (fun s hs => ⟨fun z => z.elim (fun ⟨w, hw, e⟩ => ⟨w, by omega, e⟩) (fun e => ⟨i, by omega, e⟩), fun ⟨w, hw, e⟩ => by
        by_cases c : w = i
        · exact .inr (c ▸ e)
        · exact .inl ⟨w, by omega, e⟩⟩), ?_⟩
      simp (disch := omega) only [q1, M_doesRun W hi, hrn, M_ageBack hr W hi hrn, ↓lm1, ↓lm2, i0, i1, i2, i3, i4, i5, i6, i7, i8, i9, i10, i12, i16, i20, i24, i31, i32, i44, i48, i57, i59, i63, i64, i74, i75, i90, i96, i97, i99, i100, i122, i139, i140, i144, i192, i200, i240, i255, i304, i309, i310, i311, i323, i324, i325, i899, i900, i975, i999, i5200, i4875, i65536, i65537, i15, ob_some, nI_add, nI_clamp, zn_zib, zn_eq, zn_lt, zn_le, m2_lt, m2_le, lt_m2, le_m2, eq_m2, m2_eq, m1_lt, m1_le, lt_m1, le_m1, eq_m1, m1_eq, m1_m2, m2_m1, m2_lt_m1, bI_0, bI_1, bI_t, bI_f, bI_bo, nI0_bo, nI1_bo, if_true, if_false, ite_true, ite_false, Nat.zero_add, Nat.not_lt_zero, Nat.zero_le, not_true_eq_false, not_false_eq_true, or_false, false_or, true_or, or_true, and_true, true_and, Bool.false_eq_true, Bool.true_eq_false, reduceCtorEq, eq_self]
      split <;> rfl
  · intro k x hI
    unfold b_X10_usedAge_5
    have q1 : (6 : Int32) ≤ nI 6 := by decide
    rw [if_pos q1]
    refine zl2_up 48 0 (fun i x => MX st n (fun s => (∃ w, w < 6 ∧ hb st w s = true) ∨ ∃ v, v < i ∧ lv st v = true ∧ (st (96 + v) = nI s ∨ st (144 + v) = nI s)) x) _ (by omega) (by omega) (MX_iff hI (fun s hs => ⟨.inl, fun z => z.elim id (fun ⟨v, hv, _⟩ => absurd hv (Nat.not_lt_zero v))⟩)) ?_ ?_
    · intro k i x hi hI
      right
      have h1 : ¬ 48 ≤ i := by omega
      unfold b_X10_usedAge_45
      rcases WS_l W hi with e | ⟨r, hr2, e⟩
      · refine ⟨x, MX_iff hI (fun s hs => ⟨fun z => z.imp id (fun ⟨v, hv, q⟩ => ⟨v, by omega, q⟩), fun z => z.imp id (fun ⟨v, hv, q⟩ => ⟨v, by
          by_cases c : v = i
          · rw [c, lv_f e] at q
            exact absurd q.1 (by decide)
          · omega, q⟩)⟩), by simp (disch := omega) only [h1, e, ↓lm1, ↓lm2, i0, i1, i2, i3, i4, i5, i6, i7, i8, i9, i10, i12, i16, i20, i24, i31, i32, i44, i48, i57, i59, i63, i64, i74, i75, i90, i96, i97, i99, i100, i122, i139, i140, i144, i192, i200, i240, i255, i304, i309, i310, i311, i323, i324, i325, i899, i900, i975, i999, i5200, i4875, i65536, i65537, i15, ob_some, nI_add, nI_clamp, zn_zib, zn_eq, zn_lt, zn_le, m2_lt, m2_le, lt_m2, le_m2, eq_m2, m2_eq, m1_lt, m1_le, lt_m1, le_m1, eq_m1, m1_eq, m1_m2, m2_m1, m2_lt_m1, bI_0, bI_1, bI_t, bI_f, bI_bo, nI0_bo, nI1_bo, if_true, if_false, ite_true, ite_false, Nat.zero_add, Nat.not_lt_zero, Nat.zero_le, not_true_eq_false, not_false_eq_true, or_false, false_or, true_or, or_true, and_true, true_and, Bool.false_eq_true, Bool.true_eq_false, reduceCtorEq, eq_self]⟩
      · have r1 : ¬ (r + 1 = 0) := by omega
        have hl := lv_t e (by omega : r < 100)
        simp (disch := omega) only [h1, e, r1, ↓lm1, ↓lm2, i0, i1, i2, i3, i4, i5, i6, i7, i8, i9, i10, i12, i16, i20, i24, i31, i32, i44, i48, i57, i59, i63, i64, i74, i75, i90, i96, i97, i99, i100, i122, i139, i140, i144, i192, i200, i240, i255, i304, i309, i310, i311, i323, i324, i325, i899, i900, i975, i999, i5200, i4875, i65536, i65537, i15, ob_some, nI_add, nI_clamp, zn_zib, zn_eq, zn_lt, zn_le, m2_lt, m2_le, lt_m2, le_m2, eq_m2, m2_eq, m1_lt, m1_le, lt_m1, le_m1, eq_m1, m1_eq, m1_m2, m2_m1, m2_lt_m1, bI_0, bI_1, bI_t, bI_f, bI_bo, nI0_bo, nI1_bo, if_true, if_false, ite_true, ite_false, Nat.zero_add, Nat.not_lt_zero, Nat.zero_le, not_true_eq_false, not_false_eq_true, or_false, false_or, true_or, or_true, and_true, true_and, Bool.false_eq_true, Bool.true_eq_false, reduceCtorEq, eq_self]
        have tail : ∀ y, MX st n (fun s => ((∃ w, w < 6 ∧ hb st w s = true) ∨ ∃ v, v < i ∧ lv st v = true ∧ (st (96 + v) = nI s ∨ st (144 + v) = nI s)) ∨ st (96 + i) = nI s) y → ∃ b1, MX st n (fun s => (∃ w, w < 6 ∧ hb st w s = true) ∨ ∃ v, v < i + 1 ∧ lv st v = true ∧ (st (96 + v) = nI s ∨ st (144 + v) = nI s)) b1 ∧ b_X10_usedAge_103 S st k y (nI i) (st (144 + i)) = k b1 (nI (i + 1)) := fun y hy => by
          have fin : ∀ z, MX st n (fun s => (((∃ w, w < 6 ∧ hb st w s = true) ∨ ∃ v, v < i ∧ lv st v = true ∧ (st (96 + v) = nI s ∨ st (144 + v) = nI s)) ∨ st (96 + i) = nI s) ∨ st (144 + i) = nI s) z → MX st n (fun s => (∃ w, w < 6 ∧ hb st w s = true) ∨ ∃ v, v < i + 1 ∧ lv st v = true ∧ (st (96 + v) = nI s ∨ st (144 + v) = nI s)) z := fun z hz => MX_iff hz (fun s hs => ⟨fun q => by
            rcases q with ((q | ⟨v, hv, q⟩) | q) | q
            · exact .inl q
            · exact .inr ⟨v, by omega, q⟩
            · exact .inr ⟨i, by omega, hl, .inl q⟩
            · exact .inr ⟨i, by omega, hl, .inr q⟩, fun q => by
            rcases q with q | ⟨v, hv, q1, q2⟩
            · exact .inl (.inl (.inl q))
            · by_cases c : v = i
              · subst c
                exact q2.elim (fun q => .inl (.inr q)) .inr
              · exact .inl (.inl (.inr ⟨v, by omega, q1, q2⟩))⟩)
          unfold b_X10_usedAge_103
          rcases WS_d W hi with e2 | ⟨b, hb, e2⟩
          · refine ⟨y, fin y (MX_iff hy (fun s hs => ⟨.inl, fun q => q.elim id (fun q => by rw [e2, m2_eq (by omega)] at q; cases q)⟩)), by simp (disch := omega) only [e2, ↓lm1, ↓lm2, i0, i1, i2, i3, i4, i5, i6, i7, i8, i9, i10, i12, i16, i20, i24, i31, i32, i44, i48, i57, i59, i63, i64, i74, i75, i90, i96, i97, i99, i100, i122, i139, i140, i144, i192, i200, i240, i255, i304, i309, i310, i311, i323, i324, i325, i899, i900, i975, i999, i5200, i4875, i65536, i65537, i15, ob_some, nI_add, nI_clamp, zn_zib, zn_eq, zn_lt, zn_le, m2_lt, m2_le, lt_m2, le_m2, eq_m2, m2_eq, m1_lt, m1_le, lt_m1, le_m1, eq_m1, m1_eq, m1_m2, m2_m1, m2_lt_m1, bI_0, bI_1, bI_t, bI_f, bI_bo, nI0_bo, nI1_bo, if_true, if_false, ite_true, ite_false, Nat.zero_add, Nat.not_lt_zero, Nat.zero_le, not_true_eq_false, not_false_eq_true, or_false, false_or, true_or, or_true, and_true, true_and, Bool.false_eq_true, Bool.true_eq_false, reduceCtorEq, eq_self]⟩
          · have g1 : ag st n b < n := gon_lt (by omega)
            have hj := MX_join (P := fun s => st (144 + i) = nI s) (by omega) hy g1 ⟨b, hb, e2, rfl⟩ (fun s hs z => by
              rw [e2, zn_eq (by omega) (by omega)] at z
              rw [z]
              exact Nat.le_refl _)
            refine ⟨_, fin _ hj, ?_⟩
            simp (disch := omega) only [e2, M_ageOf hr W hb, ↓lm1, ↓lm2, i0, i1, i2, i3, i4, i5, i6, i7, i8, i9, i10, i12, i16, i20, i24, i31, i32, i44, i48, i57, i59, i63, i64, i74, i75, i90, i96, i97, i99, i100, i122, i139, i140, i144, i192, i200, i240, i255, i304, i309, i310, i311, i323, i324, i325, i899, i900, i975, i999, i5200, i4875, i65536, i65537, i15, ob_some, nI_add, nI_clamp, zn_zib, zn_eq, zn_lt, zn_le, m2_lt, m2_le, lt_m2, le_m2, eq_m2, m2_eq, m1_lt, m1_le, lt_m1, le_m1, eq_m1, m1_eq, m1_m2, m2_m1, m2_lt_m1, bI_0, bI_1, bI_t, bI_f, bI_bo, nI0_bo, nI1_bo, if_true, if_false, ite_true, ite_false, Nat.zero_add, Nat.not_lt_zero, Nat.zero_le, not_true_eq_false, not_false_eq_true, or_false, false_or, true_or, or_true, and_true, true_and, Bool.false_eq_true, Bool.true_eq_false, reduceCtorEq, eq_self]
            split <;> rfl
        rcases WS_f W hi with e2 | ⟨b, hb, e2⟩
        · obtain ⟨b1, t1, t2⟩ := tail x (MX_iff hI (fun s hs => ⟨.inl, fun q => q.elim id (fun q => by rw [e2, m2_eq (by omega)] at q; cases q)⟩))
          refine ⟨b1, t1, ?_⟩
          rw [← t2]
          simp (disch := omega) only [e2, ↓lm1, ↓lm2, i0, i1, i2, i3, i4, i5, i6, i7, i8, i9, i10, i12, i16, i20, i24, i31, i32, i44, i48, i57, i59, i63, i64, i74, i75, i90, i96, i97, i99, i100, i122, i139, i140, i144, i192, i200, i240, i255, i304, i309, i310, i311, i323, i324, i325, i899, i900, i975, i999, i5200, i4875, i65536, i65537, i15, ob_some, nI_add, nI_clamp, zn_zib, zn_eq, zn_lt, zn_le, m2_lt, m2_le, lt_m2, le_m2, eq_m2, m2_eq, m1_lt, m1_le, lt_m1, le_m1, eq_m1, m1_eq, m1_m2, m2_m1, m2_lt_m1, bI_0, bI_1, bI_t, bI_f, bI_bo, nI0_bo, nI1_bo, if_true, if_false, ite_true, ite_false, Nat.zero_add, Nat.not_lt_zero, Nat.zero_le, not_true_eq_false, not_false_eq_true, or_false, false_or, true_or, or_true, and_true, true_and, Bool.false_eq_true, Bool.true_eq_false, reduceCtorEq, eq_self]
        · have g1 : ag st n b < n := gon_lt (by omega)
          have hj := MX_join (P := fun s => st (96 + i) = nI s) (by omega) hI g1 ⟨b, hb, e2, rfl⟩ (fun s hs z => by
            rw [e2, zn_eq (by omega) (by omega)] at z
            rw [z]
            exact Nat.le_refl _)
          obtain ⟨b1, t1, t2⟩ := tail _ hj
          refine ⟨b1, t1, ?_⟩
          rw [← t2]
          simp (disch := omega) only [e2, M_ageOf hr W hb, ↓lm1, ↓lm2, i0, i1, i2, i3, i4, i5, i6, i7, i8, i9, i10, i12, i16, i20, i24, i31, i32, i44, i48, i57, i59, i63, i64, i74, i75, i90, i96, i97, i99, i100, i122, i139, i140, i144, i192, i200, i240, i255, i304, i309, i310, i311, i323, i324, i325, i899, i900, i975, i999, i5200, i4875, i65536, i65537, i15, ob_some, nI_add, nI_clamp, zn_zib, zn_eq, zn_lt, zn_le, m2_lt, m2_le, lt_m2, le_m2, eq_m2, m2_eq, m1_lt, m1_le, lt_m1, le_m1, eq_m1, m1_eq, m1_m2, m2_m1, m2_lt_m1, bI_0, bI_1, bI_t, bI_f, bI_bo, nI0_bo, nI1_bo, if_true, if_false, ite_true, ite_false, Nat.zero_add, Nat.not_lt_zero, Nat.zero_le, not_true_eq_false, not_false_eq_true, or_false, false_or, true_or, or_true, and_true, true_and, Bool.false_eq_true, Bool.true_eq_false, reduceCtorEq, eq_self]
          split <;> rfl
    · intro k x hI
      unfold b_X10_usedAge_45
      have q2 : (48 : Int32) ≤ nI 48 := by decide
      rw [if_pos q2]
      congr 1
      refine MX_end (MX_iff hI (fun s hs => ?_))
      unfold iu
      rw [Bool.or_eq_true, hbx_iff, an_iff]
      refine or_congr Iff.rfl ⟨fun ⟨v, hv, h1, h2⟩ => ⟨v, hv, ?_⟩, fun ⟨v, hv, h⟩ => ⟨v, hv, ?_⟩⟩
      · rw [Bool.and_eq_true, Bool.or_eq_true, decide_eq_true_eq, decide_eq_true_eq]
        exact ⟨h1, h2⟩
      · rw [Bool.and_eq_true, Bool.or_eq_true, decide_eq_true_eq, decide_eq_true_eq] at h
        exact h
end
