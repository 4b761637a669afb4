/-! the fits, on the class's side; the calls -/
def gq (op : Int32 → Int32 → Int32) (z : Int32) (g : Nat → Int32) : Nat → Int32
  | 0 => z
  | i + 1 => op (gq op z g i) (g i)
theorem gq_s (op : Int32 → Int32 → Int32) (z : Int32) (g : Nat → Int32) (i : Nat) : gq op z g (i + 1) = op (gq op z g i) (g i) := rfl
theorem ct_at {ft : Nat → Bool} : ∀ {j i : Nat}, i < fb_ct ft j → ∃ s, s < j ∧ ft s = true ∧ fb_ct ft s = i
  | 0, i, h => absurd h (Nat.not_lt_zero i)
  | j + 1, i, h => by
    rw [fb_ct_succ] at h
    by_cases q : i < fb_ct ft j
    · obtain ⟨s, h1, h2, h3⟩ := ct_at q
      exact ⟨s, by omega, h2, h3⟩
    · cases z : ft j
      · rw [z] at h
        have : i < fb_ct ft j := h
        omega
      · rw [z] at h
        have : i < fb_ct ft j + 1 := h
        exact ⟨j, by omega, z, by omega⟩
section
variable {ft : Nat → Bool} {fs : Nat → Int32} {N u : Nat}
theorem gq_so (h : ∀ s, s < N → ft s = true → fs (fb_ct ft s) = nI s) : ∀ j, j ≤ N → gq (· ||| ·) (nI 0) fs (fb_ct ft j) = soF ft j
  | 0, _ => rfl
  | j + 1, hj => by
    rw [fb_ct_succ, soF_s]
    cases z : ft j
    · exact gq_so h j (by omega)
    · show gq (· ||| ·) (nI 0) fs (fb_ct ft j + 1) = soF ft j ||| nI j
      rw [gq_s, gq_so h j (by omega), h j (by omega) z]
theorem gq_al (h : ∀ s, s < N → ft s = true → fs (fb_ct ft s) = nI s) : ∀ j, j ≤ N → gq (· &&& ·) (nI (2 ^ u) - nI 1) fs (fb_ct ft j) = alF ft u j
  | 0, _ => rfl
  | j + 1, hj => by
    rw [fb_ct_succ, alF_s]
    cases z : ft j
    · exact gq_al h j (by omega)
    · show gq (· &&& ·) (nI (2 ^ u) - nI 1) fs (fb_ct ft j + 1) = alF ft u j &&& nI j
      rw [gq_s, gq_al h j (by omega), h j (by omega) z]
theorem gq_of {k : Nat} (h : ∀ s, s < N → ft s = true → fs (fb_ct ft s) = nI s) : ∀ j, j ≤ N → gq (fun x y => x + bI (bt y k)) (nI 0) fs (fb_ct ft j) = nI (oF ft k j)
  | 0, _ => rfl
  | j + 1, hj => by
    have ih := gq_of (k := k) h j (by omega)
    unfold oF at ih ⊢
    rw [fb_ct_succ, fb_ct_succ]
    cases z : ft j
    · rw [Bool.false_and]
      exact ih
    · show gq (fun x y => x + bI (bt y k)) (nI 0) fs (fb_ct ft j + 1) = _
      rw [gq_s, ih, h j (by omega) z, Bool.true_and]
      cases bt (nI j) k
      · exact Int32.add_zero _
      · exact nI_add _ 1
theorem fd_at (h : ∀ s, s < N → ft s = true → fs (fb_ct ft s) = nI s) (hN : N ≤ 16) {a : Nat} (ha : a < 2 ^ 31) : ∀ j, j ≤ N → fdF ft (nI a) j = if a < fb_ct ft j then fs a else m1
  | 0, _ => rfl
  | j + 1, hj => by
    have ih := fd_at h hN ha j (by omega)
    have hle := fb_ct_le ft j
    rw [fdF_s, fb_ct_succ]
    cases z : ft j
    · exact ih
    · show (if nI (fb_ct ft j) = nI a then nI j else fdF ft (nI a) j) = if a < fb_ct ft j + 1 then fs a else m1
      by_cases y : fb_ct ft j = a
      · rw [if_pos (by rw [y]), if_pos (by omega), ← y, h j (by omega) z]
      · rw [if_neg (by rw [zn_eq (by omega) (by omega)]; exact y), ih]
        by_cases w : a < fb_ct ft j
        · rw [if_pos w, if_pos (by omega)]
        · rw [if_neg w, if_neg (by omega)]
end
def lvN (ft : Nat → Bool) (N k : Nat) : Nat := if oF ft k N ≤ fb_ct ft N - oF ft k N then fb_ct ft N - oF ft k N else oF ft k N
def bA (ft : Nat → Bool) (N : Nat) : Nat → Nat
  | 0 => 0
  | j + 1 => if lvN ft N j < lvN ft N (bA ft N j) then j else bA ft N j
theorem bA_s (ft : Nat → Bool) (N j : Nat) : bA ft N (j + 1) = if lvN ft N j < lvN ft N (bA ft N j) then j else bA ft N j := rfl
theorem bA_le (ft : Nat → Bool) (N : Nat) : ∀ j, bA ft N j ≤ j
  | 0 => Nat.le_refl 0
  | j + 1 => by
    have := bA_le ft N j
    rw [bA_s]
    split <;> omega
theorem bA_lt (ft : Nat → Bool) (N : Nat) {j : Nat} (hj : 1 ≤ j) : bA ft N j < j := by
  obtain ⟨i, rfl⟩ : ∃ i, j = i + 1 := ⟨j - 1, by omega⟩
  have := bA_le ft N i
  rw [bA_s]
  split <;> omega
theorem oF_le (ft : Nat → Bool) (k N : Nat) : oF ft k N ≤ fb_ct ft N := fb_ct_sub (fun s _ h => by
  rw [Bool.and_eq_true] at h
  exact h.1)
theorem ones_and {u s : Nat} (hu : u ≤ 4) (hs : s < 2 ^ u) : (nI (2 ^ u) - nI 1) &&& nI s = nI s := by
  have h1 : ∀ a : Fin 5, ∀ b : Fin 16, b.1 < 2 ^ a.1 → (nI (2 ^ a.1) - nI 1) &&& nI b.1 = nI b.1 := by decide +kernel
  have := pw_16 hu
  exact h1 ⟨u, by omega⟩ ⟨s, by omega⟩ hs
def FTS (E : SEv) (ft : Nat → Bool) (u : Nat) : Prop := Ev_unsureCount E = nI u ∧ Ev_fitCount E = nI (fb_ct ft (2 ^ u)) ∧ ∀ s, s < 2 ^ u → ft s = true → Ev_fitSets E (fb_ct ft s) = nI s
section
variable {E : SEv} {S : SMo} {ft : Nat → Bool} {u : Nat} {of tr og on r told : Nat → Int32}
theorem T_fitN (h : FTS E ft u) (hu : u ≤ 4) {i : Nat} (hi : i < fb_ct ft (2 ^ u)) : f_X2_fitNumber E (nI i) = some (Ev_fitSets E i) := by
  have hN := pw_16 hu
  have hct := fb_ct_le ft (2 ^ u)
  have b1 : ¬ fb_ct ft (2 ^ u) ≤ i := by omega
  have b2 : ¬ 16 ≤ i := by omega
  have b3 : ¬ i < 0 := by omega
  unfold f_X2_fitNumber
  simp (disch := omega) only [h.2.1, b1, b2, b3, ↓lm1, ↓lm2, i0, i1, i2, i3, i4, i5, i6, i7, i8, i9, i10, i12, i16, i20, i24, i31, i32, i44, i48, i57, i59, i63, i64, i74, i75, i90, i96, i97, i99, i100, i122, i139, i140, i144, i192, i200, i240, i255, i304, i309, i310, i311, i323, i324, i325, i899, i900, i975, i999, i5200, i4875, i65536, i65537, i15, ob_some, nI_add, nI_clamp, zn_zib, zn_eq, zn_lt, zn_le, m2_lt, m2_le, lt_m2, le_m2, eq_m2, m2_eq, m1_lt, m1_le, lt_m1, le_m1, eq_m1, m1_eq, m1_m2, m2_m1, m2_lt_m1, bI_0, bI_1, bI_t, bI_f, bI_bo, nI0_bo, nI1_bo, if_true, if_false, ite_true, ite_false, Nat.zero_add, Nat.not_lt_zero, Nat.zero_le, not_true_eq_false, not_false_eq_true, or_false, false_or, true_or, or_true, and_true, true_and, Bool.false_eq_true, Bool.true_eq_false, reduceCtorEq, eq_self]
theorem T_fitN_out (h : FTS E ft u) {x : Int32} (hx : x < nI 0 ∨ nI (fb_ct ft (2 ^ u)) ≤ x) : f_X2_fitNumber E x = some m2 := by
  unfold f_X2_fitNumber
  by_cases z : x < nI 0
  · simp (disch := omega) only [z, ↓lm1, ↓lm2, i0, i1, i2, i3, i4, i5, i6, i7, i8, i9, i10, i12, i16, i20, i24, i31, i32, i44, i48, i57, i59, i63, i64, i74, i75, i90, i96, i97, i99, i100, i122, i139, i140, i144, i192, i200, i240, i255, i304, i309, i310, i311, i323, i324, i325, i899, i900, i975, i999, i5200, i4875, i65536, i65537, i15, ob_some, nI_add, nI_clamp, zn_zib, zn_eq, zn_lt, zn_le, m2_lt, m2_le, lt_m2, le_m2, eq_m2, m2_eq, m1_lt, m1_le, lt_m1, le_m1, eq_m1, m1_eq, m1_m2, m2_m1, m2_lt_m1, bI_0, bI_1, bI_t, bI_f, bI_bo, nI0_bo, nI1_bo, if_true, if_false, ite_true, ite_false, Nat.zero_add, Nat.not_lt_zero, Nat.zero_le, not_true_eq_false, not_false_eq_true, or_false, false_or, true_or, or_true, and_true, true_and, Bool.false_eq_true, Bool.true_eq_false, reduceCtorEq, eq_self]
  · simp (disch := omega) only [h.2.1, z, hx.resolve_left z, ↓lm1, ↓lm2, i0, i1, i2, i3, i4, i5, i6, i7, i8, i9, i10, i12, i16, i20, i24, i31, i32, i44, i48, i57, i59, i63, i64, i74, i75, i90, i96, i97, i99, i100, i122, i139, i140, i144, i192, i200, i240, i255, i304, i309, i310, i311, i323, i324, i325, i899, i900, i975, i999, i5200, i4875, i65536, i65537, i15, ob_some, nI_add, nI_clamp, zn_zib, zn_eq, zn_lt, zn_le, m2_lt, m2_le, lt_m2, le_m2, eq_m2, m2_eq, m1_lt, m1_le, lt_m1, le_m1, eq_m1, m1_eq, m1_m2, m2_m1, m2_lt_m1, bI_0, bI_1, bI_t, bI_f, bI_bo, nI0_bo, nI1_bo, if_true, if_false, ite_true, ite_false, Nat.zero_add, Nat.not_lt_zero, Nat.zero_le, not_true_eq_false, not_false_eq_true, or_false, false_or, true_or, or_true, and_true, true_and, Bool.false_eq_true, Bool.true_eq_false, reduceCtorEq, eq_self]
theorem T_some (h : FTS E ft u) (hu : u ≤ 4) : f_X2_inSomeFit E = some (soF ft (2 ^ u)) := by
  have hN := pw_16 hu
  have hct := fb_ct_le ft (2 ^ u)
  unfold f_X2_inSomeFit
  rw [← gq_so h.2.2 (2 ^ u) (Nat.le_refl _)]
  refine Eq.trans ?_ (zl2_fold (f := b_X2_inSomeFit_4 E) (fb_ct ft (2 ^ u)) (gq (· ||| ·) (nI 0) (Ev_fitSets E)) _ (by omega) (fun k i hi => ?_) (fun k => ?_))
  · rfl
  · have b1 : ¬ fb_ct ft (2 ^ u) ≤ i := by omega
    unfold b_X2_inSomeFit_4
    simp (disch := omega) only [h.2.1, b1, T_fitN h hu hi, gq_s, ↓lm1, ↓lm2, i0, i1, i2, i3, i4, i5, i6, i7, i8, i9, i10, i12, i16, i20, i24, i31, i32, i44, i48, i57, i59, i63, i64, i74, i75, i90, i96, i97, i99, i100, i122, i139, i140, i144, i192, i200, i240, i255, i304, i309, i310, i311, i323, i324, i325, i899, i900, i975, i999, i5200, i4875, i65536, i65537, i15, ob_some, nI_add, nI_clamp, zn_zib, zn_eq, zn_lt, zn_le, m2_lt, m2_le, lt_m2, le_m2, eq_m2, m2_eq, m1_lt, m1_le, lt_m1, le_m1, eq_m1, m1_eq, m1_m2, m2_m1, m2_lt_m1, bI_0, bI_1, bI_t, bI_f, bI_bo, nI0_bo, nI1_bo, if_true, if_false, ite_true, ite_false, Nat.zero_add, Nat.not_lt_zero, Nat.zero_le, not_true_eq_false, not_false_eq_true, or_false, false_or, true_or, or_true, and_true, true_and, Bool.false_eq_true, Bool.true_eq_false, reduceCtorEq, eq_self]
  · have b1 : fb_ct ft (2 ^ u) ≤ fb_ct ft (2 ^ u) := Nat.le_refl _
    unfold b_X2_inSomeFit_4
    simp (disch := omega) only [h.2.1, b1, ↓lm1, ↓lm2, i0, i1, i2, i3, i4, i5, i6, i7, i8, i9, i10, i12, i16, i20, i24, i31, i32, i44, i48, i57, i59, i63, i64, i74, i75, i90, i96, i97, i99, i100, i122, i139, i140, i144, i192, i200, i240, i255, i304, i309, i310, i311, i323, i324, i325, i899, i900, i975, i999, i5200, i4875, i65536, i65537, i15, ob_some, nI_add, nI_clamp, zn_zib, zn_eq, zn_lt, zn_le, m2_lt, m2_le, lt_m2, le_m2, eq_m2, m2_eq, m1_lt, m1_le, lt_m1, le_m1, eq_m1, m1_eq, m1_m2, m2_m1, m2_lt_m1, bI_0, bI_1, bI_t, bI_f, bI_bo, nI0_bo, nI1_bo, if_true, if_false, ite_true, ite_false, Nat.zero_add, Nat.not_lt_zero, Nat.zero_le, not_true_eq_false, not_false_eq_true, or_false, false_or, true_or, or_true, and_true, true_and, Bool.false_eq_true, Bool.true_eq_false, reduceCtorEq, eq_self]
theorem T_every (h : FTS E ft u) (hu : u ≤ 4) : f_X2_inEveryFit E = some (if fb_ct ft (2 ^ u) = 0 then nI 0 else alF ft u (2 ^ u)) := by
  have hN := pw_16 hu
  have hct := fb_ct_le ft (2 ^ u)
  unfold f_X2_inEveryFit
  by_cases q : fb_ct ft (2 ^ u) = 0
  · rw [if_pos q]
    have eF : FU = 5999 + 1 := rfl
    have b1 : 0 ≤ 1 := by omega
    have hl : zl2 (b_X2_inEveryFit_19 E) FU (nI 0) (nI 1) = some (nI 0) := by
      rw [eF, zl2_s]
      unfold b_X2_inEveryFit_19
      simp (disch := omega) only [h.2.1, q, b1, ↓lm1, ↓lm2, i0, i1, i2, i3, i4, i5, i6, i7, i8, i9, i10, i12, i16, i20, i24, i31, i32, i44, i48, i57, i59, i63, i64, i74, i75, i90, i96, i97, i99, i100, i122, i139, i140, i144, i192, i200, i240, i255, i304, i309, i310, i311, i323, i324, i325, i899, i900, i975, i999, i5200, i4875, i65536, i65537, i15, ob_some, nI_add, nI_clamp, zn_zib, zn_eq, zn_lt, zn_le, m2_lt, m2_le, lt_m2, le_m2, eq_m2, m2_eq, m1_lt, m1_le, lt_m1, le_m1, eq_m1, m1_eq, m1_m2, m2_m1, m2_lt_m1, bI_0, bI_1, bI_t, bI_f, bI_bo, nI0_bo, nI1_bo, if_true, if_false, ite_true, ite_false, Nat.zero_add, Nat.not_lt_zero, Nat.zero_le, not_true_eq_false, not_false_eq_true, or_false, false_or, true_or, or_true, and_true, true_and, Bool.false_eq_true, Bool.true_eq_false, reduceCtorEq, eq_self]
    simp (disch := omega) only [h.2.1, q, hl, ↓lm1, ↓lm2, i0, i1, i2, i3, i4, i5, i6, i7, i8, i9, i10, i12, i16, i20, i24, i31, i32, i44, i48, i57, i59, i63, i64, i74, i75, i90, i96, i97, i99, i100, i122, i139, i140, i144, i192, i200, i240, i255, i304, i309, i310, i311, i323, i324, i325, i899, i900, i975, i999, i5200, i4875, i65536, i65537, i15, ob_some, nI_add, nI_clamp, zn_zib, zn_eq, zn_lt, zn_le, m2_lt, m2_le, lt_m2, le_m2, eq_m2, m2_eq, m1_lt, m1_le, lt_m1, le_m1, eq_m1, m1_eq, m1_m2, m2_m1, m2_lt_m1, bI_0, bI_1, bI_t, bI_f, bI_bo, nI0_bo, nI1_bo, if_true, if_false, ite_true, ite_false, Nat.zero_add, Nat.not_lt_zero, Nat.zero_le, not_true_eq_false, not_false_eq_true, or_false, false_or, true_or, or_true, and_true, true_and, Bool.false_eq_true, Bool.true_eq_false, reduceCtorEq, eq_self]
  · rw [if_neg q, ← gq_al (u := u) h.2.2 (2 ^ u) (Nat.le_refl _)]
    obtain ⟨s, s1, s2, s3⟩ := ct_at (show 0 < fb_ct ft (2 ^ u) by omega)
    have h0 : Ev_fitSets E 0 = nI s := by
      have := h.2.2 s s1 s2
      rw [s3] at this
      exact this
    have hl : zl2 (b_X2_inEveryFit_19 E) FU (Ev_fitSets E 0) (nI 1) = some (gq (· &&& ·) (nI (2 ^ u) - nI 1) (Ev_fitSets E) (fb_ct ft (2 ^ u))) := by
      refine zl2_up (fb_ct ft (2 ^ u)) 1 (fun i a => a = gq (· &&& ·) (nI (2 ^ u) - nI 1) (Ev_fitSets E) i) _ (by omega) (by omega) ?_ (fun k i a hi hI => ?_) (fun k a hI => ?_)
      · show Ev_fitSets E 0 = (nI (2 ^ u) - nI 1) &&& Ev_fitSets E 0
        rw [h0, ones_and hu s1]
      · subst hI
        have b1 : ¬ fb_ct ft (2 ^ u) ≤ i := by omega
        refine .inr ⟨_, rfl, ?_⟩
        unfold b_X2_inEveryFit_19
        simp (disch := omega) only [h.2.1, b1, T_fitN h hu hi, gq_s, ↓lm1, ↓lm2, i0, i1, i2, i3, i4, i5, i6, i7, i8, i9, i10, i12, i16, i20, i24, i31, i32, i44, i48, i57, i59, i63, i64, i74, i75, i90, i96, i97, i99, i100, i122, i139, i140, i144, i192, i200, i240, i255, i304, i309, i310, i311, i323, i324, i325, i899, i900, i975, i999, i5200, i4875, i65536, i65537, i15, ob_some, nI_add, nI_clamp, zn_zib, zn_eq, zn_lt, zn_le, m2_lt, m2_le, lt_m2, le_m2, eq_m2, m2_eq, m1_lt, m1_le, lt_m1, le_m1, eq_m1, m1_eq, m1_m2, m2_m1, m2_lt_m1, bI_0, bI_1, bI_t, bI_f, bI_bo, nI0_bo, nI1_bo, if_true, if_false, ite_true, ite_false, Nat.zero_add, Nat.not_lt_zero, Nat.zero_le, not_true_eq_false, not_false_eq_true, or_false, false_or, true_or, or_true, and_true, true_and, Bool.false_eq_true, Bool.true_eq_false, reduceCtorEq, eq_self]
      · subst hI
        have b1 : fb_ct ft (2 ^ u) ≤ fb_ct ft (2 ^ u) := Nat.le_refl _
        unfold b_X2_inEveryFit_19
        simp (disch := omega) only [h.2.1, b1, ↓lm1, ↓lm2, i0, i1, i2, i3, i4, i5, i6, i7, i8, i9, i10, i12, i16, i20, i24, i31, i32, i44, i48, i57, i59, i63, i64, i74, i75, i90, i96, i97, i99, i100, i122, i139, i140, i144, i192, i200, i240, i255, i304, i309, i310, i311, i323, i324, i325, i899, i900, i975, i999, i5200, i4875, i65536, i65537, i15, ob_some, nI_add, nI_clamp, zn_zib, zn_eq, zn_lt, zn_le, m2_lt, m2_le, lt_m2, le_m2, eq_m2, m2_eq, m1_lt, m1_le, lt_m1, le_m1, eq_m1, m1_eq, m1_m2, m2_m1, m2_lt_m1, bI_0, bI_1, bI_t, bI_f, bI_bo, nI0_bo, nI1_bo, if_true, if_false, ite_true, ite_false, Nat.zero_add, Nat.not_lt_zero, Nat.zero_le, not_true_eq_false, not_false_eq_true, or_false, false_or, true_or, or_true, and_true, true_and, Bool.false_eq_true, Bool.true_eq_false, reduceCtorEq, eq_self]
    simp (disch := omega) only [h.2.1, q, T_fitN h hu (show 0 < fb_ct ft (2 ^ u) by omega), hl, ↓lm1, ↓lm2, i0, i1, i2, i3, i4, i5, i6, i7, i8, i9, i10, i12, i16, i20, i24, i31, i32, i44, i48, i57, i59, i63, i64, i74, i75, i90, i96, i97, i99, i100, i122, i139, i140, i144, i192, i200, i240, i255, i304, i309, i310, i311, i323, i324, i325, i899, i900, i975, i999, i5200, i4875, i65536, i65537, i15, ob_some, nI_add, nI_clamp, zn_zib, zn_eq, zn_lt, zn_le, m2_lt, m2_le, lt_m2, le_m2, eq_m2, m2_eq, m1_lt, m1_le, lt_m1, le_m1, eq_m1, m1_eq, m1_m2, m2_m1, m2_lt_m1, bI_0, bI_1, bI_t, bI_f, bI_bo, nI0_bo, nI1_bo, if_true, if_false, ite_true, ite_false, Nat.zero_add, Nat.not_lt_zero, Nat.zero_le, not_true_eq_false, not_false_eq_true, or_false, false_or, true_or, or_true, and_true, true_and, Bool.false_eq_true, Bool.true_eq_false, reduceCtorEq, eq_self]
theorem T_left (h : FTS E ft u) (hu : u ≤ 4) {k : Nat} (hk : k < 4) : f_X2_leftAtMost E (nI k) = some (nI (lvN ft (2 ^ u) k)) := by
  have hN := pw_16 hu
  have hct := fb_ct_le ft (2 ^ u)
  have hol := oF_le ft k (2 ^ u)
  unfold f_X2_leftAtMost
  refine Eq.trans ?_ (zl2_fold (f := b_X2_leftAtMost_4 E (nI k)) (fb_ct ft (2 ^ u)) (gq (fun x y => x + bI (bt y k)) (nI 0) (Ev_fitSets E)) _ (by omega) (fun kk i hi => ?_) (fun kk => ?_))
  · rfl
  · have b1 : ¬ fb_ct ft (2 ^ u) ≤ i := by omega
    unfold b_X2_leftAtMost_4
    simp (disch := omega) only [h.2.1, b1, T_fitN h hu hi, gq_s, bit_and1 (Ev_fitSets E i) (by omega : k < 32), ↓lm1, ↓lm2, i0, i1, i2, i3, i4, i5, i6, i7, i8, i9, i10, i12, i16, i20, i24, i31, i32, i44, i48, i57, i59, i63, i64, i74, i75, i90, i96, i97, i99, i100, i122, i139, i140, i144, i192, i200, i240, i255, i304, i309, i310, i311, i323, i324, i325, i899, i900, i975, i999, i5200, i4875, i65536, i65537, i15, ob_some, nI_add, nI_clamp, zn_zib, zn_eq, zn_lt, zn_le, m2_lt, m2_le, lt_m2, le_m2, eq_m2, m2_eq, m1_lt, m1_le, lt_m1, le_m1, eq_m1, m1_eq, m1_m2, m2_m1, m2_lt_m1, bI_0, bI_1, bI_t, bI_f, bI_bo, nI0_bo, nI1_bo, if_true, if_false, ite_true, ite_false, Nat.zero_add, Nat.not_lt_zero, Nat.zero_le, not_true_eq_false, not_false_eq_true, or_false, false_or, true_or, or_true, and_true, true_and, Bool.false_eq_true, Bool.true_eq_false, reduceCtorEq, eq_self]
  · have b1 : fb_ct ft (2 ^ u) ≤ fb_ct ft (2 ^ u) := Nat.le_refl _
    have e : gq (fun x y => x + bI (bt y k)) (nI 0) (Ev_fitSets E) (fb_ct ft (2 ^ u)) = nI (oF ft k (2 ^ u)) := gq_of h.2.2 (2 ^ u) (Nat.le_refl _)
    unfold b_X2_leftAtMost_4
    rw [e]
    unfold lvN
    by_cases y : oF ft k (2 ^ u) < fb_ct ft (2 ^ u) - oF ft k (2 ^ u)
    · have y4 : oF ft k (2 ^ u) ≤ fb_ct ft (2 ^ u) - oF ft k (2 ^ u) := by omega
      rw [if_pos y4]
      simp (disch := omega) only [h.2.1, b1, pk_sub hol, y, ↓lm1, ↓lm2, i0, i1, i2, i3, i4, i5, i6, i7, i8, i9, i10, i12, i16, i20, i24, i31, i32, i44, i48, i57, i59, i63, i64, i74, i75, i90, i96, i97, i99, i100, i122, i139, i140, i144, i192, i200, i240, i255, i304, i309, i310, i311, i323, i324, i325, i899, i900, i975, i999, i5200, i4875, i65536, i65537, i15, ob_some, nI_add, nI_clamp, zn_zib, zn_eq, zn_lt, zn_le, m2_lt, m2_le, lt_m2, le_m2, eq_m2, m2_eq, m1_lt, m1_le, lt_m1, le_m1, eq_m1, m1_eq, m1_m2, m2_m1, m2_lt_m1, bI_0, bI_1, bI_t, bI_f, bI_bo, nI0_bo, nI1_bo, if_true, if_false, ite_true, ite_false, Nat.zero_add, Nat.not_lt_zero, Nat.zero_le, not_true_eq_false, not_false_eq_true, or_false, false_or, true_or, or_true, and_true, true_and, Bool.false_eq_true, Bool.true_eq_false, reduceCtorEq, eq_self]
    · have y3 : (if oF ft k (2 ^ u) ≤ fb_ct ft (2 ^ u) - oF ft k (2 ^ u) then fb_ct ft (2 ^ u) - oF ft k (2 ^ u) else oF ft k (2 ^ u)) = oF ft k (2 ^ u) := by
        split <;> omega
      rw [y3]
      simp (disch := omega) only [h.2.1, b1, pk_sub hol, y, ↓lm1, ↓lm2, i0, i1, i2, i3, i4, i5, i6, i7, i8, i9, i10, i12, i16, i20, i24, i31, i32, i44, i48, i57, i59, i63, i64, i74, i75, i90, i96, i97, i99, i100, i122, i139, i140, i144, i192, i200, i240, i255, i304, i309, i310, i311, i323, i324, i325, i899, i900, i975, i999, i5200, i4875, i65536, i65537, i15, ob_some, nI_add, nI_clamp, zn_zib, zn_eq, zn_lt, zn_le, m2_lt, m2_le, lt_m2, le_m2, eq_m2, m2_eq, m1_lt, m1_le, lt_m1, le_m1, eq_m1, m1_eq, m1_m2, m2_m1, m2_lt_m1, bI_0, bI_1, bI_t, bI_f, bI_bo, nI0_bo, nI1_bo, if_true, if_false, ite_true, ite_false, Nat.zero_add, Nat.not_lt_zero, Nat.zero_le, not_true_eq_false, not_false_eq_true, or_false, false_or, true_or, or_true, and_true, true_and, Bool.false_eq_true, Bool.true_eq_false, reduceCtorEq, eq_self]
theorem lvN_le (ft : Nat → Bool) (N k : Nat) : lvN ft N k ≤ fb_ct ft N := by
  have := oF_le ft k N
  unfold lvN
  split <;> omega
theorem T_best (h : FTS E ft u) (hu : u ≤ 4) : f_X2_bestToAsk E = some (if fb_ct ft (2 ^ u) = 0 ∨ u = 0 then m2 else nI (bA ft (2 ^ u) u)) := by
  have hN := pw_16 hu
  have hct := fb_ct_le ft (2 ^ u)
  unfold f_X2_bestToAsk
  by_cases q : fb_ct ft (2 ^ u) = 0
  · have hq : fb_ct ft (2 ^ u) = 0 ∨ u = 0 := .inl q
    rw [if_pos hq]
    simp (disch := omega) only [h.2.1, q, ↓lm1, ↓lm2, i0, i1, i2, i3, i4, i5, i6, i7, i8, i9, i10, i12, i16, i20, i24, i31, i32, i44, i48, i57, i59, i63, i64, i74, i75, i90, i96, i97, i99, i100, i122, i139, i140, i144, i192, i200, i240, i255, i304, i309, i310, i311, i323, i324, i325, i899, i900, i975, i999, i5200, i4875, i65536, i65537, i15, ob_some, nI_add, nI_clamp, zn_zib, zn_eq, zn_lt, zn_le, m2_lt, m2_le, lt_m2, le_m2, eq_m2, m2_eq, m1_lt, m1_le, lt_m1, le_m1, eq_m1, m1_eq, m1_m2, m2_m1, m2_lt_m1, bI_0, bI_1, bI_t, bI_f, bI_bo, nI0_bo, nI1_bo, if_true, if_false, ite_true, ite_false, Nat.zero_add, Nat.not_lt_zero, Nat.zero_le, not_true_eq_false, not_false_eq_true, or_false, false_or, true_or, or_true, and_true, true_and, Bool.false_eq_true, Bool.true_eq_false, reduceCtorEq, eq_self]
  · by_cases q2 : u = 0
    · have hq : fb_ct ft (2 ^ u) = 0 ∨ u = 0 := .inr q2
      rw [if_pos hq]
      have b3 : ¬ fb_ct ft (2 ^ u) = 0 := q
      have h1 : Ev_unsureCount E = nI 0 := by rw [h.1, q2]
      simp (disch := omega) only [h.2.1, h1, b3, ↓lm1, ↓lm2, i0, i1, i2, i3, i4, i5, i6, i7, i8, i9, i10, i12, i16, i20, i24, i31, i32, i44, i48, i57, i59, i63, i64, i74, i75, i90, i96, i97, i99, i100, i122, i139, i140, i144, i192, i200, i240, i255, i304, i309, i310, i311, i323, i324, i325, i899, i900, i975, i999, i5200, i4875, i65536, i65537, i15, ob_some, nI_add, nI_clamp, zn_zib, zn_eq, zn_lt, zn_le, m2_lt, m2_le, lt_m2, le_m2, eq_m2, m2_eq, m1_lt, m1_le, lt_m1, le_m1, eq_m1, m1_eq, m1_m2, m2_m1, m2_lt_m1, bI_0, bI_1, bI_t, bI_f, bI_bo, nI0_bo, nI1_bo, if_true, if_false, ite_true, ite_false, Nat.zero_add, Nat.not_lt_zero, Nat.zero_le, not_true_eq_false, not_false_eq_true, or_false, false_or, true_or, or_true, and_true, true_and, Bool.false_eq_true, Bool.true_eq_false, reduceCtorEq, eq_self]
    · have hq : ¬ (fb_ct ft (2 ^ u) = 0 ∨ u = 0) := by omega
      rw [if_neg hq]
      have hl : zl2 (b_X2_bestToAsk_21 E) FU (nI 0) (nI 1) = some (nI (bA ft (2 ^ u) u)) := by
        refine zl2_up u 1 (fun j a => a = nI (bA ft (2 ^ u) j)) _ (by omega) (by omega) ?_ (fun k j a hj hI => ?_) (fun k a hI => ?_)
        · rw [bA_s]
          show nI 0 = nI (if lvN ft (2 ^ u) 0 < lvN ft (2 ^ u) 0 then 0 else 0)
          rw [if_neg (Nat.lt_irrefl _)]
        · subst hI
          have b1 : ¬ u ≤ j := by omega
          have hb := bA_le ft (2 ^ u) j
          have l1 := lvN_le ft (2 ^ u) j
          have l2 := lvN_le ft (2 ^ u) (bA ft (2 ^ u) j)
          by_cases hb4 : bA ft (2 ^ u) j < 4
          · refine .inr ⟨nI (bA ft (2 ^ u) (j + 1)), rfl, ?_⟩
            unfold b_X2_bestToAsk_21
            rw [bA_s]
            by_cases y : lvN ft (2 ^ u) j < lvN ft (2 ^ u) (bA ft (2 ^ u) j)
            · have y2 : ¬ lvN ft (2 ^ u) (bA ft (2 ^ u) j) ≤ lvN ft (2 ^ u) j := by omega
              rw [if_pos y]
              simp (disch := omega) only [h.1, b1, T_left h hu (by omega : j < 4), T_left h hu hb4, y2, ↓lm1, ↓lm2, i0, i1, i2, i3, i4, i5, i6, i7, i8, i9, i10, i12, i16, i20, i24, i31, i32, i44, i48, i57, i59, i63, i64, i74, i75, i90, i96, i97, i99, i100, i122, i139, i140, i144, i192, i200, i240, i255, i304, i309, i310, i311, i323, i324, i325, i899, i900, i975, i999, i5200, i4875, i65536, i65537, i15, ob_some, nI_add, nI_clamp, zn_zib, zn_eq, zn_lt, zn_le, m2_lt, m2_le, lt_m2, le_m2, eq_m2, m2_eq, m1_lt, m1_le, lt_m1, le_m1, eq_m1, m1_eq, m1_m2, m2_m1, m2_lt_m1, bI_0, bI_1, bI_t, bI_f, bI_bo, nI0_bo, nI1_bo, if_true, if_false, ite_true, ite_false, Nat.zero_add, Nat.not_lt_zero, Nat.zero_le, not_true_eq_false, not_false_eq_true, or_false, false_or, true_or, or_true, and_true, true_and, Bool.false_eq_true, Bool.true_eq_false, reduceCtorEq, eq_self]
            · have y2 : lvN ft (2 ^ u) (bA ft (2 ^ u) j) ≤ lvN ft (2 ^ u) j := by omega
              rw [if_neg y]
              simp (disch := omega) only [h.1, b1, T_left h hu (by omega : j < 4), T_left h hu hb4, y2, ↓lm1, ↓lm2, i0, i1, i2, i3, i4, i5, i6, i7, i8, i9, i10, i12, i16, i20, i24, i31, i32, i44, i48, i57, i59, i63, i64, i74, i75, i90, i96, i97, i99, i100, i122, i139, i140, i144, i192, i200, i240, i255, i304, i309, i310, i311, i323, i324, i325, i899, i900, i975, i999, i5200, i4875, i65536, i65537, i15, ob_some, nI_add, nI_clamp, zn_zib, zn_eq, zn_lt, zn_le, m2_lt, m2_le, lt_m2, le_m2, eq_m2, m2_eq, m1_lt, m1_le, lt_m1, le_m1, eq_m1, m1_eq, m1_m2, m2_m1, m2_lt_m1, bI_0, bI_1, bI_t, bI_f, bI_bo, nI0_bo, nI1_bo, if_true, if_false, ite_true, ite_false, Nat.zero_add, Nat.not_lt_zero, Nat.zero_le, not_true_eq_false, not_false_eq_true, or_false, false_or, true_or, or_true, and_true, true_and, Bool.false_eq_true, Bool.true_eq_false, reduceCtorEq, eq_self]
          · omega
        · subst hI
          have b1 : u ≤ u := Nat.le_refl _
          unfold b_X2_bestToAsk_21
          simp (disch := omega) only [h.1, b1, ↓lm1, ↓lm2, i0, i1, i2, i3, i4, i5, i6, i7, i8, i9, i10, i12, i16, i20, i24, i31, i32, i44, i48, i57, i59, i63, i64, i74, i75, i90, i96, i97, i99, i100, i122, i139, i140, i144, i192, i200, i240, i255, i304, i309, i310, i311, i323, i324, i325, i899, i900, i975, i999, i5200, i4875, i65536, i65537, i15, ob_some, nI_add, nI_clamp, zn_zib, zn_eq, zn_lt, zn_le, m2_lt, m2_le, lt_m2, le_m2, eq_m2, m2_eq, m1_lt, m1_le, lt_m1, le_m1, eq_m1, m1_eq, m1_m2, m2_m1, m2_lt_m1, bI_0, bI_1, bI_t, bI_f, bI_bo, nI0_bo, nI1_bo, if_true, if_false, ite_true, ite_false, Nat.zero_add, Nat.not_lt_zero, Nat.zero_le, not_true_eq_false, not_false_eq_true, or_false, false_or, true_or, or_true, and_true, true_and, Bool.false_eq_true, Bool.true_eq_false, reduceCtorEq, eq_self]
      simp (disch := omega) only [h.2.1, h.1, q, q2, hl, ↓lm1, ↓lm2, i0, i1, i2, i3, i4, i5, i6, i7, i8, i9, i10, i12, i16, i20, i24, i31, i32, i44, i48, i57, i59, i63, i64, i74, i75, i90, i96, i97, i99, i100, i122, i139, i140, i144, i192, i200, i240, i255, i304, i309, i310, i311, i323, i324, i325, i899, i900, i975, i999, i5200, i4875, i65536, i65537, i15, ob_some, nI_add, nI_clamp, zn_zib, zn_eq, zn_lt, zn_le, m2_lt, m2_le, lt_m2, le_m2, eq_m2, m2_eq, m1_lt, m1_le, lt_m1, le_m1, eq_m1, m1_eq, m1_m2, m2_m1, m2_lt_m1, bI_0, bI_1, bI_t, bI_f, bI_bo, nI0_bo, nI1_bo, if_true, if_false, ite_true, ite_false, Nat.zero_add, Nat.not_lt_zero, Nat.zero_le, not_true_eq_false, not_false_eq_true, or_false, false_or, true_or, or_true, and_true, true_and, Bool.false_eq_true, Bool.true_eq_false, reduceCtorEq, eq_self]
theorem M_leaves (hs : Mo_setMany S = nI (fb_ct ft (2 ^ u))) (hu : u ≤ 4) (ho : ∀ k, k < u → of k = nI (oF ft k (2 ^ u))) {k : Nat} (hk : k < u) : f_X10_leavesOf S of (nI k) = some (nI (lvN ft (2 ^ u) k)) := by
  have hN := pw_16 hu
  have hct := fb_ct_le ft (2 ^ u)
  have hol := oF_le ft k (2 ^ u)
  unfold f_X10_leavesOf lvN
  by_cases y : oF ft k (2 ^ u) ≤ fb_ct ft (2 ^ u) - oF ft k (2 ^ u)
  · rw [if_pos y]
    simp (disch := omega) only [hs, ho k hk, pk_sub hol, y, ↓lm1, ↓lm2, i0, i1, i2, i3, i4, i5, i6, i7, i8, i9, i10, i12, i16, i20, i24, i31, i32, i44, i48, i57, i59, i63, i64, i74, i75, i90, i96, i97, i99, i100, i122, i139, i140, i144, i192, i200, i240, i255, i304, i309, i310, i311, i323, i324, i325, i899, i900, i975, i999, i5200, i4875, i65536, i65537, i15, ob_some, nI_add, nI_clamp, zn_zib, zn_eq, zn_lt, zn_le, m2_lt, m2_le, lt_m2, le_m2, eq_m2, m2_eq, m1_lt, m1_le, lt_m1, le_m1, eq_m1, m1_eq, m1_m2, m2_m1, m2_lt_m1, bI_0, bI_1, bI_t, bI_f, bI_bo, nI0_bo, nI1_bo, if_true, if_false, ite_true, ite_false, Nat.zero_add, Nat.not_lt_zero, Nat.zero_le, not_true_eq_false, not_false_eq_true, or_false, false_or, true_or, or_true, and_true, true_and, Bool.false_eq_true, Bool.true_eq_false, reduceCtorEq, eq_self]
  · rw [if_neg y]
    simp (disch := omega) only [hs, ho k hk, pk_sub hol, y, ↓lm1, ↓lm2, i0, i1, i2, i3, i4, i5, i6, i7, i8, i9, i10, i12, i16, i20, i24, i31, i32, i44, i48, i57, i59, i63, i64, i74, i75, i90, i96, i97, i99, i100, i122, i139, i140, i144, i192, i200, i240, i255, i304, i309, i310, i311, i323, i324, i325, i899, i900, i975, i999, i5200, i4875, i65536, i65537, i15, ob_some, nI_add, nI_clamp, zn_zib, zn_eq, zn_lt, zn_le, m2_lt, m2_le, lt_m2, le_m2, eq_m2, m2_eq, m1_lt, m1_le, lt_m1, le_m1, eq_m1, m1_eq, m1_m2, m2_m1, m2_lt_m1, bI_0, bI_1, bI_t, bI_f, bI_bo, nI0_bo, nI1_bo, if_true, if_false, ite_true, ite_false, Nat.zero_add, Nat.not_lt_zero, Nat.zero_le, not_true_eq_false, not_false_eq_true, or_false, false_or, true_or, or_true, and_true, true_and, Bool.false_eq_true, Bool.true_eq_false, reduceCtorEq, eq_self]
theorem M_askL (h4 : r 4 = nI u) (hs : Mo_setMany S = nI (fb_ct ft (2 ^ u))) (hu : u ≤ 4) (ho : ∀ k, k < u → of k = nI (oF ft k (2 ^ u))) : zl5 (b_X10_askOf_11 og on r told) FU S of tr m2 (nI 0) = some (if fb_ct ft (2 ^ u) = 0 ∨ u = 0 then m2 else nI (bA ft (2 ^ u) u), S, of, tr) := by
  have hN := pw_16 hu
  have hct := fb_ct_le ft (2 ^ u)
  refine zl5_up u 0 (fun j a1 a2 a3 a4 => a1 = S ∧ a2 = of ∧ a3 = tr ∧ (fb_ct ft (2 ^ u) = 0 → j = 0) ∧ a4 = if j = 0 then m2 else nI (bA ft (2 ^ u) j)) _ (by omega) (Nat.zero_le _) ⟨rfl, rfl, rfl, fun _ => rfl, rfl⟩ (fun k j a1 a2 a3 a4 hj hI => ?_) (fun k a1 a2 a3 a4 hI => ?_)
  · obtain ⟨rfl, rfl, rfl, hz0, rfl⟩ := hI
    have b1 : ¬ u ≤ j := by omega
    unfold b_X10_askOf_11
    by_cases q : fb_ct ft (2 ^ u) = 0
    · refine .inl ?_
      have q2 : fb_ct ft (2 ^ u) ≤ 0 := by omega
      have hq : fb_ct ft (2 ^ u) = 0 ∨ u = 0 := .inl q
      rw [if_pos hq]
      have z : j = 0 := hz0 q
      rw [if_pos z]
      simp (disch := omega) only [h4, b1, hs, q2, ↓lm1, ↓lm2, i0, i1, i2, i3, i4, i5, i6, i7, i8, i9, i10, i12, i16, i20, i24, i31, i32, i44, i48, i57, i59, i63, i64, i74, i75, i90, i96, i97, i99, i100, i122, i139, i140, i144, i192, i200, i240, i255, i304, i309, i310, i311, i323, i324, i325, i899, i900, i975, i999, i5200, i4875, i65536, i65537, i15, ob_some, nI_add, nI_clamp, zn_zib, zn_eq, zn_lt, zn_le, m2_lt, m2_le, lt_m2, le_m2, eq_m2, m2_eq, m1_lt, m1_le, lt_m1, le_m1, eq_m1, m1_eq, m1_m2, m2_m1, m2_lt_m1, bI_0, bI_1, bI_t, bI_f, bI_bo, nI0_bo, nI1_bo, if_true, if_false, ite_true, ite_false, Nat.zero_add, Nat.not_lt_zero, Nat.zero_le, not_true_eq_false, not_false_eq_true, or_false, false_or, true_or, or_true, and_true, true_and, Bool.false_eq_true, Bool.true_eq_false, reduceCtorEq, eq_self]
    · refine .inr ⟨a1, a2, a3, nI (bA ft (2 ^ u) (j + 1)), ⟨rfl, rfl, rfl, fun x => absurd x q, (if_neg (by omega)).symm⟩, ?_⟩
      have q2 : ¬ fb_ct ft (2 ^ u) ≤ 0 := by omega
      by_cases z : j = 0
      · subst z
        have : bA ft (2 ^ u) (0 + 1) = 0 := by
          rw [bA_s]
          split <;> rfl
        rw [this]
        simp (disch := omega) only [h4, b1, hs, q2, ↓lm1, ↓lm2, i0, i1, i2, i3, i4, i5, i6, i7, i8, i9, i10, i12, i16, i20, i24, i31, i32, i44, i48, i57, i59, i63, i64, i74, i75, i90, i96, i97, i99, i100, i122, i139, i140, i144, i192, i200, i240, i255, i304, i309, i310, i311, i323, i324, i325, i899, i900, i975, i999, i5200, i4875, i65536, i65537, i15, ob_some, nI_add, nI_clamp, zn_zib, zn_eq, zn_lt, zn_le, m2_lt, m2_le, lt_m2, le_m2, eq_m2, m2_eq, m1_lt, m1_le, lt_m1, le_m1, eq_m1, m1_eq, m1_m2, m2_m1, m2_lt_m1, bI_0, bI_1, bI_t, bI_f, bI_bo, nI0_bo, nI1_bo, if_true, if_false, ite_true, ite_false, Nat.zero_add, Nat.not_lt_zero, Nat.zero_le, not_true_eq_false, not_false_eq_true, or_false, false_or, true_or, or_true, and_true, true_and, Bool.false_eq_true, Bool.true_eq_false, reduceCtorEq, eq_self]
      · have hb := bA_lt ft (2 ^ u) (j := j) (by omega)
        have l1 := lvN_le ft (2 ^ u) j
        have l2 := lvN_le ft (2 ^ u) (bA ft (2 ^ u) j)
        have b3 : ¬ bA ft (2 ^ u) j < 0 := by omega
        have m1' := M_leaves hs hu ho (by omega : j < u)
        have m2' := M_leaves hs hu ho (by omega : bA ft (2 ^ u) j < u)
        rw [bA_s]
        by_cases y : lvN ft (2 ^ u) j < lvN ft (2 ^ u) (bA ft (2 ^ u) j)
        · have y2 : ¬ lvN ft (2 ^ u) (bA ft (2 ^ u) j) ≤ lvN ft (2 ^ u) j := by omega
          rw [if_pos y]
          simp (disch := omega) only [h4, b1, hs, q2, z, b3, m1', m2', y2, ↓lm1, ↓lm2, i0, i1, i2, i3, i4, i5, i6, i7, i8, i9, i10, i12, i16, i20, i24, i31, i32, i44, i48, i57, i59, i63, i64, i74, i75, i90, i96, i97, i99, i100, i122, i139, i140, i144, i192, i200, i240, i255, i304, i309, i310, i311, i323, i324, i325, i899, i900, i975, i999, i5200, i4875, i65536, i65537, i15, ob_some, nI_add, nI_clamp, zn_zib, zn_eq, zn_lt, zn_le, m2_lt, m2_le, lt_m2, le_m2, eq_m2, m2_eq, m1_lt, m1_le, lt_m1, le_m1, eq_m1, m1_eq, m1_m2, m2_m1, m2_lt_m1, bI_0, bI_1, bI_t, bI_f, bI_bo, nI0_bo, nI1_bo, if_true, if_false, ite_true, ite_false, Nat.zero_add, Nat.not_lt_zero, Nat.zero_le, not_true_eq_false, not_false_eq_true, or_false, false_or, true_or, or_true, and_true, true_and, Bool.false_eq_true, Bool.true_eq_false, reduceCtorEq, eq_self]
        · have y2 : lvN ft (2 ^ u) (bA ft (2 ^ u) j) ≤ lvN ft (2 ^ u) j := by omega
          rw [if_neg y]
          simp (disch := omega) only [h4, b1, hs, q2, z, b3, m1', m2', y2, ↓lm1, ↓lm2, i0, i1, i2, i3, i4, i5, i6, i7, i8, i9, i10, i12, i16, i20, i24, i31, i32, i44, i48, i57, i59, i63, i64, i74, i75, i90, i96, i97, i99, i100, i122, i139, i140, i144, i192, i200, i240, i255, i304, i309, i310, i311, i323, i324, i325, i899, i900, i975, i999, i5200, i4875, i65536, i65537, i15, ob_some, nI_add, nI_clamp, zn_zib, zn_eq, zn_lt, zn_le, m2_lt, m2_le, lt_m2, le_m2, eq_m2, m2_eq, m1_lt, m1_le, lt_m1, le_m1, eq_m1, m1_eq, m1_m2, m2_m1, m2_lt_m1, bI_0, bI_1, bI_t, bI_f, bI_bo, nI0_bo, nI1_bo, if_true, if_false, ite_true, ite_false, Nat.zero_add, Nat.not_lt_zero, Nat.zero_le, not_true_eq_false, not_false_eq_true, or_false, false_or, true_or, or_true, and_true, true_and, Bool.false_eq_true, Bool.true_eq_false, reduceCtorEq, eq_self]
  · obtain ⟨rfl, rfl, rfl, hz0, rfl⟩ := hI
    have b1 : u ≤ u := Nat.le_refl _
    unfold b_X10_askOf_11
    by_cases z : u = 0
    · have hq : fb_ct ft (2 ^ u) = 0 ∨ u = 0 := .inr z
      rw [if_pos hq, if_pos z]
      simp (disch := omega) only [h4, b1, ↓lm1, ↓lm2, i0, i1, i2, i3, i4, i5, i6, i7, i8, i9, i10, i12, i16, i20, i24, i31, i32, i44, i48, i57, i59, i63, i64, i74, i75, i90, i96, i97, i99, i100, i122, i139, i140, i144, i192, i200, i240, i255, i304, i309, i310, i311, i323, i324, i325, i899, i900, i975, i999, i5200, i4875, i65536, i65537, i15, ob_some, nI_add, nI_clamp, zn_zib, zn_eq, zn_lt, zn_le, m2_lt, m2_le, lt_m2, le_m2, eq_m2, m2_eq, m1_lt, m1_le, lt_m1, le_m1, eq_m1, m1_eq, m1_m2, m2_m1, m2_lt_m1, bI_0, bI_1, bI_t, bI_f, bI_bo, nI0_bo, nI1_bo, if_true, if_false, ite_true, ite_false, Nat.zero_add, Nat.not_lt_zero, Nat.zero_le, not_true_eq_false, not_false_eq_true, or_false, false_or, true_or, or_true, and_true, true_and, Bool.false_eq_true, Bool.true_eq_false, reduceCtorEq, eq_self]
    · have q : ¬ fb_ct ft (2 ^ u) = 0 := fun x => z (hz0 x)
      have hq : ¬ (fb_ct ft (2 ^ u) = 0 ∨ u = 0) := by omega
      rw [if_neg hq, if_neg z]
      simp (disch := omega) only [h4, b1, ↓lm1, ↓lm2, i0, i1, i2, i3, i4, i5, i6, i7, i8, i9, i10, i12, i16, i20, i24, i31, i32, i44, i48, i57, i59, i63, i64, i74, i75, i90, i96, i97, i99, i100, i122, i139, i140, i144, i192, i200, i240, i255, i304, i309, i310, i311, i323, i324, i325, i899, i900, i975, i999, i5200, i4875, i65536, i65537, i15, ob_some, nI_add, nI_clamp, zn_zib, zn_eq, zn_lt, zn_le, m2_lt, m2_le, lt_m2, le_m2, eq_m2, m2_eq, m1_lt, m1_le, lt_m1, le_m1, eq_m1, m1_eq, m1_m2, m2_m1, m2_lt_m1, bI_0, bI_1, bI_t, bI_f, bI_bo, nI0_bo, nI1_bo, if_true, if_false, ite_true, ite_false, Nat.zero_add, Nat.not_lt_zero, Nat.zero_le, not_true_eq_false, not_false_eq_true, or_false, false_or, true_or, or_true, and_true, true_and, Bool.false_eq_true, Bool.true_eq_false, reduceCtorEq, eq_self]
end
