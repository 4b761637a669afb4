/-! the class's rows: sets of stamps -/
theorem has_cong {C D : Nat → Bool} {n : Nat} (h : ∀ s, s < n → C s = D s) (hn : n ≤ 64) {x : Int32} (hx : okS n x) : has C x = has D x := by
  rcases hx with rfl | ⟨s, hs, rfl⟩
  · rw [has_m2, has_m2]
  · rw [has_nI _ (by omega), has_nI _ (by omega), h s hs]
theorem gon_gon {n M x : Nat} (hM : M < n) (hx : x < n) : gon n (gon n M x) x = M := by
  have h := gon_lt (n := n) (a := M) (b := x) (by omega)
  rw [gon_le h hx]
  rw [gon_le hM hx] at h ⊢
  split <;> split <;> omega
def ot (n t : Nat) : Int64 := orL 0 (fun s => decide (s < n) && old n s t) (fun s => jlshl 1 (nI s)) 64
theorem lb_sum1 {p : Nat → Bool} {t : Nat} (ht : t < 64) : an (fun w => p w && lb (jlshl 1 (nI w)) t) 64 = p t := by
  cases h : p t
  · cases h2 : an (fun w => p w && lb (jlshl 1 (nI w)) t) 64
    · rfl
    · obtain ⟨k, hk, e⟩ := an_iff.mp h2
      rw [lb_one hk, Bool.and_eq_true, decide_eq_true_eq] at e
      rw [← e.2, h] at e
      exact absurd e.1 (by decide)
  · exact an_iff.mpr ⟨t, ht, by rw [lb_one ht, h, decide_eq_true rfl]; rfl⟩
theorem lb_ot {n t s : Nat} (hs : s < 64) : lb (ot n t) s = (decide (s < n) && old n s t) := by
  unfold ot
  rw [lb_orL, lb_0, Bool.false_or, lb_sum1 (p := fun s => decide (s < n) && old n s t) hs]
def hbx (st : Nat → Int32) (x : Int32) (t : Nat) : Bool := an (fun w => !decide (nI w = x) && hb st w t) 6
def Mx (st : Nat → Int32) (n : Nat) (x : Int32) : Nat := (mxo (hbx st x) (ag st n) n).getD 0
def hz (st : Nat → Int32) (n : Nat) (x : Int32) : Nat := gon n (Mx st n x) (nx st)
def dn (st : Nat → Int32) (s : Nat) : Bool := decide (st (240 + s) = nI 2)
def gn (st : Nat → Int32) (s : Nat) : Bool := decide (st (240 + s) = nI 3)
def ru (st : Nat → Int32) (s : Nat) : Bool := decide (st (240 + s) = nI 1)
def stl (st : Nat → Int32) (n : Nat) (x : Int32) (s : Nat) : Bool := dn st s && old n s (hz st n x)
section
variable {R : SRows} {st : Nat → Int32} {n m c : Nat}
theorem X6_olderThan (H : RC R st n m c) {t : Nat} (ht : t < n) : f_X6_olderThan R (nI t) = some (ot n t) := by
  have hn := WS_n (RC_W H)
  unfold f_X6_olderThan
  refine zl3_up (n / 2 + 1) 1 (fun i set x => (∃ q, q < n ∧ x = nI q ∧ 1 ≤ i ∧ gon n q t = i - 1) ∧ ∀ s, s < 64 → lb set s = decide (s < n ∧ 1 ≤ gon n s t ∧ gon n s t < i)) _ (by omega) (by omega) ⟨⟨t, ht, rfl, Nat.le_refl 1, gon_self ht⟩, fun s hs => ?_⟩ ?_ ?_
  · rw [lb_0]
    exact (decide_eq_false (fun z => by
      have a1 := z.2.1
      have a2 := z.2.2
      omega)).symm
  · rintro k i set x hi ⟨⟨q, hq, rfl, hi1, hg⟩, hl⟩
    refine .inr ?_
    have key : ∀ q', q' < n → gon n q' t = i → ∃ b1 b2, ((∃ q, q < n ∧ b2 = nI q ∧ 1 ≤ i + 1 ∧ gon n q t = i + 1 - 1) ∧ ∀ s, s < 64 → lb b1 s = decide (s < n ∧ 1 ≤ gon n s t ∧ gon n s t < i + 1)) ∧ k (set ||| jlshl 1 (nI q')) (nI q') (nI (i + 1)) = k b1 b2 (nI (i + 1)) := by
      intro q' hq' hg'
      refine ⟨_, _, ⟨⟨q', hq', rfl, by omega, by omega⟩, fun s hs => ?_⟩, rfl⟩
      rw [lb_or, hl s hs, lb_one (by omega)]
      by_cases e : s = q'
      · subst e
        rw [decide_eq_true (rfl : s = s), Bool.or_true]
        exact (decide_eq_true ⟨hq', by omega, by omega⟩).symm
      · rw [decide_eq_false e, Bool.or_false]
        have : ∀ (a : s < n), gon n s t ≠ i := fun a b => e (gon_inj a hq' ht (by rw [b, hg']))
        by_cases a : s < n
        · have := this a
          congr 1
          exact propext ⟨fun z => ⟨z.1, z.2.1, by omega⟩, fun z => ⟨z.1, z.2.1, by omega⟩⟩
        · rw [decide_eq_false (fun z => a z.1), decide_eq_false (fun z => a z.1)]
    have h1 : ¬ n / 2 < i := by omega
    have gq := gon_le hq ht
    by_cases q0 : q ≤ 0
    · have h2 : gon n (n - 1) t = i := by
        rw [gon_le (by omega : n - 1 < n) ht]
        have : ¬ t < q := by omega
        rw [if_neg this] at gq
        split <;> omega
      obtain ⟨b1, b2, hb, e⟩ := key (n - 1) (by omega) h2
      refine ⟨b1, b2, hb, ?_⟩
      rw [← e]
      unfold b_X6_olderThan_8 b_X6_olderThan_37
      simp (disch := omega) only [RC_ring H, h1, q0, pk_div, pk_sub, ↓lm1, ↓lm2, i0, i1, i2, i3, i4, i5, i6, i7, i8, i9, i10, i12, i16, i20, i24, i31, i32, i44, i48, i57, i59, i63, i64, i74, i75, i90, i96, i97, i99, i100, i122, i139, i140, i144, i192, i200, i240, i255, i304, i309, i310, i311, i323, i324, i325, i899, i900, i975, i999, i5200, i4875, i65536, i65537, i15, ob_some, nI_add, nI_clamp, zn_zib, zn_eq, zn_lt, zn_le, m2_lt, m2_le, lt_m2, le_m2, eq_m2, m2_eq, m1_lt, m1_le, lt_m1, le_m1, eq_m1, m1_eq, m1_m2, m2_m1, m2_lt_m1, bI_0, bI_1, bI_t, bI_f, bI_bo, nI0_bo, nI1_bo, if_true, if_false, ite_true, ite_false, Nat.zero_add, Nat.not_lt_zero, Nat.zero_le, not_true_eq_false, not_false_eq_true, or_false, false_or, true_or, or_true, and_true, true_and, Bool.false_eq_true, Bool.true_eq_false, reduceCtorEq, eq_self]
    · have h2 : gon n (q - 1) t = i := by
        rw [gon_le (by omega : q - 1 < n) ht]
        split at gq <;> split <;> omega
      obtain ⟨b1, b2, hb, e⟩ := key (q - 1) (by omega) h2
      refine ⟨b1, b2, hb, ?_⟩
      rw [← e]
      unfold b_X6_olderThan_8 b_X6_olderThan_37
      simp (disch := omega) only [RC_ring H, h1, q0, pk_div, pk_sub, ↓lm1, ↓lm2, i0, i1, i2, i3, i4, i5, i6, i7, i8, i9, i10, i12, i16, i20, i24, i31, i32, i44, i48, i57, i59, i63, i64, i74, i75, i90, i96, i97, i99, i100, i122, i139, i140, i144, i192, i200, i240, i255, i304, i309, i310, i311, i323, i324, i325, i899, i900, i975, i999, i5200, i4875, i65536, i65537, i15, ob_some, nI_add, nI_clamp, zn_zib, zn_eq, zn_lt, zn_le, m2_lt, m2_le, lt_m2, le_m2, eq_m2, m2_eq, m1_lt, m1_le, lt_m1, le_m1, eq_m1, m1_eq, m1_m2, m2_m1, m2_lt_m1, bI_0, bI_1, bI_t, bI_f, bI_bo, nI0_bo, nI1_bo, if_true, if_false, ite_true, ite_false, Nat.zero_add, Nat.not_lt_zero, Nat.zero_le, not_true_eq_false, not_false_eq_true, or_false, false_or, true_or, or_true, and_true, true_and, Bool.false_eq_true, Bool.true_eq_false, reduceCtorEq, eq_self]
  · rintro k set x ⟨-, hl⟩
    have h1 : n / 2 < n / 2 + 1 := by omega
    unfold b_X6_olderThan_8
    simp (disch := omega) only [RC_ring H, pk_div, h1, ↓lm1, ↓lm2, i0, i1, i2, i3, i4, i5, i6, i7, i8, i9, i10, i12, i16, i20, i24, i31, i32, i44, i48, i57, i59, i63, i64, i74, i75, i90, i96, i97, i99, i100, i122, i139, i140, i144, i192, i200, i240, i255, i304, i309, i310, i311, i323, i324, i325, i899, i900, i975, i999, i5200, i4875, i65536, i65537, i15, ob_some, nI_add, nI_clamp, zn_zib, zn_eq, zn_lt, zn_le, m2_lt, m2_le, lt_m2, le_m2, eq_m2, m2_eq, m1_lt, m1_le, lt_m1, le_m1, eq_m1, m1_eq, m1_m2, m2_m1, m2_lt_m1, bI_0, bI_1, bI_t, bI_f, bI_bo, nI0_bo, nI1_bo, if_true, if_false, ite_true, ite_false, Nat.zero_add, Nat.not_lt_zero, Nat.zero_le, not_true_eq_false, not_false_eq_true, or_false, false_or, true_or, or_true, and_true, true_and, Bool.false_eq_true, Bool.true_eq_false, reduceCtorEq, eq_self]
    congr 1
    apply lb_ext
    intro s hs
    rw [hl s hs, lb_ot hs]
    unfold old
    rw [← Bool.decide_and, ← Bool.decide_and]
    congr 1
    exact propext ⟨fun z => ⟨z.1, z.2.1, by omega⟩, fun z => ⟨z.1, z.2.1, by omega⟩⟩
theorem X6_greatestAge (H : RC R st n m c) (S : Int64) : f_X6_greatestAge R S = some (eo (mxo (lb S) (ag st n) n)) := by
  have hn := WS_n (RC_W H)
  unfold f_X6_greatestAge
  refine zl2_fold n (fun i => eo (mxo (lb S) (ag st n) i)) _ (by omega) (fun k i hi => ?_) (fun k => ?_)
  · have h1 : ¬ n ≤ i := by omega
    have hg : ag st n i < n := gon_lt (by omega)
    unfold b_X6_greatestAge_6
    simp (disch := omega) only [RC_ring H, h1, hol_nI, X6_ageOf H hi, ↓lm1, ↓lm2, i0, i1, i2, i3, i4, i5, i6, i7, i8, i9, i10, i12, i16, i20, i24, i31, i32, i44, i48, i57, i59, i63, i64, i74, i75, i90, i96, i97, i99, i100, i122, i139, i140, i144, i192, i200, i240, i255, i304, i309, i310, i311, i323, i324, i325, i899, i900, i975, i999, i5200, i4875, i65536, i65537, i15, ob_some, nI_add, nI_clamp, zn_zib, zn_eq, zn_lt, zn_le, m2_lt, m2_le, lt_m2, le_m2, eq_m2, m2_eq, m1_lt, m1_le, lt_m1, le_m1, eq_m1, m1_eq, m1_m2, m2_m1, m2_lt_m1, bI_0, bI_1, bI_t, bI_f, bI_bo, nI0_bo, nI1_bo, if_true, if_false, ite_true, ite_false, Nat.zero_add, Nat.not_lt_zero, Nat.zero_le, not_true_eq_false, not_false_eq_true, or_false, false_or, true_or, or_true, and_true, true_and, Bool.false_eq_true, Bool.true_eq_false, reduceCtorEq, eq_self]
    rw [mxo_s]
    cases hp : lb S i
    · simp (disch := omega) only [↓lm1, ↓lm2, i0, i1, i2, i3, i4, i5, i6, i7, i8, i9, i10, i12, i16, i20, i24, i31, i32, i44, i48, i57, i59, i63, i64, i74, i75, i90, i96, i97, i99, i100, i122, i139, i140, i144, i192, i200, i240, i255, i304, i309, i310, i311, i323, i324, i325, i899, i900, i975, i999, i5200, i4875, i65536, i65537, i15, ob_some, nI_add, nI_clamp, zn_zib, zn_eq, zn_lt, zn_le, m2_lt, m2_le, lt_m2, le_m2, eq_m2, m2_eq, m1_lt, m1_le, lt_m1, le_m1, eq_m1, m1_eq, m1_m2, m2_m1, m2_lt_m1, bI_0, bI_1, bI_t, bI_f, bI_bo, nI0_bo, nI1_bo, if_true, if_false, ite_true, ite_false, Nat.zero_add, Nat.not_lt_zero, Nat.zero_le, not_true_eq_false, not_false_eq_true, or_false, false_or, true_or, or_true, and_true, true_and, Bool.false_eq_true, Bool.true_eq_false, reduceCtorEq, eq_self]
    · simp (disch := omega) only [↓lm1, ↓lm2, i0, i1, i2, i3, i4, i5, i6, i7, i8, i9, i10, i12, i16, i20, i24, i31, i32, i44, i48, i57, i59, i63, i64, i74, i75, i90, i96, i97, i99, i100, i122, i139, i140, i144, i192, i200, i240, i255, i304, i309, i310, i311, i323, i324, i325, i899, i900, i975, i999, i5200, i4875, i65536, i65537, i15, ob_some, nI_add, nI_clamp, zn_zib, zn_eq, zn_lt, zn_le, m2_lt, m2_le, lt_m2, le_m2, eq_m2, m2_eq, m1_lt, m1_le, lt_m1, le_m1, eq_m1, m1_eq, m1_m2, m2_m1, m2_lt_m1, bI_0, bI_1, bI_t, bI_f, bI_bo, nI0_bo, nI1_bo, if_true, if_false, ite_true, ite_false, Nat.zero_add, Nat.not_lt_zero, Nat.zero_le, not_true_eq_false, not_false_eq_true, or_false, false_or, true_or, or_true, and_true, true_and, Bool.false_eq_true, Bool.true_eq_false, reduceCtorEq, eq_self]
      cases hm : mxo (lb S) (ag st n) i with
      | none => simp (disch := omega) only [eo_n, eo_s, ↓lm1, ↓lm2, i0, i1, i2, i3, i4, i5, i6, i7, i8, i9, i10, i12, i16, i20, i24, i31, i32, i44, i48, i57, i59, i63, i64, i74, i75, i90, i96, i97, i99, i100, i122, i139, i140, i144, i192, i200, i240, i255, i304, i309, i310, i311, i323, i324, i325, i899, i900, i975, i999, i5200, i4875, i65536, i65537, i15, ob_some, nI_add, nI_clamp, zn_zib, zn_eq, zn_lt, zn_le, m2_lt, m2_le, lt_m2, le_m2, eq_m2, m2_eq, m1_lt, m1_le, lt_m1, le_m1, eq_m1, m1_eq, m1_m2, m2_m1, m2_lt_m1, bI_0, bI_1, bI_t, bI_f, bI_bo, nI0_bo, nI1_bo, if_true, if_false, ite_true, ite_false, Nat.zero_add, Nat.not_lt_zero, Nat.zero_le, not_true_eq_false, not_false_eq_true, or_false, false_or, true_or, or_true, and_true, true_and, Bool.false_eq_true, Bool.true_eq_false, reduceCtorEq, eq_self]
      | some a =>
        have ha : a < n := by
          obtain ⟨⟨k, hk, e1, e2⟩, -⟩ := mxo_some hm
          rw [← e2]
          exact gon_lt (by omega)
        by_cases q : a < ag st n i
        · simp (disch := omega) only [eo_n, eo_s, q, ↓lm1, ↓lm2, i0, i1, i2, i3, i4, i5, i6, i7, i8, i9, i10, i12, i16, i20, i24, i31, i32, i44, i48, i57, i59, i63, i64, i74, i75, i90, i96, i97, i99, i100, i122, i139, i140, i144, i192, i200, i240, i255, i304, i309, i310, i311, i323, i324, i325, i899, i900, i975, i999, i5200, i4875, i65536, i65537, i15, ob_some, nI_add, nI_clamp, zn_zib, zn_eq, zn_lt, zn_le, m2_lt, m2_le, lt_m2, le_m2, eq_m2, m2_eq, m1_lt, m1_le, lt_m1, le_m1, eq_m1, m1_eq, m1_m2, m2_m1, m2_lt_m1, bI_0, bI_1, bI_t, bI_f, bI_bo, nI0_bo, nI1_bo, if_true, if_false, ite_true, ite_false, Nat.zero_add, Nat.not_lt_zero, Nat.zero_le, not_true_eq_false, not_false_eq_true, or_false, false_or, true_or, or_true, and_true, true_and, Bool.false_eq_true, Bool.true_eq_false, reduceCtorEq, eq_self]
        · simp (disch := omega) only [eo_n, eo_s, q, ↓lm1, ↓lm2, i0, i1, i2, i3, i4, i5, i6, i7, i8, i9, i10, i12, i16, i20, i24, i31, i32, i44, i48, i57, i59, i63, i64, i74, i75, i90, i96, i97, i99, i100, i122, i139, i140, i144, i192, i200, i240, i255, i304, i309, i310, i311, i323, i324, i325, i899, i900, i975, i999, i5200, i4875, i65536, i65537, i15, ob_some, nI_add, nI_clamp, zn_zib, zn_eq, zn_lt, zn_le, m2_lt, m2_le, lt_m2, le_m2, eq_m2, m2_eq, m1_lt, m1_le, lt_m1, le_m1, eq_m1, m1_eq, m1_m2, m2_m1, m2_lt_m1, bI_0, bI_1, bI_t, bI_f, bI_bo, nI0_bo, nI1_bo, if_true, if_false, ite_true, ite_false, Nat.zero_add, Nat.not_lt_zero, Nat.zero_le, not_true_eq_false, not_false_eq_true, or_false, false_or, true_or, or_true, and_true, true_and, Bool.false_eq_true, Bool.true_eq_false, reduceCtorEq, eq_self]
  · have h1 : n ≤ n := Nat.le_refl n
    unfold b_X6_greatestAge_6
    simp (disch := omega) only [RC_ring H, h1, ↓lm1, ↓lm2, i0, i1, i2, i3, i4, i5, i6, i7, i8, i9, i10, i12, i16, i20, i24, i31, i32, i44, i48, i57, i59, i63, i64, i74, i75, i90, i96, i97, i99, i100, i122, i139, i140, i144, i192, i200, i240, i255, i304, i309, i310, i311, i323, i324, i325, i899, i900, i975, i999, i5200, i4875, i65536, i65537, i15, ob_some, nI_add, nI_clamp, zn_zib, zn_eq, zn_lt, zn_le, m2_lt, m2_le, lt_m2, le_m2, eq_m2, m2_eq, m1_lt, m1_le, lt_m1, le_m1, eq_m1, m1_eq, m1_m2, m2_m1, m2_lt_m1, bI_0, bI_1, bI_t, bI_f, bI_bo, nI0_bo, nI1_bo, if_true, if_false, ite_true, ite_false, Nat.zero_add, Nat.not_lt_zero, Nat.zero_le, not_true_eq_false, not_false_eq_true, or_false, false_or, true_or, or_true, and_true, true_and, Bool.false_eq_true, Bool.true_eq_false, reduceCtorEq, eq_self]
theorem RC_held (H : RC R st n m c) {w t : Nat} (hw : w < 6) (ht : t < 64) : lb (Rows_held R w) t = hb st w t := by
  have hn := WS_n (RC_W H)
  unfold hb
  rcases RC_w H hw with ⟨e, -, e2⟩ | ⟨s, hs, e, -, e2, -⟩
  · rw [rn_f e, e2, lb_0, Bool.false_and]
  · rw [rn_t e (by omega), e2 t ht, e, Bool.true_and]
    congr 1
    simp (disch := omega) only [zn_eq]
    congr 1
    exact propext ⟨fun z => z.symm, fun z => z.symm⟩
theorem X6_heldWithout (H : RC R st n m c) (x : Int32) : f_X6_heldWithout R x = some (orL 0 (fun w => !decide (nI w = x)) (Rows_held R) 6) := by
  unfold f_X6_heldWithout
  refine zl2_fold 6 (orL 0 (fun w => !decide (nI w = x)) (Rows_held R)) _ (by omega) (fun k i hi => ?_) (fun k => ?_)
  · have h1 : ¬ 6 ≤ i := by omega
    unfold b_X6_heldWithout_5
    rw [orL_s]
    generalize orL 0 (fun w => !decide (nI w = x)) (Rows_held R) i = F
    by_cases q : nI i = x
    · subst q
      simp (disch := omega) only [h1, decide_true, Bool.not_true, ↓lm1, ↓lm2, i0, i1, i2, i3, i4, i5, i6, i7, i8, i9, i10, i12, i16, i20, i24, i31, i32, i44, i48, i57, i59, i63, i64, i74, i75, i90, i96, i97, i99, i100, i122, i139, i140, i144, i192, i200, i240, i255, i304, i309, i310, i311, i323, i324, i325, i899, i900, i975, i999, i5200, i4875, i65536, i65537, i15, ob_some, nI_add, nI_clamp, zn_zib, zn_eq, zn_lt, zn_le, m2_lt, m2_le, lt_m2, le_m2, eq_m2, m2_eq, m1_lt, m1_le, lt_m1, le_m1, eq_m1, m1_eq, m1_m2, m2_m1, m2_lt_m1, bI_0, bI_1, bI_t, bI_f, bI_bo, nI0_bo, nI1_bo, if_true, if_false, ite_true, ite_false, Nat.zero_add, Nat.not_lt_zero, Nat.zero_le, not_true_eq_false, not_false_eq_true, or_false, false_or, true_or, or_true, and_true, true_and, Bool.false_eq_true, Bool.true_eq_false, reduceCtorEq, eq_self]
    · simp (disch := omega) only [h1, q, decide_false, Bool.not_false, ↓lm1, ↓lm2, i0, i1, i2, i3, i4, i5, i6, i7, i8, i9, i10, i12, i16, i20, i24, i31, i32, i44, i48, i57, i59, i63, i64, i74, i75, i90, i96, i97, i99, i100, i122, i139, i140, i144, i192, i200, i240, i255, i304, i309, i310, i311, i323, i324, i325, i899, i900, i975, i999, i5200, i4875, i65536, i65537, i15, ob_some, nI_add, nI_clamp, zn_zib, zn_eq, zn_lt, zn_le, m2_lt, m2_le, lt_m2, le_m2, eq_m2, m2_eq, m1_lt, m1_le, lt_m1, le_m1, eq_m1, m1_eq, m1_m2, m2_m1, m2_lt_m1, bI_0, bI_1, bI_t, bI_f, bI_bo, nI0_bo, nI1_bo, if_true, if_false, ite_true, ite_false, Nat.zero_add, Nat.not_lt_zero, Nat.zero_le, not_true_eq_false, not_false_eq_true, or_false, false_or, true_or, or_true, and_true, true_and, Bool.false_eq_true, Bool.true_eq_false, reduceCtorEq, eq_self]
  · unfold b_X6_heldWithout_5
    simp (disch := omega) only [Nat.le_refl, ↓lm1, ↓lm2, i0, i1, i2, i3, i4, i5, i6, i7, i8, i9, i10, i12, i16, i20, i24, i31, i32, i44, i48, i57, i59, i63, i64, i74, i75, i90, i96, i97, i99, i100, i122, i139, i140, i144, i192, i200, i240, i255, i304, i309, i310, i311, i323, i324, i325, i899, i900, i975, i999, i5200, i4875, i65536, i65537, i15, ob_some, nI_add, nI_clamp, zn_zib, zn_eq, zn_lt, zn_le, m2_lt, m2_le, lt_m2, le_m2, eq_m2, m2_eq, m1_lt, m1_le, lt_m1, le_m1, eq_m1, m1_eq, m1_m2, m2_m1, m2_lt_m1, bI_0, bI_1, bI_t, bI_f, bI_bo, nI0_bo, nI1_bo, if_true, if_false, ite_true, ite_false, Nat.zero_add, Nat.not_lt_zero, Nat.zero_le, not_true_eq_false, not_false_eq_true, or_false, false_or, true_or, or_true, and_true, true_and, Bool.false_eq_true, Bool.true_eq_false, reduceCtorEq, eq_self]
theorem lb_hbx (H : RC R st n m c) (x : Int32) {t : Nat} (ht : t < 64) : lb (orL 0 (fun w => !decide (nI w = x)) (Rows_held R) 6) t = hbx st x t := by
  rw [lb_orL, lb_0, Bool.false_or]
  exact an_cong (fun k hk => by rw [RC_held H hk ht])
theorem Mx_lt (W : WS st n m) (x : Int32) : Mx st n x < n := by
  have hn := WS_n W
  unfold Mx
  cases hm : mxo (hbx st x) (ag st n) n with
  | none =>
    show 0 < n
    omega
  | some a =>
    obtain ⟨⟨k, hk, e1, e2⟩, -⟩ := mxo_some hm
    show a < n
    rw [← e2]
    exact gon_lt (by omega)
theorem hz_lt (W : WS st n m) (x : Int32) : hz st n x < n := gon_lt (by have := WS_n W; omega)
theorem X6_horizonWithout (H : RC R st n m c) (x : Int32) : f_X6_horizonWithout R x = some (nI (hz st n x)) := by
  have hn := WS_n (RC_W H)
  have hx := WS_nx (RC_W H)
  unfold f_X6_horizonWithout
  rw [X6_heldWithout H x, ob_some, RC_nx H, hx.2]
  refine zl3_up n 0 (fun i S h => S = orL 0 (fun w => !decide (nI w = x)) (Rows_held R) 6 ∧ ∃ q, q < n ∧ h = nI q ∧ ag st n q = (mxo (hbx st x) (ag st n) i).getD 0) _ (by omega) (by omega) ⟨rfl, nx st, hx.1, rfl, gon_self hx.1⟩ ?_ ?_
  · rintro k i S h hi ⟨rfl, q, hq, rfl, hg⟩
    refine .inr ?_
    have h1 : ¬ n ≤ i := by omega
    have g1 : ag st n i < n := gon_lt (by omega)
    have g2 : ag st n q < n := gon_lt (by omega)
    unfold b_X6_horizonWithout_15
    simp (disch := omega) only [RC_ring H, h1, hol_nI, lb_hbx H, X6_ageOf H hi, X6_ageOf H hq, ↓lm1, ↓lm2, i0, i1, i2, i3, i4, i5, i6, i7, i8, i9, i10, i12, i16, i20, i24, i31, i32, i44, i48, i57, i59, i63, i64, i74, i75, i90, i96, i97, i99, i100, i122, i139, i140, i144, i192, i200, i240, i255, i304, i309, i310, i311, i323, i324, i325, i899, i900, i975, i999, i5200, i4875, i65536, i65537, i15, ob_some, nI_add, nI_clamp, zn_zib, zn_eq, zn_lt, zn_le, m2_lt, m2_le, lt_m2, le_m2, eq_m2, m2_eq, m1_lt, m1_le, lt_m1, le_m1, eq_m1, m1_eq, m1_m2, m2_m1, m2_lt_m1, bI_0, bI_1, bI_t, bI_f, bI_bo, nI0_bo, nI1_bo, if_true, if_false, ite_true, ite_false, Nat.zero_add, Nat.not_lt_zero, Nat.zero_le, not_true_eq_false, not_false_eq_true, or_false, false_or, true_or, or_true, and_true, true_and, Bool.false_eq_true, Bool.true_eq_false, reduceCtorEq, eq_self]
    rw [mxo_s]
    cases hp : hbx st x i
    · exact ⟨_, _, ⟨rfl, q, hq, rfl, by simpa using hg⟩, rfl⟩
    · simp (disch := omega) only [↓lm1, ↓lm2, i0, i1, i2, i3, i4, i5, i6, i7, i8, i9, i10, i12, i16, i20, i24, i31, i32, i44, i48, i57, i59, i63, i64, i74, i75, i90, i96, i97, i99, i100, i122, i139, i140, i144, i192, i200, i240, i255, i304, i309, i310, i311, i323, i324, i325, i899, i900, i975, i999, i5200, i4875, i65536, i65537, i15, ob_some, nI_add, nI_clamp, zn_zib, zn_eq, zn_lt, zn_le, m2_lt, m2_le, lt_m2, le_m2, eq_m2, m2_eq, m1_lt, m1_le, lt_m1, le_m1, eq_m1, m1_eq, m1_m2, m2_m1, m2_lt_m1, bI_0, bI_1, bI_t, bI_f, bI_bo, nI0_bo, nI1_bo, if_true, if_false, ite_true, ite_false, Nat.zero_add, Nat.not_lt_zero, Nat.zero_le, not_true_eq_false, not_false_eq_true, or_false, false_or, true_or, or_true, and_true, true_and, Bool.false_eq_true, Bool.true_eq_false, reduceCtorEq, eq_self]
      by_cases e : ag st n i ≤ ag st n q
      · refine ⟨_, _, ⟨rfl, q, hq, rfl, ?_⟩, by rw [if_pos e]⟩
        cases hm : mxo (hbx st x) (ag st n) i with
        | none =>
          rw [hm] at hg
          have : ag st n q = 0 := hg
          show ag st n q = ag st n i
          omega
        | some a =>
          rw [hm] at hg
          have e2 : ag st n q = a := hg
          show ag st n q = (if a < ag st n i then some (ag st n i) else some a).getD 0
          rw [if_neg (by omega)]
          exact e2
      · refine ⟨_, _, ⟨rfl, i, hi, rfl, ?_⟩, by rw [if_neg e]⟩
        cases hm : mxo (hbx st x) (ag st n) i with
        | none => rfl
        | some a =>
          rw [hm] at hg
          have e2 : ag st n q = a := hg
          show ag st n i = (if a < ag st n i then some (ag st n i) else some a).getD 0
          rw [if_pos (by omega)]
          rfl
  · rintro k S h ⟨-, q, hq, rfl, hg⟩
    unfold b_X6_horizonWithout_15
    simp (disch := omega) only [RC_ring H, Nat.le_refl, ↓lm1, ↓lm2, i0, i1, i2, i3, i4, i5, i6, i7, i8, i9, i10, i12, i16, i20, i24, i31, i32, i44, i48, i57, i59, i63, i64, i74, i75, i90, i96, i97, i99, i100, i122, i139, i140, i144, i192, i200, i240, i255, i304, i309, i310, i311, i323, i324, i325, i899, i900, i975, i999, i5200, i4875, i65536, i65537, i15, ob_some, nI_add, nI_clamp, zn_zib, zn_eq, zn_lt, zn_le, m2_lt, m2_le, lt_m2, le_m2, eq_m2, m2_eq, m1_lt, m1_le, lt_m1, le_m1, eq_m1, m1_eq, m1_m2, m2_m1, m2_lt_m1, bI_0, bI_1, bI_t, bI_f, bI_bo, nI0_bo, nI1_bo, if_true, if_false, ite_true, ite_false, Nat.zero_add, Nat.not_lt_zero, Nat.zero_le, not_true_eq_false, not_false_eq_true, or_false, false_or, true_or, or_true, and_true, true_and, Bool.false_eq_true, Bool.true_eq_false, reduceCtorEq, eq_self]
    congr 2
    refine gon_inj hq (hz_lt (RC_W H) x) hx.1 ?_
    show ag st n q = gon n (gon n (Mx st n x) (nx st)) (nx st)
    rw [gon_gon (Mx_lt (RC_W H) x) hx.1]
    exact hg
theorem RC_dn (H : RC R st n m c) {s : Nat} (hs : s < 64) : lb (Rows_doneStamps R) s = dn st s := (RC_t H hs).2.1
theorem RC_gn (H : RC R st n m c) {s : Nat} (hs : s < 64) : lb (Rows_goneStamps R) s = gn st s := (RC_t H hs).2.2
theorem RC_ru (H : RC R st n m c) {s : Nat} (hs : s < 64) : lb (Rows_runningStamps R) s = ru st s := (RC_t H hs).1
theorem X6_settledWithout (H : RC R st n m c) (x : Int32) : f_X6_settledWithout R x = some (Rows_doneStamps R &&& ot n (hz st n x)) := by
  unfold f_X6_settledWithout
  rw [X6_horizonWithout H x, ob_some, X6_olderThan H (hz_lt (RC_W H) x), ob_some]
theorem lb_stl (H : RC R st n m c) (x : Int32) {s : Nat} (hs : s < n) : lb (Rows_doneStamps R &&& ot n (hz st n x)) s = stl st n x s := by
  have hn := WS_n (RC_W H)
  rw [lb_and, RC_dn H (by omega), lb_ot (by omega), decide_eq_true hs, Bool.true_and]
  rfl
end
