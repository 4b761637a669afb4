/-! the class's rows: slots, chains, what is seen -/
def cw (st : Nat → Int32) (n w s : Nat) : Bool := decide (st (304 + w) = nI s) || (dn st s && !sb st w s && old n s (st (304 + w)).toNatClampNeg)
def ca (st : Nat → Int32) (n t s : Nat) : Bool := dn st s && old n s t
def sp (st : Nat → Int32) (C : Nat → Bool) (r v : Nat) : Bool := decide (st v = nI (r + 1)) && sees st C v
def lp (st : Nat → Int32) (r v : Nat) : Bool := decide (st v = nI (r + 1)) && !has (gn st) (st (96 + v))
def va (st : Nat → Int32) : Option Nat → Int32
  | none => m2
  | some v => st (48 + v)
theorem bt_bit {k i : Nat} (hk : k < 32) (hi : i < 32) : bt (nI 1 <<< (nI k &&& nI 31)) i = decide (i = k) := by
  have : ∀ a b : Fin 32, bt (nI 1 <<< (nI a.1 &&& nI 31)) b.1 = decide (b.1 = a.1) := by decide +kernel
  exact this ⟨k, hk⟩ ⟨i, hi⟩
theorem sees_cong {st : Nat → Int32} {n m : Nat} (W : WS st n m) {C D : Nat → Bool} (h : ∀ s, s < n → C s = D s) {v : Nat} (hv : v < 48) : sees st C v = sees st D v := by
  have hn := WS_n W
  unfold sees
  rw [has_cong h (by omega) (WS_f W hv), has_cong h (by omega) (WS_d W hv)]
theorem sp_cong {st : Nat → Int32} {n m : Nat} (W : WS st n m) {C D : Nat → Bool} (h : ∀ s, s < n → C s = D s) (r : Nat) {v : Nat} (hv : v < 48) : sp st C r v = sp st D r v := by
  unfold sp
  rw [sees_cong W h hv]
theorem fb_ct_one {p : Nat → Bool} {a n : Nat} (ha : a < n) (hp : p a = false) : fb_ct (fun k => p k || decide (a = k)) n = fb_ct p n + 1 := by
  have h := fb_ct_upd p true (i := a) (n := n) ha
  rw [hp] at h
  have e : fb_ct (fun k => p k || decide (a = k)) n = fb_ct (fun k => if k = a then true else p k) n := by
    refine fb_ct_cong (fun k hk => ?_)
    by_cases e : k = a
    · subst e
      simp
    · have e2 : ¬ a = k := fun z => e z.symm
      simp [e, e2]
  rw [e]
  simpa using h
section
variable {R : SRows} {st : Nat → Int32} {n m c : Nat}
theorem X6_firstFreeSlot (H : RC R st n m c) : f_X6_firstFreeSlot R = some (eo (fi (fun w => !rn st w) 6)) := by
  have hn := WS_n (RC_W H)
  unfold f_X6_firstFreeSlot
  refine zl1_up 6 0 (fun i => ∀ k, k < i → (!rn st k) = false) _ (by omega) (by omega) (fun k hk => absurd hk (Nat.not_lt_zero k)) (fun k i hi hI => ?_) (fun k hI => ?_)
  · have h1 : ¬ 6 ≤ i := by omega
    unfold b_X6_firstFreeSlot_2
    rcases RC_w H hi with ⟨e, e2, -⟩ | ⟨s, hs, e, e2, -⟩
    · left
      simp (disch := omega) only [h1, e2, ↓lm1, ↓lm2, i0, i1, i2, i3, i4, i5, i6, i7, i8, i9, i10, i12, i16, i20, i24, i31, i32, i44, i48, i57, i59, i63, i64, i74, i75, i90, i96, i97, i99, i100, i122, i139, i140, i144, i192, i200, i240, i255, i304, i309, i310, i311, i323, i324, i325, i899, i900, i975, i999, i5200, i4875, i65536, i65537, i15, ob_some, nI_add, nI_clamp, zn_zib, zn_eq, zn_lt, zn_le, m2_lt, m2_le, lt_m2, le_m2, eq_m2, m2_eq, m1_lt, m1_le, lt_m1, le_m1, eq_m1, m1_eq, m1_m2, m2_m1, m2_lt_m1, bI_0, bI_1, bI_t, bI_f, bI_bo, nI0_bo, nI1_bo, if_true, if_false, ite_true, ite_false, Nat.zero_add, Nat.not_lt_zero, Nat.zero_le, not_true_eq_false, not_false_eq_true, or_false, false_or, true_or, or_true, and_true, true_and, Bool.false_eq_true, Bool.true_eq_false, reduceCtorEq, eq_self]
      rw [fi_eq (a := i) (by omega) (by rw [rn_f e]; rfl) hI, eo_s]
    · right
      refine ⟨fun k hk => ?_, ?_⟩
      · by_cases q : k = i
        · rw [q, rn_t e (by omega)]
          rfl
        · exact hI k (by omega)
      · simp (disch := omega) only [h1, e2, ↓lm1, ↓lm2, i0, i1, i2, i3, i4, i5, i6, i7, i8, i9, i10, i12, i16, i20, i24, i31, i32, i44, i48, i57, i59, i63, i64, i74, i75, i90, i96, i97, i99, i100, i122, i139, i140, i144, i192, i200, i240, i255, i304, i309, i310, i311, i323, i324, i325, i899, i900, i975, i999, i5200, i4875, i65536, i65537, i15, ob_some, nI_add, nI_clamp, zn_zib, zn_eq, zn_lt, zn_le, m2_lt, m2_le, lt_m2, le_m2, eq_m2, m2_eq, m1_lt, m1_le, lt_m1, le_m1, eq_m1, m1_eq, m1_m2, m2_m1, m2_lt_m1, bI_0, bI_1, bI_t, bI_f, bI_bo, nI0_bo, nI1_bo, if_true, if_false, ite_true, ite_false, Nat.zero_add, Nat.not_lt_zero, Nat.zero_le, not_true_eq_false, not_false_eq_true, or_false, false_or, true_or, or_true, and_true, true_and, Bool.false_eq_true, Bool.true_eq_false, reduceCtorEq, eq_self]
  · unfold b_X6_firstFreeSlot_2
    simp (disch := omega) only [Nat.le_refl, ↓lm1, ↓lm2, i0, i1, i2, i3, i4, i5, i6, i7, i8, i9, i10, i12, i16, i20, i24, i31, i32, i44, i48, i57, i59, i63, i64, i74, i75, i90, i96, i97, i99, i100, i122, i139, i140, i144, i192, i200, i240, i255, i304, i309, i310, i311, i323, i324, i325, i899, i900, i975, i999, i5200, i4875, i65536, i65537, i15, ob_some, nI_add, nI_clamp, zn_zib, zn_eq, zn_lt, zn_le, m2_lt, m2_le, lt_m2, le_m2, eq_m2, m2_eq, m1_lt, m1_le, lt_m1, le_m1, eq_m1, m1_eq, m1_m2, m2_m1, m2_lt_m1, bI_0, bI_1, bI_t, bI_f, bI_bo, nI0_bo, nI1_bo, if_true, if_false, ite_true, ite_false, Nat.zero_add, Nat.not_lt_zero, Nat.zero_le, not_true_eq_false, not_false_eq_true, or_false, false_or, true_or, or_true, and_true, true_and, Bool.false_eq_true, Bool.true_eq_false, reduceCtorEq, eq_self]
    rw [fi_eqn hI, eo_n]
theorem X6_runningSlots (H : RC R st n m c) : f_X6_runningSlots R = some (orI (rn st) 6) := by
  unfold f_X6_runningSlots
  refine zl2_fold 6 (orI (rn st)) _ (by omega) (fun k i hi => ?_) (fun k => ?_)
  · have h1 : ¬ 6 ≤ i := by omega
    unfold b_X6_runningSlots_4
    simp (disch := omega) only [h1, X6_runs H hi, ↓lm1, ↓lm2, i0, i1, i2, i3, i4, i5, i6, i7, i8, i9, i10, i12, i16, i20, i24, i31, i32, i44, i48, i57, i59, i63, i64, i74, i75, i90, i96, i97, i99, i100, i122, i139, i140, i144, i192, i200, i240, i255, i304, i309, i310, i311, i323, i324, i325, i899, i900, i975, i999, i5200, i4875, i65536, i65537, i15, ob_some, nI_add, nI_clamp, zn_zib, zn_eq, zn_lt, zn_le, m2_lt, m2_le, lt_m2, le_m2, eq_m2, m2_eq, m1_lt, m1_le, lt_m1, le_m1, eq_m1, m1_eq, m1_m2, m2_m1, m2_lt_m1, bI_0, bI_1, bI_t, bI_f, bI_bo, nI0_bo, nI1_bo, if_true, if_false, ite_true, ite_false, Nat.zero_add, Nat.not_lt_zero, Nat.zero_le, not_true_eq_false, not_false_eq_true, or_false, false_or, true_or, or_true, and_true, true_and, Bool.false_eq_true, Bool.true_eq_false, reduceCtorEq, eq_self]
    rw [orI_s]
    cases rn st i <;> simp (disch := omega) only [↓lm1, ↓lm2, i0, i1, i2, i3, i4, i5, i6, i7, i8, i9, i10, i12, i16, i20, i24, i31, i32, i44, i48, i57, i59, i63, i64, i74, i75, i90, i96, i97, i99, i100, i122, i139, i140, i144, i192, i200, i240, i255, i304, i309, i310, i311, i323, i324, i325, i899, i900, i975, i999, i5200, i4875, i65536, i65537, i15, ob_some, nI_add, nI_clamp, zn_zib, zn_eq, zn_lt, zn_le, m2_lt, m2_le, lt_m2, le_m2, eq_m2, m2_eq, m1_lt, m1_le, lt_m1, le_m1, eq_m1, m1_eq, m1_m2, m2_m1, m2_lt_m1, bI_0, bI_1, bI_t, bI_f, bI_bo, nI0_bo, nI1_bo, if_true, if_false, ite_true, ite_false, Nat.zero_add, Nat.not_lt_zero, Nat.zero_le, not_true_eq_false, not_false_eq_true, or_false, false_or, true_or, or_true, and_true, true_and, Bool.false_eq_true, Bool.true_eq_false, reduceCtorEq, eq_self]
  · unfold b_X6_runningSlots_4
    simp (disch := omega) only [Nat.le_refl, ↓lm1, ↓lm2, i0, i1, i2, i3, i4, i5, i6, i7, i8, i9, i10, i12, i16, i20, i24, i31, i32, i44, i48, i57, i59, i63, i64, i74, i75, i90, i96, i97, i99, i100, i122, i139, i140, i144, i192, i200, i240, i255, i304, i309, i310, i311, i323, i324, i325, i899, i900, i975, i999, i5200, i4875, i65536, i65537, i15, ob_some, nI_add, nI_clamp, zn_zib, zn_eq, zn_lt, zn_le, m2_lt, m2_le, lt_m2, le_m2, eq_m2, m2_eq, m1_lt, m1_le, lt_m1, le_m1, eq_m1, m1_eq, m1_m2, m2_m1, m2_lt_m1, bI_0, bI_1, bI_t, bI_f, bI_bo, nI0_bo, nI1_bo, if_true, if_false, ite_true, ite_false, Nat.zero_add, Nat.not_lt_zero, Nat.zero_le, not_true_eq_false, not_false_eq_true, or_false, false_or, true_or, or_true, and_true, true_and, Bool.false_eq_true, Bool.true_eq_false, reduceCtorEq, eq_self]
theorem X6_slotOf (H : RC R st n m c) {s : Nat} (hs : s < 2 ^ 30) : f_X6_slotOf R (nI s) = some (eo (fi (fun w => decide (st (304 + w) = nI s)) 6)) := by
  have hn := WS_n (RC_W H)
  unfold f_X6_slotOf
  refine zl1_up 6 0 (fun i => ∀ k, k < i → decide (st (304 + k) = nI s) = false) _ (by omega) (by omega) (fun k hk => absurd hk (Nat.not_lt_zero k)) (fun k i hi hI => ?_) (fun k hI => ?_)
  · have h1 : ¬ 6 ≤ i := by omega
    have step : decide (st (304 + i) = nI s) = false → ∀ k, k < i + 1 → decide (st (304 + k) = nI s) = false := fun h k hk => by
      by_cases q : k = i
      · rw [q, h]
      · exact hI k (by omega)
    unfold b_X6_slotOf_2
    rcases RC_w H hi with ⟨e, e2, -⟩ | ⟨t, ht, e, e2, -⟩
    · right
      refine ⟨step (by rw [e]; exact decide_eq_false (by rw [m1_eq (by omega)]; exact id)), ?_⟩
      simp (disch := omega) only [h1, X6_runs H hi, rn_f e, ↓lm1, ↓lm2, i0, i1, i2, i3, i4, i5, i6, i7, i8, i9, i10, i12, i16, i20, i24, i31, i32, i44, i48, i57, i59, i63, i64, i74, i75, i90, i96, i97, i99, i100, i122, i139, i140, i144, i192, i200, i240, i255, i304, i309, i310, i311, i323, i324, i325, i899, i900, i975, i999, i5200, i4875, i65536, i65537, i15, ob_some, nI_add, nI_clamp, zn_zib, zn_eq, zn_lt, zn_le, m2_lt, m2_le, lt_m2, le_m2, eq_m2, m2_eq, m1_lt, m1_le, lt_m1, le_m1, eq_m1, m1_eq, m1_m2, m2_m1, m2_lt_m1, bI_0, bI_1, bI_t, bI_f, bI_bo, nI0_bo, nI1_bo, if_true, if_false, ite_true, ite_false, Nat.zero_add, Nat.not_lt_zero, Nat.zero_le, not_true_eq_false, not_false_eq_true, or_false, false_or, true_or, or_true, and_true, true_and, Bool.false_eq_true, Bool.true_eq_false, reduceCtorEq, eq_self]
    · by_cases q : t = s
      · left
        simp (disch := omega) only [h1, X6_runs H hi, rn_t e (by omega : t < 2 ^ 31), e2, q, ↓lm1, ↓lm2, i0, i1, i2, i3, i4, i5, i6, i7, i8, i9, i10, i12, i16, i20, i24, i31, i32, i44, i48, i57, i59, i63, i64, i74, i75, i90, i96, i97, i99, i100, i122, i139, i140, i144, i192, i200, i240, i255, i304, i309, i310, i311, i323, i324, i325, i899, i900, i975, i999, i5200, i4875, i65536, i65537, i15, ob_some, nI_add, nI_clamp, zn_zib, zn_eq, zn_lt, zn_le, m2_lt, m2_le, lt_m2, le_m2, eq_m2, m2_eq, m1_lt, m1_le, lt_m1, le_m1, eq_m1, m1_eq, m1_m2, m2_m1, m2_lt_m1, bI_0, bI_1, bI_t, bI_f, bI_bo, nI0_bo, nI1_bo, if_true, if_false, ite_true, ite_false, Nat.zero_add, Nat.not_lt_zero, Nat.zero_le, not_true_eq_false, not_false_eq_true, or_false, false_or, true_or, or_true, and_true, true_and, Bool.false_eq_true, Bool.true_eq_false, reduceCtorEq, eq_self]
        rw [fi_eq (a := i) (by omega) (by rw [e, q]; exact decide_eq_true rfl) hI, eo_s]
      · right
        refine ⟨step (by rw [e]; exact decide_eq_false (by rw [zn_eq (by omega) (by omega)]; exact q)), ?_⟩
        simp (disch := omega) only [h1, X6_runs H hi, rn_t e (by omega : t < 2 ^ 31), e2, q, ↓lm1, ↓lm2, i0, i1, i2, i3, i4, i5, i6, i7, i8, i9, i10, i12, i16, i20, i24, i31, i32, i44, i48, i57, i59, i63, i64, i74, i75, i90, i96, i97, i99, i100, i122, i139, i140, i144, i192, i200, i240, i255, i304, i309, i310, i311, i323, i324, i325, i899, i900, i975, i999, i5200, i4875, i65536, i65537, i15, ob_some, nI_add, nI_clamp, zn_zib, zn_eq, zn_lt, zn_le, m2_lt, m2_le, lt_m2, le_m2, eq_m2, m2_eq, m1_lt, m1_le, lt_m1, le_m1, eq_m1, m1_eq, m1_m2, m2_m1, m2_lt_m1, bI_0, bI_1, bI_t, bI_f, bI_bo, nI0_bo, nI1_bo, if_true, if_false, ite_true, ite_false, Nat.zero_add, Nat.not_lt_zero, Nat.zero_le, not_true_eq_false, not_false_eq_true, or_false, false_or, true_or, or_true, and_true, true_and, Bool.false_eq_true, Bool.true_eq_false, reduceCtorEq, eq_self]
  · unfold b_X6_slotOf_2
    simp (disch := omega) only [Nat.le_refl, ↓lm1, ↓lm2, i0, i1, i2, i3, i4, i5, i6, i7, i8, i9, i10, i12, i16, i20, i24, i31, i32, i44, i48, i57, i59, i63, i64, i74, i75, i90, i96, i97, i99, i100, i122, i139, i140, i144, i192, i200, i240, i255, i304, i309, i310, i311, i323, i324, i325, i899, i900, i975, i999, i5200, i4875, i65536, i65537, i15, ob_some, nI_add, nI_clamp, zn_zib, zn_eq, zn_lt, zn_le, m2_lt, m2_le, lt_m2, le_m2, eq_m2, m2_eq, m1_lt, m1_le, lt_m1, le_m1, eq_m1, m1_eq, m1_m2, m2_m1, m2_lt_m1, bI_0, bI_1, bI_t, bI_f, bI_bo, nI0_bo, nI1_bo, if_true, if_false, ite_true, ite_false, Nat.zero_add, Nat.not_lt_zero, Nat.zero_le, not_true_eq_false, not_false_eq_true, or_false, false_or, true_or, or_true, and_true, true_and, Bool.false_eq_true, Bool.true_eq_false, reduceCtorEq, eq_self]
    rw [fi_eqn hI, eo_n]
theorem X6_madeBy (H : RC R st n m c) (x : Int32) : f_X6_madeBy R x = some (cI (fun v => lv st v && decide (st (96 + v) = x)) 48) := by
  have hm := WS_m (RC_W H)
  unfold f_X6_madeBy
  refine zl2_fold 48 (cI (fun v => lv st v && decide (st (96 + v) = x))) _ (by omega) (fun k i hi => ?_) (fun k => ?_)
  · have h1 : ¬ 48 ≤ i := by omega
    unfold b_X6_madeBy_4
    rw [cI_s]
    generalize cI (fun v => lv st v && decide (st (96 + v) = x)) i = F
    rcases RC_v H hi with ⟨e, -⟩ | ⟨r, hr, e, -, -, f1, f2⟩
    · simp (disch := omega) only [h1, X6_isVersion H hi, lv_f e, Bool.false_and, ↓lm1, ↓lm2, i0, i1, i2, i3, i4, i5, i6, i7, i8, i9, i10, i12, i16, i20, i24, i31, i32, i44, i48, i57, i59, i63, i64, i74, i75, i90, i96, i97, i99, i100, i122, i139, i140, i144, i192, i200, i240, i255, i304, i309, i310, i311, i323, i324, i325, i899, i900, i975, i999, i5200, i4875, i65536, i65537, i15, ob_some, nI_add, nI_clamp, zn_zib, zn_eq, zn_lt, zn_le, m2_lt, m2_le, lt_m2, le_m2, eq_m2, m2_eq, m1_lt, m1_le, lt_m1, le_m1, eq_m1, m1_eq, m1_m2, m2_m1, m2_lt_m1, bI_0, bI_1, bI_t, bI_f, bI_bo, nI0_bo, nI1_bo, if_true, if_false, ite_true, ite_false, Nat.zero_add, Nat.not_lt_zero, Nat.zero_le, not_true_eq_false, not_false_eq_true, or_false, false_or, true_or, or_true, and_true, true_and, Bool.false_eq_true, Bool.true_eq_false, reduceCtorEq, eq_self]
    · by_cases q : st (96 + i) = x
      · simp (disch := omega) only [h1, X6_isVersion H hi, lv_t e (by omega : r < 100), f1, q, decide_true, Bool.true_and, ↓lm1, ↓lm2, i0, i1, i2, i3, i4, i5, i6, i7, i8, i9, i10, i12, i16, i20, i24, i31, i32, i44, i48, i57, i59, i63, i64, i74, i75, i90, i96, i97, i99, i100, i122, i139, i140, i144, i192, i200, i240, i255, i304, i309, i310, i311, i323, i324, i325, i899, i900, i975, i999, i5200, i4875, i65536, i65537, i15, ob_some, nI_add, nI_clamp, zn_zib, zn_eq, zn_lt, zn_le, m2_lt, m2_le, lt_m2, le_m2, eq_m2, m2_eq, m1_lt, m1_le, lt_m1, le_m1, eq_m1, m1_eq, m1_m2, m2_m1, m2_lt_m1, bI_0, bI_1, bI_t, bI_f, bI_bo, nI0_bo, nI1_bo, if_true, if_false, ite_true, ite_false, Nat.zero_add, Nat.not_lt_zero, Nat.zero_le, not_true_eq_false, not_false_eq_true, or_false, false_or, true_or, or_true, and_true, true_and, Bool.false_eq_true, Bool.true_eq_false, reduceCtorEq, eq_self]
      · simp (disch := omega) only [h1, X6_isVersion H hi, lv_t e (by omega : r < 100), f1, q, decide_false, Bool.true_and, ↓lm1, ↓lm2, i0, i1, i2, i3, i4, i5, i6, i7, i8, i9, i10, i12, i16, i20, i24, i31, i32, i44, i48, i57, i59, i63, i64, i74, i75, i90, i96, i97, i99, i100, i122, i139, i140, i144, i192, i200, i240, i255, i304, i309, i310, i311, i323, i324, i325, i899, i900, i975, i999, i5200, i4875, i65536, i65537, i15, ob_some, nI_add, nI_clamp, zn_zib, zn_eq, zn_lt, zn_le, m2_lt, m2_le, lt_m2, le_m2, eq_m2, m2_eq, m1_lt, m1_le, lt_m1, le_m1, eq_m1, m1_eq, m1_m2, m2_m1, m2_lt_m1, bI_0, bI_1, bI_t, bI_f, bI_bo, nI0_bo, nI1_bo, if_true, if_false, ite_true, ite_false, Nat.zero_add, Nat.not_lt_zero, Nat.zero_le, not_true_eq_false, not_false_eq_true, or_false, false_or, true_or, or_true, and_true, true_and, Bool.false_eq_true, Bool.true_eq_false, reduceCtorEq, eq_self]
  · unfold b_X6_madeBy_4
    simp (disch := omega) only [Nat.le_refl, ↓lm1, ↓lm2, i0, i1, i2, i3, i4, i5, i6, i7, i8, i9, i10, i12, i16, i20, i24, i31, i32, i44, i48, i57, i59, i63, i64, i74, i75, i90, i96, i97, i99, i100, i122, i139, i140, i144, i192, i200, i240, i255, i304, i309, i310, i311, i323, i324, i325, i899, i900, i975, i999, i5200, i4875, i65536, i65537, i15, ob_some, nI_add, nI_clamp, zn_zib, zn_eq, zn_lt, zn_le, m2_lt, m2_le, lt_m2, le_m2, eq_m2, m2_eq, m1_lt, m1_le, lt_m1, le_m1, eq_m1, m1_eq, m1_m2, m2_m1, m2_lt_m1, bI_0, bI_1, bI_t, bI_f, bI_bo, nI0_bo, nI1_bo, if_true, if_false, ite_true, ite_false, Nat.zero_add, Nat.not_lt_zero, Nat.zero_le, not_true_eq_false, not_false_eq_true, or_false, false_or, true_or, or_true, and_true, true_and, Bool.false_eq_true, Bool.true_eq_false, reduceCtorEq, eq_self]
theorem X6_endedBy (H : RC R st n m c) (x : Int32) : f_X6_endedBy R x = some (cI (fun v => lv st v && decide (st (144 + v) = x)) 48) := by
  have hm := WS_m (RC_W H)
  unfold f_X6_endedBy
  refine zl2_fold 48 (cI (fun v => lv st v && decide (st (144 + v) = x))) _ (by omega) (fun k i hi => ?_) (fun k => ?_)
  · have h1 : ¬ 48 ≤ i := by omega
    unfold b_X6_endedBy_4
    rw [cI_s]
    generalize cI (fun v => lv st v && decide (st (144 + v) = x)) i = F
    rcases RC_v H hi with ⟨e, -⟩ | ⟨r, hr, e, -, -, f1, f2⟩
    · simp (disch := omega) only [h1, X6_isVersion H hi, lv_f e, Bool.false_and, ↓lm1, ↓lm2, i0, i1, i2, i3, i4, i5, i6, i7, i8, i9, i10, i12, i16, i20, i24, i31, i32, i44, i48, i57, i59, i63, i64, i74, i75, i90, i96, i97, i99, i100, i122, i139, i140, i144, i192, i200, i240, i255, i304, i309, i310, i311, i323, i324, i325, i899, i900, i975, i999, i5200, i4875, i65536, i65537, i15, ob_some, nI_add, nI_clamp, zn_zib, zn_eq, zn_lt, zn_le, m2_lt, m2_le, lt_m2, le_m2, eq_m2, m2_eq, m1_lt, m1_le, lt_m1, le_m1, eq_m1, m1_eq, m1_m2, m2_m1, m2_lt_m1, bI_0, bI_1, bI_t, bI_f, bI_bo, nI0_bo, nI1_bo, if_true, if_false, ite_true, ite_false, Nat.zero_add, Nat.not_lt_zero, Nat.zero_le, not_true_eq_false, not_false_eq_true, or_false, false_or, true_or, or_true, and_true, true_and, Bool.false_eq_true, Bool.true_eq_false, reduceCtorEq, eq_self]
    · by_cases q : st (144 + i) = x
      · simp (disch := omega) only [h1, X6_isVersion H hi, lv_t e (by omega : r < 100), f2, q, decide_true, Bool.true_and, ↓lm1, ↓lm2, i0, i1, i2, i3, i4, i5, i6, i7, i8, i9, i10, i12, i16, i20, i24, i31, i32, i44, i48, i57, i59, i63, i64, i74, i75, i90, i96, i97, i99, i100, i122, i139, i140, i144, i192, i200, i240, i255, i304, i309, i310, i311, i323, i324, i325, i899, i900, i975, i999, i5200, i4875, i65536, i65537, i15, ob_some, nI_add, nI_clamp, zn_zib, zn_eq, zn_lt, zn_le, m2_lt, m2_le, lt_m2, le_m2, eq_m2, m2_eq, m1_lt, m1_le, lt_m1, le_m1, eq_m1, m1_eq, m1_m2, m2_m1, m2_lt_m1, bI_0, bI_1, bI_t, bI_f, bI_bo, nI0_bo, nI1_bo, if_true, if_false, ite_true, ite_false, Nat.zero_add, Nat.not_lt_zero, Nat.zero_le, not_true_eq_false, not_false_eq_true, or_false, false_or, true_or, or_true, and_true, true_and, Bool.false_eq_true, Bool.true_eq_false, reduceCtorEq, eq_self]
      · simp (disch := omega) only [h1, X6_isVersion H hi, lv_t e (by omega : r < 100), f2, q, decide_false, Bool.true_and, ↓lm1, ↓lm2, i0, i1, i2, i3, i4, i5, i6, i7, i8, i9, i10, i12, i16, i20, i24, i31, i32, i44, i48, i57, i59, i63, i64, i74, i75, i90, i96, i97, i99, i100, i122, i139, i140, i144, i192, i200, i240, i255, i304, i309, i310, i311, i323, i324, i325, i899, i900, i975, i999, i5200, i4875, i65536, i65537, i15, ob_some, nI_add, nI_clamp, zn_zib, zn_eq, zn_lt, zn_le, m2_lt, m2_le, lt_m2, le_m2, eq_m2, m2_eq, m1_lt, m1_le, lt_m1, le_m1, eq_m1, m1_eq, m1_m2, m2_m1, m2_lt_m1, bI_0, bI_1, bI_t, bI_f, bI_bo, nI0_bo, nI1_bo, if_true, if_false, ite_true, ite_false, Nat.zero_add, Nat.not_lt_zero, Nat.zero_le, not_true_eq_false, not_false_eq_true, or_false, false_or, true_or, or_true, and_true, true_and, Bool.false_eq_true, Bool.true_eq_false, reduceCtorEq, eq_self]
  · unfold b_X6_endedBy_4
    simp (disch := omega) only [Nat.le_refl, ↓lm1, ↓lm2, i0, i1, i2, i3, i4, i5, i6, i7, i8, i9, i10, i12, i16, i20, i24, i31, i32, i44, i48, i57, i59, i63, i64, i74, i75, i90, i96, i97, i99, i100, i122, i139, i140, i144, i192, i200, i240, i255, i304, i309, i310, i311, i323, i324, i325, i899, i900, i975, i999, i5200, i4875, i65536, i65537, i15, ob_some, nI_add, nI_clamp, zn_zib, zn_eq, zn_lt, zn_le, m2_lt, m2_le, lt_m2, le_m2, eq_m2, m2_eq, m1_lt, m1_le, lt_m1, le_m1, eq_m1, m1_eq, m1_m2, m2_m1, m2_lt_m1, bI_0, bI_1, bI_t, bI_f, bI_bo, nI0_bo, nI1_bo, if_true, if_false, ite_true, ite_false, Nat.zero_add, Nat.not_lt_zero, Nat.zero_le, not_true_eq_false, not_false_eq_true, or_false, false_or, true_or, or_true, and_true, true_and, Bool.false_eq_true, Bool.true_eq_false, reduceCtorEq, eq_self]
theorem X6_chainLength (H : RC R st n m c) {r : Nat} (hr : r < m) : f_X6_chainLength R (nI r) = some (cI (fun v => decide (st v = nI (r + 1))) 48) := by
  have hm := WS_m (RC_W H)
  unfold f_X6_chainLength
  refine zl2_fold 48 (cI (fun v => decide (st v = nI (r + 1)))) _ (by omega) (fun k i hi => ?_) (fun k => ?_)
  · have h1 : ¬ 48 ≤ i := by omega
    unfold b_X6_chainLength_4
    rw [cI_s]
    generalize cI (fun v => decide (st v = nI (r + 1))) i = F
    by_cases q : st i = nI (r + 1)
    · simp (disch := omega) only [h1, X6_rowOf H hi, rwI_eq (RC_W H) hi, q, decide_true, ↓lm1, ↓lm2, i0, i1, i2, i3, i4, i5, i6, i7, i8, i9, i10, i12, i16, i20, i24, i31, i32, i44, i48, i57, i59, i63, i64, i74, i75, i90, i96, i97, i99, i100, i122, i139, i140, i144, i192, i200, i240, i255, i304, i309, i310, i311, i323, i324, i325, i899, i900, i975, i999, i5200, i4875, i65536, i65537, i15, ob_some, nI_add, nI_clamp, zn_zib, zn_eq, zn_lt, zn_le, m2_lt, m2_le, lt_m2, le_m2, eq_m2, m2_eq, m1_lt, m1_le, lt_m1, le_m1, eq_m1, m1_eq, m1_m2, m2_m1, m2_lt_m1, bI_0, bI_1, bI_t, bI_f, bI_bo, nI0_bo, nI1_bo, if_true, if_false, ite_true, ite_false, Nat.zero_add, Nat.not_lt_zero, Nat.zero_le, not_true_eq_false, not_false_eq_true, or_false, false_or, true_or, or_true, and_true, true_and, Bool.false_eq_true, Bool.true_eq_false, reduceCtorEq, eq_self]
    · simp (disch := omega) only [h1, X6_rowOf H hi, rwI_eq (RC_W H) hi, q, decide_false, ↓lm1, ↓lm2, i0, i1, i2, i3, i4, i5, i6, i7, i8, i9, i10, i12, i16, i20, i24, i31, i32, i44, i48, i57, i59, i63, i64, i74, i75, i90, i96, i97, i99, i100, i122, i139, i140, i144, i192, i200, i240, i255, i304, i309, i310, i311, i323, i324, i325, i899, i900, i975, i999, i5200, i4875, i65536, i65537, i15, ob_some, nI_add, nI_clamp, zn_zib, zn_eq, zn_lt, zn_le, m2_lt, m2_le, lt_m2, le_m2, eq_m2, m2_eq, m1_lt, m1_le, lt_m1, le_m1, eq_m1, m1_eq, m1_m2, m2_m1, m2_lt_m1, bI_0, bI_1, bI_t, bI_f, bI_bo, nI0_bo, nI1_bo, if_true, if_false, ite_true, ite_false, Nat.zero_add, Nat.not_lt_zero, Nat.zero_le, not_true_eq_false, not_false_eq_true, or_false, false_or, true_or, or_true, and_true, true_and, Bool.false_eq_true, Bool.true_eq_false, reduceCtorEq, eq_self]
  · unfold b_X6_chainLength_4
    simp (disch := omega) only [Nat.le_refl, ↓lm1, ↓lm2, i0, i1, i2, i3, i4, i5, i6, i7, i8, i9, i10, i12, i16, i20, i24, i31, i32, i44, i48, i57, i59, i63, i64, i74, i75, i90, i96, i97, i99, i100, i122, i139, i140, i144, i192, i200, i240, i255, i304, i309, i310, i311, i323, i324, i325, i899, i900, i975, i999, i5200, i4875, i65536, i65537, i15, ob_some, nI_add, nI_clamp, zn_zib, zn_eq, zn_lt, zn_le, m2_lt, m2_le, lt_m2, le_m2, eq_m2, m2_eq, m1_lt, m1_le, lt_m1, le_m1, eq_m1, m1_eq, m1_m2, m2_m1, m2_lt_m1, bI_0, bI_1, bI_t, bI_f, bI_bo, nI0_bo, nI1_bo, if_true, if_false, ite_true, ite_false, Nat.zero_add, Nat.not_lt_zero, Nat.zero_le, not_true_eq_false, not_false_eq_true, or_false, false_or, true_or, or_true, and_true, true_and, Bool.false_eq_true, Bool.true_eq_false, reduceCtorEq, eq_self]
/-! who looks -/
theorem X6_countingAsOf (H : RC R st n m c) {t : Nat} (ht : t < n) : ∃ C, f_X6_countingAsOf R (nI t) = some C ∧ ∀ s, s < n → lb C s = ca st n t s := by
  have hn := WS_n (RC_W H)
  refine ⟨Rows_doneStamps R &&& ot n t, ?_, fun s hs => ?_⟩
  · unfold f_X6_countingAsOf
    rw [X6_olderThan H ht, ob_some]
  · rw [lb_and, RC_dn H (by omega), lb_ot (by omega), decide_eq_true hs, Bool.true_and]
    rfl
theorem X6_countingFresh (H : RC R st n m c) : f_X6_countingFresh R = some (Rows_doneStamps R) := rfl
theorem lb_not {x : Int64} {s : Nat} (hs : s < 64) : lb (x ^^^ (-1)) s = !lb x s := by
  rw [lb_xor, lb_m1 hs]
  cases lb x s <;> rfl
theorem X6_countingFor (H : RC R st n m c) {w : Nat} (hw : w < 6) (hr : rn st w = true) : ∃ C, f_X6_countingFor R (nI w) = some C ∧ ∀ s, s < n → lb C s = cw st n w s := by
  have hn := WS_n (RC_W H)
  rcases RC_w H hw with ⟨e, -⟩ | ⟨t, ht, e, e2, e3, -⟩
  · rw [rn_f e] at hr
    cases hr
  · refine ⟨jlshl 1 (nI t) ||| ((Rows_doneStamps R &&& (Rows_held R w ^^^ (-1))) &&& ot n t), ?_, fun s hs => ?_⟩
    · unfold f_X6_countingFor
      rw [X6_runs H hw, hr, ob_some, bI_t]
      have h0 : ¬ nI 1 = 0 := by decide
      rw [if_neg h0]
      simp (disch := omega) only [zn_zib, nI_clamp, if_true, e2, X6_olderThan H ht, ob_some]
    · unfold cw
      rw [lb_or, lb_one (by omega), lb_and, lb_and, RC_dn H (by omega), lb_not (by omega), e3 s (by omega), lb_ot (by omega), decide_eq_true hs, Bool.true_and, e, nI_clamp (by omega)]
      simp (disch := omega) only [zn_eq]
      by_cases q : s = t
      · subst q
        simp
      · have q2 : ¬ t = s := fun z => q z.symm
        simp [q, q2]
theorem X6_isSeen (H : RC R st n m c) (C : Int64) {v : Nat} (hv : v < 48) : f_X6_isSeen R (nI v) C = some (bI (sees st (lb C) v)) := by
  have hn := WS_n (RC_W H)
  have hm := WS_m (RC_W H)
  unfold f_X6_isSeen sees b_X6_isSeen_39
  rw [X6_isVersion H hv]
  rcases RC_v H hv with ⟨e, -⟩ | ⟨r, hr, e, -, -, f1, f2⟩
  · simp (disch := omega) only [lv_f e, Bool.false_and, ↓lm1, ↓lm2, i0, i1, i2, i3, i4, i5, i6, i7, i8, i9, i10, i12, i16, i20, i24, i31, i32, i44, i48, i57, i59, i63, i64, i74, i75, i90, i96, i97, i99, i100, i122, i139, i140, i144, i192, i200, i240, i255, i304, i309, i310, i311, i323, i324, i325, i899, i900, i975, i999, i5200, i4875, i65536, i65537, i15, ob_some, nI_add, nI_clamp, zn_zib, zn_eq, zn_lt, zn_le, m2_lt, m2_le, lt_m2, le_m2, eq_m2, m2_eq, m1_lt, m1_le, lt_m1, le_m1, eq_m1, m1_eq, m1_m2, m2_m1, m2_lt_m1, bI_0, bI_1, bI_t, bI_f, bI_bo, nI0_bo, nI1_bo, if_true, if_false, ite_true, ite_false, Nat.zero_add, Nat.not_lt_zero, Nat.zero_le, not_true_eq_false, not_false_eq_true, or_false, false_or, true_or, or_true, and_true, true_and, Bool.false_eq_true, Bool.true_eq_false, reduceCtorEq, eq_self]
  · simp (disch := omega) only [lv_t e (by omega : r < 100), Bool.true_and, f1, f2, hol_ok (by omega : n ≤ 64) _ (WS_f (RC_W H) hv), hol_ok (by omega : n ≤ 64) _ (WS_d (RC_W H) hv), ↓lm1, ↓lm2, i0, i1, i2, i3, i4, i5, i6, i7, i8, i9, i10, i12, i16, i20, i24, i31, i32, i44, i48, i57, i59, i63, i64, i74, i75, i90, i96, i97, i99, i100, i122, i139, i140, i144, i192, i200, i240, i255, i304, i309, i310, i311, i323, i324, i325, i899, i900, i975, i999, i5200, i4875, i65536, i65537, i15, ob_some, nI_add, nI_clamp, zn_zib, zn_eq, zn_lt, zn_le, m2_lt, m2_le, lt_m2, le_m2, eq_m2, m2_eq, m1_lt, m1_le, lt_m1, le_m1, eq_m1, m1_eq, m1_m2, m2_m1, m2_lt_m1, bI_0, bI_1, bI_t, bI_f, bI_bo, nI0_bo, nI1_bo, if_true, if_false, ite_true, ite_false, Nat.zero_add, Nat.not_lt_zero, Nat.zero_le, not_true_eq_false, not_false_eq_true, or_false, false_or, true_or, or_true, and_true, true_and, Bool.false_eq_true, Bool.true_eq_false, reduceCtorEq, eq_self]
    by_cases q : st (96 + v) = m2
    · simp (disch := omega) only [q, decide_true, Bool.true_or, Bool.true_and, ↓lm1, ↓lm2, i0, i1, i2, i3, i4, i5, i6, i7, i8, i9, i10, i12, i16, i20, i24, i31, i32, i44, i48, i57, i59, i63, i64, i74, i75, i90, i96, i97, i99, i100, i122, i139, i140, i144, i192, i200, i240, i255, i304, i309, i310, i311, i323, i324, i325, i899, i900, i975, i999, i5200, i4875, i65536, i65537, i15, ob_some, nI_add, nI_clamp, zn_zib, zn_eq, zn_lt, zn_le, m2_lt, m2_le, lt_m2, le_m2, eq_m2, m2_eq, m1_lt, m1_le, lt_m1, le_m1, eq_m1, m1_eq, m1_m2, m2_m1, m2_lt_m1, bI_0, bI_1, bI_t, bI_f, bI_bo, nI0_bo, nI1_bo, if_true, if_false, ite_true, ite_false, Nat.zero_add, Nat.not_lt_zero, Nat.zero_le, not_true_eq_false, not_false_eq_true, or_false, false_or, true_or, or_true, and_true, true_and, Bool.false_eq_true, Bool.true_eq_false, reduceCtorEq, eq_self]
      cases has (lb C) (st (144 + v)) <;> simp (disch := omega) only [Bool.not_true, Bool.not_false, ↓lm1, ↓lm2, i0, i1, i2, i3, i4, i5, i6, i7, i8, i9, i10, i12, i16, i20, i24, i31, i32, i44, i48, i57, i59, i63, i64, i74, i75, i90, i96, i97, i99, i100, i122, i139, i140, i144, i192, i200, i240, i255, i304, i309, i310, i311, i323, i324, i325, i899, i900, i975, i999, i5200, i4875, i65536, i65537, i15, ob_some, nI_add, nI_clamp, zn_zib, zn_eq, zn_lt, zn_le, m2_lt, m2_le, lt_m2, le_m2, eq_m2, m2_eq, m1_lt, m1_le, lt_m1, le_m1, eq_m1, m1_eq, m1_m2, m2_m1, m2_lt_m1, bI_0, bI_1, bI_t, bI_f, bI_bo, nI0_bo, nI1_bo, if_true, if_false, ite_true, ite_false, Nat.zero_add, Nat.not_lt_zero, Nat.zero_le, not_true_eq_false, not_false_eq_true, or_false, false_or, true_or, or_true, and_true, true_and, Bool.false_eq_true, Bool.true_eq_false, reduceCtorEq, eq_self]
    · simp (disch := omega) only [q, decide_false, Bool.false_or, ↓lm1, ↓lm2, i0, i1, i2, i3, i4, i5, i6, i7, i8, i9, i10, i12, i16, i20, i24, i31, i32, i44, i48, i57, i59, i63, i64, i74, i75, i90, i96, i97, i99, i100, i122, i139, i140, i144, i192, i200, i240, i255, i304, i309, i310, i311, i323, i324, i325, i899, i900, i975, i999, i5200, i4875, i65536, i65537, i15, ob_some, nI_add, nI_clamp, zn_zib, zn_eq, zn_lt, zn_le, m2_lt, m2_le, lt_m2, le_m2, eq_m2, m2_eq, m1_lt, m1_le, lt_m1, le_m1, eq_m1, m1_eq, m1_m2, m2_m1, m2_lt_m1, bI_0, bI_1, bI_t, bI_f, bI_bo, nI0_bo, nI1_bo, if_true, if_false, ite_true, ite_false, Nat.zero_add, Nat.not_lt_zero, Nat.zero_le, not_true_eq_false, not_false_eq_true, or_false, false_or, true_or, or_true, and_true, true_and, Bool.false_eq_true, Bool.true_eq_false, reduceCtorEq, eq_self]
      cases has (lb C) (st (96 + v)) <;> cases has (lb C) (st (144 + v)) <;> simp (disch := omega) only [Bool.not_true, Bool.not_false, Bool.and_true, Bool.and_false, ↓lm1, ↓lm2, i0, i1, i2, i3, i4, i5, i6, i7, i8, i9, i10, i12, i16, i20, i24, i31, i32, i44, i48, i57, i59, i63, i64, i74, i75, i90, i96, i97, i99, i100, i122, i139, i140, i144, i192, i200, i240, i255, i304, i309, i310, i311, i323, i324, i325, i899, i900, i975, i999, i5200, i4875, i65536, i65537, i15, ob_some, nI_add, nI_clamp, zn_zib, zn_eq, zn_lt, zn_le, m2_lt, m2_le, lt_m2, le_m2, eq_m2, m2_eq, m1_lt, m1_le, lt_m1, le_m1, eq_m1, m1_eq, m1_m2, m2_m1, m2_lt_m1, bI_0, bI_1, bI_t, bI_f, bI_bo, nI0_bo, nI1_bo, if_true, if_false, ite_true, ite_false, Nat.zero_add, Nat.not_lt_zero, Nat.zero_le, not_true_eq_false, not_false_eq_true, or_false, false_or, true_or, or_true, and_true, true_and, Bool.false_eq_true, Bool.true_eq_false, reduceCtorEq, eq_self]
theorem X6_madeAt {cN : Nat} {md : Nat → Nat} (hc : Rows_count R = nI cN) (hc2 : cN ≤ 48) (hmd : ∀ i, i < cN → Rows_made R i = nI (md i) ∧ md i < 48 ∧ st (md i) ≠ nI 0) {i : Nat} (hi : i < cN) : f_X6_madeAt R (nI i) = some (nI (md i)) := by
  have h1 : ¬ cN ≤ i := by omega
  have h2 : ¬ 48 ≤ i := by omega
  unfold f_X6_madeAt
  simp (disch := omega) only [hc, h1, h2, (hmd i hi).1, ↓lm1, ↓lm2, i0, i1, i2, i3, i4, i5, i6, i7, i8, i9, i10, i12, i16, i20, i24, i31, i32, i44, i48, i57, i59, i63, i64, i74, i75, i90, i96, i97, i99, i100, i122, i139, i140, i144, i192, i200, i240, i255, i304, i309, i310, i311, i323, i324, i325, i899, i900, i975, i999, i5200, i4875, i65536, i65537, i15, ob_some, nI_add, nI_clamp, zn_zib, zn_eq, zn_lt, zn_le, m2_lt, m2_le, lt_m2, le_m2, eq_m2, m2_eq, m1_lt, m1_le, lt_m1, le_m1, eq_m1, m1_eq, m1_m2, m2_m1, m2_lt_m1, bI_0, bI_1, bI_t, bI_f, bI_bo, nI0_bo, nI1_bo, if_true, if_false, ite_true, ite_false, Nat.zero_add, Nat.not_lt_zero, Nat.zero_le, not_true_eq_false, not_false_eq_true, or_false, false_or, true_or, or_true, and_true, true_and, Bool.false_eq_true, Bool.true_eq_false, reduceCtorEq, eq_self]
theorem bst_last {cN : Nat} {md : Nat → Nat} {P : Nat → Bool} (hmd : ∀ i, i < cN → Rows_made R i = nI (md i) ∧ md i < 48 ∧ st (md i) ≠ nI 0) (ho : ∀ i j, i < j → j < cN → od st (md i) < od st (md j)) (hs : ∀ v, v < 48 → st v ≠ nI 0 → ∃ i, i < cN ∧ md i = v) (hP : ∀ v, P v = true → st v ≠ nI 0) {i : Nat} (hi : i < cN) (h1 : P (md i) = true) (h2 : ∀ j, i < j → j < cN → P (md j) = false) : bst st P 48 = some (md i) := by
  refine bst_eq (hmd i hi).2.1 h1 (fun k hk hpk hne => ?_)
  obtain ⟨j, hj, rfl⟩ := hs k hk (hP k hpk)
  by_cases q : i < j
  · rw [h2 j q hj] at hpk
    cases hpk
  · exact ho j i (by by_cases z : j = i; · exact absurd (by rw [z]) hne
                     · omega) hi
theorem bst_noneO {cN : Nat} {md : Nat → Nat} {P : Nat → Bool} (hs : ∀ v, v < 48 → st v ≠ nI 0 → ∃ i, i < cN ∧ md i = v) (hP : ∀ v, P v = true → st v ≠ nI 0) (h2 : ∀ j, j < cN → P (md j) = false) : bst st P 48 = none := by
  refine bst_eqn (fun k hk => ?_)
  cases hp : P k
  · rfl
  · obtain ⟨j, hj, rfl⟩ := hs k hk (hP k hp)
    rw [h2 j hj] at hp
    cases hp
theorem sp_live {C : Nat → Bool} {r v : Nat} (h : sp st C r v = true) : st v ≠ nI 0 := by
  unfold sp sees at h
  rw [Bool.and_eq_true, Bool.and_eq_true, Bool.and_eq_true] at h
  exact lv_ne.mp h.2.1.1
theorem lp_live {r : Nat} (hr : r < 100) {v : Nat} (h : lp st r v = true) : st v ≠ nI 0 := by
  unfold lp at h
  rw [Bool.and_eq_true, decide_eq_true_eq] at h
  exact lv_ne.mp (lv_t h.1 hr)
theorem X6_versionSeen (H : RC R st n m c) (C : Int64) {r : Nat} (hr : r < m) : f_X6_versionSeen R (nI r) C = some (eo (bst st (sp st (lb C) r) 48)) := by
  have hm := WS_m (RC_W H)
  obtain ⟨cN, md, hc, hc2, hmd, ho, hs⟩ := RC_o H
  unfold f_X6_versionSeen
  rw [hc]
  refine zl1_dn cN (fun i => ∀ j, i ≤ j → j < cN → sp st (lb C) r (md j) = false) _ (by omega) (fun j h1 h2 => by omega) (fun k i hi hI => ?_) (fun k hI => ?_)
  · have hv := (hmd i hi).2.1
    unfold b_X6_versionSeen_8
    simp (disch := omega) only [X6_madeAt hc hc2 hmd hi, X6_rowOf H hv, rwI_eq (RC_W H) hv, X6_isSeen H _ hv, ↓lm1, ↓lm2, i0, i1, i2, i3, i4, i5, i6, i7, i8, i9, i10, i12, i16, i20, i24, i31, i32, i44, i48, i57, i59, i63, i64, i74, i75, i90, i96, i97, i99, i100, i122, i139, i140, i144, i192, i200, i240, i255, i304, i309, i310, i311, i323, i324, i325, i899, i900, i975, i999, i5200, i4875, i65536, i65537, i15, ob_some, nI_add, nI_clamp, zn_zib, zn_eq, zn_lt, zn_le, m2_lt, m2_le, lt_m2, le_m2, eq_m2, m2_eq, m1_lt, m1_le, lt_m1, le_m1, eq_m1, m1_eq, m1_m2, m2_m1, m2_lt_m1, bI_0, bI_1, bI_t, bI_f, bI_bo, nI0_bo, nI1_bo, if_true, if_false, ite_true, ite_false, Nat.zero_add, Nat.not_lt_zero, Nat.zero_le, not_true_eq_false, not_false_eq_true, or_false, false_or, true_or, or_true, and_true, true_and, Bool.false_eq_true, Bool.true_eq_false, reduceCtorEq, eq_self]
    cases hp : sp st (lb C) r (md i)
    · right
      refine ⟨fun j h1 h2 => ?_, ?_⟩
      · by_cases q : j = i
        · rw [q, hp]
        · exact hI j (by omega) h2
      · unfold sp at hp
        by_cases q : st (md i) = nI (r + 1)
        · rw [decide_eq_true q, Bool.true_and] at hp
          simp (disch := omega) only [q, hp, ↓lm1, ↓lm2, i0, i1, i2, i3, i4, i5, i6, i7, i8, i9, i10, i12, i16, i20, i24, i31, i32, i44, i48, i57, i59, i63, i64, i74, i75, i90, i96, i97, i99, i100, i122, i139, i140, i144, i192, i200, i240, i255, i304, i309, i310, i311, i323, i324, i325, i899, i900, i975, i999, i5200, i4875, i65536, i65537, i15, ob_some, nI_add, nI_clamp, zn_zib, zn_eq, zn_lt, zn_le, m2_lt, m2_le, lt_m2, le_m2, eq_m2, m2_eq, m1_lt, m1_le, lt_m1, le_m1, eq_m1, m1_eq, m1_m2, m2_m1, m2_lt_m1, bI_0, bI_1, bI_t, bI_f, bI_bo, nI0_bo, nI1_bo, if_true, if_false, ite_true, ite_false, Nat.zero_add, Nat.not_lt_zero, Nat.zero_le, not_true_eq_false, not_false_eq_true, or_false, false_or, true_or, or_true, and_true, true_and, Bool.false_eq_true, Bool.true_eq_false, reduceCtorEq, eq_self]
        · simp (disch := omega) only [q, ↓lm1, ↓lm2, i0, i1, i2, i3, i4, i5, i6, i7, i8, i9, i10, i12, i16, i20, i24, i31, i32, i44, i48, i57, i59, i63, i64, i74, i75, i90, i96, i97, i99, i100, i122, i139, i140, i144, i192, i200, i240, i255, i304, i309, i310, i311, i323, i324, i325, i899, i900, i975, i999, i5200, i4875, i65536, i65537, i15, ob_some, nI_add, nI_clamp, zn_zib, zn_eq, zn_lt, zn_le, m2_lt, m2_le, lt_m2, le_m2, eq_m2, m2_eq, m1_lt, m1_le, lt_m1, le_m1, eq_m1, m1_eq, m1_m2, m2_m1, m2_lt_m1, bI_0, bI_1, bI_t, bI_f, bI_bo, nI0_bo, nI1_bo, if_true, if_false, ite_true, ite_false, Nat.zero_add, Nat.not_lt_zero, Nat.zero_le, not_true_eq_false, not_false_eq_true, or_false, false_or, true_or, or_true, and_true, true_and, Bool.false_eq_true, Bool.true_eq_false, reduceCtorEq, eq_self]
    · left
      rw [bst_last hmd ho hs (fun v => sp_live) hi hp (fun j h1 h2 => hI j (by omega) h2), eo_s]
      unfold sp at hp
      rw [Bool.and_eq_true, decide_eq_true_eq] at hp
      simp (disch := omega) only [hp.1, hp.2, ↓lm1, ↓lm2, i0, i1, i2, i3, i4, i5, i6, i7, i8, i9, i10, i12, i16, i20, i24, i31, i32, i44, i48, i57, i59, i63, i64, i74, i75, i90, i96, i97, i99, i100, i122, i139, i140, i144, i192, i200, i240, i255, i304, i309, i310, i311, i323, i324, i325, i899, i900, i975, i999, i5200, i4875, i65536, i65537, i15, ob_some, nI_add, nI_clamp, zn_zib, zn_eq, zn_lt, zn_le, m2_lt, m2_le, lt_m2, le_m2, eq_m2, m2_eq, m1_lt, m1_le, lt_m1, le_m1, eq_m1, m1_eq, m1_m2, m2_m1, m2_lt_m1, bI_0, bI_1, bI_t, bI_f, bI_bo, nI0_bo, nI1_bo, if_true, if_false, ite_true, ite_false, Nat.zero_add, Nat.not_lt_zero, Nat.zero_le, not_true_eq_false, not_false_eq_true, or_false, false_or, true_or, or_true, and_true, true_and, Bool.false_eq_true, Bool.true_eq_false, reduceCtorEq, eq_self]
  · rw [bst_noneO hs (fun v => sp_live) (fun j hj => hI j (by omega) hj), eo_n]
    unfold b_X6_versionSeen_8
    simp (disch := omega) only [↓lm1, ↓lm2, i0, i1, i2, i3, i4, i5, i6, i7, i8, i9, i10, i12, i16, i20, i24, i31, i32, i44, i48, i57, i59, i63, i64, i74, i75, i90, i96, i97, i99, i100, i122, i139, i140, i144, i192, i200, i240, i255, i304, i309, i310, i311, i323, i324, i325, i899, i900, i975, i999, i5200, i4875, i65536, i65537, i15, ob_some, nI_add, nI_clamp, zn_zib, zn_eq, zn_lt, zn_le, m2_lt, m2_le, lt_m2, le_m2, eq_m2, m2_eq, m1_lt, m1_le, lt_m1, le_m1, eq_m1, m1_eq, m1_m2, m2_m1, m2_lt_m1, bI_0, bI_1, bI_t, bI_f, bI_bo, nI0_bo, nI1_bo, if_true, if_false, ite_true, ite_false, Nat.zero_add, Nat.not_lt_zero, Nat.zero_le, not_true_eq_false, not_false_eq_true, or_false, false_or, true_or, or_true, and_true, true_and, Bool.false_eq_true, Bool.true_eq_false, reduceCtorEq, eq_self]
theorem X6_lastNotGone (H : RC R st n m c) {r : Nat} (hr : r < m) : f_X6_lastNotGone R (nI r) = some (eo (bst st (lp st r) 48)) := by
  have hm := WS_m (RC_W H)
  have hn := WS_n (RC_W H)
  obtain ⟨cN, md, hc, hc2, hmd, ho, hs⟩ := RC_o H
  unfold f_X6_lastNotGone
  rw [hc]
  have hl : ∀ v, lp st r v = true → st v ≠ nI 0 := fun v h => lp_live (by omega : r < 100) h
  refine zl1_dn cN (fun i => ∀ j, i ≤ j → j < cN → lp st r (md j) = false) _ (by omega) (fun j h1 h2 => by omega) (fun k i hi hI => ?_) (fun k hI => ?_)
  · have hv := (hmd i hi).2.1
    have ef : frI st (md i) = st (96 + md i) := by
      unfold frI
      rw [lv_ne.mpr (hmd i hi).2.2, if_pos rfl]
    unfold b_X6_lastNotGone_7
    simp (disch := omega) only [X6_madeAt hc hc2 hmd hi, X6_rowOf H hv, rwI_eq (RC_W H) hv, X6_fromOf H hv, ef, hol_ok (by omega : n ≤ 64) _ (WS_f (RC_W H) hv), has_cong (fun s hs => RC_gn H (by omega : s < 64)) (by omega) (WS_f (RC_W H) hv), ↓lm1, ↓lm2, i0, i1, i2, i3, i4, i5, i6, i7, i8, i9, i10, i12, i16, i20, i24, i31, i32, i44, i48, i57, i59, i63, i64, i74, i75, i90, i96, i97, i99, i100, i122, i139, i140, i144, i192, i200, i240, i255, i304, i309, i310, i311, i323, i324, i325, i899, i900, i975, i999, i5200, i4875, i65536, i65537, i15, ob_some, nI_add, nI_clamp, zn_zib, zn_eq, zn_lt, zn_le, m2_lt, m2_le, lt_m2, le_m2, eq_m2, m2_eq, m1_lt, m1_le, lt_m1, le_m1, eq_m1, m1_eq, m1_m2, m2_m1, m2_lt_m1, bI_0, bI_1, bI_t, bI_f, bI_bo, nI0_bo, nI1_bo, if_true, if_false, ite_true, ite_false, Nat.zero_add, Nat.not_lt_zero, Nat.zero_le, not_true_eq_false, not_false_eq_true, or_false, false_or, true_or, or_true, and_true, true_and, Bool.false_eq_true, Bool.true_eq_false, reduceCtorEq, eq_self]
    cases hp : lp st r (md i)
    · right
      refine ⟨fun j h1 h2 => ?_, ?_⟩
      · by_cases q : j = i
        · rw [q, hp]
        · exact hI j (by omega) h2
      · unfold lp at hp
        by_cases q : st (md i) = nI (r + 1)
        · rw [decide_eq_true q, Bool.true_and, Bool.not_eq_false'] at hp
          simp (disch := omega) only [q, hp, ↓lm1, ↓lm2, i0, i1, i2, i3, i4, i5, i6, i7, i8, i9, i10, i12, i16, i20, i24, i31, i32, i44, i48, i57, i59, i63, i64, i74, i75, i90, i96, i97, i99, i100, i122, i139, i140, i144, i192, i200, i240, i255, i304, i309, i310, i311, i323, i324, i325, i899, i900, i975, i999, i5200, i4875, i65536, i65537, i15, ob_some, nI_add, nI_clamp, zn_zib, zn_eq, zn_lt, zn_le, m2_lt, m2_le, lt_m2, le_m2, eq_m2, m2_eq, m1_lt, m1_le, lt_m1, le_m1, eq_m1, m1_eq, m1_m2, m2_m1, m2_lt_m1, bI_0, bI_1, bI_t, bI_f, bI_bo, nI0_bo, nI1_bo, if_true, if_false, ite_true, ite_false, Nat.zero_add, Nat.not_lt_zero, Nat.zero_le, not_true_eq_false, not_false_eq_true, or_false, false_or, true_or, or_true, and_true, true_and, Bool.false_eq_true, Bool.true_eq_false, reduceCtorEq, eq_self]
        · simp (disch := omega) only [q, ↓lm1, ↓lm2, i0, i1, i2, i3, i4, i5, i6, i7, i8, i9, i10, i12, i16, i20, i24, i31, i32, i44, i48, i57, i59, i63, i64, i74, i75, i90, i96, i97, i99, i100, i122, i139, i140, i144, i192, i200, i240, i255, i304, i309, i310, i311, i323, i324, i325, i899, i900, i975, i999, i5200, i4875, i65536, i65537, i15, ob_some, nI_add, nI_clamp, zn_zib, zn_eq, zn_lt, zn_le, m2_lt, m2_le, lt_m2, le_m2, eq_m2, m2_eq, m1_lt, m1_le, lt_m1, le_m1, eq_m1, m1_eq, m1_m2, m2_m1, m2_lt_m1, bI_0, bI_1, bI_t, bI_f, bI_bo, nI0_bo, nI1_bo, if_true, if_false, ite_true, ite_false, Nat.zero_add, Nat.not_lt_zero, Nat.zero_le, not_true_eq_false, not_false_eq_true, or_false, false_or, true_or, or_true, and_true, true_and, Bool.false_eq_true, Bool.true_eq_false, reduceCtorEq, eq_self]
    · left
      rw [bst_last hmd ho hs hl hi hp (fun j h1 h2 => hI j (by omega) h2), eo_s]
      unfold lp at hp
      rw [Bool.and_eq_true, decide_eq_true_eq, Bool.not_eq_true'] at hp
      simp (disch := omega) only [hp.1, hp.2, ↓lm1, ↓lm2, i0, i1, i2, i3, i4, i5, i6, i7, i8, i9, i10, i12, i16, i20, i24, i31, i32, i44, i48, i57, i59, i63, i64, i74, i75, i90, i96, i97, i99, i100, i122, i139, i140, i144, i192, i200, i240, i255, i304, i309, i310, i311, i323, i324, i325, i899, i900, i975, i999, i5200, i4875, i65536, i65537, i15, ob_some, nI_add, nI_clamp, zn_zib, zn_eq, zn_lt, zn_le, m2_lt, m2_le, lt_m2, le_m2, eq_m2, m2_eq, m1_lt, m1_le, lt_m1, le_m1, eq_m1, m1_eq, m1_m2, m2_m1, m2_lt_m1, bI_0, bI_1, bI_t, bI_f, bI_bo, nI0_bo, nI1_bo, if_true, if_false, ite_true, ite_false, Nat.zero_add, Nat.not_lt_zero, Nat.zero_le, not_true_eq_false, not_false_eq_true, or_false, false_or, true_or, or_true, and_true, true_and, Bool.false_eq_true, Bool.true_eq_false, reduceCtorEq, eq_self]
  · rw [bst_noneO hs hl (fun j hj => hI j (by omega) hj), eo_n]
    unfold b_X6_lastNotGone_7
    simp (disch := omega) only [↓lm1, ↓lm2, i0, i1, i2, i3, i4, i5, i6, i7, i8, i9, i10, i12, i16, i20, i24, i31, i32, i44, i48, i57, i59, i63, i64, i74, i75, i90, i96, i97, i99, i100, i122, i139, i140, i144, i192, i200, i240, i255, i304, i309, i310, i311, i323, i324, i325, i899, i900, i975, i999, i5200, i4875, i65536, i65537, i15, ob_some, nI_add, nI_clamp, zn_zib, zn_eq, zn_lt, zn_le, m2_lt, m2_le, lt_m2, le_m2, eq_m2, m2_eq, m1_lt, m1_le, lt_m1, le_m1, eq_m1, m1_eq, m1_m2, m2_m1, m2_lt_m1, bI_0, bI_1, bI_t, bI_f, bI_bo, nI0_bo, nI1_bo, if_true, if_false, ite_true, ite_false, Nat.zero_add, Nat.not_lt_zero, Nat.zero_le, not_true_eq_false, not_false_eq_true, or_false, false_or, true_or, or_true, and_true, true_and, Bool.false_eq_true, Bool.true_eq_false, reduceCtorEq, eq_self]
theorem X6_valueSeen (H : RC R st n m c) (C : Int64) {r : Nat} (hr : r < m) : f_X6_valueSeen R (nI r) C = some (va st (bst st (sp st (lb C) r) 48)) := by
  unfold f_X6_valueSeen
  rw [X6_versionSeen H C hr, ob_some]
  cases hb : bst st (sp st (lb C) r) 48 with
  | none => rw [eo_n, X6_valueOf_m2, ob_some]; rfl
  | some v =>
    obtain ⟨⟨h1, h2⟩, -⟩ := bst_some hb
    rw [eo_s, X6_valueOf H h1, ob_some]
    unfold vaI va
    rw [lv_ne.mpr (sp_live h2), if_pos rfl]
end
