/-! the class's rows: who holds back, the i-th, sums, verdicts -/
def Aw (st : Nat → Int32) (n w : Nat) : Nat := (mxo (hb st w) (ag st n) n).getD 0
def hbk (st : Nat → Int32) (n : Nat) : Nat → Option Nat
  | 0 => none
  | w + 1 => match hbk st n w with
    | none => if rn st w then some w else none
    | some b => if rn st w && decide (Aw st n b < Aw st n w) then some w else some b
theorem hbk_s (st : Nat → Int32) (n w : Nat) : hbk st n (w + 1) = match hbk st n w with
    | none => if rn st w then some w else none
    | some b => if rn st w && decide (Aw st n b < Aw st n w) then some w else some b := rfl
def nthR (p : Nat → Bool) (m : Nat) (x : Int32) : Nat → Nat → Int32 → Int32
  | 0, _, _ => m2
  | f + 1, k, q => if k < m then (if p k then (if q = x then nI k else nthR p m x f (k + 1) (q + nI 1)) else nthR p m x f (k + 1) q) else m2
theorem nthR_s (p : Nat → Bool) (m : Nat) (x : Int32) (f k : Nat) (q : Int32) : nthR p m x (f + 1) k q = if k < m then (if p k then (if q = x then nI k else nthR p m x f (k + 1) (q + nI 1)) else nthR p m x f (k + 1) q) else m2 := rfl
def chp (st : Nat → Int32) (r : Nat) (x : Int32) (v : Nat) : Bool := decide (st v = nI (r + 1)) && decide (cI (fun u => decide (st u = nI (r + 1)) && decide (od st u < od st v)) 48 = x)
def vN (st : Nat → Int32) (C : Nat → Bool) (r : Nat) : Nat := match bst st (sp st C r) 48 with
  | none => 0
  | some v => (st (48 + v)).toNatClampNeg
def stop (st : Nat → Int32) (n w r : Nat) : Int32 := match bst st (sp st (cw st n w) r) 48 with
  | none => (match bst st (lp st r) 48 with
    | none => m2
    | some u => st (96 + u))
  | some v => st (144 + v)
def vd (st : Nat → Int32) (n w r : Nat) : Nat := if bt (st 310) w then 3 else if has (cw st n w) (stop st n w r) then 0 else if has (ru st) (stop st n w r) then 1 else if has (dn st) (stop st n w r) then 2 else 0
def hldI (st : Nat → Int32) (n w r : Nat) : Int32 := if vd st n w r = 1 then eo (fi (fun k => decide (st (304 + k) = stop st n w r)) 6) else m2
section
variable {R : SRows} {st : Nat → Int32} {n m c : Nat}
theorem hb_t (W : WS st n m) {w : Nat} (hw : w < 6) : rn st w = true → ∃ k, k < n ∧ hb st w k = true := fun h => by
  rcases WS_w W hw with e | ⟨s, hs, e⟩
  · rw [rn_f e] at h
    cases h
  · refine ⟨s, hs, ?_⟩
    unfold hb
    rw [h, e, decide_eq_true rfl]
    simp
theorem X6_ageHeld (H : RC R st n m c) {w : Nat} (hw : w < 6) : f_X6_greatestAge R (Rows_held R w) = some (if rn st w then nI (Aw st n w) else m2) := by
  have hn := WS_n (RC_W H)
  rw [X6_greatestAge H, mxo_cong (fun k hk => RC_held H hw (by omega : k < 64))]
  unfold Aw
  cases hr : rn st w
  · rw [mxo_eqn (fun k hk => by unfold hb; rw [hr]; rfl)]
    rfl
  · obtain ⟨k, hk, e⟩ := hb_t (RC_W H) hw hr
    cases hm : mxo (hb st w) (ag st n) n with
    | none =>
      rw [mxo_none hm k hk] at e
      cases e
    | some a => rfl
theorem Aw_lt (W : WS st n m) (w : Nat) : Aw st n w < n := by
  have hn := WS_n W
  unfold Aw
  cases hm : mxo (hb st w) (ag st n) n with
  | none =>
    show 0 < n
    omega
  | some a =>
    obtain ⟨⟨k, hk, e1, e2⟩, -⟩ := mxo_some hm
    show a < n
    rw [← e2]
    exact gon_lt (by omega)
theorem X6_slotHoldingBack (H : RC R st n m c) : f_X6_slotHoldingBack R = some (eo (hbk st n 6)) := by
  have hn := WS_n (RC_W H)
  unfold f_X6_slotHoldingBack
  refine zl3_fold 6 (fun i => eo (hbk st n i)) (fun i => match hbk st n i with
    | none => m2
    | some b => nI (Aw st n b)) _ (by omega) (fun k i hi => ?_) (fun k => ?_)
  · have h1 : ¬ 6 ≤ i := by omega
    have a1 := Aw_lt (RC_W H) i
    unfold b_X6_slotHoldingBack_8
    simp (disch := omega) only [h1, X6_ageHeld H hi, ↓lm1, ↓lm2, i0, i1, i2, i3, i4, i5, i6, i7, i8, i9, i10, i12, i16, i20, i24, i31, i32, i44, i48, i57, i59, i63, i64, i74, i75, i90, i96, i97, i99, i100, i122, i139, i140, i144, i192, i200, i240, i255, i304, i309, i310, i311, i323, i324, i325, i899, i900, i975, i999, i5200, i4875, i65536, i65537, i15, ob_some, nI_add, nI_clamp, zn_zib, zn_eq, zn_lt, zn_le, m2_lt, m2_le, lt_m2, le_m2, eq_m2, m2_eq, m1_lt, m1_le, lt_m1, le_m1, eq_m1, m1_eq, m1_m2, m2_m1, m2_lt_m1, bI_0, bI_1, bI_t, bI_f, bI_bo, nI0_bo, nI1_bo, if_true, if_false, ite_true, ite_false, Nat.zero_add, Nat.not_lt_zero, Nat.zero_le, not_true_eq_false, not_false_eq_true, or_false, false_or, true_or, or_true, and_true, true_and, Bool.false_eq_true, Bool.true_eq_false, reduceCtorEq, eq_self]
    rw [hbk_s]
    cases hm : hbk st n i with
    | none =>
      cases hr : rn st i
      · have : m2 ≤ m2 := by decide
        simp (disch := omega) only [this, ↓lm1, ↓lm2, i0, i1, i2, i3, i4, i5, i6, i7, i8, i9, i10, i12, i16, i20, i24, i31, i32, i44, i48, i57, i59, i63, i64, i74, i75, i90, i96, i97, i99, i100, i122, i139, i140, i144, i192, i200, i240, i255, i304, i309, i310, i311, i323, i324, i325, i899, i900, i975, i999, i5200, i4875, i65536, i65537, i15, ob_some, nI_add, nI_clamp, zn_zib, zn_eq, zn_lt, zn_le, m2_lt, m2_le, lt_m2, le_m2, eq_m2, m2_eq, m1_lt, m1_le, lt_m1, le_m1, eq_m1, m1_eq, m1_m2, m2_m1, m2_lt_m1, bI_0, bI_1, bI_t, bI_f, bI_bo, nI0_bo, nI1_bo, if_true, if_false, ite_true, ite_false, Nat.zero_add, Nat.not_lt_zero, Nat.zero_le, not_true_eq_false, not_false_eq_true, or_false, false_or, true_or, or_true, and_true, true_and, Bool.false_eq_true, Bool.true_eq_false, reduceCtorEq, eq_self]
      · simp (disch := omega) only [↓lm1, ↓lm2, i0, i1, i2, i3, i4, i5, i6, i7, i8, i9, i10, i12, i16, i20, i24, i31, i32, i44, i48, i57, i59, i63, i64, i74, i75, i90, i96, i97, i99, i100, i122, i139, i140, i144, i192, i200, i240, i255, i304, i309, i310, i311, i323, i324, i325, i899, i900, i975, i999, i5200, i4875, i65536, i65537, i15, ob_some, nI_add, nI_clamp, zn_zib, zn_eq, zn_lt, zn_le, m2_lt, m2_le, lt_m2, le_m2, eq_m2, m2_eq, m1_lt, m1_le, lt_m1, le_m1, eq_m1, m1_eq, m1_m2, m2_m1, m2_lt_m1, bI_0, bI_1, bI_t, bI_f, bI_bo, nI0_bo, nI1_bo, if_true, if_false, ite_true, ite_false, Nat.zero_add, Nat.not_lt_zero, Nat.zero_le, not_true_eq_false, not_false_eq_true, or_false, false_or, true_or, or_true, and_true, true_and, Bool.false_eq_true, Bool.true_eq_false, reduceCtorEq, eq_self]
        rfl
    | some b =>
      have a2 := Aw_lt (RC_W H) b
      cases hr : rn st i
      · simp (disch := omega) only [Bool.false_and, ↓lm1, ↓lm2, i0, i1, i2, i3, i4, i5, i6, i7, i8, i9, i10, i12, i16, i20, i24, i31, i32, i44, i48, i57, i59, i63, i64, i74, i75, i90, i96, i97, i99, i100, i122, i139, i140, i144, i192, i200, i240, i255, i304, i309, i310, i311, i323, i324, i325, i899, i900, i975, i999, i5200, i4875, i65536, i65537, i15, ob_some, nI_add, nI_clamp, zn_zib, zn_eq, zn_lt, zn_le, m2_lt, m2_le, lt_m2, le_m2, eq_m2, m2_eq, m1_lt, m1_le, lt_m1, le_m1, eq_m1, m1_eq, m1_m2, m2_m1, m2_lt_m1, bI_0, bI_1, bI_t, bI_f, bI_bo, nI0_bo, nI1_bo, if_true, if_false, ite_true, ite_false, Nat.zero_add, Nat.not_lt_zero, Nat.zero_le, not_true_eq_false, not_false_eq_true, or_false, false_or, true_or, or_true, and_true, true_and, Bool.false_eq_true, Bool.true_eq_false, reduceCtorEq, eq_self]
      · by_cases q : Aw st n b < Aw st n i
        · have q2 : ¬ Aw st n i ≤ Aw st n b := by omega
          simp (disch := omega) only [q, q2, decide_true, Bool.and_self, ↓lm1, ↓lm2, i0, i1, i2, i3, i4, i5, i6, i7, i8, i9, i10, i12, i16, i20, i24, i31, i32, i44, i48, i57, i59, i63, i64, i74, i75, i90, i96, i97, i99, i100, i122, i139, i140, i144, i192, i200, i240, i255, i304, i309, i310, i311, i323, i324, i325, i899, i900, i975, i999, i5200, i4875, i65536, i65537, i15, ob_some, nI_add, nI_clamp, zn_zib, zn_eq, zn_lt, zn_le, m2_lt, m2_le, lt_m2, le_m2, eq_m2, m2_eq, m1_lt, m1_le, lt_m1, le_m1, eq_m1, m1_eq, m1_m2, m2_m1, m2_lt_m1, bI_0, bI_1, bI_t, bI_f, bI_bo, nI0_bo, nI1_bo, if_true, if_false, ite_true, ite_false, Nat.zero_add, Nat.not_lt_zero, Nat.zero_le, not_true_eq_false, not_false_eq_true, or_false, false_or, true_or, or_true, and_true, true_and, Bool.false_eq_true, Bool.true_eq_false, reduceCtorEq, eq_self]
          rfl
        · have q2 : Aw st n i ≤ Aw st n b := by omega
          simp (disch := omega) only [q, q2, decide_false, Bool.and_false, ↓lm1, ↓lm2, i0, i1, i2, i3, i4, i5, i6, i7, i8, i9, i10, i12, i16, i20, i24, i31, i32, i44, i48, i57, i59, i63, i64, i74, i75, i90, i96, i97, i99, i100, i122, i139, i140, i144, i192, i200, i240, i255, i304, i309, i310, i311, i323, i324, i325, i899, i900, i975, i999, i5200, i4875, i65536, i65537, i15, ob_some, nI_add, nI_clamp, zn_zib, zn_eq, zn_lt, zn_le, m2_lt, m2_le, lt_m2, le_m2, eq_m2, m2_eq, m1_lt, m1_le, lt_m1, le_m1, eq_m1, m1_eq, m1_m2, m2_m1, m2_lt_m1, bI_0, bI_1, bI_t, bI_f, bI_bo, nI0_bo, nI1_bo, if_true, if_false, ite_true, ite_false, Nat.zero_add, Nat.not_lt_zero, Nat.zero_le, not_true_eq_false, not_false_eq_true, or_false, false_or, true_or, or_true, and_true, true_and, Bool.false_eq_true, Bool.true_eq_false, reduceCtorEq, eq_self]
  · unfold b_X6_slotHoldingBack_8
    simp (disch := omega) only [Nat.le_refl, ↓lm1, ↓lm2, i0, i1, i2, i3, i4, i5, i6, i7, i8, i9, i10, i12, i16, i20, i24, i31, i32, i44, i48, i57, i59, i63, i64, i74, i75, i90, i96, i97, i99, i100, i122, i139, i140, i144, i192, i200, i240, i255, i304, i309, i310, i311, i323, i324, i325, i899, i900, i975, i999, i5200, i4875, i65536, i65537, i15, ob_some, nI_add, nI_clamp, zn_zib, zn_eq, zn_lt, zn_le, m2_lt, m2_le, lt_m2, le_m2, eq_m2, m2_eq, m1_lt, m1_le, lt_m1, le_m1, eq_m1, m1_eq, m1_m2, m2_m1, m2_lt_m1, bI_0, bI_1, bI_t, bI_f, bI_bo, nI0_bo, nI1_bo, if_true, if_false, ite_true, ite_false, Nat.zero_add, Nat.not_lt_zero, Nat.zero_le, not_true_eq_false, not_false_eq_true, or_false, false_or, true_or, or_true, and_true, true_and, Bool.false_eq_true, Bool.true_eq_false, reduceCtorEq, eq_self]
theorem X6_emptyRow (H : RC R st n m c) (x : Int32) : f_X6_emptyRow R x = some (nthR (fun r => (bst st (sp st (dn st) r) 48).isNone) m x (m + 1) 0 (nI 0)) := by
  have hm := WS_m (RC_W H)
  have hn := WS_n (RC_W H)
  unfold f_X6_emptyRow
  refine zl2_up m 0 (fun i q => nthR (fun r => (bst st (sp st (dn st) r) 48).isNone) m x (m + 1) 0 (nI 0) = nthR (fun r => (bst st (sp st (dn st) r) 48).isNone) m x (m + 1 - i) i q) _ (by omega) (by omega) rfl (fun k i q hi hI => ?_) (fun k q hI => ?_)
  · have h1 : ¬ m ≤ i := by omega
    have e : bst st (sp st (lb (Rows_doneStamps R)) i) 48 = bst st (sp st (dn st) i) 48 := bst_cong (fun v hv => sp_cong (RC_W H) (fun s hs => RC_dn H (by omega : s < 64)) i hv)
    unfold b_X6_emptyRow_4
    simp (disch := omega) only [RC_rc H, h1, X6_versionSeen H _ hi, e, ↓lm1, ↓lm2, i0, i1, i2, i3, i4, i5, i6, i7, i8, i9, i10, i12, i16, i20, i24, i31, i32, i44, i48, i57, i59, i63, i64, i74, i75, i90, i96, i97, i99, i100, i122, i139, i140, i144, i192, i200, i240, i255, i304, i309, i310, i311, i323, i324, i325, i899, i900, i975, i999, i5200, i4875, i65536, i65537, i15, ob_some, nI_add, nI_clamp, zn_zib, zn_eq, zn_lt, zn_le, m2_lt, m2_le, lt_m2, le_m2, eq_m2, m2_eq, m1_lt, m1_le, lt_m1, le_m1, eq_m1, m1_eq, m1_m2, m2_m1, m2_lt_m1, bI_0, bI_1, bI_t, bI_f, bI_bo, nI0_bo, nI1_bo, if_true, if_false, ite_true, ite_false, Nat.zero_add, Nat.not_lt_zero, Nat.zero_le, not_true_eq_false, not_false_eq_true, or_false, false_or, true_or, or_true, and_true, true_and, Bool.false_eq_true, Bool.true_eq_false, reduceCtorEq, eq_self]
    rw [hI]
    rw [show m + 1 - i = (m + 1 - (i + 1)) + 1 by omega, nthR_s, if_pos hi]
    cases hb : bst st (sp st (dn st) i) 48 with
    | none =>
      by_cases qx : q = x
      · left
        simp (disch := omega) only [eo_n, qx, Option.isNone, ↓lm1, ↓lm2, i0, i1, i2, i3, i4, i5, i6, i7, i8, i9, i10, i12, i16, i20, i24, i31, i32, i44, i48, i57, i59, i63, i64, i74, i75, i90, i96, i97, i99, i100, i122, i139, i140, i144, i192, i200, i240, i255, i304, i309, i310, i311, i323, i324, i325, i899, i900, i975, i999, i5200, i4875, i65536, i65537, i15, ob_some, nI_add, nI_clamp, zn_zib, zn_eq, zn_lt, zn_le, m2_lt, m2_le, lt_m2, le_m2, eq_m2, m2_eq, m1_lt, m1_le, lt_m1, le_m1, eq_m1, m1_eq, m1_m2, m2_m1, m2_lt_m1, bI_0, bI_1, bI_t, bI_f, bI_bo, nI0_bo, nI1_bo, if_true, if_false, ite_true, ite_false, Nat.zero_add, Nat.not_lt_zero, Nat.zero_le, not_true_eq_false, not_false_eq_true, or_false, false_or, true_or, or_true, and_true, true_and, Bool.false_eq_true, Bool.true_eq_false, reduceCtorEq, eq_self]
      · right
        refine ⟨q + nI 1, ?_, ?_⟩
        · simp only [Option.isNone, if_true, qx, if_false]
        · simp (disch := omega) only [eo_n, qx, Option.isNone, ↓lm1, ↓lm2, i0, i1, i2, i3, i4, i5, i6, i7, i8, i9, i10, i12, i16, i20, i24, i31, i32, i44, i48, i57, i59, i63, i64, i74, i75, i90, i96, i97, i99, i100, i122, i139, i140, i144, i192, i200, i240, i255, i304, i309, i310, i311, i323, i324, i325, i899, i900, i975, i999, i5200, i4875, i65536, i65537, i15, ob_some, nI_add, nI_clamp, zn_zib, zn_eq, zn_lt, zn_le, m2_lt, m2_le, lt_m2, le_m2, eq_m2, m2_eq, m1_lt, m1_le, lt_m1, le_m1, eq_m1, m1_eq, m1_m2, m2_m1, m2_lt_m1, bI_0, bI_1, bI_t, bI_f, bI_bo, nI0_bo, nI1_bo, if_true, if_false, ite_true, ite_false, Nat.zero_add, Nat.not_lt_zero, Nat.zero_le, not_true_eq_false, not_false_eq_true, or_false, false_or, true_or, or_true, and_true, true_and, Bool.false_eq_true, Bool.true_eq_false, reduceCtorEq, eq_self]
    | some v =>
      obtain ⟨⟨h2, h3⟩, -⟩ := bst_some hb
      right
      refine ⟨q, ?_, ?_⟩
      · simp only [Option.isNone, Bool.false_eq_true, if_false]
      · simp (disch := omega) only [eo_s, ↓lm1, ↓lm2, i0, i1, i2, i3, i4, i5, i6, i7, i8, i9, i10, i12, i16, i20, i24, i31, i32, i44, i48, i57, i59, i63, i64, i74, i75, i90, i96, i97, i99, i100, i122, i139, i140, i144, i192, i200, i240, i255, i304, i309, i310, i311, i323, i324, i325, i899, i900, i975, i999, i5200, i4875, i65536, i65537, i15, ob_some, nI_add, nI_clamp, zn_zib, zn_eq, zn_lt, zn_le, m2_lt, m2_le, lt_m2, le_m2, eq_m2, m2_eq, m1_lt, m1_le, lt_m1, le_m1, eq_m1, m1_eq, m1_m2, m2_m1, m2_lt_m1, bI_0, bI_1, bI_t, bI_f, bI_bo, nI0_bo, nI1_bo, if_true, if_false, ite_true, ite_false, Nat.zero_add, Nat.not_lt_zero, Nat.zero_le, not_true_eq_false, not_false_eq_true, or_false, false_or, true_or, or_true, and_true, true_and, Bool.false_eq_true, Bool.true_eq_false, reduceCtorEq, eq_self]
  · unfold b_X6_emptyRow_4
    simp (disch := omega) only [RC_rc H, Nat.le_refl, ↓lm1, ↓lm2, i0, i1, i2, i3, i4, i5, i6, i7, i8, i9, i10, i12, i16, i20, i24, i31, i32, i44, i48, i57, i59, i63, i64, i74, i75, i90, i96, i97, i99, i100, i122, i139, i140, i144, i192, i200, i240, i255, i304, i309, i310, i311, i323, i324, i325, i899, i900, i975, i999, i5200, i4875, i65536, i65537, i15, ob_some, nI_add, nI_clamp, zn_zib, zn_eq, zn_lt, zn_le, m2_lt, m2_le, lt_m2, le_m2, eq_m2, m2_eq, m1_lt, m1_le, lt_m1, le_m1, eq_m1, m1_eq, m1_m2, m2_m1, m2_lt_m1, bI_0, bI_1, bI_t, bI_f, bI_bo, nI0_bo, nI1_bo, if_true, if_false, ite_true, ite_false, Nat.zero_add, Nat.not_lt_zero, Nat.zero_le, not_true_eq_false, not_false_eq_true, or_false, false_or, true_or, or_true, and_true, true_and, Bool.false_eq_true, Bool.true_eq_false, reduceCtorEq, eq_self]
    rw [hI, show m + 1 - m = 0 + 1 by omega, nthR_s, if_neg (Nat.lt_irrefl m)]
theorem ahead_ct {N cN : Nat} {md : Nat → Nat} (hlt : ∀ i, i < cN → md i < N) (hinj : ∀ i j, i < j → j < cN → md i ≠ md j) (p : Nat → Bool) : ∀ k, k ≤ cN → fb_ct (fun v => p v && an (fun j => decide (md j = v)) k) N = fb_ct (fun j => p (md j)) k
  | 0, _ => by
    have h : fb_ct (fun v => p v && an (fun j => decide (md j = v)) 0) N = 0 := fb_ct_zero.mpr (fun k hk => by show (p k && false) = false; rw [Bool.and_false])
    rw [h]
    rfl
  | k + 1, hk => by
    have ih := ahead_ct hlt hinj p k (by omega)
    have hnot : an (fun j => decide (md j = md k)) k = false := by
      cases h : an (fun j => decide (md j = md k)) k
      · rfl
      · obtain ⟨j, hj, e⟩ := an_iff.mp h
        rw [decide_eq_true_eq] at e
        exact absurd e (hinj j k hj (by omega))
    rw [fb_ct_succ (fun j => p (md j)) k, ← ih]
    cases hp : p (md k)
    · have e0 : fb_ct (fun v => p v && an (fun j => decide (md j = v)) (k + 1)) N = fb_ct (fun v => p v && an (fun j => decide (md j = v)) k) N := by
        refine fb_ct_cong (fun v hv => ?_)
        rw [an_s]
        by_cases e : md k = v
        · rw [← e, hp, Bool.false_and, Bool.false_and]
        · rw [decide_eq_false e, Bool.or_false]
      rw [e0]
      rfl
    · have h1 := fb_ct_one (p := fun v => p v && an (fun j => decide (md j = v)) k) (hlt k (by omega)) (by rw [hnot, Bool.and_false])
      have e0 : fb_ct (fun v => p v && an (fun j => decide (md j = v)) (k + 1)) N = fb_ct (fun v => (p v && an (fun j => decide (md j = v)) k) || decide (md k = v)) N := by
        refine fb_ct_cong (fun v hv => ?_)
        rw [an_s]
        by_cases e : md k = v
        · rw [← e, hp, decide_eq_true rfl, Bool.or_true, Bool.true_and, Bool.or_true]
        · rw [decide_eq_false e, Bool.or_false, Bool.or_false]
      rw [e0, h1]
      rfl
theorem ahead_eq {cN : Nat} {md : Nat → Nat} (hmd : ∀ i, i < cN → Rows_made R i = nI (md i) ∧ md i < 48 ∧ st (md i) ≠ nI 0) (ho : ∀ i j, i < j → j < cN → od st (md i) < od st (md j)) (hs : ∀ v, v < 48 → st v ≠ nI 0 → ∃ i, i < cN ∧ md i = v) (p : Nat → Bool) (hp : ∀ v, p v = true → st v ≠ nI 0) {k : Nat} (hk : k < cN) : fb_ct (fun u => p u && decide (od st u < od st (md k))) 48 = fb_ct (fun j => p (md j)) k := by
  rw [← ahead_ct (N := 48) (fun i hi => (hmd i hi).2.1) (fun i j h1 h2 e => by have := ho i j h1 h2; rw [e] at this; omega) p k (by omega)]
  refine fb_ct_cong (fun v hv => ?_)
  cases hpv : p v
  · rfl
  · obtain ⟨j, hj, rfl⟩ := hs v hv (hp v hpv)
    rw [Bool.true_and, Bool.true_and]
    by_cases q : j < k
    · rw [decide_eq_true (ho j k q hk), an_iff.mpr ⟨j, q, decide_eq_true rfl⟩]
    · have q2 : ¬ od st (md j) < od st (md k) := by
        by_cases z : k = j
        · rw [z]
          omega
        · have := ho k j (by omega) hj
          omega
      rw [decide_eq_false q2]
      cases h : an (fun i => decide (md i = md j)) k
      · rfl
      · obtain ⟨i, hi, e⟩ := an_iff.mp h
        rw [decide_eq_true_eq] at e
        have := ho i j (by omega) hj
        rw [e] at this
        omega
theorem X6_versionInChain (H : RC R st n m c) {r : Nat} (hr : r < m) (x : Int32) : f_X6_versionInChain R (nI r) x = some (eo (fi (chp st r x) 48)) := by
  have hm := WS_m (RC_W H)
  obtain ⟨cN, md, hc, hc2, hmd, ho, hs⟩ := RC_o H
  have hl : ∀ v, decide (st v = nI (r + 1)) = true → st v ≠ nI 0 := fun v h => lv_ne.mp (lv_t (decide_eq_true_eq.mp h) (by omega : r < 100))
  have ha : ∀ k, k < cN → chp st r x (md k) = (decide (st (md k) = nI (r + 1)) && decide (cI (fun j => decide (st (md j) = nI (r + 1))) k = x)) := fun k hk => by
    unfold chp
    rw [cI_ct, ahead_eq hmd ho hs (fun v => decide (st v = nI (r + 1))) hl hk, cI_ct]
  unfold f_X6_versionInChain
  refine zl2_up cN 0 (fun i q => q = cI (fun j => decide (st (md j) = nI (r + 1))) i ∧ ∀ j, j < i → chp st r x (md j) = false) _ (by omega) (by omega) ⟨rfl, fun j hj => absurd hj (Nat.not_lt_zero j)⟩ (fun k i q hi hI => ?_) (fun k q hI => ?_)
  · obtain ⟨rfl, hI⟩ := hI
    have hv := (hmd i hi).2.1
    have h1 : ¬ cN ≤ i := by omega
    unfold b_X6_versionInChain_5
    simp (disch := omega) only [hc, h1, X6_madeAt hc hc2 hmd hi, X6_rowOf H hv, rwI_eq (RC_W H) hv, ↓lm1, ↓lm2, i0, i1, i2, i3, i4, i5, i6, i7, i8, i9, i10, i12, i16, i20, i24, i31, i32, i44, i48, i57, i59, i63, i64, i74, i75, i90, i96, i97, i99, i100, i122, i139, i140, i144, i192, i200, i240, i255, i304, i309, i310, i311, i323, i324, i325, i899, i900, i975, i999, i5200, i4875, i65536, i65537, i15, ob_some, nI_add, nI_clamp, zn_zib, zn_eq, zn_lt, zn_le, m2_lt, m2_le, lt_m2, le_m2, eq_m2, m2_eq, m1_lt, m1_le, lt_m1, le_m1, eq_m1, m1_eq, m1_m2, m2_m1, m2_lt_m1, bI_0, bI_1, bI_t, bI_f, bI_bo, nI0_bo, nI1_bo, if_true, if_false, ite_true, ite_false, Nat.zero_add, Nat.not_lt_zero, Nat.zero_le, not_true_eq_false, not_false_eq_true, or_false, false_or, true_or, or_true, and_true, true_and, Bool.false_eq_true, Bool.true_eq_false, reduceCtorEq, eq_self]
    have stp : chp st r x (md i) = false → ∀ j, j < i + 1 → chp st r x (md j) = false := fun h j hj => by
      by_cases z : j = i
      · rw [z, h]
      · exact hI j (by omega)
    have hai := ha i hi
    by_cases q : st (md i) = nI (r + 1)
    · by_cases q2 : cI (fun j => decide (st (md j) = nI (r + 1))) i = x
      · left
        have hpi : chp st r x (md i) = true := by rw [hai, decide_eq_true q, decide_eq_true q2]; rfl
        rw [if_pos q, if_pos q2]
        have huni : ∀ v, v < 48 → chp st r x v = true → v = md i := fun v hv2 hpv => by
          have hrow : st v = nI (r + 1) := by
            unfold chp at hpv
            rw [Bool.and_eq_true, decide_eq_true_eq] at hpv
            exact hpv.1
          obtain ⟨j, hj, rfl⟩ := hs v hv2 (hl v (decide_eq_true hrow))
          rw [ha j hj, decide_eq_true hrow, Bool.true_and, decide_eq_true_eq, ← q2, cI_ct, cI_ct] at hpv
          have b1 := fb_ct_le (fun j => decide (st (md j) = nI (r + 1))) j
          have b2 := fb_ct_le (fun j => decide (st (md j) = nI (r + 1))) i
          rw [zn_eq (by omega) (by omega)] at hpv
          rw [fb_ct_kth_one (p := fun j => decide (st (md j) = nI (r + 1))) (decide_eq_true hrow) (decide_eq_true q) hpv]
        rw [fi_eq (a := md i) hv hpi (fun k hk => by
          cases hz : chp st r x k
          · rfl
          · have := huni k (by omega) hz
            omega), eo_s]
      · right
        refine ⟨_, ⟨rfl, stp (by rw [hai, decide_eq_false q2, Bool.and_false])⟩, ?_⟩
        rw [cI_s]
        simp (disch := omega) only [q, q2, decide_true, ↓lm1, ↓lm2, i0, i1, i2, i3, i4, i5, i6, i7, i8, i9, i10, i12, i16, i20, i24, i31, i32, i44, i48, i57, i59, i63, i64, i74, i75, i90, i96, i97, i99, i100, i122, i139, i140, i144, i192, i200, i240, i255, i304, i309, i310, i311, i323, i324, i325, i899, i900, i975, i999, i5200, i4875, i65536, i65537, i15, ob_some, nI_add, nI_clamp, zn_zib, zn_eq, zn_lt, zn_le, m2_lt, m2_le, lt_m2, le_m2, eq_m2, m2_eq, m1_lt, m1_le, lt_m1, le_m1, eq_m1, m1_eq, m1_m2, m2_m1, m2_lt_m1, bI_0, bI_1, bI_t, bI_f, bI_bo, nI0_bo, nI1_bo, if_true, if_false, ite_true, ite_false, Nat.zero_add, Nat.not_lt_zero, Nat.zero_le, not_true_eq_false, not_false_eq_true, or_false, false_or, true_or, or_true, and_true, true_and, Bool.false_eq_true, Bool.true_eq_false, reduceCtorEq, eq_self]
    · right
      refine ⟨_, ⟨rfl, stp (by rw [hai, decide_eq_false q, Bool.false_and])⟩, ?_⟩
      rw [cI_s]
      simp (disch := omega) only [q, decide_false, ↓lm1, ↓lm2, i0, i1, i2, i3, i4, i5, i6, i7, i8, i9, i10, i12, i16, i20, i24, i31, i32, i44, i48, i57, i59, i63, i64, i74, i75, i90, i96, i97, i99, i100, i122, i139, i140, i144, i192, i200, i240, i255, i304, i309, i310, i311, i323, i324, i325, i899, i900, i975, i999, i5200, i4875, i65536, i65537, i15, ob_some, nI_add, nI_clamp, zn_zib, zn_eq, zn_lt, zn_le, m2_lt, m2_le, lt_m2, le_m2, eq_m2, m2_eq, m1_lt, m1_le, lt_m1, le_m1, eq_m1, m1_eq, m1_m2, m2_m1, m2_lt_m1, bI_0, bI_1, bI_t, bI_f, bI_bo, nI0_bo, nI1_bo, if_true, if_false, ite_true, ite_false, Nat.zero_add, Nat.not_lt_zero, Nat.zero_le, not_true_eq_false, not_false_eq_true, or_false, false_or, true_or, or_true, and_true, true_and, Bool.false_eq_true, Bool.true_eq_false, reduceCtorEq, eq_self]
  · obtain ⟨rfl, hI⟩ := hI
    unfold b_X6_versionInChain_5
    simp (disch := omega) only [hc, Nat.le_refl, ↓lm1, ↓lm2, i0, i1, i2, i3, i4, i5, i6, i7, i8, i9, i10, i12, i16, i20, i24, i31, i32, i44, i48, i57, i59, i63, i64, i74, i75, i90, i96, i97, i99, i100, i122, i139, i140, i144, i192, i200, i240, i255, i304, i309, i310, i311, i323, i324, i325, i899, i900, i975, i999, i5200, i4875, i65536, i65537, i15, ob_some, nI_add, nI_clamp, zn_zib, zn_eq, zn_lt, zn_le, m2_lt, m2_le, lt_m2, le_m2, eq_m2, m2_eq, m1_lt, m1_le, lt_m1, le_m1, eq_m1, m1_eq, m1_m2, m2_m1, m2_lt_m1, bI_0, bI_1, bI_t, bI_f, bI_bo, nI0_bo, nI1_bo, if_true, if_false, ite_true, ite_false, Nat.zero_add, Nat.not_lt_zero, Nat.zero_le, not_true_eq_false, not_false_eq_true, or_false, false_or, true_or, or_true, and_true, true_and, Bool.false_eq_true, Bool.true_eq_false, reduceCtorEq, eq_self]
    rw [fi_eqn (fun v hv => ?_), eo_n]
    cases hz : chp st r x v
    · rfl
    · have hrow : st v = nI (r + 1) := by
        unfold chp at hz
        rw [Bool.and_eq_true, decide_eq_true_eq] at hz
        exact hz.1
      obtain ⟨j, hj, rfl⟩ := hs v hv (hl v (decide_eq_true hrow))
      rw [hI j hj] at hz
      cases hz
end
