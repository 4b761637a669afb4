/-! acts: freeze -/
def fz (st : Nat → Int32) (n v : Nat) : Bool := has (stl st n m2) (frI st v)
def lg (st : Nat → Int32) (v : Nat) : Bool := has (gn st) (tlI st v)
def frS (st : Nat → Int32) (n i : Nat) : Nat → Int32 := fun j => if 96 ≤ j ∧ j < 96 + i ∧ fz st n (j - 96) = true then m2 else if 144 ≤ j ∧ j < 144 + i ∧ lg st (j - 144) = true then m2 else st j
def fmk (st : Nat → Int32) (n v : Nat) : Int32 := nI ((if fz st n v then 1 else 0) + (if lg st v then 2 else 0))
section
variable {R : SRows} {S : SMo} {st : Nat → Int32} {n m c b : Nat}
theorem frS_out {i j : Nat} (h : j < 96 ∨ 192 ≤ j) (hi : i ≤ 48) : frS st n i j = st j := by
  unfold frS
  rw [if_neg (by omega), if_neg (by omega)]
theorem frS_f {i v : Nat} (hv : v < 48) : frS st n i (96 + v) = if v < i ∧ fz st n v = true then m2 else st (96 + v) := by
  unfold frS
  rw [show 96 + v - 96 = v by omega]
  by_cases q : v < i ∧ fz st n v = true
  · rw [if_pos ⟨by omega, by omega, q.2⟩, if_pos q]
  · rw [if_neg (fun z => q ⟨by omega, z.2.2⟩), if_neg (by omega), if_neg q]
theorem frS_t {i v : Nat} (hi : i ≤ 48) : frS st n i (144 + v) = if v < i ∧ lg st v = true then m2 else st (144 + v) := by
  unfold frS
  rw [show 144 + v - 144 = v by omega, if_neg (by omega)]
  by_cases q : v < i ∧ lg st v = true
  · rw [if_pos ⟨by omega, by omega, q.2⟩, if_pos q]
  · rw [if_neg (fun z => q ⟨by omega, z.2.2⟩), if_neg q]
theorem frS_s {i : Nat} (hi : i < 48) : frS st n (i + 1) = (if lg st i then upd (if fz st n i then upd (frS st n i) (96 + i) m2 else frS st n i) (144 + i) m2 else (if fz st n i then upd (frS st n i) (96 + i) m2 else frS st n i)) := by
  funext j
  by_cases q1 : j = 96 + i
  · subst q1
    have e : ∀ f x, upd f (144 + i) x (96 + i) = f (96 + i) := fun f x => upd_ne (by omega)
    rw [frS_f hi]
    cases hl : lg st i <;> cases hf : fz st n i <;> simp (config := { decide := true }) only [e, upd_eq, frS_f hi, hf, if_true, if_false, Bool.false_eq_true, and_false, and_true, Nat.lt_succ_self]
  · by_cases q2 : j = 144 + i
    · subst q2
      have e : ∀ f x, upd f (96 + i) x (144 + i) = f (144 + i) := fun f x => upd_ne (by omega)
      rw [frS_t (by omega)]
      cases hl : lg st i <;> cases hf : fz st n i <;> simp (config := { decide := true }) only [e, upd_eq, frS_t (Nat.le_of_lt hi), hl, if_true, if_false, Bool.false_eq_true, and_false, and_true, Nat.lt_succ_self]
    · have e1 : ∀ f x, upd f (144 + i) x j = f j := fun f x => upd_ne q2
      have e2 : ∀ f x, upd f (96 + i) x j = f j := fun f x => upd_ne q1
      have e3 : frS st n (i + 1) j = frS st n i j := by
        unfold frS
        have a1 : (96 ≤ j ∧ j < 96 + (i + 1) ∧ fz st n (j - 96) = true) ↔ (96 ≤ j ∧ j < 96 + i ∧ fz st n (j - 96) = true) := ⟨fun z => ⟨z.1, by omega, z.2.2⟩, fun z => ⟨z.1, by omega, z.2.2⟩⟩
        have a2 : (144 ≤ j ∧ j < 144 + (i + 1) ∧ lg st (j - 144) = true) ↔ (144 ≤ j ∧ j < 144 + i ∧ lg st (j - 144) = true) := ⟨fun z => ⟨z.1, by omega, z.2.2⟩, fun z => ⟨z.1, by omega, z.2.2⟩⟩
        simp only [a1, a2]
      rw [e3]
      cases lg st i <;> cases fz st n i <;> simp only [e1, e2, if_true, if_false, Bool.false_eq_true]
theorem frS_0 : frS st n 0 = st := by
  funext j
  unfold frS
  rw [if_neg (by omega), if_neg (by omega)]
theorem M_freezeOn (hr : Mo_ring S = nI n) (W : WS st n m) (mk : Nat → Int32) : f_X10_freezeOn S mk st = some (cI (fun v => fz st n v || lg st v) 48, fun v => if v < 48 then fmk st n v else mk v, frS st n 48) := by
  unfold f_X10_freezeOn
  refine zl4_fold 48 (fun i v => if v < i then fmk st n v else mk v) (fun _ => st) (fun _ => nI 0) _ (by omega) (fun k i hi => ?_) (fun k => ?_)
  · have h1 : ¬ 48 ≤ i := by omega
    have e : upd (fun v => if v < i then fmk st n v else mk v) i (fmk st n i) = fun v => if v < i + 1 then fmk st n v else mk v := by
      funext v
      by_cases q : v = i
      · rw [q, upd_eq, if_pos (by omega)]
      · rw [upd_ne q]
        by_cases q2 : v < i
        · rw [if_pos q2, if_pos (by omega)]
        · rw [if_neg q2, if_neg (by omega)]
    unfold b_X10_freezeOn_4 b_X10_freezeOn_29
    rw [← e]
    simp (disch := omega) only [h1, M_isFrozenThen hr W hi, M_isLetGo W hi, ↓lm1, ↓lm2, i0, i1, i2, i3, i4, i5, i6, i7, i8, i9, i10, i12, i16, i20, i24, i31, i32, i44, i48, i57, i59, i63, i64, i74, i75, i90, i96, i97, i99, i100, i122, i139, i140, i144, i192, i200, i240, i255, i304, i309, i310, i311, i323, i324, i325, i899, i900, i975, i999, i5200, i4875, i65536, i65537, i15, ob_some, nI_add, nI_clamp, zn_zib, zn_eq, zn_lt, zn_le, m2_lt, m2_le, lt_m2, le_m2, eq_m2, m2_eq, m1_lt, m1_le, lt_m1, le_m1, eq_m1, m1_eq, m1_m2, m2_m1, m2_lt_m1, bI_0, bI_1, bI_t, bI_f, bI_bo, nI0_bo, nI1_bo, if_true, if_false, ite_true, ite_false, Nat.zero_add, Nat.not_lt_zero, Nat.zero_le, not_true_eq_false, not_false_eq_true, or_false, false_or, true_or, or_true, and_true, true_and, Bool.false_eq_true, Bool.true_eq_false, reduceCtorEq, eq_self]
    have hf : has (stl st n m2) (frI st i) = fz st n i := rfl
    have hl : has (gn st) (tlI st i) = lg st i := rfl
    rw [hf, hl]
    unfold fmk
    cases fz st n i <;> cases lg st i <;> simp (disch := omega) only [↓lm1, ↓lm2, i0, i1, i2, i3, i4, i5, i6, i7, i8, i9, i10, i12, i16, i20, i24, i31, i32, i44, i48, i57, i59, i63, i64, i74, i75, i90, i96, i97, i99, i100, i122, i139, i140, i144, i192, i200, i240, i255, i304, i309, i310, i311, i323, i324, i325, i899, i900, i975, i999, i5200, i4875, i65536, i65537, i15, ob_some, nI_add, nI_clamp, zn_zib, zn_eq, zn_lt, zn_le, m2_lt, m2_le, lt_m2, le_m2, eq_m2, m2_eq, m1_lt, m1_le, lt_m1, le_m1, eq_m1, m1_eq, m1_m2, m2_m1, m2_lt_m1, bI_0, bI_1, bI_t, bI_f, bI_bo, nI0_bo, nI1_bo, if_true, if_false, ite_true, ite_false, Nat.zero_add, Nat.not_lt_zero, Nat.zero_le, not_true_eq_false, not_false_eq_true, or_false, false_or, true_or, or_true, and_true, true_and, Bool.false_eq_true, Bool.true_eq_false, reduceCtorEq, eq_self]
  · unfold b_X10_freezeOn_4
    have q : (48 : Int32) ≤ nI 48 := by decide
    rw [if_pos q]
    refine Eq.trans ?_ (zl4_fold (f := b_X10_freezeOn_53 S) 48 (fun _ v => if v < 48 then fmk st n v else mk v) (fun i => frS st n i) (cI (fun v => fz st n v || lg st v)) _ (by omega) (fun k i hi => ?_) (fun k => ?_))
    · rw [frS_0]
      rfl
    · have h1 : ¬ 48 ≤ i := by omega
      have hm3 : ∀ x, x ≤ 3 → nI x - nI x / nI 2 * nI 2 = nI (x % 2) := fun x hx => rem_nI (by omega) (by omega) (by omega)
      unfold b_X10_freezeOn_53 b_X10_freezeOn_79 b_X10_freezeOn_98
      rw [cI_s, frS_s hi]
      have hfm : fmk st n i = nI ((if fz st n i then 1 else 0) + (if lg st i then 2 else 0)) := rfl
      have l0 : ¬ nI 2 ≤ nI 1 := by decide
      have l1 : ¬ nI 3 ≤ nI 1 := by decide
      have l2 : ¬ nI 1 ≤ nI 0 := by decide
      have l3 : ¬ nI 2 ≤ nI 0 := by decide
      have l4 : ¬ nI 3 ≤ nI 0 := by decide
      have l5 : ¬ nI 0 = nI 1 := by decide
      have r0 : nI 0 - nI 0 / nI 2 * nI 2 = nI 0 := by decide
      have r1 : nI 1 - nI 1 / nI 2 * nI 2 = nI 1 := by decide
      have r2 : nI 2 - nI 2 / nI 2 * nI 2 = nI 0 := by decide
      have r3 : nI 3 - nI 3 / nI 2 * nI 2 = nI 1 := by decide
      cases hf : fz st n i <;> cases hl : lg st i <;> simp only [hf, hl, if_true, if_false, Bool.false_eq_true, Nat.zero_add, Nat.add_zero] at hfm <;> simp (disch := omega) only [hfm, hf, hl, h1, hi, l0, l1, l2, l3, l4, l5, r0, r1, r2, r3, add_n0, Bool.or_self, Bool.or_true, Bool.or_false, Nat.le_refl, ↓lm1, ↓lm2, i0, i1, i2, i3, i4, i5, i6, i7, i8, i9, i10, i12, i16, i20, i24, i31, i32, i44, i48, i57, i59, i63, i64, i74, i75, i90, i96, i97, i99, i100, i122, i139, i140, i144, i192, i200, i240, i255, i304, i309, i310, i311, i323, i324, i325, i899, i900, i975, i999, i5200, i4875, i65536, i65537, i15, ob_some, nI_add, nI_clamp, zn_zib, zn_eq, zn_lt, zn_le, m2_lt, m2_le, lt_m2, le_m2, eq_m2, m2_eq, m1_lt, m1_le, lt_m1, le_m1, eq_m1, m1_eq, m1_m2, m2_m1, m2_lt_m1, bI_0, bI_1, bI_t, bI_f, bI_bo, nI0_bo, nI1_bo, if_true, if_false, ite_true, ite_false, Nat.zero_add, Nat.not_lt_zero, Nat.zero_le, not_true_eq_false, not_false_eq_true, or_false, false_or, true_or, or_true, and_true, true_and, Bool.false_eq_true, Bool.true_eq_false, reduceCtorEq, eq_self]
    · unfold b_X10_freezeOn_53
      simp (disch := omega) only [Nat.le_refl, ↓lm1, ↓lm2, i0, i1, i2, i3, i4, i5, i6, i7, i8, i9, i10, i12, i16, i20, i24, i31, i32, i44, i48, i57, i59, i63, i64, i74, i75, i90, i96, i97, i99, i100, i122, i139, i140, i144, i192, i200, i240, i255, i304, i309, i310, i311, i323, i324, i325, i899, i900, i975, i999, i5200, i4875, i65536, i65537, i15, ob_some, nI_add, nI_clamp, zn_zib, zn_eq, zn_lt, zn_le, m2_lt, m2_le, lt_m2, le_m2, eq_m2, m2_eq, m1_lt, m1_le, lt_m1, le_m1, eq_m1, m1_eq, m1_m2, m2_m1, m2_lt_m1, bI_0, bI_1, bI_t, bI_f, bI_bo, nI0_bo, nI1_bo, if_true, if_false, ite_true, ite_false, Nat.zero_add, Nat.not_lt_zero, Nat.zero_le, not_true_eq_false, not_false_eq_true, or_false, false_or, true_or, or_true, and_true, true_and, Bool.false_eq_true, Bool.true_eq_false, reduceCtorEq, eq_self]
end
