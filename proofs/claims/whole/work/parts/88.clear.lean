/-! acts: clear -/
def dp (st : Nat → Int32) (n v : Nat) : Bool := lv st v && dd st (gn st) (stl st n m2) v
def clS (st : Nat → Int32) (n : Nat) : Nat → Int32 := fun i => if i < 48 ∧ dp st n i = true then nI 0 else st i
section
variable {R : SRows} {S : SMo} {st : Nat → Int32} {n m c b : Nat}
theorem clS_out {i : Nat} (h : 48 ≤ i) : clS st n i = st i := if_neg (fun z => by omega)
theorem clS_d {v : Nat} (hv : v < 48) (h : dp st n v = true) : clS st n v = nI 0 := if_pos ⟨hv, h⟩
theorem clS_l {v : Nat} (h : dp st n v = false) : clS st n v = st v := if_neg (fun z => by rw [h] at z; exact absurd z.2 (by decide))
theorem M_clearOn (hr : Mo_ring S = nI n) (W : WS st n m) (mk : Nat → Int32) : f_X10_clearOn S mk st = some (cI (dp st n) 48, fun v => if v < 48 then bI (dp st n v) else mk v, clS st n) := by
  unfold f_X10_clearOn
  refine zl4_fold 48 (fun i v => if v < i then bI (dp st n v) else mk v) (fun _ => st) (fun _ => nI 0) _ (by omega) (fun k i hi => ?_) (fun k => ?_)
  · have h1 : ¬ 48 ≤ i := by omega
    have e : upd (fun v => if v < i then bI (dp st n v) else mk v) i (bI (dp st n i)) = fun v => if v < i + 1 then bI (dp st n v) else mk v := by
      funext v
      by_cases q : v = i
      · rw [q, upd_eq, if_pos (by omega)]
      · rw [upd_ne q]
        by_cases q2 : v < i
        · rw [if_pos q2, if_pos (by omega)]
        · rw [if_neg q2, if_neg (by omega)]
    unfold b_X10_clearOn_4
    rw [← e]
    simp (disch := omega) only [h1, M_isDead hr W hi, ↓lm1, ↓lm2, i0, i1, i2, i3, i4, i5, i6, i7, i8, i9, i10, i12, i16, i20, i24, i31, i32, i44, i48, i57, i59, i63, i64, i74, i75, i90, i96, i97, i99, i100, i122, i139, i140, i144, i192, i200, i240, i255, i304, i309, i310, i311, i323, i324, i325, i899, i900, i975, i999, i5200, i4875, i65536, i65537, i15, ob_some, nI_add, nI_clamp, zn_zib, zn_eq, zn_lt, zn_le, m2_lt, m2_le, lt_m2, le_m2, eq_m2, m2_eq, m1_lt, m1_le, lt_m1, le_m1, eq_m1, m1_eq, m1_m2, m2_m1, m2_lt_m1, bI_0, bI_1, bI_t, bI_f, bI_bo, nI0_bo, nI1_bo, if_true, if_false, ite_true, ite_false, Nat.zero_add, Nat.not_lt_zero, Nat.zero_le, not_true_eq_false, not_false_eq_true, or_false, false_or, true_or, or_true, and_true, true_and, Bool.false_eq_true, Bool.true_eq_false, reduceCtorEq, eq_self]
    have hd : (lv st i && dd st (gn st) (stl st n m2) i) = dp st n i := rfl
    rw [hd]
    cases dp st n i <;> simp (disch := omega) only [↓lm1, ↓lm2, i0, i1, i2, i3, i4, i5, i6, i7, i8, i9, i10, i12, i16, i20, i24, i31, i32, i44, i48, i57, i59, i63, i64, i74, i75, i90, i96, i97, i99, i100, i122, i139, i140, i144, i192, i200, i240, i255, i304, i309, i310, i311, i323, i324, i325, i899, i900, i975, i999, i5200, i4875, i65536, i65537, i15, ob_some, nI_add, nI_clamp, zn_zib, zn_eq, zn_lt, zn_le, m2_lt, m2_le, lt_m2, le_m2, eq_m2, m2_eq, m1_lt, m1_le, lt_m1, le_m1, eq_m1, m1_eq, m1_m2, m2_m1, m2_lt_m1, bI_0, bI_1, bI_t, bI_f, bI_bo, nI0_bo, nI1_bo, if_true, if_false, ite_true, ite_false, Nat.zero_add, Nat.not_lt_zero, Nat.zero_le, not_true_eq_false, not_false_eq_true, or_false, false_or, true_or, or_true, and_true, true_and, Bool.false_eq_true, Bool.true_eq_false, reduceCtorEq, eq_self]
  · unfold b_X10_clearOn_4
    have q : (48 : Int32) ≤ nI 48 := by decide
    rw [if_pos q]
    refine zl4_fold 48 (fun _ v => if v < 48 then bI (dp st n v) else mk v) (fun i j => if j < i ∧ dp st n j = true then nI 0 else st j) (cI (dp st n)) _ (by omega) (fun k i hi => ?_) (fun k => ?_)
    · have h1 : ¬ 48 ≤ i := by omega
      unfold b_X10_clearOn_38
      rw [cI_s]
      have e : (fun j => if j < i + 1 ∧ dp st n j = true then nI 0 else st j) = if dp st n i = true then upd (fun j => if j < i ∧ dp st n j = true then nI 0 else st j) i (nI 0) else (fun j => if j < i ∧ dp st n j = true then nI 0 else st j) := by
        funext j
        cases hd : dp st n i
        · simp only [Bool.false_eq_true, if_false]
          by_cases q : j = i
          · simp only [q, hd, Bool.false_eq_true, and_false, if_false]
          · by_cases q2 : j < i
            · simp only [q2, show j < i + 1 by omega]
            · simp only [q2, show ¬ j < i + 1 by omega]
        · simp only [if_true]
          by_cases q : j = i
          · rw [q, upd_eq, if_pos ⟨by omega, hd⟩]
          · rw [upd_ne q]
            by_cases q2 : j < i
            · simp only [q2, show j < i + 1 by omega]
            · simp only [q2, show ¬ j < i + 1 by omega]
      rw [e]
      simp (disch := omega) only [h1, hi, ↓lm1, ↓lm2, i0, i1, i2, i3, i4, i5, i6, i7, i8, i9, i10, i12, i16, i20, i24, i31, i32, i44, i48, i57, i59, i63, i64, i74, i75, i90, i96, i97, i99, i100, i122, i139, i140, i144, i192, i200, i240, i255, i304, i309, i310, i311, i323, i324, i325, i899, i900, i975, i999, i5200, i4875, i65536, i65537, i15, ob_some, nI_add, nI_clamp, zn_zib, zn_eq, zn_lt, zn_le, m2_lt, m2_le, lt_m2, le_m2, eq_m2, m2_eq, m1_lt, m1_le, lt_m1, le_m1, eq_m1, m1_eq, m1_m2, m2_m1, m2_lt_m1, bI_0, bI_1, bI_t, bI_f, bI_bo, nI0_bo, nI1_bo, if_true, if_false, ite_true, ite_false, Nat.zero_add, Nat.not_lt_zero, Nat.zero_le, not_true_eq_false, not_false_eq_true, or_false, false_or, true_or, or_true, and_true, true_and, Bool.false_eq_true, Bool.true_eq_false, reduceCtorEq, eq_self]
      cases hd : dp st n i <;> simp (disch := omega) only [↓lm1, ↓lm2, i0, i1, i2, i3, i4, i5, i6, i7, i8, i9, i10, i12, i16, i20, i24, i31, i32, i44, i48, i57, i59, i63, i64, i74, i75, i90, i96, i97, i99, i100, i122, i139, i140, i144, i192, i200, i240, i255, i304, i309, i310, i311, i323, i324, i325, i899, i900, i975, i999, i5200, i4875, i65536, i65537, i15, ob_some, nI_add, nI_clamp, zn_zib, zn_eq, zn_lt, zn_le, m2_lt, m2_le, lt_m2, le_m2, eq_m2, m2_eq, m1_lt, m1_le, lt_m1, le_m1, eq_m1, m1_eq, m1_m2, m2_m1, m2_lt_m1, bI_0, bI_1, bI_t, bI_f, bI_bo, nI0_bo, nI1_bo, if_true, if_false, ite_true, ite_false, Nat.zero_add, Nat.not_lt_zero, Nat.zero_le, not_true_eq_false, not_false_eq_true, or_false, false_or, true_or, or_true, and_true, true_and, Bool.false_eq_true, Bool.true_eq_false, reduceCtorEq, eq_self]
    · unfold b_X10_clearOn_38
      simp (disch := omega) only [Nat.le_refl, ↓lm1, ↓lm2, i0, i1, i2, i3, i4, i5, i6, i7, i8, i9, i10, i12, i16, i20, i24, i31, i32, i44, i48, i57, i59, i63, i64, i74, i75, i90, i96, i97, i99, i100, i122, i139, i140, i144, i192, i200, i240, i255, i304, i309, i310, i311, i323, i324, i325, i899, i900, i975, i999, i5200, i4875, i65536, i65537, i15, ob_some, nI_add, nI_clamp, zn_zib, zn_eq, zn_lt, zn_le, m2_lt, m2_le, lt_m2, le_m2, eq_m2, m2_eq, m1_lt, m1_le, lt_m1, le_m1, eq_m1, m1_eq, m1_m2, m2_m1, m2_lt_m1, bI_0, bI_1, bI_t, bI_f, bI_bo, nI0_bo, nI1_bo, if_true, if_false, ite_true, ite_false, Nat.zero_add, Nat.not_lt_zero, Nat.zero_le, not_true_eq_false, not_false_eq_true, or_false, false_or, true_or, or_true, and_true, true_and, Bool.false_eq_true, Bool.true_eq_false, reduceCtorEq, eq_self]
      rfl
theorem X6_isDead_gen {R' : SRows} {v r : Nat} {x y : Int32} (hn : n ≤ 64) (hv : v < 48) (hr : r < 100) (e0 : Rows_rowsOf R' v = nI r) (e1 : Rows_froms R' v = x) (e2 : Rows_tills R' v = y) (h1 : okS n x) (h2 : okS n y) (G T : Int64) : f_X6_isVersion R' (nI v) = some (nI 1) ∧ f_X6_isDead R' (nI v) G T = some (bI (has (lb G) x || has (lb T) y)) := by
  have q1 : ¬ 48 ≤ v := by omega
  have hver : f_X6_isVersion R' (nI v) = some (nI 1) := by
    unfold f_X6_isVersion
    simp (disch := omega) only [q1, e0, ↓lm1, ↓lm2, i0, i1, i2, i3, i4, i5, i6, i7, i8, i9, i10, i12, i16, i20, i24, i31, i32, i44, i48, i57, i59, i63, i64, i74, i75, i90, i96, i97, i99, i100, i122, i139, i140, i144, i192, i200, i240, i255, i304, i309, i310, i311, i323, i324, i325, i899, i900, i975, i999, i5200, i4875, i65536, i65537, i15, ob_some, nI_add, nI_clamp, zn_zib, zn_eq, zn_lt, zn_le, m2_lt, m2_le, lt_m2, le_m2, eq_m2, m2_eq, m1_lt, m1_le, lt_m1, le_m1, eq_m1, m1_eq, m1_m2, m2_m1, m2_lt_m1, bI_0, bI_1, bI_t, bI_f, bI_bo, nI0_bo, nI1_bo, if_true, if_false, ite_true, ite_false, Nat.zero_add, Nat.not_lt_zero, Nat.zero_le, not_true_eq_false, not_false_eq_true, or_false, false_or, true_or, or_true, and_true, true_and, Bool.false_eq_true, Bool.true_eq_false, reduceCtorEq, eq_self]
  refine ⟨hver, ?_⟩
  unfold f_X6_isDead f_X6_fromOf f_X6_tillOf
  simp (disch := omega) only [hver, e1, e2, hol_ok hn _ h1, hol_ok hn _ h2, ↓lm1, ↓lm2, i0, i1, i2, i3, i4, i5, i6, i7, i8, i9, i10, i12, i16, i20, i24, i31, i32, i44, i48, i57, i59, i63, i64, i74, i75, i90, i96, i97, i99, i100, i122, i139, i140, i144, i192, i200, i240, i255, i304, i309, i310, i311, i323, i324, i325, i899, i900, i975, i999, i5200, i4875, i65536, i65537, i15, ob_some, nI_add, nI_clamp, zn_zib, zn_eq, zn_lt, zn_le, m2_lt, m2_le, lt_m2, le_m2, eq_m2, m2_eq, m1_lt, m1_le, lt_m1, le_m1, eq_m1, m1_eq, m1_m2, m2_m1, m2_lt_m1, bI_0, bI_1, bI_t, bI_f, bI_bo, nI0_bo, nI1_bo, if_true, if_false, ite_true, ite_false, Nat.zero_add, Nat.not_lt_zero, Nat.zero_le, not_true_eq_false, not_false_eq_true, or_false, false_or, true_or, or_true, and_true, true_and, Bool.false_eq_true, Bool.true_eq_false, reduceCtorEq, eq_self]
  cases has (lb G) x <;> cases has (lb T) y <;> simp (disch := omega) only [Bool.or_false, Bool.or_true, ↓lm1, ↓lm2, i0, i1, i2, i3, i4, i5, i6, i7, i8, i9, i10, i12, i16, i20, i24, i31, i32, i44, i48, i57, i59, i63, i64, i74, i75, i90, i96, i97, i99, i100, i122, i139, i140, i144, i192, i200, i240, i255, i304, i309, i310, i311, i323, i324, i325, i899, i900, i975, i999, i5200, i4875, i65536, i65537, i15, ob_some, nI_add, nI_clamp, zn_zib, zn_eq, zn_lt, zn_le, m2_lt, m2_le, lt_m2, le_m2, eq_m2, m2_eq, m1_lt, m1_le, lt_m1, le_m1, eq_m1, m1_eq, m1_m2, m2_m1, m2_lt_m1, bI_0, bI_1, bI_t, bI_f, bI_bo, nI0_bo, nI1_bo, if_true, if_false, ite_true, ite_false, Nat.zero_add, Nat.not_lt_zero, Nat.zero_le, not_true_eq_false, not_false_eq_true, or_false, false_or, true_or, or_true, and_true, true_and, Bool.false_eq_true, Bool.true_eq_false, reduceCtorEq, eq_self]
end
