/-! what a line begins with, on both sides -/
def dHd (D : SRd) (x : Option Nat) : SRd := mkRd (Rd_fault D) (Rd_place D) (Rd_nameCount D) (Rd_names D) (Rd_nameStamps D) (Rd_nameSlots D) (Rd_unsureNames D) (Rd_unsureCount D) x (Rd_name D) (Rd_row D) (Rd_whole D)
section
variable {T : STape} {S : SMo} {D : SRd} {E : SEv} {R : SRows} {lt tp fr mk od ow rd sl : Nat → Int32} {q : Nat → Bool}
theorem T_stored (h : ¬ Rows_ring R = nI 0) : f_X5_isStored D R = some (nI 1) := by
  unfold f_X5_isStored
  rw [if_neg h]
  rfl
theorem T_unstored (h : Rows_ring R = nI 0) : f_X5_isStored D R = some (nI 0) := by
  unfold f_X5_isStored
  rw [if_pos h]
  rfl
theorem T_rl_none (hr : f_X7_reserved T = some none) : f_X5_readLine D E R T = some (nI 0, flD (dHd D none) (nI 1) (Tape_start T), E, R, T) := by
  unfold f_X5_readLine
  rw [hr]
  rfl
theorem T_rl_10 (hr : f_X7_reserved T = some (some 10)) : f_X5_readLine D E R T = some (nI 0, flD (dHd D (some 10)) (nI 1) (Tape_start T), E, R, T) := by
  unfold f_X5_readLine
  rw [hr]
  rfl
theorem T_rl_0s (hr : f_X7_reserved T = some (some 0)) (h : ¬ Rows_ring R = nI 0) : f_X5_readLine D E R T = some (nI 0, flD (dHd D (some 0)) (nI 3) (Tape_start T), E, R, T) := by
  unfold f_X5_readLine
  rw [hr, ob_some, if_neg (by decide), if_pos (by decide), if_neg (by decide), if_pos (by decide), if_pos (by decide), T_stored h, ob_some, if_neg (by decide)]
  rfl
theorem T_rl_0 (hr : f_X7_reserved T = some (some 0)) (h : Rows_ring R = nI 0) : f_X5_readLine D E R T = (f_X5_readHead (dHd D (some 0)) R T).bind (fun q20 => if zbo q20.1 then some (q20.1, q20.2.1, E, q20.2.2.1, q20.2.2.2) else none) := by
  unfold f_X5_readLine
  rw [hr, ob_some, if_neg (by decide), if_pos (by decide), if_neg (by decide), if_pos (by decide), if_pos (by decide), T_unstored h, ob_some, if_pos (by decide)]
  rfl
theorem T_rl_ns {j : Nat} (hj : 1 ≤ j) (hj2 : j < 10) (hr : f_X7_reserved T = some (some j)) (h : Rows_ring R = nI 0) : f_X5_readLine D E R T = some (nI 0, flD (dHd D (some j)) (nI 6) (Tape_start T), E, R, T) := by
  have e1 : ¬ (some j = (none : Option Nat)) := fun z => by cases z
  have e2 : (some j).getD 0 < 11 := Nat.lt_trans hj2 (by decide)
  have e3 : ¬ (some j = some 10) := fun z => by cases z; omega
  have e4 : ¬ (some j = some 0) := fun z => by cases z; omega
  unfold f_X5_readLine
  rw [hr, ob_some, if_neg e1, if_pos e2, if_neg e3, if_pos e2, if_neg e4, T_unstored h, ob_some, if_pos (by decide)]
  rfl
theorem T_rl_1 (hr : f_X7_reserved T = some (some 1)) (h : ¬ Rows_ring R = nI 0) : f_X5_readLine D E R T = (f_X5_readBegin (dHd D (some 1)) T).bind (fun q7 => if zbo q7.1 then some (q7.1, q7.2.1, E, R, q7.2.2) else none) := by
  have ho : f_Jx29ce0_ordinal_8abf5 ((some 1).getD 0) = some (nI 1) := by decide +kernel
  unfold f_X5_readLine
  rw [hr, ob_some, if_neg (by decide), if_pos (by decide), if_neg (by decide), if_pos (by decide), if_neg (by decide), T_stored h, ob_some, if_neg (by decide), if_pos (by decide), ho, ob_some, if_pos (by decide)]
  rfl
theorem T_rl_2 (hr : f_X7_reserved T = some (some 2)) (h : ¬ Rows_ring R = nI 0) : f_X5_readLine D E R T = (f_X5_takeRunning (dHd D (some 2)) T).bind (fun q8 => if q8.1 = 0 then some ((0 : Int32), q8.2.1, E, R, q8.2.2) else (f_X5_takeRow q8.2.1 R q8.2.2).bind (fun q9 => if q9.1 = 0 then some ((0 : Int32), q9.2.1, E, R, q9.2.2) else (f_X5_takeWhole q9.2.1 q9.2.2 (0 : Int32) (999 : Int32)).bind (fun q10 => if q10.1 = 0 then some ((0 : Int32), q10.2.1, E, R, q10.2.2) else (f_X5_takeLineEnd q10.2.1 q10.2.2).bind (fun q11 => if q11.1 = 0 then some ((0 : Int32), q11.2.1, E, R, q11.2.2) else some ((1 : Int32), q11.2.1, E, R, q11.2.2))))) := by
  have ho : f_Jx29ce0_ordinal_8abf5 ((some 2).getD 0) = some (nI 2) := by decide +kernel
  unfold f_X5_readLine
  rw [hr, ob_some, if_neg (by decide), if_pos (by decide), if_neg (by decide), if_pos (by decide), if_neg (by decide), T_stored h, ob_some, if_neg (by decide), if_pos (by decide), ho, ob_some, if_pos (by decide)]
  rfl
theorem T_rl_3 (hr : f_X7_reserved T = some (some 3)) (h : ¬ Rows_ring R = nI 0) : f_X5_readLine D E R T = (f_X5_takeRunning (dHd D (some 3)) T).bind (fun q12 => if q12.1 = 0 then some ((0 : Int32), q12.2.1, E, R, q12.2.2) else (f_X5_takeRow q12.2.1 R q12.2.2).bind (fun q13 => if q13.1 = 0 then some ((0 : Int32), q13.2.1, E, R, q13.2.2) else (f_X5_takeLineEnd q13.2.1 q13.2.2).bind (fun q14 => if q14.1 = 0 then some ((0 : Int32), q14.2.1, E, R, q14.2.2) else some ((1 : Int32), q14.2.1, E, R, q14.2.2)))) := by
  have ho : f_Jx29ce0_ordinal_8abf5 ((some 3).getD 0) = some (nI 3) := by decide +kernel
  unfold f_X5_readLine
  rw [hr, ob_some, if_neg (by decide), if_pos (by decide), if_neg (by decide), if_pos (by decide), if_neg (by decide), T_stored h, ob_some, if_neg (by decide), if_pos (by decide), ho, ob_some, if_pos (by decide)]
  rfl
theorem T_rl_4 (hr : f_X7_reserved T = some (some 4)) (h : ¬ Rows_ring R = nI 0) : f_X5_readLine D E R T = b_X5_readLine_202 (dHd D (some 4)) E R T := by
  have ho : f_Jx29ce0_ordinal_8abf5 ((some 4).getD 0) = some (nI 4) := by decide +kernel
  unfold f_X5_readLine
  rw [hr, ob_some, if_neg (by decide), if_pos (by decide), if_neg (by decide), if_pos (by decide), if_neg (by decide), T_stored h, ob_some, if_neg (by decide), if_pos (by decide), ho, ob_some, if_pos (by decide)]
  rfl
theorem T_rl_5 (hr : f_X7_reserved T = some (some 5)) (h : ¬ Rows_ring R = nI 0) : f_X5_readLine D E R T = b_X5_readLine_202 (dHd D (some 5)) E R T := by
  have ho : f_Jx29ce0_ordinal_8abf5 ((some 5).getD 0) = some (nI 5) := by decide +kernel
  unfold f_X5_readLine
  rw [hr, ob_some, if_neg (by decide), if_pos (by decide), if_neg (by decide), if_pos (by decide), if_neg (by decide), T_stored h, ob_some, if_neg (by decide), if_pos (by decide), ho, ob_some, if_pos (by decide)]
  rfl
theorem T_rl_6 (hr : f_X7_reserved T = some (some 6)) (h : ¬ Rows_ring R = nI 0) : f_X5_readLine D E R T = (f_X5_takeLineEnd (dHd D (some 6)) T).bind (fun q17 => if zbo q17.1 then some (q17.1, q17.2.1, E, R, q17.2.2) else none) := by
  have ho : f_Jx29ce0_ordinal_8abf5 ((some 6).getD 0) = some (nI 6) := by decide +kernel
  unfold f_X5_readLine
  rw [hr, ob_some, if_neg (by decide), if_pos (by decide), if_neg (by decide), if_pos (by decide), if_neg (by decide), T_stored h, ob_some, if_neg (by decide), if_pos (by decide), ho, ob_some, if_pos (by decide)]
  rfl
theorem T_rl_7 (hr : f_X7_reserved T = some (some 7)) (h : ¬ Rows_ring R = nI 0) : f_X5_readLine D E R T = (f_X5_takeLineEnd (dHd D (some 7)) T).bind (fun q17 => if zbo q17.1 then some (q17.1, q17.2.1, E, R, q17.2.2) else none) := by
  have ho : f_Jx29ce0_ordinal_8abf5 ((some 7).getD 0) = some (nI 7) := by decide +kernel
  unfold f_X5_readLine
  rw [hr, ob_some, if_neg (by decide), if_pos (by decide), if_neg (by decide), if_pos (by decide), if_neg (by decide), T_stored h, ob_some, if_neg (by decide), if_pos (by decide), ho, ob_some, if_pos (by decide)]
  rfl
theorem T_rl_8 (hr : f_X7_reserved T = some (some 8)) (h : ¬ Rows_ring R = nI 0) : f_X5_readLine D E R T = (f_X5_readUnsure (dHd D (some 8)) T).bind (fun q15 => if zbo q15.1 then some (q15.1, q15.2.1, E, R, q15.2.2) else none) := by
  have ho : f_Jx29ce0_ordinal_8abf5 ((some 8).getD 0) = some (nI 8) := by decide +kernel
  unfold f_X5_readLine
  rw [hr, ob_some, if_neg (by decide), if_pos (by decide), if_neg (by decide), if_pos (by decide), if_neg (by decide), T_stored h, ob_some, if_neg (by decide), if_pos (by decide), ho, ob_some, if_pos (by decide)]
  rfl
theorem T_rl_9 (hr : f_X7_reserved T = some (some 9)) (h : ¬ Rows_ring R = nI 0) : f_X5_readLine D E R T = (f_X5_readSeen (dHd D (some 9)) E R T).bind (fun q16 => if zbo q16.1 then some (q16.1, q16.2.1, q16.2.2.1, R, q16.2.2.2) else none) := by
  have ho : f_Jx29ce0_ordinal_8abf5 ((some 9).getD 0) = some (nI 9) := by decide +kernel
  unfold f_X5_readLine
  rw [hr, ob_some, if_neg (by decide), if_pos (by decide), if_neg (by decide), if_pos (by decide), if_neg (by decide), T_stored h, ob_some, if_neg (by decide), if_pos (by decide), ho, ob_some, if_pos (by decide)]
  rfl
theorem M_107f (hf : Mo_failed S = nI 1) : b_X10_readLine_107 tp S fr lt mk od ow rd sl = some (S, fr, lt, mk, od, ow, rd, sl) := by
  unfold b_X10_readLine_107
  simp (disch := omega) only [M_isWord_failed hf, ↓lm1, ↓lm2, i0, i1, i2, i3, i4, i5, i6, i7, i8, i9, i10, i12, i16, i20, i24, i31, i32, i44, i48, i57, i59, i63, i64, i74, i75, i90, i96, i97, i99, i100, i122, i139, i140, i144, i192, i200, i240, i255, i304, i309, i310, i311, i323, i324, i325, i899, i900, i975, i999, i5200, i4875, i65536, i65537, i15, ob_some, nI_add, nI_clamp, zn_zib, zn_eq, zn_lt, zn_le, m2_lt, m2_le, lt_m2, le_m2, eq_m2, m2_eq, m1_lt, m1_le, lt_m1, le_m1, eq_m1, m1_eq, m1_m2, m2_m1, m2_lt_m1, bI_0, bI_1, bI_t, bI_f, bI_bo, nI0_bo, nI1_bo, if_true, if_false, ite_true, ite_false, Nat.zero_add, Nat.not_lt_zero, Nat.zero_le, not_true_eq_false, not_false_eq_true, or_false, false_or, true_or, or_true, and_true, true_and, Bool.false_eq_true, Bool.true_eq_false, reduceCtorEq, eq_self]
theorem M_87f (hf : Mo_failed S = nI 1) : b_X10_readLine_87 tp S fr lt mk od ow rd sl = some (S, fr, lt, mk, od, ow, rd, sl) := by
  unfold b_X10_readLine_87
  simp (disch := omega) only [M_wrong_f hf, M_107f hf, ↓lm1, ↓lm2, i0, i1, i2, i3, i4, i5, i6, i7, i8, i9, i10, i12, i16, i20, i24, i31, i32, i44, i48, i57, i59, i63, i64, i74, i75, i90, i96, i97, i99, i100, i122, i139, i140, i144, i192, i200, i240, i255, i304, i309, i310, i311, i323, i324, i325, i899, i900, i975, i999, i5200, i4875, i65536, i65537, i15, ob_some, nI_add, nI_clamp, zn_zib, zn_eq, zn_lt, zn_le, m2_lt, m2_le, lt_m2, le_m2, eq_m2, m2_eq, m1_lt, m1_le, lt_m1, le_m1, eq_m1, m1_eq, m1_m2, m2_m1, m2_lt_m1, bI_0, bI_1, bI_t, bI_f, bI_bo, nI0_bo, nI1_bo, if_true, if_false, ite_true, ite_false, Nat.zero_add, Nat.not_lt_zero, Nat.zero_le, not_true_eq_false, not_false_eq_true, or_false, false_or, true_or, or_true, and_true, true_and, Bool.false_eq_true, Bool.true_eq_false, reduceCtorEq, eq_self, ite_self]
theorem M_59f (hf : Mo_failed S = nI 1) : b_X10_readLine_59 tp S fr lt mk od ow rd sl = some (S, fr, lt, mk, od, ow, rd, sl) := by
  unfold b_X10_readLine_59
  simp (disch := omega) only [M_isWord_failed hf, M_87f hf, ↓lm1, ↓lm2, i0, i1, i2, i3, i4, i5, i6, i7, i8, i9, i10, i12, i16, i20, i24, i31, i32, i44, i48, i57, i59, i63, i64, i74, i75, i90, i96, i97, i99, i100, i122, i139, i140, i144, i192, i200, i240, i255, i304, i309, i310, i311, i323, i324, i325, i899, i900, i975, i999, i5200, i4875, i65536, i65537, i15, ob_some, nI_add, nI_clamp, zn_zib, zn_eq, zn_lt, zn_le, m2_lt, m2_le, lt_m2, le_m2, eq_m2, m2_eq, m1_lt, m1_le, lt_m1, le_m1, eq_m1, m1_eq, m1_m2, m2_m1, m2_lt_m1, bI_0, bI_1, bI_t, bI_f, bI_bo, nI0_bo, nI1_bo, if_true, if_false, ite_true, ite_false, Nat.zero_add, Nat.not_lt_zero, Nat.zero_le, not_true_eq_false, not_false_eq_true, or_false, false_or, true_or, or_true, and_true, true_and, Bool.false_eq_true, Bool.true_eq_false, reduceCtorEq, eq_self]
theorem M_38f (hf : Mo_failed S = nI 1) : b_X10_readLine_38 tp S fr lt mk od ow rd sl = some (S, fr, lt, mk, od, ow, rd, sl) := by
  unfold b_X10_readLine_38
  simp (disch := omega) only [M_isWord_failed hf, M_59f hf, ↓lm1, ↓lm2, i0, i1, i2, i3, i4, i5, i6, i7, i8, i9, i10, i12, i16, i20, i24, i31, i32, i44, i48, i57, i59, i63, i64, i74, i75, i90, i96, i97, i99, i100, i122, i139, i140, i144, i192, i200, i240, i255, i304, i309, i310, i311, i323, i324, i325, i899, i900, i975, i999, i5200, i4875, i65536, i65537, i15, ob_some, nI_add, nI_clamp, zn_zib, zn_eq, zn_lt, zn_le, m2_lt, m2_le, lt_m2, le_m2, eq_m2, m2_eq, m1_lt, m1_le, lt_m1, le_m1, eq_m1, m1_eq, m1_m2, m2_m1, m2_lt_m1, bI_0, bI_1, bI_t, bI_f, bI_bo, nI0_bo, nI1_bo, if_true, if_false, ite_true, ite_false, Nat.zero_add, Nat.not_lt_zero, Nat.zero_le, not_true_eq_false, not_false_eq_true, or_false, false_or, true_or, or_true, and_true, true_and, Bool.false_eq_true, Bool.true_eq_false, reduceCtorEq, eq_self]
theorem M_rl_bad (hf : Mo_failed S = nI 0) (h : ∀ x, x < 15 → f_X10_isWord S lt x = some (bI (q x))) (hq : ∀ x, x < 10 → q x = false) : f_X10_readLine S fr lt mk od ow rd sl tp = some (wrS S (nI 1) (Mo_at S), fr, lt, mk, od, ow, rd, sl) := by
  have e := M_38f (S := wrS S (nI 1) (Mo_at S)) (tp := tp) (fr := fr) (lt := lt) (mk := mk) (od := od) (ow := ow) (rd := rd) (sl := sl) rfl
  unfold f_X10_readLine
  simp (disch := omega) only [hf, h 0 (by omega), M_isLine h, hq 0 (by omega), hq 1 (by omega), hq 2 (by omega), hq 3 (by omega), hq 4 (by omega), hq 5 (by omega), hq 6 (by omega), hq 7 (by omega), hq 8 (by omega), hq 9 (by omega), Bool.or_self, M_wrong hf, e, ↓lm1, ↓lm2, i0, i1, i2, i3, i4, i5, i6, i7, i8, i9, i10, i12, i16, i20, i24, i31, i32, i44, i48, i57, i59, i63, i64, i74, i75, i90, i96, i97, i99, i100, i122, i139, i140, i144, i192, i200, i240, i255, i304, i309, i310, i311, i323, i324, i325, i899, i900, i975, i999, i5200, i4875, i65536, i65537, i15, ob_some, nI_add, nI_clamp, zn_zib, zn_eq, zn_lt, zn_le, m2_lt, m2_le, lt_m2, le_m2, eq_m2, m2_eq, m1_lt, m1_le, lt_m1, le_m1, eq_m1, m1_eq, m1_m2, m2_m1, m2_lt_m1, bI_0, bI_1, bI_t, bI_f, bI_bo, nI0_bo, nI1_bo, if_true, if_false, ite_true, ite_false, Nat.zero_add, Nat.not_lt_zero, Nat.zero_le, not_true_eq_false, not_false_eq_true, or_false, false_or, true_or, or_true, and_true, true_and, Bool.false_eq_true, Bool.true_eq_false, reduceCtorEq, eq_self]
theorem M_rl_0 (hf : Mo_failed S = nI 0) (h : f_X10_isWord S lt 0 = some (nI 1)) : f_X10_readLine S fr lt mk od ow rd sl tp = (f_X10_storeLine S fr lt rd tp).bind (fun q27 => some (q27.1, q27.2.1, q27.2.2.1, mk, od, ow, q27.2.2.2, sl)) := by
  unfold f_X10_readLine
  simp (disch := omega) only [hf, h, ↓lm1, ↓lm2, i0, i1, i2, i3, i4, i5, i6, i7, i8, i9, i10, i12, i16, i20, i24, i31, i32, i44, i48, i57, i59, i63, i64, i74, i75, i90, i96, i97, i99, i100, i122, i139, i140, i144, i192, i200, i240, i255, i304, i309, i310, i311, i323, i324, i325, i899, i900, i975, i999, i5200, i4875, i65536, i65537, i15, ob_some, nI_add, nI_clamp, zn_zib, zn_eq, zn_lt, zn_le, m2_lt, m2_le, lt_m2, le_m2, eq_m2, m2_eq, m1_lt, m1_le, lt_m1, le_m1, eq_m1, m1_eq, m1_m2, m2_m1, m2_lt_m1, bI_0, bI_1, bI_t, bI_f, bI_bo, nI0_bo, nI1_bo, if_true, if_false, ite_true, ite_false, Nat.zero_add, Nat.not_lt_zero, Nat.zero_le, not_true_eq_false, not_false_eq_true, or_false, false_or, true_or, or_true, and_true, true_and, Bool.false_eq_true, Bool.true_eq_false, reduceCtorEq, eq_self]
theorem M_rl_1 (hf : Mo_failed S = nI 0) (hj : f_X10_isWord S lt 1 = some (nI 1)) (g : ∀ x, x < 11 → x ≠ 1 → f_X10_isWord S lt x = some (nI 0)) (h7 : fr 7 = nI 1) {kn : Nat} (h6 : fr 6 = nI kn) (hk : kn < 12) : f_X10_readLine S fr lt mk od ow rd sl tp = (f_X10_beginLine S fr lt ow rd sl tp).bind (fun q18 => some (q18.1, q18.2.1, q18.2.2.1, mk, od, q18.2.2.2.1, q18.2.2.2.2.1, q18.2.2.2.2.2)) := by
  have g0 : f_X10_isWord S lt 0 = some (nI 0) := g 0 (by omega) (by omega)
  have g1 : f_X10_isWord S lt 1 = some (nI 1) := hj
  have g2 : f_X10_isWord S lt 2 = some (nI 0) := g 2 (by omega) (by omega)
  have g3 : f_X10_isWord S lt 3 = some (nI 0) := g 3 (by omega) (by omega)
  have g4 : f_X10_isWord S lt 4 = some (nI 0) := g 4 (by omega) (by omega)
  have g5 : f_X10_isWord S lt 5 = some (nI 0) := g 5 (by omega) (by omega)
  have g6 : f_X10_isWord S lt 6 = some (nI 0) := g 6 (by omega) (by omega)
  have g7 : f_X10_isWord S lt 7 = some (nI 0) := g 7 (by omega) (by omega)
  have g8 : f_X10_isWord S lt 8 = some (nI 0) := g 8 (by omega) (by omega)
  have g9 : f_X10_isWord S lt 9 = some (nI 0) := g 9 (by omega) (by omega)
  have h6n : ¬ kn = 12 := by omega
  unfold f_X10_readLine b_X10_readLine_38 b_X10_readLine_59 b_X10_readLine_87 b_X10_readLine_107 f_X10_isLine
  simp (disch := omega) only [hf, g0, g1, g2, g3, g4, g5, g6, g7, g8, g9, h7, h6, h6n, ↓lm1, ↓lm2, i0, i1, i2, i3, i4, i5, i6, i7, i8, i9, i10, i12, i16, i20, i24, i31, i32, i44, i48, i57, i59, i63, i64, i74, i75, i90, i96, i97, i99, i100, i122, i139, i140, i144, i192, i200, i240, i255, i304, i309, i310, i311, i323, i324, i325, i899, i900, i975, i999, i5200, i4875, i65536, i65537, i15, ob_some, nI_add, nI_clamp, zn_zib, zn_eq, zn_lt, zn_le, m2_lt, m2_le, lt_m2, le_m2, eq_m2, m2_eq, m1_lt, m1_le, lt_m1, le_m1, eq_m1, m1_eq, m1_m2, m2_m1, m2_lt_m1, bI_0, bI_1, bI_t, bI_f, bI_bo, nI0_bo, nI1_bo, if_true, if_false, ite_true, ite_false, Nat.zero_add, Nat.not_lt_zero, Nat.zero_le, not_true_eq_false, not_false_eq_true, or_false, false_or, true_or, or_true, and_true, true_and, Bool.false_eq_true, Bool.true_eq_false, reduceCtorEq, eq_self]
theorem M_rlns_1 (hf : Mo_failed S = nI 0) (hj : f_X10_isWord S lt 1 = some (nI 1)) (g : ∀ x, x < 11 → x ≠ 1 → f_X10_isWord S lt x = some (nI 0)) (h7 : fr 7 = nI 0) (h6 : fr 6 = nI 0) (h4 : fr 4 = nI 0) : f_X10_readLine S fr lt mk od ow rd sl tp = some (wrS S (nI 6) (Mo_at S), fr, lt, mk, od, ow, rd, sl) := by
  have g0 : f_X10_isWord S lt 0 = some (nI 0) := g 0 (by omega) (by omega)
  have g1 : f_X10_isWord S lt 1 = some (nI 1) := hj
  have g2 : f_X10_isWord S lt 2 = some (nI 0) := g 2 (by omega) (by omega)
  have g3 : f_X10_isWord S lt 3 = some (nI 0) := g 3 (by omega) (by omega)
  have g4 : f_X10_isWord S lt 4 = some (nI 0) := g 4 (by omega) (by omega)
  have g5 : f_X10_isWord S lt 5 = some (nI 0) := g 5 (by omega) (by omega)
  have g6 : f_X10_isWord S lt 6 = some (nI 0) := g 6 (by omega) (by omega)
  have g7 : f_X10_isWord S lt 7 = some (nI 0) := g 7 (by omega) (by omega)
  have g8 : f_X10_isWord S lt 8 = some (nI 0) := g 8 (by omega) (by omega)
  have g9 : f_X10_isWord S lt 9 = some (nI 0) := g 9 (by omega) (by omega)
  have e := M_107f (S := wrS S (nI 6) (Mo_at S)) (tp := tp) (fr := fr) (lt := lt) (mk := mk) (od := od) (ow := ow) (rd := rd) (sl := sl) rfl
  unfold f_X10_readLine b_X10_readLine_38 b_X10_readLine_59 b_X10_readLine_87 f_X10_isLine
  simp (disch := omega) only [hf, g0, g1, g2, g3, g4, g5, g6, g7, g8, g9, h7, h6, h4, M_wrong hf, e, ↓lm1, ↓lm2, i0, i1, i2, i3, i4, i5, i6, i7, i8, i9, i10, i12, i16, i20, i24, i31, i32, i44, i48, i57, i59, i63, i64, i74, i75, i90, i96, i97, i99, i100, i122, i139, i140, i144, i192, i200, i240, i255, i304, i309, i310, i311, i323, i324, i325, i899, i900, i975, i999, i5200, i4875, i65536, i65537, i15, ob_some, nI_add, nI_clamp, zn_zib, zn_eq, zn_lt, zn_le, m2_lt, m2_le, lt_m2, le_m2, eq_m2, m2_eq, m1_lt, m1_le, lt_m1, le_m1, eq_m1, m1_eq, m1_m2, m2_m1, m2_lt_m1, bI_0, bI_1, bI_t, bI_f, bI_bo, nI0_bo, nI1_bo, if_true, if_false, ite_true, ite_false, Nat.zero_add, Nat.not_lt_zero, Nat.zero_le, not_true_eq_false, not_false_eq_true, or_false, false_or, true_or, or_true, and_true, true_and, Bool.false_eq_true, Bool.true_eq_false, reduceCtorEq, eq_self]
theorem M_rl_2 (hf : Mo_failed S = nI 0) (hj : f_X10_isWord S lt 2 = some (nI 1)) (g : ∀ x, x < 11 → x ≠ 2 → f_X10_isWord S lt x = some (nI 0)) (h7 : fr 7 = nI 1) : f_X10_readLine S fr lt mk od ow rd sl tp = (f_X10_putLine S fr lt rd sl tp (nI 1)).bind (fun q17 => some (q17.1, fr, q17.2.1, mk, od, ow, q17.2.2, sl)) := by
  have g0 : f_X10_isWord S lt 0 = some (nI 0) := g 0 (by omega) (by omega)
  have g1 : f_X10_isWord S lt 1 = some (nI 0) := g 1 (by omega) (by omega)
  have g2 : f_X10_isWord S lt 2 = some (nI 1) := hj
  have g3 : f_X10_isWord S lt 3 = some (nI 0) := g 3 (by omega) (by omega)
  have g4 : f_X10_isWord S lt 4 = some (nI 0) := g 4 (by omega) (by omega)
  have g5 : f_X10_isWord S lt 5 = some (nI 0) := g 5 (by omega) (by omega)
  have g6 : f_X10_isWord S lt 6 = some (nI 0) := g 6 (by omega) (by omega)
  have g7 : f_X10_isWord S lt 7 = some (nI 0) := g 7 (by omega) (by omega)
  have g8 : f_X10_isWord S lt 8 = some (nI 0) := g 8 (by omega) (by omega)
  have g9 : f_X10_isWord S lt 9 = some (nI 0) := g 9 (by omega) (by omega)
  unfold f_X10_readLine b_X10_readLine_38 b_X10_readLine_59 b_X10_readLine_87 b_X10_readLine_107 f_X10_isLine
  simp (disch := omega) only [hf, g0, g1, g2, g3, g4, g5, g6, g7, g8, g9, h7, ↓lm1, ↓lm2, i0, i1, i2, i3, i4, i5, i6, i7, i8, i9, i10, i12, i16, i20, i24, i31, i32, i44, i48, i57, i59, i63, i64, i74, i75, i90, i96, i97, i99, i100, i122, i139, i140, i144, i192, i200, i240, i255, i304, i309, i310, i311, i323, i324, i325, i899, i900, i975, i999, i5200, i4875, i65536, i65537, i15, ob_some, nI_add, nI_clamp, zn_zib, zn_eq, zn_lt, zn_le, m2_lt, m2_le, lt_m2, le_m2, eq_m2, m2_eq, m1_lt, m1_le, lt_m1, le_m1, eq_m1, m1_eq, m1_m2, m2_m1, m2_lt_m1, bI_0, bI_1, bI_t, bI_f, bI_bo, nI0_bo, nI1_bo, if_true, if_false, ite_true, ite_false, Nat.zero_add, Nat.not_lt_zero, Nat.zero_le, not_true_eq_false, not_false_eq_true, or_false, false_or, true_or, or_true, and_true, true_and, Bool.false_eq_true, Bool.true_eq_false, reduceCtorEq, eq_self]
theorem M_rlns_2 (hf : Mo_failed S = nI 0) (hj : f_X10_isWord S lt 2 = some (nI 1)) (g : ∀ x, x < 11 → x ≠ 2 → f_X10_isWord S lt x = some (nI 0)) (h7 : fr 7 = nI 0) (h6 : fr 6 = nI 0) (h4 : fr 4 = nI 0) : f_X10_readLine S fr lt mk od ow rd sl tp = some (wrS S (nI 6) (Mo_at S), fr, lt, mk, od, ow, rd, sl) := by
  have g0 : f_X10_isWord S lt 0 = some (nI 0) := g 0 (by omega) (by omega)
  have g1 : f_X10_isWord S lt 1 = some (nI 0) := g 1 (by omega) (by omega)
  have g2 : f_X10_isWord S lt 2 = some (nI 1) := hj
  have g3 : f_X10_isWord S lt 3 = some (nI 0) := g 3 (by omega) (by omega)
  have g4 : f_X10_isWord S lt 4 = some (nI 0) := g 4 (by omega) (by omega)
  have g5 : f_X10_isWord S lt 5 = some (nI 0) := g 5 (by omega) (by omega)
  have g6 : f_X10_isWord S lt 6 = some (nI 0) := g 6 (by omega) (by omega)
  have g7 : f_X10_isWord S lt 7 = some (nI 0) := g 7 (by omega) (by omega)
  have g8 : f_X10_isWord S lt 8 = some (nI 0) := g 8 (by omega) (by omega)
  have g9 : f_X10_isWord S lt 9 = some (nI 0) := g 9 (by omega) (by omega)
  have e := M_107f (S := wrS S (nI 6) (Mo_at S)) (tp := tp) (fr := fr) (lt := lt) (mk := mk) (od := od) (ow := ow) (rd := rd) (sl := sl) rfl
  unfold f_X10_readLine b_X10_readLine_38 b_X10_readLine_59 b_X10_readLine_87 f_X10_isLine
  simp (disch := omega) only [hf, g0, g1, g2, g3, g4, g5, g6, g7, g8, g9, h7, h6, h4, M_wrong hf, e, ↓lm1, ↓lm2, i0, i1, i2, i3, i4, i5, i6, i7, i8, i9, i10, i12, i16, i20, i24, i31, i32, i44, i48, i57, i59, i63, i64, i74, i75, i90, i96, i97, i99, i100, i122, i139, i140, i144, i192, i200, i240, i255, i304, i309, i310, i311, i323, i324, i325, i899, i900, i975, i999, i5200, i4875, i65536, i65537, i15, ob_some, nI_add, nI_clamp, zn_zib, zn_eq, zn_lt, zn_le, m2_lt, m2_le, lt_m2, le_m2, eq_m2, m2_eq, m1_lt, m1_le, lt_m1, le_m1, eq_m1, m1_eq, m1_m2, m2_m1, m2_lt_m1, bI_0, bI_1, bI_t, bI_f, bI_bo, nI0_bo, nI1_bo, if_true, if_false, ite_true, ite_false, Nat.zero_add, Nat.not_lt_zero, Nat.zero_le, not_true_eq_false, not_false_eq_true, or_false, false_or, true_or, or_true, and_true, true_and, Bool.false_eq_true, Bool.true_eq_false, reduceCtorEq, eq_self]
theorem M_rl_3 (hf : Mo_failed S = nI 0) (hj : f_X10_isWord S lt 3 = some (nI 1)) (g : ∀ x, x < 11 → x ≠ 3 → f_X10_isWord S lt x = some (nI 0)) (h7 : fr 7 = nI 1) : f_X10_readLine S fr lt mk od ow rd sl tp = (f_X10_putLine S fr lt rd sl tp (nI 0)).bind (fun q16 => some (q16.1, fr, q16.2.1, mk, od, ow, q16.2.2, sl)) := by
  have g0 : f_X10_isWord S lt 0 = some (nI 0) := g 0 (by omega) (by omega)
  have g1 : f_X10_isWord S lt 1 = some (nI 0) := g 1 (by omega) (by omega)
  have g2 : f_X10_isWord S lt 2 = some (nI 0) := g 2 (by omega) (by omega)
  have g3 : f_X10_isWord S lt 3 = some (nI 1) := hj
  have g4 : f_X10_isWord S lt 4 = some (nI 0) := g 4 (by omega) (by omega)
  have g5 : f_X10_isWord S lt 5 = some (nI 0) := g 5 (by omega) (by omega)
  have g6 : f_X10_isWord S lt 6 = some (nI 0) := g 6 (by omega) (by omega)
  have g7 : f_X10_isWord S lt 7 = some (nI 0) := g 7 (by omega) (by omega)
  have g8 : f_X10_isWord S lt 8 = some (nI 0) := g 8 (by omega) (by omega)
  have g9 : f_X10_isWord S lt 9 = some (nI 0) := g 9 (by omega) (by omega)
  unfold f_X10_readLine b_X10_readLine_38 b_X10_readLine_59 b_X10_readLine_87 b_X10_readLine_107 f_X10_isLine
  simp (disch := omega) only [hf, g0, g1, g2, g3, g4, g5, g6, g7, g8, g9, h7, ↓lm1, ↓lm2, i0, i1, i2, i3, i4, i5, i6, i7, i8, i9, i10, i12, i16, i20, i24, i31, i32, i44, i48, i57, i59, i63, i64, i74, i75, i90, i96, i97, i99, i100, i122, i139, i140, i144, i192, i200, i240, i255, i304, i309, i310, i311, i323, i324, i325, i899, i900, i975, i999, i5200, i4875, i65536, i65537, i15, ob_some, nI_add, nI_clamp, zn_zib, zn_eq, zn_lt, zn_le, m2_lt, m2_le, lt_m2, le_m2, eq_m2, m2_eq, m1_lt, m1_le, lt_m1, le_m1, eq_m1, m1_eq, m1_m2, m2_m1, m2_lt_m1, bI_0, bI_1, bI_t, bI_f, bI_bo, nI0_bo, nI1_bo, if_true, if_false, ite_true, ite_false, Nat.zero_add, Nat.not_lt_zero, Nat.zero_le, not_true_eq_false, not_false_eq_true, or_false, false_or, true_or, or_true, and_true, true_and, Bool.false_eq_true, Bool.true_eq_false, reduceCtorEq, eq_self]
theorem M_rlns_3 (hf : Mo_failed S = nI 0) (hj : f_X10_isWord S lt 3 = some (nI 1)) (g : ∀ x, x < 11 → x ≠ 3 → f_X10_isWord S lt x = some (nI 0)) (h7 : fr 7 = nI 0) (h6 : fr 6 = nI 0) (h4 : fr 4 = nI 0) : f_X10_readLine S fr lt mk od ow rd sl tp = some (wrS S (nI 6) (Mo_at S), fr, lt, mk, od, ow, rd, sl) := by
  have g0 : f_X10_isWord S lt 0 = some (nI 0) := g 0 (by omega) (by omega)
  have g1 : f_X10_isWord S lt 1 = some (nI 0) := g 1 (by omega) (by omega)
  have g2 : f_X10_isWord S lt 2 = some (nI 0) := g 2 (by omega) (by omega)
  have g3 : f_X10_isWord S lt 3 = some (nI 1) := hj
  have g4 : f_X10_isWord S lt 4 = some (nI 0) := g 4 (by omega) (by omega)
  have g5 : f_X10_isWord S lt 5 = some (nI 0) := g 5 (by omega) (by omega)
  have g6 : f_X10_isWord S lt 6 = some (nI 0) := g 6 (by omega) (by omega)
  have g7 : f_X10_isWord S lt 7 = some (nI 0) := g 7 (by omega) (by omega)
  have g8 : f_X10_isWord S lt 8 = some (nI 0) := g 8 (by omega) (by omega)
  have g9 : f_X10_isWord S lt 9 = some (nI 0) := g 9 (by omega) (by omega)
  have e := M_107f (S := wrS S (nI 6) (Mo_at S)) (tp := tp) (fr := fr) (lt := lt) (mk := mk) (od := od) (ow := ow) (rd := rd) (sl := sl) rfl
  unfold f_X10_readLine b_X10_readLine_38 b_X10_readLine_59 b_X10_readLine_87 f_X10_isLine
  simp (disch := omega) only [hf, g0, g1, g2, g3, g4, g5, g6, g7, g8, g9, h7, h6, h4, M_wrong hf, e, ↓lm1, ↓lm2, i0, i1, i2, i3, i4, i5, i6, i7, i8, i9, i10, i12, i16, i20, i24, i31, i32, i44, i48, i57, i59, i63, i64, i74, i75, i90, i96, i97, i99, i100, i122, i139, i140, i144, i192, i200, i240, i255, i304, i309, i310, i311, i323, i324, i325, i899, i900, i975, i999, i5200, i4875, i65536, i65537, i15, ob_some, nI_add, nI_clamp, zn_zib, zn_eq, zn_lt, zn_le, m2_lt, m2_le, lt_m2, le_m2, eq_m2, m2_eq, m1_lt, m1_le, lt_m1, le_m1, eq_m1, m1_eq, m1_m2, m2_m1, m2_lt_m1, bI_0, bI_1, bI_t, bI_f, bI_bo, nI0_bo, nI1_bo, if_true, if_false, ite_true, ite_false, Nat.zero_add, Nat.not_lt_zero, Nat.zero_le, not_true_eq_false, not_false_eq_true, or_false, false_or, true_or, or_true, and_true, true_and, Bool.false_eq_true, Bool.true_eq_false, reduceCtorEq, eq_self]
theorem M_rl_4 (hf : Mo_failed S = nI 0) (hj : f_X10_isWord S lt 4 = some (nI 1)) (g : ∀ x, x < 11 → x ≠ 4 → f_X10_isWord S lt x = some (nI 0)) (h7 : fr 7 = nI 1) : f_X10_readLine S fr lt mk od ow rd sl tp = (f_X10_endLine S fr lt rd sl tp (nI 2)).bind (fun q15 => some (q15.1, fr, q15.2.1, mk, od, ow, q15.2.2.1, q15.2.2.2)) := by
  have g0 : f_X10_isWord S lt 0 = some (nI 0) := g 0 (by omega) (by omega)
  have g1 : f_X10_isWord S lt 1 = some (nI 0) := g 1 (by omega) (by omega)
  have g2 : f_X10_isWord S lt 2 = some (nI 0) := g 2 (by omega) (by omega)
  have g3 : f_X10_isWord S lt 3 = some (nI 0) := g 3 (by omega) (by omega)
  have g4 : f_X10_isWord S lt 4 = some (nI 1) := hj
  have g5 : f_X10_isWord S lt 5 = some (nI 0) := g 5 (by omega) (by omega)
  have g6 : f_X10_isWord S lt 6 = some (nI 0) := g 6 (by omega) (by omega)
  have g7 : f_X10_isWord S lt 7 = some (nI 0) := g 7 (by omega) (by omega)
  have g8 : f_X10_isWord S lt 8 = some (nI 0) := g 8 (by omega) (by omega)
  have g9 : f_X10_isWord S lt 9 = some (nI 0) := g 9 (by omega) (by omega)
  unfold f_X10_readLine b_X10_readLine_38 b_X10_readLine_59 b_X10_readLine_87 b_X10_readLine_107 f_X10_isLine
  simp (disch := omega) only [hf, g0, g1, g2, g3, g4, g5, g6, g7, g8, g9, h7, ↓lm1, ↓lm2, i0, i1, i2, i3, i4, i5, i6, i7, i8, i9, i10, i12, i16, i20, i24, i31, i32, i44, i48, i57, i59, i63, i64, i74, i75, i90, i96, i97, i99, i100, i122, i139, i140, i144, i192, i200, i240, i255, i304, i309, i310, i311, i323, i324, i325, i899, i900, i975, i999, i5200, i4875, i65536, i65537, i15, ob_some, nI_add, nI_clamp, zn_zib, zn_eq, zn_lt, zn_le, m2_lt, m2_le, lt_m2, le_m2, eq_m2, m2_eq, m1_lt, m1_le, lt_m1, le_m1, eq_m1, m1_eq, m1_m2, m2_m1, m2_lt_m1, bI_0, bI_1, bI_t, bI_f, bI_bo, nI0_bo, nI1_bo, if_true, if_false, ite_true, ite_false, Nat.zero_add, Nat.not_lt_zero, Nat.zero_le, not_true_eq_false, not_false_eq_true, or_false, false_or, true_or, or_true, and_true, true_and, Bool.false_eq_true, Bool.true_eq_false, reduceCtorEq, eq_self]
theorem M_rlns_4 (hf : Mo_failed S = nI 0) (hj : f_X10_isWord S lt 4 = some (nI 1)) (g : ∀ x, x < 11 → x ≠ 4 → f_X10_isWord S lt x = some (nI 0)) (h7 : fr 7 = nI 0) (h6 : fr 6 = nI 0) (h4 : fr 4 = nI 0) : f_X10_readLine S fr lt mk od ow rd sl tp = some (wrS S (nI 6) (Mo_at S), fr, lt, mk, od, ow, rd, sl) := by
  have g0 : f_X10_isWord S lt 0 = some (nI 0) := g 0 (by omega) (by omega)
  have g1 : f_X10_isWord S lt 1 = some (nI 0) := g 1 (by omega) (by omega)
  have g2 : f_X10_isWord S lt 2 = some (nI 0) := g 2 (by omega) (by omega)
  have g3 : f_X10_isWord S lt 3 = some (nI 0) := g 3 (by omega) (by omega)
  have g4 : f_X10_isWord S lt 4 = some (nI 1) := hj
  have g5 : f_X10_isWord S lt 5 = some (nI 0) := g 5 (by omega) (by omega)
  have g6 : f_X10_isWord S lt 6 = some (nI 0) := g 6 (by omega) (by omega)
  have g7 : f_X10_isWord S lt 7 = some (nI 0) := g 7 (by omega) (by omega)
  have g8 : f_X10_isWord S lt 8 = some (nI 0) := g 8 (by omega) (by omega)
  have g9 : f_X10_isWord S lt 9 = some (nI 0) := g 9 (by omega) (by omega)
  have e := M_107f (S := wrS S (nI 6) (Mo_at S)) (tp := tp) (fr := fr) (lt := lt) (mk := mk) (od := od) (ow := ow) (rd := rd) (sl := sl) rfl
  unfold f_X10_readLine b_X10_readLine_38 b_X10_readLine_59 b_X10_readLine_87 f_X10_isLine
  simp (disch := omega) only [hf, g0, g1, g2, g3, g4, g5, g6, g7, g8, g9, h7, h6, h4, M_wrong hf, e, ↓lm1, ↓lm2, i0, i1, i2, i3, i4, i5, i6, i7, i8, i9, i10, i12, i16, i20, i24, i31, i32, i44, i48, i57, i59, i63, i64, i74, i75, i90, i96, i97, i99, i100, i122, i139, i140, i144, i192, i200, i240, i255, i304, i309, i310, i311, i323, i324, i325, i899, i900, i975, i999, i5200, i4875, i65536, i65537, i15, ob_some, nI_add, nI_clamp, zn_zib, zn_eq, zn_lt, zn_le, m2_lt, m2_le, lt_m2, le_m2, eq_m2, m2_eq, m1_lt, m1_le, lt_m1, le_m1, eq_m1, m1_eq, m1_m2, m2_m1, m2_lt_m1, bI_0, bI_1, bI_t, bI_f, bI_bo, nI0_bo, nI1_bo, if_true, if_false, ite_true, ite_false, Nat.zero_add, Nat.not_lt_zero, Nat.zero_le, not_true_eq_false, not_false_eq_true, or_false, false_or, true_or, or_true, and_true, true_and, Bool.false_eq_true, Bool.true_eq_false, reduceCtorEq, eq_self]
theorem M_rl_5 (hf : Mo_failed S = nI 0) (hj : f_X10_isWord S lt 5 = some (nI 1)) (g : ∀ x, x < 11 → x ≠ 5 → f_X10_isWord S lt x = some (nI 0)) (h7 : fr 7 = nI 1) : f_X10_readLine S fr lt mk od ow rd sl tp = (f_X10_endLine S fr lt rd sl tp (nI 3)).bind (fun q14 => some (q14.1, fr, q14.2.1, mk, od, ow, q14.2.2.1, q14.2.2.2)) := by
  have g0 : f_X10_isWord S lt 0 = some (nI 0) := g 0 (by omega) (by omega)
  have g1 : f_X10_isWord S lt 1 = some (nI 0) := g 1 (by omega) (by omega)
  have g2 : f_X10_isWord S lt 2 = some (nI 0) := g 2 (by omega) (by omega)
  have g3 : f_X10_isWord S lt 3 = some (nI 0) := g 3 (by omega) (by omega)
  have g4 : f_X10_isWord S lt 4 = some (nI 0) := g 4 (by omega) (by omega)
  have g5 : f_X10_isWord S lt 5 = some (nI 1) := hj
  have g6 : f_X10_isWord S lt 6 = some (nI 0) := g 6 (by omega) (by omega)
  have g7 : f_X10_isWord S lt 7 = some (nI 0) := g 7 (by omega) (by omega)
  have g8 : f_X10_isWord S lt 8 = some (nI 0) := g 8 (by omega) (by omega)
  have g9 : f_X10_isWord S lt 9 = some (nI 0) := g 9 (by omega) (by omega)
  unfold f_X10_readLine b_X10_readLine_38 b_X10_readLine_59 b_X10_readLine_87 b_X10_readLine_107 f_X10_isLine
  simp (disch := omega) only [hf, g0, g1, g2, g3, g4, g5, g6, g7, g8, g9, h7, ↓lm1, ↓lm2, i0, i1, i2, i3, i4, i5, i6, i7, i8, i9, i10, i12, i16, i20, i24, i31, i32, i44, i48, i57, i59, i63, i64, i74, i75, i90, i96, i97, i99, i100, i122, i139, i140, i144, i192, i200, i240, i255, i304, i309, i310, i311, i323, i324, i325, i899, i900, i975, i999, i5200, i4875, i65536, i65537, i15, ob_some, nI_add, nI_clamp, zn_zib, zn_eq, zn_lt, zn_le, m2_lt, m2_le, lt_m2, le_m2, eq_m2, m2_eq, m1_lt, m1_le, lt_m1, le_m1, eq_m1, m1_eq, m1_m2, m2_m1, m2_lt_m1, bI_0, bI_1, bI_t, bI_f, bI_bo, nI0_bo, nI1_bo, if_true, if_false, ite_true, ite_false, Nat.zero_add, Nat.not_lt_zero, Nat.zero_le, not_true_eq_false, not_false_eq_true, or_false, false_or, true_or, or_true, and_true, true_and, Bool.false_eq_true, Bool.true_eq_false, reduceCtorEq, eq_self]
theorem M_rlns_5 (hf : Mo_failed S = nI 0) (hj : f_X10_isWord S lt 5 = some (nI 1)) (g : ∀ x, x < 11 → x ≠ 5 → f_X10_isWord S lt x = some (nI 0)) (h7 : fr 7 = nI 0) (h6 : fr 6 = nI 0) (h4 : fr 4 = nI 0) : f_X10_readLine S fr lt mk od ow rd sl tp = some (wrS S (nI 6) (Mo_at S), fr, lt, mk, od, ow, rd, sl) := by
  have g0 : f_X10_isWord S lt 0 = some (nI 0) := g 0 (by omega) (by omega)
  have g1 : f_X10_isWord S lt 1 = some (nI 0) := g 1 (by omega) (by omega)
  have g2 : f_X10_isWord S lt 2 = some (nI 0) := g 2 (by omega) (by omega)
  have g3 : f_X10_isWord S lt 3 = some (nI 0) := g 3 (by omega) (by omega)
  have g4 : f_X10_isWord S lt 4 = some (nI 0) := g 4 (by omega) (by omega)
  have g5 : f_X10_isWord S lt 5 = some (nI 1) := hj
  have g6 : f_X10_isWord S lt 6 = some (nI 0) := g 6 (by omega) (by omega)
  have g7 : f_X10_isWord S lt 7 = some (nI 0) := g 7 (by omega) (by omega)
  have g8 : f_X10_isWord S lt 8 = some (nI 0) := g 8 (by omega) (by omega)
  have g9 : f_X10_isWord S lt 9 = some (nI 0) := g 9 (by omega) (by omega)
  have e := M_107f (S := wrS S (nI 6) (Mo_at S)) (tp := tp) (fr := fr) (lt := lt) (mk := mk) (od := od) (ow := ow) (rd := rd) (sl := sl) rfl
  unfold f_X10_readLine b_X10_readLine_38 b_X10_readLine_59 b_X10_readLine_87 f_X10_isLine
  simp (disch := omega) only [hf, g0, g1, g2, g3, g4, g5, g6, g7, g8, g9, h7, h6, h4, M_wrong hf, e, ↓lm1, ↓lm2, i0, i1, i2, i3, i4, i5, i6, i7, i8, i9, i10, i12, i16, i20, i24, i31, i32, i44, i48, i57, i59, i63, i64, i74, i75, i90, i96, i97, i99, i100, i122, i139, i140, i144, i192, i200, i240, i255, i304, i309, i310, i311, i323, i324, i325, i899, i900, i975, i999, i5200, i4875, i65536, i65537, i15, ob_some, nI_add, nI_clamp, zn_zib, zn_eq, zn_lt, zn_le, m2_lt, m2_le, lt_m2, le_m2, eq_m2, m2_eq, m1_lt, m1_le, lt_m1, le_m1, eq_m1, m1_eq, m1_m2, m2_m1, m2_lt_m1, bI_0, bI_1, bI_t, bI_f, bI_bo, nI0_bo, nI1_bo, if_true, if_false, ite_true, ite_false, Nat.zero_add, Nat.not_lt_zero, Nat.zero_le, not_true_eq_false, not_false_eq_true, or_false, false_or, true_or, or_true, and_true, true_and, Bool.false_eq_true, Bool.true_eq_false, reduceCtorEq, eq_self]
theorem M_rl_6 (hf : Mo_failed S = nI 0) (hj : f_X10_isWord S lt 6 = some (nI 1)) (g : ∀ x, x < 11 → x ≠ 6 → f_X10_isWord S lt x = some (nI 0)) (h7 : fr 7 = nI 1) : f_X10_readLine S fr lt mk od ow rd sl tp = (f_X10_allLine S lt mk rd tp (nI 1)).bind (fun q13 => some (q13.1, fr, q13.2.1, q13.2.2.1, od, ow, q13.2.2.2, sl)) := by
  have g0 : f_X10_isWord S lt 0 = some (nI 0) := g 0 (by omega) (by omega)
  have g1 : f_X10_isWord S lt 1 = some (nI 0) := g 1 (by omega) (by omega)
  have g2 : f_X10_isWord S lt 2 = some (nI 0) := g 2 (by omega) (by omega)
  have g3 : f_X10_isWord S lt 3 = some (nI 0) := g 3 (by omega) (by omega)
  have g4 : f_X10_isWord S lt 4 = some (nI 0) := g 4 (by omega) (by omega)
  have g5 : f_X10_isWord S lt 5 = some (nI 0) := g 5 (by omega) (by omega)
  have g6 : f_X10_isWord S lt 6 = some (nI 1) := hj
  have g7 : f_X10_isWord S lt 7 = some (nI 0) := g 7 (by omega) (by omega)
  have g8 : f_X10_isWord S lt 8 = some (nI 0) := g 8 (by omega) (by omega)
  have g9 : f_X10_isWord S lt 9 = some (nI 0) := g 9 (by omega) (by omega)
  unfold f_X10_readLine b_X10_readLine_38 b_X10_readLine_59 b_X10_readLine_87 b_X10_readLine_107 f_X10_isLine
  simp (disch := omega) only [hf, g0, g1, g2, g3, g4, g5, g6, g7, g8, g9, h7, ↓lm1, ↓lm2, i0, i1, i2, i3, i4, i5, i6, i7, i8, i9, i10, i12, i16, i20, i24, i31, i32, i44, i48, i57, i59, i63, i64, i74, i75, i90, i96, i97, i99, i100, i122, i139, i140, i144, i192, i200, i240, i255, i304, i309, i310, i311, i323, i324, i325, i899, i900, i975, i999, i5200, i4875, i65536, i65537, i15, ob_some, nI_add, nI_clamp, zn_zib, zn_eq, zn_lt, zn_le, m2_lt, m2_le, lt_m2, le_m2, eq_m2, m2_eq, m1_lt, m1_le, lt_m1, le_m1, eq_m1, m1_eq, m1_m2, m2_m1, m2_lt_m1, bI_0, bI_1, bI_t, bI_f, bI_bo, nI0_bo, nI1_bo, if_true, if_false, ite_true, ite_false, Nat.zero_add, Nat.not_lt_zero, Nat.zero_le, not_true_eq_false, not_false_eq_true, or_false, false_or, true_or, or_true, and_true, true_and, Bool.false_eq_true, Bool.true_eq_false, reduceCtorEq, eq_self]
theorem M_rlns_6 (hf : Mo_failed S = nI 0) (hj : f_X10_isWord S lt 6 = some (nI 1)) (g : ∀ x, x < 11 → x ≠ 6 → f_X10_isWord S lt x = some (nI 0)) (h7 : fr 7 = nI 0) (h6 : fr 6 = nI 0) (h4 : fr 4 = nI 0) : f_X10_readLine S fr lt mk od ow rd sl tp = some (wrS S (nI 6) (Mo_at S), fr, lt, mk, od, ow, rd, sl) := by
  have g0 : f_X10_isWord S lt 0 = some (nI 0) := g 0 (by omega) (by omega)
  have g1 : f_X10_isWord S lt 1 = some (nI 0) := g 1 (by omega) (by omega)
  have g2 : f_X10_isWord S lt 2 = some (nI 0) := g 2 (by omega) (by omega)
  have g3 : f_X10_isWord S lt 3 = some (nI 0) := g 3 (by omega) (by omega)
  have g4 : f_X10_isWord S lt 4 = some (nI 0) := g 4 (by omega) (by omega)
  have g5 : f_X10_isWord S lt 5 = some (nI 0) := g 5 (by omega) (by omega)
  have g6 : f_X10_isWord S lt 6 = some (nI 1) := hj
  have g7 : f_X10_isWord S lt 7 = some (nI 0) := g 7 (by omega) (by omega)
  have g8 : f_X10_isWord S lt 8 = some (nI 0) := g 8 (by omega) (by omega)
  have g9 : f_X10_isWord S lt 9 = some (nI 0) := g 9 (by omega) (by omega)
  have e := M_107f (S := wrS S (nI 6) (Mo_at S)) (tp := tp) (fr := fr) (lt := lt) (mk := mk) (od := od) (ow := ow) (rd := rd) (sl := sl) rfl
  unfold f_X10_readLine b_X10_readLine_38 b_X10_readLine_59 b_X10_readLine_87 f_X10_isLine
  simp (disch := omega) only [hf, g0, g1, g2, g3, g4, g5, g6, g7, g8, g9, h7, h6, h4, M_wrong hf, e, ↓lm1, ↓lm2, i0, i1, i2, i3, i4, i5, i6, i7, i8, i9, i10, i12, i16, i20, i24, i31, i32, i44, i48, i57, i59, i63, i64, i74, i75, i90, i96, i97, i99, i100, i122, i139, i140, i144, i192, i200, i240, i255, i304, i309, i310, i311, i323, i324, i325, i899, i900, i975, i999, i5200, i4875, i65536, i65537, i15, ob_some, nI_add, nI_clamp, zn_zib, zn_eq, zn_lt, zn_le, m2_lt, m2_le, lt_m2, le_m2, eq_m2, m2_eq, m1_lt, m1_le, lt_m1, le_m1, eq_m1, m1_eq, m1_m2, m2_m1, m2_lt_m1, bI_0, bI_1, bI_t, bI_f, bI_bo, nI0_bo, nI1_bo, if_true, if_false, ite_true, ite_false, Nat.zero_add, Nat.not_lt_zero, Nat.zero_le, not_true_eq_false, not_false_eq_true, or_false, false_or, true_or, or_true, and_true, true_and, Bool.false_eq_true, Bool.true_eq_false, reduceCtorEq, eq_self]
theorem M_rl_7 (hf : Mo_failed S = nI 0) (hj : f_X10_isWord S lt 7 = some (nI 1)) (g : ∀ x, x < 11 → x ≠ 7 → f_X10_isWord S lt x = some (nI 0)) (h7 : fr 7 = nI 1) : f_X10_readLine S fr lt mk od ow rd sl tp = (f_X10_allLine S lt mk rd tp (nI 0)).bind (fun q12 => some (q12.1, fr, q12.2.1, q12.2.2.1, od, ow, q12.2.2.2, sl)) := by
  have g0 : f_X10_isWord S lt 0 = some (nI 0) := g 0 (by omega) (by omega)
  have g1 : f_X10_isWord S lt 1 = some (nI 0) := g 1 (by omega) (by omega)
  have g2 : f_X10_isWord S lt 2 = some (nI 0) := g 2 (by omega) (by omega)
  have g3 : f_X10_isWord S lt 3 = some (nI 0) := g 3 (by omega) (by omega)
  have g4 : f_X10_isWord S lt 4 = some (nI 0) := g 4 (by omega) (by omega)
  have g5 : f_X10_isWord S lt 5 = some (nI 0) := g 5 (by omega) (by omega)
  have g6 : f_X10_isWord S lt 6 = some (nI 0) := g 6 (by omega) (by omega)
  have g7 : f_X10_isWord S lt 7 = some (nI 1) := hj
  have g8 : f_X10_isWord S lt 8 = some (nI 0) := g 8 (by omega) (by omega)
  have g9 : f_X10_isWord S lt 9 = some (nI 0) := g 9 (by omega) (by omega)
  unfold f_X10_readLine b_X10_readLine_38 b_X10_readLine_59 b_X10_readLine_87 b_X10_readLine_107 f_X10_isLine
  simp (disch := omega) only [hf, g0, g1, g2, g3, g4, g5, g6, g7, g8, g9, h7, ↓lm1, ↓lm2, i0, i1, i2, i3, i4, i5, i6, i7, i8, i9, i10, i12, i16, i20, i24, i31, i32, i44, i48, i57, i59, i63, i64, i74, i75, i90, i96, i97, i99, i100, i122, i139, i140, i144, i192, i200, i240, i255, i304, i309, i310, i311, i323, i324, i325, i899, i900, i975, i999, i5200, i4875, i65536, i65537, i15, ob_some, nI_add, nI_clamp, zn_zib, zn_eq, zn_lt, zn_le, m2_lt, m2_le, lt_m2, le_m2, eq_m2, m2_eq, m1_lt, m1_le, lt_m1, le_m1, eq_m1, m1_eq, m1_m2, m2_m1, m2_lt_m1, bI_0, bI_1, bI_t, bI_f, bI_bo, nI0_bo, nI1_bo, if_true, if_false, ite_true, ite_false, Nat.zero_add, Nat.not_lt_zero, Nat.zero_le, not_true_eq_false, not_false_eq_true, or_false, false_or, true_or, or_true, and_true, true_and, Bool.false_eq_true, Bool.true_eq_false, reduceCtorEq, eq_self]
theorem M_rlns_7 (hf : Mo_failed S = nI 0) (hj : f_X10_isWord S lt 7 = some (nI 1)) (g : ∀ x, x < 11 → x ≠ 7 → f_X10_isWord S lt x = some (nI 0)) (h7 : fr 7 = nI 0) (h6 : fr 6 = nI 0) (h4 : fr 4 = nI 0) : f_X10_readLine S fr lt mk od ow rd sl tp = some (wrS S (nI 6) (Mo_at S), fr, lt, mk, od, ow, rd, sl) := by
  have g0 : f_X10_isWord S lt 0 = some (nI 0) := g 0 (by omega) (by omega)
  have g1 : f_X10_isWord S lt 1 = some (nI 0) := g 1 (by omega) (by omega)
  have g2 : f_X10_isWord S lt 2 = some (nI 0) := g 2 (by omega) (by omega)
  have g3 : f_X10_isWord S lt 3 = some (nI 0) := g 3 (by omega) (by omega)
  have g4 : f_X10_isWord S lt 4 = some (nI 0) := g 4 (by omega) (by omega)
  have g5 : f_X10_isWord S lt 5 = some (nI 0) := g 5 (by omega) (by omega)
  have g6 : f_X10_isWord S lt 6 = some (nI 0) := g 6 (by omega) (by omega)
  have g7 : f_X10_isWord S lt 7 = some (nI 1) := hj
  have g8 : f_X10_isWord S lt 8 = some (nI 0) := g 8 (by omega) (by omega)
  have g9 : f_X10_isWord S lt 9 = some (nI 0) := g 9 (by omega) (by omega)
  have e := M_107f (S := wrS S (nI 6) (Mo_at S)) (tp := tp) (fr := fr) (lt := lt) (mk := mk) (od := od) (ow := ow) (rd := rd) (sl := sl) rfl
  unfold f_X10_readLine b_X10_readLine_38 b_X10_readLine_59 b_X10_readLine_87 f_X10_isLine
  simp (disch := omega) only [hf, g0, g1, g2, g3, g4, g5, g6, g7, g8, g9, h7, h6, h4, M_wrong hf, e, ↓lm1, ↓lm2, i0, i1, i2, i3, i4, i5, i6, i7, i8, i9, i10, i12, i16, i20, i24, i31, i32, i44, i48, i57, i59, i63, i64, i74, i75, i90, i96, i97, i99, i100, i122, i139, i140, i144, i192, i200, i240, i255, i304, i309, i310, i311, i323, i324, i325, i899, i900, i975, i999, i5200, i4875, i65536, i65537, i15, ob_some, nI_add, nI_clamp, zn_zib, zn_eq, zn_lt, zn_le, m2_lt, m2_le, lt_m2, le_m2, eq_m2, m2_eq, m1_lt, m1_le, lt_m1, le_m1, eq_m1, m1_eq, m1_m2, m2_m1, m2_lt_m1, bI_0, bI_1, bI_t, bI_f, bI_bo, nI0_bo, nI1_bo, if_true, if_false, ite_true, ite_false, Nat.zero_add, Nat.not_lt_zero, Nat.zero_le, not_true_eq_false, not_false_eq_true, or_false, false_or, true_or, or_true, and_true, true_and, Bool.false_eq_true, Bool.true_eq_false, reduceCtorEq, eq_self]
theorem M_rl_8 (hf : Mo_failed S = nI 0) (hj : f_X10_isWord S lt 8 = some (nI 1)) (g : ∀ x, x < 11 → x ≠ 8 → f_X10_isWord S lt x = some (nI 0)) (h7 : fr 7 = nI 1) {u : Nat} (h4 : fr 4 = nI u) (hu : u < 4) : f_X10_readLine S fr lt mk od ow rd sl tp = (f_X10_unsureLine S fr lt sl tp).bind (fun q11 => some (q11.1, q11.2.1, q11.2.2, mk, od, ow, rd, sl)) := by
  have g0 : f_X10_isWord S lt 0 = some (nI 0) := g 0 (by omega) (by omega)
  have g1 : f_X10_isWord S lt 1 = some (nI 0) := g 1 (by omega) (by omega)
  have g2 : f_X10_isWord S lt 2 = some (nI 0) := g 2 (by omega) (by omega)
  have g3 : f_X10_isWord S lt 3 = some (nI 0) := g 3 (by omega) (by omega)
  have g4 : f_X10_isWord S lt 4 = some (nI 0) := g 4 (by omega) (by omega)
  have g5 : f_X10_isWord S lt 5 = some (nI 0) := g 5 (by omega) (by omega)
  have g6 : f_X10_isWord S lt 6 = some (nI 0) := g 6 (by omega) (by omega)
  have g7 : f_X10_isWord S lt 7 = some (nI 0) := g 7 (by omega) (by omega)
  have g8 : f_X10_isWord S lt 8 = some (nI 1) := hj
  have g9 : f_X10_isWord S lt 9 = some (nI 0) := g 9 (by omega) (by omega)
  have h4n : ¬ u = 4 := by omega
  unfold f_X10_readLine b_X10_readLine_38 b_X10_readLine_59 b_X10_readLine_87 b_X10_readLine_107 f_X10_isLine
  simp (disch := omega) only [hf, g0, g1, g2, g3, g4, g5, g6, g7, g8, g9, h7, h4, h4n, ↓lm1, ↓lm2, i0, i1, i2, i3, i4, i5, i6, i7, i8, i9, i10, i12, i16, i20, i24, i31, i32, i44, i48, i57, i59, i63, i64, i74, i75, i90, i96, i97, i99, i100, i122, i139, i140, i144, i192, i200, i240, i255, i304, i309, i310, i311, i323, i324, i325, i899, i900, i975, i999, i5200, i4875, i65536, i65537, i15, ob_some, nI_add, nI_clamp, zn_zib, zn_eq, zn_lt, zn_le, m2_lt, m2_le, lt_m2, le_m2, eq_m2, m2_eq, m1_lt, m1_le, lt_m1, le_m1, eq_m1, m1_eq, m1_m2, m2_m1, m2_lt_m1, bI_0, bI_1, bI_t, bI_f, bI_bo, nI0_bo, nI1_bo, if_true, if_false, ite_true, ite_false, Nat.zero_add, Nat.not_lt_zero, Nat.zero_le, not_true_eq_false, not_false_eq_true, or_false, false_or, true_or, or_true, and_true, true_and, Bool.false_eq_true, Bool.true_eq_false, reduceCtorEq, eq_self]
theorem M_rlns_8 (hf : Mo_failed S = nI 0) (hj : f_X10_isWord S lt 8 = some (nI 1)) (g : ∀ x, x < 11 → x ≠ 8 → f_X10_isWord S lt x = some (nI 0)) (h7 : fr 7 = nI 0) (h6 : fr 6 = nI 0) (h4 : fr 4 = nI 0) : f_X10_readLine S fr lt mk od ow rd sl tp = some (wrS S (nI 6) (Mo_at S), fr, lt, mk, od, ow, rd, sl) := by
  have g0 : f_X10_isWord S lt 0 = some (nI 0) := g 0 (by omega) (by omega)
  have g1 : f_X10_isWord S lt 1 = some (nI 0) := g 1 (by omega) (by omega)
  have g2 : f_X10_isWord S lt 2 = some (nI 0) := g 2 (by omega) (by omega)
  have g3 : f_X10_isWord S lt 3 = some (nI 0) := g 3 (by omega) (by omega)
  have g4 : f_X10_isWord S lt 4 = some (nI 0) := g 4 (by omega) (by omega)
  have g5 : f_X10_isWord S lt 5 = some (nI 0) := g 5 (by omega) (by omega)
  have g6 : f_X10_isWord S lt 6 = some (nI 0) := g 6 (by omega) (by omega)
  have g7 : f_X10_isWord S lt 7 = some (nI 0) := g 7 (by omega) (by omega)
  have g8 : f_X10_isWord S lt 8 = some (nI 1) := hj
  have g9 : f_X10_isWord S lt 9 = some (nI 0) := g 9 (by omega) (by omega)
  have e := M_107f (S := wrS S (nI 6) (Mo_at S)) (tp := tp) (fr := fr) (lt := lt) (mk := mk) (od := od) (ow := ow) (rd := rd) (sl := sl) rfl
  unfold f_X10_readLine b_X10_readLine_38 b_X10_readLine_59 b_X10_readLine_87 f_X10_isLine
  simp (disch := omega) only [hf, g0, g1, g2, g3, g4, g5, g6, g7, g8, g9, h7, h6, h4, M_wrong hf, e, ↓lm1, ↓lm2, i0, i1, i2, i3, i4, i5, i6, i7, i8, i9, i10, i12, i16, i20, i24, i31, i32, i44, i48, i57, i59, i63, i64, i74, i75, i90, i96, i97, i99, i100, i122, i139, i140, i144, i192, i200, i240, i255, i304, i309, i310, i311, i323, i324, i325, i899, i900, i975, i999, i5200, i4875, i65536, i65537, i15, ob_some, nI_add, nI_clamp, zn_zib, zn_eq, zn_lt, zn_le, m2_lt, m2_le, lt_m2, le_m2, eq_m2, m2_eq, m1_lt, m1_le, lt_m1, le_m1, eq_m1, m1_eq, m1_m2, m2_m1, m2_lt_m1, bI_0, bI_1, bI_t, bI_f, bI_bo, nI0_bo, nI1_bo, if_true, if_false, ite_true, ite_false, Nat.zero_add, Nat.not_lt_zero, Nat.zero_le, not_true_eq_false, not_false_eq_true, or_false, false_or, true_or, or_true, and_true, true_and, Bool.false_eq_true, Bool.true_eq_false, reduceCtorEq, eq_self]
theorem M_rl_9 (hf : Mo_failed S = nI 0) (hj : f_X10_isWord S lt 9 = some (nI 1)) (g : ∀ x, x < 11 → x ≠ 9 → f_X10_isWord S lt x = some (nI 0)) (h7 : fr 7 = nI 1) : f_X10_readLine S fr lt mk od ow rd sl tp = (f_X10_seenLine S fr lt od tp).bind (fun q10 => some (q10.1, q10.2.1, q10.2.2.1, mk, q10.2.2.2, ow, rd, sl)) := by
  have g0 : f_X10_isWord S lt 0 = some (nI 0) := g 0 (by omega) (by omega)
  have g1 : f_X10_isWord S lt 1 = some (nI 0) := g 1 (by omega) (by omega)
  have g2 : f_X10_isWord S lt 2 = some (nI 0) := g 2 (by omega) (by omega)
  have g3 : f_X10_isWord S lt 3 = some (nI 0) := g 3 (by omega) (by omega)
  have g4 : f_X10_isWord S lt 4 = some (nI 0) := g 4 (by omega) (by omega)
  have g5 : f_X10_isWord S lt 5 = some (nI 0) := g 5 (by omega) (by omega)
  have g6 : f_X10_isWord S lt 6 = some (nI 0) := g 6 (by omega) (by omega)
  have g7 : f_X10_isWord S lt 7 = some (nI 0) := g 7 (by omega) (by omega)
  have g8 : f_X10_isWord S lt 8 = some (nI 0) := g 8 (by omega) (by omega)
  have g9 : f_X10_isWord S lt 9 = some (nI 1) := hj
  unfold f_X10_readLine b_X10_readLine_38 b_X10_readLine_59 b_X10_readLine_87 b_X10_readLine_107 f_X10_isLine
  simp (disch := omega) only [hf, g0, g1, g2, g3, g4, g5, g6, g7, g8, g9, h7, ↓lm1, ↓lm2, i0, i1, i2, i3, i4, i5, i6, i7, i8, i9, i10, i12, i16, i20, i24, i31, i32, i44, i48, i57, i59, i63, i64, i74, i75, i90, i96, i97, i99, i100, i122, i139, i140, i144, i192, i200, i240, i255, i304, i309, i310, i311, i323, i324, i325, i899, i900, i975, i999, i5200, i4875, i65536, i65537, i15, ob_some, nI_add, nI_clamp, zn_zib, zn_eq, zn_lt, zn_le, m2_lt, m2_le, lt_m2, le_m2, eq_m2, m2_eq, m1_lt, m1_le, lt_m1, le_m1, eq_m1, m1_eq, m1_m2, m2_m1, m2_lt_m1, bI_0, bI_1, bI_t, bI_f, bI_bo, nI0_bo, nI1_bo, if_true, if_false, ite_true, ite_false, Nat.zero_add, Nat.not_lt_zero, Nat.zero_le, not_true_eq_false, not_false_eq_true, or_false, false_or, true_or, or_true, and_true, true_and, Bool.false_eq_true, Bool.true_eq_false, reduceCtorEq, eq_self]
theorem M_rlns_9 (hf : Mo_failed S = nI 0) (hj : f_X10_isWord S lt 9 = some (nI 1)) (g : ∀ x, x < 11 → x ≠ 9 → f_X10_isWord S lt x = some (nI 0)) (h7 : fr 7 = nI 0) (h6 : fr 6 = nI 0) (h4 : fr 4 = nI 0) : f_X10_readLine S fr lt mk od ow rd sl tp = some (wrS S (nI 6) (Mo_at S), fr, lt, mk, od, ow, rd, sl) := by
  have g0 : f_X10_isWord S lt 0 = some (nI 0) := g 0 (by omega) (by omega)
  have g1 : f_X10_isWord S lt 1 = some (nI 0) := g 1 (by omega) (by omega)
  have g2 : f_X10_isWord S lt 2 = some (nI 0) := g 2 (by omega) (by omega)
  have g3 : f_X10_isWord S lt 3 = some (nI 0) := g 3 (by omega) (by omega)
  have g4 : f_X10_isWord S lt 4 = some (nI 0) := g 4 (by omega) (by omega)
  have g5 : f_X10_isWord S lt 5 = some (nI 0) := g 5 (by omega) (by omega)
  have g6 : f_X10_isWord S lt 6 = some (nI 0) := g 6 (by omega) (by omega)
  have g7 : f_X10_isWord S lt 7 = some (nI 0) := g 7 (by omega) (by omega)
  have g8 : f_X10_isWord S lt 8 = some (nI 0) := g 8 (by omega) (by omega)
  have g9 : f_X10_isWord S lt 9 = some (nI 1) := hj
  have e := M_107f (S := wrS S (nI 6) (Mo_at S)) (tp := tp) (fr := fr) (lt := lt) (mk := mk) (od := od) (ow := ow) (rd := rd) (sl := sl) rfl
  unfold f_X10_readLine b_X10_readLine_38 b_X10_readLine_59 b_X10_readLine_87 f_X10_isLine
  simp (disch := omega) only [hf, g0, g1, g2, g3, g4, g5, g6, g7, g8, g9, h7, h6, h4, M_wrong hf, e, ↓lm1, ↓lm2, i0, i1, i2, i3, i4, i5, i6, i7, i8, i9, i10, i12, i16, i20, i24, i31, i32, i44, i48, i57, i59, i63, i64, i74, i75, i90, i96, i97, i99, i100, i122, i139, i140, i144, i192, i200, i240, i255, i304, i309, i310, i311, i323, i324, i325, i899, i900, i975, i999, i5200, i4875, i65536, i65537, i15, ob_some, nI_add, nI_clamp, zn_zib, zn_eq, zn_lt, zn_le, m2_lt, m2_le, lt_m2, le_m2, eq_m2, m2_eq, m1_lt, m1_le, lt_m1, le_m1, eq_m1, m1_eq, m1_m2, m2_m1, m2_lt_m1, bI_0, bI_1, bI_t, bI_f, bI_bo, nI0_bo, nI1_bo, if_true, if_false, ite_true, ite_false, Nat.zero_add, Nat.not_lt_zero, Nat.zero_le, not_true_eq_false, not_false_eq_true, or_false, false_or, true_or, or_true, and_true, true_and, Bool.false_eq_true, Bool.true_eq_false, reduceCtorEq, eq_self]
theorem M_rlfull_1 (hf : Mo_failed S = nI 0) (hj : f_X10_isWord S lt 1 = some (nI 1)) (g : ∀ x, x < 11 → x ≠ 1 → f_X10_isWord S lt x = some (nI 0)) (h7 : fr 7 = nI 1) (h6 : fr 6 = nI 12) : f_X10_readLine S fr lt mk od ow rd sl tp = some (wrS S (nI 5) (Mo_at S), fr, lt, mk, od, ow, rd, sl) := by
  have g0 : f_X10_isWord S lt 0 = some (nI 0) := g 0 (by omega) (by omega)
  have g1 : f_X10_isWord S lt 1 = some (nI 1) := hj
  have g2 : f_X10_isWord S lt 2 = some (nI 0) := g 2 (by omega) (by omega)
  have g3 : f_X10_isWord S lt 3 = some (nI 0) := g 3 (by omega) (by omega)
  have g4 : f_X10_isWord S lt 4 = some (nI 0) := g 4 (by omega) (by omega)
  have g5 : f_X10_isWord S lt 5 = some (nI 0) := g 5 (by omega) (by omega)
  have g6 : f_X10_isWord S lt 6 = some (nI 0) := g 6 (by omega) (by omega)
  have g7 : f_X10_isWord S lt 7 = some (nI 0) := g 7 (by omega) (by omega)
  have g8 : f_X10_isWord S lt 8 = some (nI 0) := g 8 (by omega) (by omega)
  have g9 : f_X10_isWord S lt 9 = some (nI 0) := g 9 (by omega) (by omega)
  have e := M_107f (S := wrS S (nI 5) (Mo_at S)) (tp := tp) (fr := fr) (lt := lt) (mk := mk) (od := od) (ow := ow) (rd := rd) (sl := sl) rfl
  unfold f_X10_readLine b_X10_readLine_38 b_X10_readLine_59 b_X10_readLine_87 f_X10_isLine
  simp (disch := omega) only [hf, g0, g1, g2, g3, g4, g5, g6, g7, g8, g9, h7, h6, M_wrong hf, e, ↓lm1, ↓lm2, i0, i1, i2, i3, i4, i5, i6, i7, i8, i9, i10, i12, i16, i20, i24, i31, i32, i44, i48, i57, i59, i63, i64, i74, i75, i90, i96, i97, i99, i100, i122, i139, i140, i144, i192, i200, i240, i255, i304, i309, i310, i311, i323, i324, i325, i899, i900, i975, i999, i5200, i4875, i65536, i65537, i15, ob_some, nI_add, nI_clamp, zn_zib, zn_eq, zn_lt, zn_le, m2_lt, m2_le, lt_m2, le_m2, eq_m2, m2_eq, m1_lt, m1_le, lt_m1, le_m1, eq_m1, m1_eq, m1_m2, m2_m1, m2_lt_m1, bI_0, bI_1, bI_t, bI_f, bI_bo, nI0_bo, nI1_bo, if_true, if_false, ite_true, ite_false, Nat.zero_add, Nat.not_lt_zero, Nat.zero_le, not_true_eq_false, not_false_eq_true, or_false, false_or, true_or, or_true, and_true, true_and, Bool.false_eq_true, Bool.true_eq_false, reduceCtorEq, eq_self]
theorem M_rlfull_8 (hf : Mo_failed S = nI 0) (hj : f_X10_isWord S lt 8 = some (nI 1)) (g : ∀ x, x < 11 → x ≠ 8 → f_X10_isWord S lt x = some (nI 0)) (h7 : fr 7 = nI 1) (h6 : fr 4 = nI 4) : f_X10_readLine S fr lt mk od ow rd sl tp = some (wrS S (nI 5) (Mo_at S), fr, lt, mk, od, ow, rd, sl) := by
  have g0 : f_X10_isWord S lt 0 = some (nI 0) := g 0 (by omega) (by omega)
  have g1 : f_X10_isWord S lt 1 = some (nI 0) := g 1 (by omega) (by omega)
  have g2 : f_X10_isWord S lt 2 = some (nI 0) := g 2 (by omega) (by omega)
  have g3 : f_X10_isWord S lt 3 = some (nI 0) := g 3 (by omega) (by omega)
  have g4 : f_X10_isWord S lt 4 = some (nI 0) := g 4 (by omega) (by omega)
  have g5 : f_X10_isWord S lt 5 = some (nI 0) := g 5 (by omega) (by omega)
  have g6 : f_X10_isWord S lt 6 = some (nI 0) := g 6 (by omega) (by omega)
  have g7 : f_X10_isWord S lt 7 = some (nI 0) := g 7 (by omega) (by omega)
  have g8 : f_X10_isWord S lt 8 = some (nI 1) := hj
  have g9 : f_X10_isWord S lt 9 = some (nI 0) := g 9 (by omega) (by omega)
  have e := M_107f (S := wrS S (nI 5) (Mo_at S)) (tp := tp) (fr := fr) (lt := lt) (mk := mk) (od := od) (ow := ow) (rd := rd) (sl := sl) rfl
  unfold f_X10_readLine b_X10_readLine_38 b_X10_readLine_59 b_X10_readLine_87 f_X10_isLine
  simp (disch := omega) only [hf, g0, g1, g2, g3, g4, g5, g6, g7, g8, g9, h7, h6, M_wrong hf, e, ↓lm1, ↓lm2, i0, i1, i2, i3, i4, i5, i6, i7, i8, i9, i10, i12, i16, i20, i24, i31, i32, i44, i48, i57, i59, i63, i64, i74, i75, i90, i96, i97, i99, i100, i122, i139, i140, i144, i192, i200, i240, i255, i304, i309, i310, i311, i323, i324, i325, i899, i900, i975, i999, i5200, i4875, i65536, i65537, i15, ob_some, nI_add, nI_clamp, zn_zib, zn_eq, zn_lt, zn_le, m2_lt, m2_le, lt_m2, le_m2, eq_m2, m2_eq, m1_lt, m1_le, lt_m1, le_m1, eq_m1, m1_eq, m1_m2, m2_m1, m2_lt_m1, bI_0, bI_1, bI_t, bI_f, bI_bo, nI0_bo, nI1_bo, if_true, if_false, ite_true, ite_false, Nat.zero_add, Nat.not_lt_zero, Nat.zero_le, not_true_eq_false, not_false_eq_true, or_false, false_or, true_or, or_true, and_true, true_and, Bool.false_eq_true, Bool.true_eq_false, reduceCtorEq, eq_self]
end
