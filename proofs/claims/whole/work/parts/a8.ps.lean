/-! what both sides hold between the lines of a text -/
def HD (fr : Nat → Int32) (n m c : Nat) : Prop := fr 0 = nI n ∧ fr 1 = nI m ∧ fr 3 = nI c ∧ fr 7 = nI 1
def OW (ns fr ow : Nat → Int32) (n kn : Nat) : Prop := ∀ i, i < kn → ∃ s, s < n ∧ ns i = nI s ∧ fr (20 + i) = nI s ∧ (ow s = nI (i + 1) ↔ ∀ j, i < j → j < kn → fr (20 + j) ≠ nI s)
def SLQ (ns rd : Nat → Int32) (kn : Nat) : Prop := (∀ i, i < kn → ∀ w, w < 6 → ns i = nI w → rn rd w = true) ∧ ∀ i j, i < kn → j < kn → i ≠ j → ∀ w, w < 6 → ns i = nI w → ns j ≠ nI w
def UN (un fr : Nat → Int32) (kn u : Nat) : Prop := u ≤ 4 ∧ fr 4 = nI u ∧ ∀ k, k < u → ∃ i, i < kn ∧ un k = nI i ∧ fr (8 + k) = nI i
def SN (E : SEv) (fr oq : Nat → Int32) (m ev : Nat) (rw : Nat → Nat) : Prop := ev ≤ 8 ∧ Ev_seenCount E = nI ev ∧ Ev_unsureCount E = nI 0 ∧ fr 5 = nI ev ∧ (∀ k, k < ev → rw k < m ∧ Ev_seenRows E k = nI (rw k) ∧ oq k = nI (rw k) ∧ ((Ev_seenValues E k = m2 ∧ fr (12 + rw k) = nI 1) ∨ ∃ v, v ≤ 999 ∧ Ev_seenValues E k = nI v ∧ fr (12 + rw k) = nI (v + 2))) ∧ (∀ i j, i < j → j < ev → rw i ≠ rw j) ∧ ∀ r, r < m → (∀ k, k < ev → rw k ≠ r) → fr (12 + r) = nI 0
def PS (D : SRd) (E : SEv) (R : SRows) (S : SMo) (fr oq ow rd sl : Nat → Int32) (kf : Nat → Nat) (n m c b : Nat) : Prop := ∃ (kn u ev : Nat) (po le rw : Nat → Nat), Rd_fault D = nI 0 ∧ Mo_fault S = nI 0 ∧ HD fr n m c ∧ Mo_ring S = nI n ∧ FR R rd n m c b ∧ Rd_nameCount D = nI kn ∧ fr 6 = nI kn ∧ NR (Rd_names D) fr kf po le kn ∧ OW (Rd_nameStamps D) fr ow n kn ∧ SLR (Rd_nameSlots D) sl kn ∧ SLQ (Rd_nameSlots D) rd kn ∧ Rd_unsureCount D = nI u ∧ UN (Rd_unsureNames D) fr kn u ∧ SN E fr oq m ev rw
abbrev MXt := SMo × (Nat → Int32) × (Nat → Int32) × (Nat → Int32) × (Nat → Int32) × (Nat → Int32) × (Nat → Int32) × (Nat → Int32)
def CF (D : SRd) (E : SEv) (R : SRows) (T : STape) (D' : SRd) (T' : STape) : Prop := ∃ E' R', f_X5_readLine D E R T = some (nI 0, D', E', R', T') ∨ ∃ D1 R1 D2, f_X5_readLine D E R T = some (nI 1, D1, E', R1, T') ∧ f_X5_doAct D1 R1 = some (nI 0, D2, R') ∧ D' = flD D2 (nI 8) (Tape_start T')
def FO (D' : SRd) (T T' : STape) (S S' : SMo) : Prop := FB D' T T' S S' ∨ (TE T T' ∧ FM S S' ∧ Mo_failed S' = nI 0 ∧ NE S' ∧ Rd_fault D' = nI 1 ∧ Rd_place D' = Mo_at S')
def LO (D : SRd) (E : SEv) (R : SRows) (T : STape) (S : SMo) (mr : Option MXt) (kf : Nat → Nat) (L p b : Nat) : Prop := (∃ D1 E1 R1 T1 D2 R2 p' n' m' c', ∃ X : MXt, f_X5_readLine D E R T = some (nI 1, D1, E1, R1, T1) ∧ f_X5_doAct D1 R1 = some (nI 1, D2, R2) ∧ mr = some X ∧ TE T T1 ∧ FM S X.1 ∧ Mo_failed X.1 = nI 0 ∧ Mo_size X.1 = Mo_size S ∧ p < p' ∧ LE T1 X.1 X.2.2.1 kf L p' ∧ PS D2 E1 R2 X.1 X.2.1 X.2.2.2.2.1 X.2.2.2.2.2.1 X.2.2.2.2.2.2.1 X.2.2.2.2.2.2.2 kf n' m' c' (b + 1)) ∨ (∃ D' T', ∃ X : MXt, CF D E R T D' T' ∧ mr = some X ∧ FO D' T T' S X.1)
section
variable {T : STape} {S : SMo} {D : SRd} {E : SEv} {R : SRows}
theorem T_slotNamed (x : Int32) : ∃ y, f_X5_slotNamed D x = some y := by
  unfold f_X5_slotNamed
  rcases ix_cases x (by omega : 12 < 2 ^ 30) with ⟨-, h⟩ | ⟨-, j, hj, rfl⟩
  · by_cases z : x < nI 0
    · exact ⟨m2, by simp (disch := omega) only [z, ↓lm1, ↓lm2, i0, i1, i2, i3, i4, i5, i6, i7, i8, i9, i10, i12, i16, i20, i24, i31, i32, i44, i48, i57, i59, i63, i64, i74, i75, i90, i96, i97, i99, i100, i122, i139, i140, i144, i192, i200, i240, i255, i304, i309, i310, i311, i323, i324, i325, i899, i900, i975, i999, i5200, i4875, i65536, i65537, i15, ob_some, nI_add, nI_clamp, zn_zib, zn_eq, zn_lt, zn_le, m2_lt, m2_le, lt_m2, le_m2, eq_m2, m2_eq, m1_lt, m1_le, lt_m1, le_m1, eq_m1, m1_eq, m1_m2, m2_m1, m2_lt_m1, bI_0, bI_1, bI_t, bI_f, bI_bo, nI0_bo, nI1_bo, if_true, if_false, ite_true, ite_false, Nat.zero_add, Nat.not_lt_zero, Nat.zero_le, not_true_eq_false, not_false_eq_true, or_false, false_or, true_or, or_true, and_true, true_and, Bool.false_eq_true, Bool.true_eq_false, reduceCtorEq, eq_self]⟩
    · exact ⟨m2, by simp (disch := omega) only [z, h.resolve_left z, ↓lm1, ↓lm2, i0, i1, i2, i3, i4, i5, i6, i7, i8, i9, i10, i12, i16, i20, i24, i31, i32, i44, i48, i57, i59, i63, i64, i74, i75, i90, i96, i97, i99, i100, i122, i139, i140, i144, i192, i200, i240, i255, i304, i309, i310, i311, i323, i324, i325, i899, i900, i975, i999, i5200, i4875, i65536, i65537, i15, ob_some, nI_add, nI_clamp, zn_zib, zn_eq, zn_lt, zn_le, m2_lt, m2_le, lt_m2, le_m2, eq_m2, m2_eq, m1_lt, m1_le, lt_m1, le_m1, eq_m1, m1_eq, m1_m2, m2_m1, m2_lt_m1, bI_0, bI_1, bI_t, bI_f, bI_bo, nI0_bo, nI1_bo, if_true, if_false, ite_true, ite_false, Nat.zero_add, Nat.not_lt_zero, Nat.zero_le, not_true_eq_false, not_false_eq_true, or_false, false_or, true_or, or_true, and_true, true_and, Bool.false_eq_true, Bool.true_eq_false, reduceCtorEq, eq_self]⟩
  · have b1 : ¬ 12 ≤ j := by omega
    exact ⟨Rd_nameSlots D j, by simp (disch := omega) only [b1, ↓lm1, ↓lm2, i0, i1, i2, i3, i4, i5, i6, i7, i8, i9, i10, i12, i16, i20, i24, i31, i32, i44, i48, i57, i59, i63, i64, i74, i75, i90, i96, i97, i99, i100, i122, i139, i140, i144, i192, i200, i240, i255, i304, i309, i310, i311, i323, i324, i325, i899, i900, i975, i999, i5200, i4875, i65536, i65537, i15, ob_some, nI_add, nI_clamp, zn_zib, zn_eq, zn_lt, zn_le, m2_lt, m2_le, lt_m2, le_m2, eq_m2, m2_eq, m1_lt, m1_le, lt_m1, le_m1, eq_m1, m1_eq, m1_m2, m2_m1, m2_lt_m1, bI_0, bI_1, bI_t, bI_f, bI_bo, nI0_bo, nI1_bo, if_true, if_false, ite_true, ite_false, Nat.zero_add, Nat.not_lt_zero, Nat.zero_le, not_true_eq_false, not_false_eq_true, or_false, false_or, true_or, or_true, and_true, true_and, Bool.false_eq_true, Bool.true_eq_false, reduceCtorEq, eq_self]⟩
theorem T_slotNamed_at {i : Nat} (hi : i < 12) : f_X5_slotNamed D (nI i) = some (Rd_nameSlots D i) := by
  have b1 : ¬ 12 ≤ i := by omega
  unfold f_X5_slotNamed
  simp (disch := omega) only [b1, ↓lm1, ↓lm2, i0, i1, i2, i3, i4, i5, i6, i7, i8, i9, i10, i12, i16, i20, i24, i31, i32, i44, i48, i57, i59, i63, i64, i74, i75, i90, i96, i97, i99, i100, i122, i139, i140, i144, i192, i200, i240, i255, i304, i309, i310, i311, i323, i324, i325, i899, i900, i975, i999, i5200, i4875, i65536, i65537, i15, ob_some, nI_add, nI_clamp, zn_zib, zn_eq, zn_lt, zn_le, m2_lt, m2_le, lt_m2, le_m2, eq_m2, m2_eq, m1_lt, m1_le, lt_m1, le_m1, eq_m1, m1_eq, m1_m2, m2_m1, m2_lt_m1, bI_0, bI_1, bI_t, bI_f, bI_bo, nI0_bo, nI1_bo, if_true, if_false, ite_true, ite_false, Nat.zero_add, Nat.not_lt_zero, Nat.zero_le, not_true_eq_false, not_false_eq_true, or_false, false_or, true_or, or_true, and_true, true_and, Bool.false_eq_true, Bool.true_eq_false, reduceCtorEq, eq_self]
theorem T_da_0 (hh : Rd_head D = some 0) {y : Int32} (hs : f_X5_slotNamed D (Rd_name D) = some y) : f_X5_doAct D R = some ((1 : Int32), D, R) := by
  have ho : f_Jx29ce0_ordinal_8abf5 ((some 0).getD 0) = some (nI 0) := by decide +kernel
  unfold f_X5_doAct
  rw [hh, if_neg (by decide), hs, ob_some, if_pos (by decide), ho, ob_some, if_pos (by decide), if_neg (by decide), if_neg (by decide), if_neg (by decide), if_neg (by decide), if_neg (by decide), if_neg (by decide), if_neg (by decide), if_neg (by decide), if_neg (by decide)]
theorem T_da_1 (hh : Rd_head D = some 1) {y : Int32} (hs : f_X5_slotNamed D (Rd_name D) = some y) : f_X5_doAct D R = (f_X6_canBegin R).bind (fun q5 => if q5 = 0 then some ((0 : Int32), D, R) else (f_X5_addWriter D R).bind (fun q6 => if q6.1 = 0 then some ((0 : Int32), q6.2.1, q6.2.2) else some ((1 : Int32), q6.2.1, q6.2.2))) := by
  have ho : f_Jx29ce0_ordinal_8abf5 ((some 1).getD 0) = some (nI 1) := by decide +kernel
  unfold f_X5_doAct
  rw [hh, if_neg (by decide), hs, ob_some, if_pos (by decide), ho, ob_some, if_pos (by decide), if_pos (by decide)]
theorem T_da_2 (hh : Rd_head D = some 2) {y : Int32} (hs : f_X5_slotNamed D (Rd_name D) = some y) : f_X5_doAct D R = (f_X6_putTrouble R y (Rd_row D)).bind (fun q7 => if q7 = 0 then (f_X6_putValue R y (Rd_row D) (Rd_whole D)).bind (fun q8 => if q8.1 = (-2 : Int32) then some ((0 : Int32), D, q8.2) else some ((1 : Int32), D, q8.2)) else some ((0 : Int32), D, R)) := by
  have ho : f_Jx29ce0_ordinal_8abf5 ((some 2).getD 0) = some (nI 2) := by decide +kernel
  unfold f_X5_doAct
  rw [hh, if_neg (by decide), hs, ob_some, if_pos (by decide), ho, ob_some, if_pos (by decide), if_neg (by decide), if_pos (by decide)]
theorem T_da_3 (hh : Rd_head D = some 3) {y : Int32} (hs : f_X5_slotNamed D (Rd_name D) = some y) : f_X5_doAct D R = (f_X6_dropTrouble R y (Rd_row D)).bind (fun q9 => if q9 = 0 then (f_X6_dropValue R y (Rd_row D)).bind (fun q10 => if q10.1 = (-2 : Int32) then some ((0 : Int32), D, q10.2) else some ((1 : Int32), D, q10.2)) else some ((0 : Int32), D, R)) := by
  have ho : f_Jx29ce0_ordinal_8abf5 ((some 3).getD 0) = some (nI 3) := by decide +kernel
  unfold f_X5_doAct
  rw [hh, if_neg (by decide), hs, ob_some, if_pos (by decide), ho, ob_some, if_pos (by decide), if_neg (by decide), if_neg (by decide), if_pos (by decide)]
theorem T_da_4 (hh : Rd_head D = some 4) {y : Int32} (hs : f_X5_slotNamed D (Rd_name D) = some y) : f_X5_doAct D R = (f_X5_endNamed D R (1 : Int32)).bind (fun q2 => if zbo q2.1 then some (q2.1, q2.2.1, q2.2.2) else none) := by
  have ho : f_Jx29ce0_ordinal_8abf5 ((some 4).getD 0) = some (nI 4) := by decide +kernel
  unfold f_X5_doAct
  rw [hh, if_neg (by decide), hs, ob_some, if_pos (by decide), ho, ob_some, if_pos (by decide), if_neg (by decide), if_neg (by decide), if_neg (by decide), if_pos (by decide)]
  unfold b_X5_doAct_183
  rw [hh, if_pos (by decide), if_pos rfl]
theorem T_da_5 (hh : Rd_head D = some 5) {y : Int32} (hs : f_X5_slotNamed D (Rd_name D) = some y) : f_X5_doAct D R = (f_X5_endNamed D R (0 : Int32)).bind (fun q1 => if zbo q1.1 then some (q1.1, q1.2.1, q1.2.2) else none) := by
  have ho : f_Jx29ce0_ordinal_8abf5 ((some 5).getD 0) = some (nI 5) := by decide +kernel
  unfold f_X5_doAct
  rw [hh, if_neg (by decide), hs, ob_some, if_pos (by decide), ho, ob_some, if_pos (by decide), if_neg (by decide), if_neg (by decide), if_neg (by decide), if_neg (by decide), if_pos (by decide)]
  unfold b_X5_doAct_183
  rw [hh, if_pos (by decide), if_neg (by decide)]
theorem T_da_6 (hh : Rd_head D = some 6) {y : Int32} (hs : f_X5_slotNamed D (Rd_name D) = some y) : f_X5_doAct D R = (f_X6_clearDead R).bind (fun q11 => if q11.1 ≤ 0 then some ((0 : Int32), D, q11.2) else some ((1 : Int32), D, q11.2)) := by
  have ho : f_Jx29ce0_ordinal_8abf5 ((some 6).getD 0) = some (nI 6) := by decide +kernel
  unfold f_X5_doAct
  rw [hh, if_neg (by decide), hs, ob_some, if_pos (by decide), ho, ob_some, if_pos (by decide), if_neg (by decide), if_neg (by decide), if_neg (by decide), if_neg (by decide), if_neg (by decide), if_neg (by decide), if_neg (by decide), if_pos (by decide)]
theorem T_da_7 (hh : Rd_head D = some 7) {y : Int32} (hs : f_X5_slotNamed D (Rd_name D) = some y) : f_X5_doAct D R = (f_X6_freezeAll R).bind (fun q12 => if q12.1 ≤ 0 then some ((0 : Int32), D, q12.2) else some ((1 : Int32), D, q12.2)) := by
  have ho : f_Jx29ce0_ordinal_8abf5 ((some 7).getD 0) = some (nI 7) := by decide +kernel
  unfold f_X5_doAct
  rw [hh, if_neg (by decide), hs, ob_some, if_pos (by decide), ho, ob_some, if_pos (by decide), if_neg (by decide), if_neg (by decide), if_neg (by decide), if_neg (by decide), if_neg (by decide), if_neg (by decide), if_neg (by decide), if_neg (by decide), if_pos (by decide)]
theorem T_da_8 (hh : Rd_head D = some 8) {y : Int32} (hs : f_X5_slotNamed D (Rd_name D) = some y) : f_X5_doAct D R = some ((1 : Int32), D, R) := by
  have ho : f_Jx29ce0_ordinal_8abf5 ((some 8).getD 0) = some (nI 8) := by decide +kernel
  unfold f_X5_doAct
  rw [hh, if_neg (by decide), hs, ob_some, if_pos (by decide), ho, ob_some, if_pos (by decide), if_neg (by decide), if_neg (by decide), if_neg (by decide), if_neg (by decide), if_neg (by decide), if_pos (by decide)]
theorem T_da_9 (hh : Rd_head D = some 9) {y : Int32} (hs : f_X5_slotNamed D (Rd_name D) = some y) : f_X5_doAct D R = some ((1 : Int32), D, R) := by
  have ho : f_Jx29ce0_ordinal_8abf5 ((some 9).getD 0) = some (nI 9) := by decide +kernel
  unfold f_X5_doAct
  rw [hh, if_neg (by decide), hs, ob_some, if_pos (by decide), ho, ob_some, if_pos (by decide), if_neg (by decide), if_neg (by decide), if_neg (by decide), if_neg (by decide), if_neg (by decide), if_neg (by decide), if_pos (by decide)]
end
