/-! the parts of a line, on both sides -/
def CX (T : STape) (S : SMo) (tp : Nat → Int32) (kf : Nat → Nat) (L : Nat) : Prop := TB (Tape_bytes T) tp kf L ∧ L ≤ 900 ∧ Tape_length T = nI L ∧ Mo_size S = nI L ∧ Tape_size T = nI 0 ∧ Mo_failed S = nI 0
def AH (T : STape) (S : SMo) (lt : Nat → Int32) (kf : Nat → Nat) (L p0 : Nat) : Prop := ∃ T' p, f_X7_advance T = some T' ∧ TK T' S lt kf L p ∧ p0 ≤ p ∧ TE T T'
def FM (S S' : SMo) : Prop := Mo_taped S' = Mo_taped S ∧ Mo_trouble S' = Mo_trouble S ∧ Mo_hasStore S' = Mo_hasStore S ∧ Mo_undos S' = Mo_undos S ∧ Mo_images S' = Mo_images S
def FB (D : SRd) (T T' : STape) (S S' : SMo) : Prop := TE T T' ∧ FM S S' ∧ Mo_failed S' = nI 1 ∧ Rd_fault D = Mo_fault S' ∧ Rd_place D = Mo_place S'
def wrS (S : SMo) (q a : Int32) : SMo := mkMo (Mo_thrown S) (Mo_taped S) (Mo_size S) (Mo_at S) (Mo_end S) (Mo_token S) (Mo_whole S) (Mo_nameSize S) q a (Mo_trouble S) (nI 1) (Mo_hasStore S) (Mo_undos S) (Mo_images S) (Mo_ring S) (Mo_refused S) (Mo_setMany S) (Mo_someOf S) (Mo_allOf S) (Mo_firstRest S) (Mo_allWeight S) (Mo_seenWeight S) (Mo_sumWeight S)
def flD (D : SRd) (q a : Int32) : SRd := mkRd q a (Rd_nameCount D) (Rd_names D) (Rd_nameStamps D) (Rd_nameSlots D) (Rd_unsureNames D) (Rd_unsureCount D) (Rd_head D) (Rd_name D) (Rd_row D) (Rd_whole D)
def dWh (D : SRd) (x : Int32) : SRd := mkRd (Rd_fault D) (Rd_place D) (Rd_nameCount D) (Rd_names D) (Rd_nameStamps D) (Rd_nameSlots D) (Rd_unsureNames D) (Rd_unsureCount D) (Rd_head D) (Rd_name D) (Rd_row D) x
def dRw (D : SRd) (x : Int32) : SRd := mkRd (Rd_fault D) (Rd_place D) (Rd_nameCount D) (Rd_names D) (Rd_nameStamps D) (Rd_nameSlots D) (Rd_unsureNames D) (Rd_unsureCount D) (Rd_head D) (Rd_name D) x x
theorem TE_rfl (T : STape) : TE T T := ⟨rfl, rfl, rfl⟩
theorem TE_trans {T T' T'' : STape} (h : TE T T') (g : TE T' T'') : TE T T'' := ⟨g.1.trans h.1, g.2.1.trans h.2.1, g.2.2.trans h.2.2⟩
theorem FM_rfl (S : SMo) : FM S S := ⟨rfl, rfl, rfl, rfl, rfl⟩
theorem FM_trans {S S' S'' : SMo} (h : FM S S') (g : FM S' S'') : FM S S'' := ⟨g.1.trans h.1, g.2.1.trans h.2.1, g.2.2.1.trans h.2.2.1, g.2.2.2.1.trans h.2.2.2.1, g.2.2.2.2.trans h.2.2.2.2⟩
theorem SE_FM {S S' : SMo} (h : SE S S') : FM S S' := ⟨h.1, h.2.2.2.2.1, h.2.2.2.2.2.2.1, h.2.2.2.2.2.2.2.1, h.2.2.2.2.2.2.2.2.1⟩
theorem FM_wr (S : SMo) (q a : Int32) : FM S (wrS S q a) := ⟨rfl, rfl, rfl, rfl, rfl⟩
theorem FB_pre {D : SRd} {T T1 T' : STape} {S S1 S' : SMo} (h : TE T T1) (g : SE S S1) (f : FB D T1 T' S1 S') : FB D T T' S S' := ⟨TE_trans h f.1, FM_trans (SE_FM g) f.2.1, f.2.2⟩
theorem FB_wr {D : SRd} {T T' : STape} {S : SMo} {q a : Int32} (h : TE T T') (e : Tape_start T' = a) : FB (flD D q (Tape_start T')) T T' S (wrS S q a) := ⟨h, FM_wr S q a, rfl, rfl, e⟩
section
variable {T T' : STape} {S S' : SMo} {D : SRd} {lt tp fr : Nat → Int32} {kf : Nat → Nat} {L p e p0 : Nat}
theorem CX_TE (h : CX T S tp kf L) (g : TE T T') (f : SE S S') : CX T' S' tp kf L := by
  obtain ⟨h1, h2, h3, h4, h5, h6⟩ := h
  refine ⟨?_, h2, g.2.1.trans h3, f.2.1.trans h4, g.1.trans h5, (SE_failed f).trans h6⟩
  rw [g.2.2]
  exact h1
theorem M_wrong {q a : Int32} (h : Mo_failed S = nI 0) : f_X10_wrong S q a = some (wrS S q a) := by
  have h' : Mo_failed S = 0 := h
  unfold f_X10_wrong
  rw [if_pos h']
  rfl
theorem M_wrong_f {q a : Int32} (h : Mo_failed S = nI 1) : f_X10_wrong S q a = some S := by
  unfold f_X10_wrong
  rw [if_neg (by rw [h]; decide)]
theorem T_fail (q : Int32) : f_X5_fail D T q = some (nI 0, flD D q (Tape_start T)) := rfl
theorem go_on (C : CX T S tp kf L) (h2 : Tape_after T = nI e) (h4 : Mo_end S = nI e) (he : e ≤ L) : ∃ S' lt', f_X10_step S lt tp = some (S', lt') ∧ AH T S' lt' kf L e ∧ SE S S' := by
  obtain ⟨T', S', lt', p, a1, a2, a3, a4, a5, a6⟩ := adv_step (lt := lt) C.1 C.2.1 C.2.2.1 h2 C.2.2.2.1 h4 he
  exact ⟨S', lt', a2, ⟨T', p, a1, a4, a3, a5⟩, a6⟩
theorem go_w (C : CX T S tp kf L) (h : TKw T S lt kf L p e) : ∃ S' lt', f_X10_step S lt tp = some (S', lt') ∧ AH T S' lt' kf L (p + 1) ∧ SE S S' := by
  obtain ⟨S', lt', h1, ⟨T', p', a1, a2, a3, a4⟩, h3⟩ := go_on (lt := lt) C h.2.2.1 h.2.2.2.1 h.2.2.2.2.2.1
  exact ⟨S', lt', h1, ⟨T', p', a1, a2, by have := h.2.2.2.2.1; omega, a4⟩, h3⟩
theorem go_n {v : Nat} (C : CX T S tp kf L) (h : TKn T S L p e v) : ∃ S' lt', f_X10_step S lt tp = some (S', lt') ∧ AH T S' lt' kf L (p + 1) ∧ SE S S' := by
  obtain ⟨S', lt', h1, ⟨T', p', a1, a2, a3, a4⟩, h3⟩ := go_on (lt := lt) C h.2.2.1 h.2.2.2.1 h.2.2.2.2.2.1
  exact ⟨S', lt', h1, ⟨T', p', a1, a2, by have := h.2.2.2.2.1; omega, a4⟩, h3⟩
theorem go_s (C : CX T S tp kf L) (h : TKs T S L p) : ∃ S' lt', f_X10_step S lt tp = some (S', lt') ∧ AH T S' lt' kf L (p + 1) ∧ SE S S' := go_on C h.2.2.1 h.2.2.2.1 h.2.2.2.2
theorem AH_mono {q : Nat} (h : AH T S lt kf L p0) (hq : q ≤ p0) : AH T S lt kf L q := by
  obtain ⟨T', p, h1, h2, h3, h4⟩ := h
  exact ⟨T', p, h1, h2, by omega, h4⟩
theorem b_text (C : CX T S tp kf L) (A : AH T S lt kf L p0) {x : Nat} (hx : x < 15) : (∃ T' S' lt', f_X5_takeText D T x = some (nI 1, D, T') ∧ f_X10_must S lt tp x = some (S', lt') ∧ TE T T' ∧ SE S S' ∧ AH T' S' lt' kf L (p0 + 1)) ∨ (∃ D' T' S', f_X5_takeText D T x = some (nI 0, D', T') ∧ f_X10_must S lt tp x = some (S', lt) ∧ FB D' T T' S S') := by
  obtain ⟨T', p, a1, a2, a3, a4⟩ := A
  have C' : CX T' S tp kf L := CX_TE C a4 (SE_rfl S)
  obtain ⟨q, w1, w2, w3⟩ := TK_words C'.1 C'.2.1 C'.2.2.1 C.2.2.2.2.2 a2
  obtain ⟨u1, u2⟩ := w1 x hx
  have hf := C.2.2.2.2.2
  unfold f_X5_takeText f_X10_must
  cases z : q x
  · rw [z] at u1 u2
    refine .inr ⟨flD D (nI 1) (Tape_start T'), T', wrS S (nI 1) (Mo_at S), ?_, ?_, FB_wr a4 (a2.1.trans a2.2.1.symm)⟩
    · simp (disch := omega) only [a1, u1, T_fail, ↓lm1, ↓lm2, i0, i1, i2, i3, i4, i5, i6, i7, i8, i9, i10, i12, i16, i20, i24, i31, i32, i44, i48, i57, i59, i63, i64, i74, i75, i90, i96, i97, i99, i100, i122, i139, i140, i144, i192, i200, i240, i255, i304, i309, i310, i311, i323, i324, i325, i899, i900, i975, i999, i5200, i4875, i65536, i65537, i15, ob_some, nI_add, nI_clamp, zn_zib, zn_eq, zn_lt, zn_le, m2_lt, m2_le, lt_m2, le_m2, eq_m2, m2_eq, m1_lt, m1_le, lt_m1, le_m1, eq_m1, m1_eq, m1_m2, m2_m1, m2_lt_m1, bI_0, bI_1, bI_t, bI_f, bI_bo, nI0_bo, nI1_bo, if_true, if_false, ite_true, ite_false, Nat.zero_add, Nat.not_lt_zero, Nat.zero_le, not_true_eq_false, not_false_eq_true, or_false, false_or, true_or, or_true, and_true, true_and, Bool.false_eq_true, Bool.true_eq_false, reduceCtorEq, eq_self]
    · simp (disch := omega) only [hf, u2, M_wrong hf, ↓lm1, ↓lm2, i0, i1, i2, i3, i4, i5, i6, i7, i8, i9, i10, i12, i16, i20, i24, i31, i32, i44, i48, i57, i59, i63, i64, i74, i75, i90, i96, i97, i99, i100, i122, i139, i140, i144, i192, i200, i240, i255, i304, i309, i310, i311, i323, i324, i325, i899, i900, i975, i999, i5200, i4875, i65536, i65537, i15, ob_some, nI_add, nI_clamp, zn_zib, zn_eq, zn_lt, zn_le, m2_lt, m2_le, lt_m2, le_m2, eq_m2, m2_eq, m1_lt, m1_le, lt_m1, le_m1, eq_m1, m1_eq, m1_m2, m2_m1, m2_lt_m1, bI_0, bI_1, bI_t, bI_f, bI_bo, nI0_bo, nI1_bo, if_true, if_false, ite_true, ite_false, Nat.zero_add, Nat.not_lt_zero, Nat.zero_le, not_true_eq_false, not_false_eq_true, or_false, false_or, true_or, or_true, and_true, true_and, Bool.false_eq_true, Bool.true_eq_false, reduceCtorEq, eq_self]
  · rw [z] at u1 u2
    obtain ⟨e, hw⟩ := w3 x z
    obtain ⟨S', lt', g1, g2, g3⟩ := go_w C' hw
    refine .inl ⟨T', S', lt', ?_, ?_, a4, g3, AH_mono g2 (by omega)⟩
    · simp (disch := omega) only [a1, u1, ↓lm1, ↓lm2, i0, i1, i2, i3, i4, i5, i6, i7, i8, i9, i10, i12, i16, i20, i24, i31, i32, i44, i48, i57, i59, i63, i64, i74, i75, i90, i96, i97, i99, i100, i122, i139, i140, i144, i192, i200, i240, i255, i304, i309, i310, i311, i323, i324, i325, i899, i900, i975, i999, i5200, i4875, i65536, i65537, i15, ob_some, nI_add, nI_clamp, zn_zib, zn_eq, zn_lt, zn_le, m2_lt, m2_le, lt_m2, le_m2, eq_m2, m2_eq, m1_lt, m1_le, lt_m1, le_m1, eq_m1, m1_eq, m1_m2, m2_m1, m2_lt_m1, bI_0, bI_1, bI_t, bI_f, bI_bo, nI0_bo, nI1_bo, if_true, if_false, ite_true, ite_false, Nat.zero_add, Nat.not_lt_zero, Nat.zero_le, not_true_eq_false, not_false_eq_true, or_false, false_or, true_or, or_true, and_true, true_and, Bool.false_eq_true, Bool.true_eq_false, reduceCtorEq, eq_self]
    · simp (disch := omega) only [hf, u2, g1, ↓lm1, ↓lm2, i0, i1, i2, i3, i4, i5, i6, i7, i8, i9, i10, i12, i16, i20, i24, i31, i32, i44, i48, i57, i59, i63, i64, i74, i75, i90, i96, i97, i99, i100, i122, i139, i140, i144, i192, i200, i240, i255, i304, i309, i310, i311, i323, i324, i325, i899, i900, i975, i999, i5200, i4875, i65536, i65537, i15, ob_some, nI_add, nI_clamp, zn_zib, zn_eq, zn_lt, zn_le, m2_lt, m2_le, lt_m2, le_m2, eq_m2, m2_eq, m1_lt, m1_le, lt_m1, le_m1, eq_m1, m1_eq, m1_m2, m2_m1, m2_lt_m1, bI_0, bI_1, bI_t, bI_f, bI_bo, nI0_bo, nI1_bo, if_true, if_false, ite_true, ite_false, Nat.zero_add, Nat.not_lt_zero, Nat.zero_le, not_true_eq_false, not_false_eq_true, or_false, false_or, true_or, or_true, and_true, true_and, Bool.false_eq_true, Bool.true_eq_false, reduceCtorEq, eq_self]
theorem M_in2 {a b c : Nat} (ha : a < 2 ^ 30) (hb : b < 2 ^ 30) (hc : c < 2 ^ 30) : f_X10_in (nI a) (nI b) (nI c) = some (bI (decide (b ≤ a) && decide (a ≤ c))) := by
  unfold f_X10_in
  by_cases q : b ≤ a
  · have q1 : ¬ a < b := by omega
    by_cases q2 : a ≤ c
    · have q3 : ¬ c < a := by omega
      simp (disch := omega) only [q, q1, q2, q3, ↓lm1, ↓lm2, i0, i1, i2, i3, i4, i5, i6, i7, i8, i9, i10, i12, i16, i20, i24, i31, i32, i44, i48, i57, i59, i63, i64, i74, i75, i90, i96, i97, i99, i100, i122, i139, i140, i144, i192, i200, i240, i255, i304, i309, i310, i311, i323, i324, i325, i899, i900, i975, i999, i5200, i4875, i65536, i65537, i15, ob_some, nI_add, nI_clamp, zn_zib, zn_eq, zn_lt, zn_le, m2_lt, m2_le, lt_m2, le_m2, eq_m2, m2_eq, m1_lt, m1_le, lt_m1, le_m1, eq_m1, m1_eq, m1_m2, m2_m1, m2_lt_m1, bI_0, bI_1, bI_t, bI_f, bI_bo, nI0_bo, nI1_bo, if_true, if_false, ite_true, ite_false, Nat.zero_add, Nat.not_lt_zero, Nat.zero_le, not_true_eq_false, not_false_eq_true, or_false, false_or, true_or, or_true, and_true, true_and, Bool.false_eq_true, Bool.true_eq_false, reduceCtorEq, eq_self, decide_true, Bool.and_self]
    · have q3 : c < a := by omega
      simp (disch := omega) only [q, q1, q2, q3, ↓lm1, ↓lm2, i0, i1, i2, i3, i4, i5, i6, i7, i8, i9, i10, i12, i16, i20, i24, i31, i32, i44, i48, i57, i59, i63, i64, i74, i75, i90, i96, i97, i99, i100, i122, i139, i140, i144, i192, i200, i240, i255, i304, i309, i310, i311, i323, i324, i325, i899, i900, i975, i999, i5200, i4875, i65536, i65537, i15, ob_some, nI_add, nI_clamp, zn_zib, zn_eq, zn_lt, zn_le, m2_lt, m2_le, lt_m2, le_m2, eq_m2, m2_eq, m1_lt, m1_le, lt_m1, le_m1, eq_m1, m1_eq, m1_m2, m2_m1, m2_lt_m1, bI_0, bI_1, bI_t, bI_f, bI_bo, nI0_bo, nI1_bo, if_true, if_false, ite_true, ite_false, Nat.zero_add, Nat.not_lt_zero, Nat.zero_le, not_true_eq_false, not_false_eq_true, or_false, false_or, true_or, or_true, and_true, true_and, Bool.false_eq_true, Bool.true_eq_false, reduceCtorEq, eq_self, decide_true, decide_false, Bool.and_false]
  · have q1 : a < b := by omega
    simp (disch := omega) only [q, q1, ↓lm1, ↓lm2, i0, i1, i2, i3, i4, i5, i6, i7, i8, i9, i10, i12, i16, i20, i24, i31, i32, i44, i48, i57, i59, i63, i64, i74, i75, i90, i96, i97, i99, i100, i122, i139, i140, i144, i192, i200, i240, i255, i304, i309, i310, i311, i323, i324, i325, i899, i900, i975, i999, i5200, i4875, i65536, i65537, i15, ob_some, nI_add, nI_clamp, zn_zib, zn_eq, zn_lt, zn_le, m2_lt, m2_le, lt_m2, le_m2, eq_m2, m2_eq, m1_lt, m1_le, lt_m1, le_m1, eq_m1, m1_eq, m1_m2, m2_m1, m2_lt_m1, bI_0, bI_1, bI_t, bI_f, bI_bo, nI0_bo, nI1_bo, if_true, if_false, ite_true, ite_false, Nat.zero_add, Nat.not_lt_zero, Nat.zero_le, not_true_eq_false, not_false_eq_true, or_false, false_or, true_or, or_true, and_true, true_and, Bool.false_eq_true, Bool.true_eq_false, reduceCtorEq, eq_self, decide_false, Bool.false_and]
theorem M_pass_f (h : Mo_failed S = nI 1) : f_X10_pass S lt tp = some (S, lt) := by
  unfold f_X10_pass
  simp (disch := omega) only [h, ↓lm1, ↓lm2, i0, i1, i2, i3, i4, i5, i6, i7, i8, i9, i10, i12, i16, i20, i24, i31, i32, i44, i48, i57, i59, i63, i64, i74, i75, i90, i96, i97, i99, i100, i122, i139, i140, i144, i192, i200, i240, i255, i304, i309, i310, i311, i323, i324, i325, i899, i900, i975, i999, i5200, i4875, i65536, i65537, i15, ob_some, nI_add, nI_clamp, zn_zib, zn_eq, zn_lt, zn_le, m2_lt, m2_le, lt_m2, le_m2, eq_m2, m2_eq, m1_lt, m1_le, lt_m1, le_m1, eq_m1, m1_eq, m1_m2, m2_m1, m2_lt_m1, bI_0, bI_1, bI_t, bI_f, bI_bo, nI0_bo, nI1_bo, if_true, if_false, ite_true, ite_false, Nat.zero_add, Nat.not_lt_zero, Nat.zero_le, not_true_eq_false, not_false_eq_true, or_false, false_or, true_or, or_true, and_true, true_and, Bool.false_eq_true, Bool.true_eq_false, reduceCtorEq, eq_self]
theorem M_number_f (h : Mo_failed S = nI 1) (x y : Int32) : f_X10_number S lt tp x y = some (x, S, lt) := by
  unfold f_X10_number
  simp (disch := omega) only [h, ↓lm1, ↓lm2, i0, i1, i2, i3, i4, i5, i6, i7, i8, i9, i10, i12, i16, i20, i24, i31, i32, i44, i48, i57, i59, i63, i64, i74, i75, i90, i96, i97, i99, i100, i122, i139, i140, i144, i192, i200, i240, i255, i304, i309, i310, i311, i323, i324, i325, i899, i900, i975, i999, i5200, i4875, i65536, i65537, i15, ob_some, nI_add, nI_clamp, zn_zib, zn_eq, zn_lt, zn_le, m2_lt, m2_le, lt_m2, le_m2, eq_m2, m2_eq, m1_lt, m1_le, lt_m1, le_m1, eq_m1, m1_eq, m1_m2, m2_m1, m2_lt_m1, bI_0, bI_1, bI_t, bI_f, bI_bo, nI0_bo, nI1_bo, if_true, if_false, ite_true, ite_false, Nat.zero_add, Nat.not_lt_zero, Nat.zero_le, not_true_eq_false, not_false_eq_true, or_false, false_or, true_or, or_true, and_true, true_and, Bool.false_eq_true, Bool.true_eq_false, reduceCtorEq, eq_self]
theorem M_number_50f (h : Mo_failed S = nI 1) (x y : Int32) : b_X10_number_50 tp x y S lt = some (x, S, lt) := by
  unfold b_X10_number_50
  simp (disch := omega) only [M_pass_f h, h, ↓lm1, ↓lm2, i0, i1, i2, i3, i4, i5, i6, i7, i8, i9, i10, i12, i16, i20, i24, i31, i32, i44, i48, i57, i59, i63, i64, i74, i75, i90, i96, i97, i99, i100, i122, i139, i140, i144, i192, i200, i240, i255, i304, i309, i310, i311, i323, i324, i325, i899, i900, i975, i999, i5200, i4875, i65536, i65537, i15, ob_some, nI_add, nI_clamp, zn_zib, zn_eq, zn_lt, zn_le, m2_lt, m2_le, lt_m2, le_m2, eq_m2, m2_eq, m1_lt, m1_le, lt_m1, le_m1, eq_m1, m1_eq, m1_m2, m2_m1, m2_lt_m1, bI_0, bI_1, bI_t, bI_f, bI_bo, nI0_bo, nI1_bo, if_true, if_false, ite_true, ite_false, Nat.zero_add, Nat.not_lt_zero, Nat.zero_le, not_true_eq_false, not_false_eq_true, or_false, false_or, true_or, or_true, and_true, true_and, Bool.false_eq_true, Bool.true_eq_false, reduceCtorEq, eq_self]
theorem b_whole (C : CX T S tp kf L) (A : AH T S lt kf L p0) {lo hg : Nat} (hlo : lo < 2 ^ 30) (hhg : hg < 2 ^ 30) : (∃ v T' S' lt', lo ≤ v ∧ v ≤ hg ∧ v ≤ 999 ∧ f_X5_takeWhole D T (nI lo) (nI hg) = some (nI 1, dWh D (nI v), T') ∧ f_X10_number S lt tp (nI lo) (nI hg) = some (nI v, S', lt') ∧ TE T T' ∧ SE S S' ∧ AH T' S' lt' kf L (p0 + 1) ∧ Mo_token S = nI 3 ∧ Mo_whole S = nI v ∧ Tape_start T' = Mo_at S) ∨ (∃ D' T' S', f_X5_takeWhole D T (nI lo) (nI hg) = some (nI 0, D', T') ∧ f_X10_number S lt tp (nI lo) (nI hg) = some (nI lo, S', lt) ∧ FB D' T T' S S' ∧ Rd_whole D' = Rd_whole D ∧ ((Mo_token S ≠ nI 3 ∧ Mo_fault S' = nI 1) ∨ ∃ v, Mo_token S = nI 3 ∧ Mo_whole S = nI v ∧ v ≤ 999 ∧ ¬ (lo ≤ v ∧ v ≤ hg) ∧ Mo_fault S' = nI 4) ∧ Mo_place S' = Mo_at S) := by
  obtain ⟨T', p, a1, a2, a3, a4⟩ := A
  have C' : CX T' S tp kf L := CX_TE C a4 (SE_rfl S)
  have hf := C.2.2.2.2.2
  have hst := a2.1.trans a2.2.1.symm
  have bad : ∀ {k t : Nat}, Tape_kind T' = nI k → Mo_token S = nI t → k < 5 → k ≠ 2 → t < 60 → t ≠ 3 → (∃ D' T' S', f_X5_takeWhole D T (nI lo) (nI hg) = some (nI 0, D', T') ∧ f_X10_number S lt tp (nI lo) (nI hg) = some (nI lo, S', lt) ∧ FB D' T T' S S' ∧ Rd_whole D' = Rd_whole D ∧ ((Mo_token S ≠ nI 3 ∧ Mo_fault S' = nI 1) ∨ ∃ v, Mo_token S = nI 3 ∧ Mo_whole S = nI v ∧ v ≤ 999 ∧ ¬ (lo ≤ v ∧ v ≤ hg) ∧ Mo_fault S' = nI 4) ∧ Mo_place S' = Mo_at S) := fun {k t} e1 e2 hk hk2 ht ht3 => by
    refine ⟨flD D (nI 1) (Tape_start T'), T', wrS S (nI 1) (Mo_at S), ?_, ?_, FB_wr a4 hst, rfl, .inl ⟨?_, rfl⟩, rfl⟩
    · unfold f_X5_takeWhole
      simp (disch := omega) only [a1, e1, hk2, T_fail, ↓lm1, ↓lm2, i0, i1, i2, i3, i4, i5, i6, i7, i8, i9, i10, i12, i16, i20, i24, i31, i32, i44, i48, i57, i59, i63, i64, i74, i75, i90, i96, i97, i99, i100, i122, i139, i140, i144, i192, i200, i240, i255, i304, i309, i310, i311, i323, i324, i325, i899, i900, i975, i999, i5200, i4875, i65536, i65537, i15, ob_some, nI_add, nI_clamp, zn_zib, zn_eq, zn_lt, zn_le, m2_lt, m2_le, lt_m2, le_m2, eq_m2, m2_eq, m1_lt, m1_le, lt_m1, le_m1, eq_m1, m1_eq, m1_m2, m2_m1, m2_lt_m1, bI_0, bI_1, bI_t, bI_f, bI_bo, nI0_bo, nI1_bo, if_true, if_false, ite_true, ite_false, Nat.zero_add, Nat.not_lt_zero, Nat.zero_le, not_true_eq_false, not_false_eq_true, or_false, false_or, true_or, or_true, and_true, true_and, Bool.false_eq_true, Bool.true_eq_false, reduceCtorEq, eq_self]
    · unfold f_X10_number
      have := M_number_50f (S := wrS S (nI 1) (Mo_at S)) (lt := lt) (tp := tp) rfl (nI lo) (nI hg)
      simp (disch := omega) only [hf, e2, ht3, M_wrong hf, this, ↓lm1, ↓lm2, i0, i1, i2, i3, i4, i5, i6, i7, i8, i9, i10, i12, i16, i20, i24, i31, i32, i44, i48, i57, i59, i63, i64, i74, i75, i90, i96, i97, i99, i100, i122, i139, i140, i144, i192, i200, i240, i255, i304, i309, i310, i311, i323, i324, i325, i899, i900, i975, i999, i5200, i4875, i65536, i65537, i15, ob_some, nI_add, nI_clamp, zn_zib, zn_eq, zn_lt, zn_le, m2_lt, m2_le, lt_m2, le_m2, eq_m2, m2_eq, m1_lt, m1_le, lt_m1, le_m1, eq_m1, m1_eq, m1_m2, m2_m1, m2_lt_m1, bI_0, bI_1, bI_t, bI_f, bI_bo, nI0_bo, nI1_bo, if_true, if_false, ite_true, ite_false, Nat.zero_add, Nat.not_lt_zero, Nat.zero_le, not_true_eq_false, not_false_eq_true, or_false, false_or, true_or, or_true, and_true, true_and, Bool.false_eq_true, Bool.true_eq_false, reduceCtorEq, eq_self]
    · rw [e2, ne_eq, zn_eq (by omega) (by omega)]
      exact ht3
  obtain ⟨t1, t2, t3, t | ⟨e, t⟩ | ⟨e, v, t⟩ | t | t⟩ := id a2
  · exact .inr (bad t.1 t.2 (by omega) (by omega) (by omega) (by omega))
  · exact .inr (bad t.1 t.2.1 (by omega) (by omega) (by omega) (by omega))
  · obtain ⟨n1, n2, n3, n4, n5, n6, n7, n8, n9⟩ := id t
    by_cases q : lo ≤ v
    · have q1 : ¬ v < lo := by omega
      by_cases q2 : v ≤ hg
      · obtain ⟨S', lt', g1, g2, g3⟩ := go_n (lt := lt) C' t
        have hf' := (SE_failed g3).trans hf
        refine .inl ⟨v, T', S', lt', q, q2, n7, ?_, ?_, a4, g3, AH_mono g2 (by omega), n2, n8, hst⟩
        · unfold f_X5_takeWhole
          simp (disch := omega) only [a1, n1, n9, nI_l, lc_lt, lc_le, q1, q2, lN_i, ↓lm1, ↓lm2, i0, i1, i2, i3, i4, i5, i6, i7, i8, i9, i10, i12, i16, i20, i24, i31, i32, i44, i48, i57, i59, i63, i64, i74, i75, i90, i96, i97, i99, i100, i122, i139, i140, i144, i192, i200, i240, i255, i304, i309, i310, i311, i323, i324, i325, i899, i900, i975, i999, i5200, i4875, i65536, i65537, i15, ob_some, nI_add, nI_clamp, zn_zib, zn_eq, zn_lt, zn_le, m2_lt, m2_le, lt_m2, le_m2, eq_m2, m2_eq, m1_lt, m1_le, lt_m1, le_m1, eq_m1, m1_eq, m1_m2, m2_m1, m2_lt_m1, bI_0, bI_1, bI_t, bI_f, bI_bo, nI0_bo, nI1_bo, if_true, if_false, ite_true, ite_false, Nat.zero_add, Nat.not_lt_zero, Nat.zero_le, not_true_eq_false, not_false_eq_true, or_false, false_or, true_or, or_true, and_true, true_and, Bool.false_eq_true, Bool.true_eq_false, reduceCtorEq, eq_self]
          rfl
        · unfold f_X10_number b_X10_number_50 f_X10_pass
          simp (disch := omega) only [hf, n2, n8, M_in2, q, q2, g1, hf', decide_true, Bool.and_self, ↓lm1, ↓lm2, i0, i1, i2, i3, i4, i5, i6, i7, i8, i9, i10, i12, i16, i20, i24, i31, i32, i44, i48, i57, i59, i63, i64, i74, i75, i90, i96, i97, i99, i100, i122, i139, i140, i144, i192, i200, i240, i255, i304, i309, i310, i311, i323, i324, i325, i899, i900, i975, i999, i5200, i4875, i65536, i65537, i15, ob_some, nI_add, nI_clamp, zn_zib, zn_eq, zn_lt, zn_le, m2_lt, m2_le, lt_m2, le_m2, eq_m2, m2_eq, m1_lt, m1_le, lt_m1, le_m1, eq_m1, m1_eq, m1_m2, m2_m1, m2_lt_m1, bI_0, bI_1, bI_t, bI_f, bI_bo, nI0_bo, nI1_bo, if_true, if_false, ite_true, ite_false, Nat.zero_add, Nat.not_lt_zero, Nat.zero_le, not_true_eq_false, not_false_eq_true, or_false, false_or, true_or, or_true, and_true, true_and, Bool.false_eq_true, Bool.true_eq_false, reduceCtorEq, eq_self]
      · refine .inr ⟨flD D (nI 4) (Tape_start T'), T', wrS S (nI 4) (Mo_at S), ?_, ?_, FB_wr a4 hst, rfl, .inr ⟨v, n2, n8, n7, by omega, rfl⟩, rfl⟩
        · unfold f_X5_takeWhole
          simp (disch := omega) only [a1, n1, n9, nI_l, lc_lt, lc_le, q1, q2, T_fail, ↓lm1, ↓lm2, i0, i1, i2, i3, i4, i5, i6, i7, i8, i9, i10, i12, i16, i20, i24, i31, i32, i44, i48, i57, i59, i63, i64, i74, i75, i90, i96, i97, i99, i100, i122, i139, i140, i144, i192, i200, i240, i255, i304, i309, i310, i311, i323, i324, i325, i899, i900, i975, i999, i5200, i4875, i65536, i65537, i15, ob_some, nI_add, nI_clamp, zn_zib, zn_eq, zn_lt, zn_le, m2_lt, m2_le, lt_m2, le_m2, eq_m2, m2_eq, m1_lt, m1_le, lt_m1, le_m1, eq_m1, m1_eq, m1_m2, m2_m1, m2_lt_m1, bI_0, bI_1, bI_t, bI_f, bI_bo, nI0_bo, nI1_bo, if_true, if_false, ite_true, ite_false, Nat.zero_add, Nat.not_lt_zero, Nat.zero_le, not_true_eq_false, not_false_eq_true, or_false, false_or, true_or, or_true, and_true, true_and, Bool.false_eq_true, Bool.true_eq_false, reduceCtorEq, eq_self]
        · unfold f_X10_number
          have := M_number_50f (S := wrS S (nI 4) (Mo_at S)) (lt := lt) (tp := tp) rfl (nI lo) (nI hg)
          simp (disch := omega) only [hf, n2, n8, M_in2, q, q2, M_wrong hf, this, decide_true, decide_false, Bool.and_false, ↓lm1, ↓lm2, i0, i1, i2, i3, i4, i5, i6, i7, i8, i9, i10, i12, i16, i20, i24, i31, i32, i44, i48, i57, i59, i63, i64, i74, i75, i90, i96, i97, i99, i100, i122, i139, i140, i144, i192, i200, i240, i255, i304, i309, i310, i311, i323, i324, i325, i899, i900, i975, i999, i5200, i4875, i65536, i65537, i15, ob_some, nI_add, nI_clamp, zn_zib, zn_eq, zn_lt, zn_le, m2_lt, m2_le, lt_m2, le_m2, eq_m2, m2_eq, m1_lt, m1_le, lt_m1, le_m1, eq_m1, m1_eq, m1_m2, m2_m1, m2_lt_m1, bI_0, bI_1, bI_t, bI_f, bI_bo, nI0_bo, nI1_bo, if_true, if_false, ite_true, ite_false, Nat.zero_add, Nat.not_lt_zero, Nat.zero_le, not_true_eq_false, not_false_eq_true, or_false, false_or, true_or, or_true, and_true, true_and, Bool.false_eq_true, Bool.true_eq_false, reduceCtorEq, eq_self]
    · have q1 : v < lo := by omega
      refine .inr ⟨flD D (nI 4) (Tape_start T'), T', wrS S (nI 4) (Mo_at S), ?_, ?_, FB_wr a4 hst, rfl, .inr ⟨v, n2, n8, n7, by omega, rfl⟩, rfl⟩
      · unfold f_X5_takeWhole
        simp (disch := omega) only [a1, n1, n9, nI_l, lc_lt, lc_le, q1, T_fail, ↓lm1, ↓lm2, i0, i1, i2, i3, i4, i5, i6, i7, i8, i9, i10, i12, i16, i20, i24, i31, i32, i44, i48, i57, i59, i63, i64, i74, i75, i90, i96, i97, i99, i100, i122, i139, i140, i144, i192, i200, i240, i255, i304, i309, i310, i311, i323, i324, i325, i899, i900, i975, i999, i5200, i4875, i65536, i65537, i15, ob_some, nI_add, nI_clamp, zn_zib, zn_eq, zn_lt, zn_le, m2_lt, m2_le, lt_m2, le_m2, eq_m2, m2_eq, m1_lt, m1_le, lt_m1, le_m1, eq_m1, m1_eq, m1_m2, m2_m1, m2_lt_m1, bI_0, bI_1, bI_t, bI_f, bI_bo, nI0_bo, nI1_bo, if_true, if_false, ite_true, ite_false, Nat.zero_add, Nat.not_lt_zero, Nat.zero_le, not_true_eq_false, not_false_eq_true, or_false, false_or, true_or, or_true, and_true, true_and, Bool.false_eq_true, Bool.true_eq_false, reduceCtorEq, eq_self]
      · unfold f_X10_number
        have := M_number_50f (S := wrS S (nI 4) (Mo_at S)) (lt := lt) (tp := tp) rfl (nI lo) (nI hg)
        simp (disch := omega) only [hf, n2, n8, M_in2, q, M_wrong hf, this, decide_false, Bool.false_and, ↓lm1, ↓lm2, i0, i1, i2, i3, i4, i5, i6, i7, i8, i9, i10, i12, i16, i20, i24, i31, i32, i44, i48, i57, i59, i63, i64, i74, i75, i90, i96, i97, i99, i100, i122, i139, i140, i144, i192, i200, i240, i255, i304, i309, i310, i311, i323, i324, i325, i899, i900, i975, i999, i5200, i4875, i65536, i65537, i15, ob_some, nI_add, nI_clamp, zn_zib, zn_eq, zn_lt, zn_le, m2_lt, m2_le, lt_m2, le_m2, eq_m2, m2_eq, m1_lt, m1_le, lt_m1, le_m1, eq_m1, m1_eq, m1_m2, m2_m1, m2_lt_m1, bI_0, bI_1, bI_t, bI_f, bI_bo, nI0_bo, nI1_bo, if_true, if_false, ite_true, ite_false, Nat.zero_add, Nat.not_lt_zero, Nat.zero_le, not_true_eq_false, not_false_eq_true, or_false, false_or, true_or, or_true, and_true, true_and, Bool.false_eq_true, Bool.true_eq_false, reduceCtorEq, eq_self]
  · exact .inr (bad t.1 t.2.1 (by omega) (by omega) (by omega) (by omega))
  · exact .inr (bad t.1 t.2 (by omega) (by omega) (by omega) (by omega))
/-- a line's end: both sides stand at it, or the token there is another one -/
def LE (T : STape) (S : SMo) (lt : Nat → Int32) (kf : Nat → Nat) (L p : Nat) : Prop := TK T S lt kf L p ∧ ((Tape_kind T = nI 0 ∧ Mo_token S = nI 0) ∨ TKs T S L p)
def NE (S : SMo) : Prop := ¬ Mo_token S = nI 0 ∧ ¬ Mo_token S = nI 59
theorem b_end (A : AH T S lt kf L p0) : (∃ T' p, f_X5_takeLineEnd D T = some (nI 1, D, T') ∧ TE T T' ∧ p0 ≤ p ∧ LE T' S lt kf L p) ∨ (∃ T', f_X5_takeLineEnd D T = some (nI 0, flD D (nI 1) (Mo_at S), T') ∧ TE T T' ∧ NE S) := by
  obtain ⟨T', p, a1, a2, a3, a4⟩ := A
  have hst := a2.1.trans a2.2.1.symm
  have bad : ∀ {k t : Nat}, Tape_kind T' = nI k → Mo_token S = nI t → k < 5 → k ≠ 3 → k ≠ 0 → t < 59 → t ≠ 0 → (∃ T', f_X5_takeLineEnd D T = some (nI 0, flD D (nI 1) (Mo_at S), T') ∧ TE T T' ∧ NE S) := fun {k t} e1 e2 hk hk3 hk0 ht ht0 => by
    refine ⟨T', ?_, a4, ?_, ?_⟩
    · unfold f_X5_takeLineEnd
      rw [← hst]
      simp (disch := omega) only [a1, e1, hk3, hk0, T_fail, ↓lm1, ↓lm2, i0, i1, i2, i3, i4, i5, i6, i7, i8, i9, i10, i12, i16, i20, i24, i31, i32, i44, i48, i57, i59, i63, i64, i74, i75, i90, i96, i97, i99, i100, i122, i139, i140, i144, i192, i200, i240, i255, i304, i309, i310, i311, i323, i324, i325, i899, i900, i975, i999, i5200, i4875, i65536, i65537, i15, ob_some, nI_add, nI_clamp, zn_zib, zn_eq, zn_lt, zn_le, m2_lt, m2_le, lt_m2, le_m2, eq_m2, m2_eq, m1_lt, m1_le, lt_m1, le_m1, eq_m1, m1_eq, m1_m2, m2_m1, m2_lt_m1, bI_0, bI_1, bI_t, bI_f, bI_bo, nI0_bo, nI1_bo, if_true, if_false, ite_true, ite_false, Nat.zero_add, Nat.not_lt_zero, Nat.zero_le, not_true_eq_false, not_false_eq_true, or_false, false_or, true_or, or_true, and_true, true_and, Bool.false_eq_true, Bool.true_eq_false, reduceCtorEq, eq_self]
    · rw [e2, zn_eq (by omega) (by omega)]
      exact ht0
    · rw [e2, zn_eq (by omega) (by omega)]
      omega
  obtain ⟨t1, t2, t3, t | ⟨e, t⟩ | ⟨e, v, t⟩ | t | t⟩ := id a2
  · refine .inl ⟨T', p, ?_, a4, a3, a2, .inl t⟩
    unfold f_X5_takeLineEnd
    simp (disch := omega) only [a1, t.1, ↓lm1, ↓lm2, i0, i1, i2, i3, i4, i5, i6, i7, i8, i9, i10, i12, i16, i20, i24, i31, i32, i44, i48, i57, i59, i63, i64, i74, i75, i90, i96, i97, i99, i100, i122, i139, i140, i144, i192, i200, i240, i255, i304, i309, i310, i311, i323, i324, i325, i899, i900, i975, i999, i5200, i4875, i65536, i65537, i15, ob_some, nI_add, nI_clamp, zn_zib, zn_eq, zn_lt, zn_le, m2_lt, m2_le, lt_m2, le_m2, eq_m2, m2_eq, m1_lt, m1_le, lt_m1, le_m1, eq_m1, m1_eq, m1_m2, m2_m1, m2_lt_m1, bI_0, bI_1, bI_t, bI_f, bI_bo, nI0_bo, nI1_bo, if_true, if_false, ite_true, ite_false, Nat.zero_add, Nat.not_lt_zero, Nat.zero_le, not_true_eq_false, not_false_eq_true, or_false, false_or, true_or, or_true, and_true, true_and, Bool.false_eq_true, Bool.true_eq_false, reduceCtorEq, eq_self]
  · exact .inr (bad t.1 t.2.1 (by omega) (by omega) (by omega) (by omega) (by omega))
  · exact .inr (bad t.1 t.2.1 (by omega) (by omega) (by omega) (by omega) (by omega))
  · refine .inl ⟨T', p, ?_, a4, a3, a2, .inr t⟩
    unfold f_X5_takeLineEnd
    simp (disch := omega) only [a1, t.1, ↓lm1, ↓lm2, i0, i1, i2, i3, i4, i5, i6, i7, i8, i9, i10, i12, i16, i20, i24, i31, i32, i44, i48, i57, i59, i63, i64, i74, i75, i90, i96, i97, i99, i100, i122, i139, i140, i144, i192, i200, i240, i255, i304, i309, i310, i311, i323, i324, i325, i899, i900, i975, i999, i5200, i4875, i65536, i65537, i15, ob_some, nI_add, nI_clamp, zn_zib, zn_eq, zn_lt, zn_le, m2_lt, m2_le, lt_m2, le_m2, eq_m2, m2_eq, m1_lt, m1_le, lt_m1, le_m1, eq_m1, m1_eq, m1_m2, m2_m1, m2_lt_m1, bI_0, bI_1, bI_t, bI_f, bI_bo, nI0_bo, nI1_bo, if_true, if_false, ite_true, ite_false, Nat.zero_add, Nat.not_lt_zero, Nat.zero_le, not_true_eq_false, not_false_eq_true, or_false, false_or, true_or, or_true, and_true, true_and, Bool.false_eq_true, Bool.true_eq_false, reduceCtorEq, eq_self]
  · exact .inr (bad t.1 t.2 (by omega) (by omega) (by omega) (by omega) (by omega))
theorem M_ends_y (hf : Mo_failed S = nI 0) (h : LE T S lt kf L p) : f_X10_ends S = some (nI 1, S) := by
  unfold f_X10_ends
  rcases h.2 with h | h
  · simp (disch := omega) only [hf, h.2, ↓lm1, ↓lm2, i0, i1, i2, i3, i4, i5, i6, i7, i8, i9, i10, i12, i16, i20, i24, i31, i32, i44, i48, i57, i59, i63, i64, i74, i75, i90, i96, i97, i99, i100, i122, i139, i140, i144, i192, i200, i240, i255, i304, i309, i310, i311, i323, i324, i325, i899, i900, i975, i999, i5200, i4875, i65536, i65537, i15, ob_some, nI_add, nI_clamp, zn_zib, zn_eq, zn_lt, zn_le, m2_lt, m2_le, lt_m2, le_m2, eq_m2, m2_eq, m1_lt, m1_le, lt_m1, le_m1, eq_m1, m1_eq, m1_m2, m2_m1, m2_lt_m1, bI_0, bI_1, bI_t, bI_f, bI_bo, nI0_bo, nI1_bo, if_true, if_false, ite_true, ite_false, Nat.zero_add, Nat.not_lt_zero, Nat.zero_le, not_true_eq_false, not_false_eq_true, or_false, false_or, true_or, or_true, and_true, true_and, Bool.false_eq_true, Bool.true_eq_false, reduceCtorEq, eq_self]
  · simp (disch := omega) only [hf, h.2.1, ↓lm1, ↓lm2, i0, i1, i2, i3, i4, i5, i6, i7, i8, i9, i10, i12, i16, i20, i24, i31, i32, i44, i48, i57, i59, i63, i64, i74, i75, i90, i96, i97, i99, i100, i122, i139, i140, i144, i192, i200, i240, i255, i304, i309, i310, i311, i323, i324, i325, i899, i900, i975, i999, i5200, i4875, i65536, i65537, i15, ob_some, nI_add, nI_clamp, zn_zib, zn_eq, zn_lt, zn_le, m2_lt, m2_le, lt_m2, le_m2, eq_m2, m2_eq, m1_lt, m1_le, lt_m1, le_m1, eq_m1, m1_eq, m1_m2, m2_m1, m2_lt_m1, bI_0, bI_1, bI_t, bI_f, bI_bo, nI0_bo, nI1_bo, if_true, if_false, ite_true, ite_false, Nat.zero_add, Nat.not_lt_zero, Nat.zero_le, not_true_eq_false, not_false_eq_true, or_false, false_or, true_or, or_true, and_true, true_and, Bool.false_eq_true, Bool.true_eq_false, reduceCtorEq, eq_self]
theorem M_ends_n (hf : Mo_failed S = nI 0) (h : NE S) : f_X10_ends S = some (nI 0, wrS S (nI 1) (Mo_at S)) := by
  unfold f_X10_ends
  have e : Mo_failed (wrS S (nI 1) (Mo_at S)) = nI 1 := rfl
  simp (disch := omega) only [hf, h.1, h.2, M_wrong hf, e, ↓lm1, ↓lm2, i0, i1, i2, i3, i4, i5, i6, i7, i8, i9, i10, i12, i16, i20, i24, i31, i32, i44, i48, i57, i59, i63, i64, i74, i75, i90, i96, i97, i99, i100, i122, i139, i140, i144, i192, i200, i240, i255, i304, i309, i310, i311, i323, i324, i325, i899, i900, i975, i999, i5200, i4875, i65536, i65537, i15, ob_some, nI_add, nI_clamp, zn_zib, zn_eq, zn_lt, zn_le, m2_lt, m2_le, lt_m2, le_m2, eq_m2, m2_eq, m1_lt, m1_le, lt_m1, le_m1, eq_m1, m1_eq, m1_m2, m2_m1, m2_lt_m1, bI_0, bI_1, bI_t, bI_f, bI_bo, nI0_bo, nI1_bo, if_true, if_false, ite_true, ite_false, Nat.zero_add, Nat.not_lt_zero, Nat.zero_le, not_true_eq_false, not_false_eq_true, or_false, false_or, true_or, or_true, and_true, true_and, Bool.false_eq_true, Bool.true_eq_false, reduceCtorEq, eq_self]
theorem M_ends_f (hf : Mo_failed S = nI 1) : f_X10_ends S = some (nI 0, S) := by
  unfold f_X10_ends
  simp (disch := omega) only [hf, ↓lm1, ↓lm2, i0, i1, i2, i3, i4, i5, i6, i7, i8, i9, i10, i12, i16, i20, i24, i31, i32, i44, i48, i57, i59, i63, i64, i74, i75, i90, i96, i97, i99, i100, i122, i139, i140, i144, i192, i200, i240, i255, i304, i309, i310, i311, i323, i324, i325, i899, i900, i975, i999, i5200, i4875, i65536, i65537, i15, ob_some, nI_add, nI_clamp, zn_zib, zn_eq, zn_lt, zn_le, m2_lt, m2_le, lt_m2, le_m2, eq_m2, m2_eq, m1_lt, m1_le, lt_m1, le_m1, eq_m1, m1_eq, m1_m2, m2_m1, m2_lt_m1, bI_0, bI_1, bI_t, bI_f, bI_bo, nI0_bo, nI1_bo, if_true, if_false, ite_true, ite_false, Nat.zero_add, Nat.not_lt_zero, Nat.zero_le, not_true_eq_false, not_false_eq_true, or_false, false_or, true_or, or_true, and_true, true_and, Bool.false_eq_true, Bool.true_eq_false, reduceCtorEq, eq_self]
end
