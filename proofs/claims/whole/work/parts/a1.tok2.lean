/-! the tape: both sides go on to the next token -/
def TE (T T' : STape) : Prop := Tape_size T' = Tape_size T ∧ Tape_length T' = Tape_length T ∧ Tape_bytes T' = Tape_bytes T
def TKw (T : STape) (S : SMo) (lt : Nat → Int32) (kf : Nat → Nat) (L p e : Nat) : Prop := Tape_kind T = nI 1 ∧ Mo_token S = nI 2 ∧ Tape_after T = nI e ∧ Mo_end S = nI e ∧ p < e ∧ e ≤ L ∧ e - p ≤ 8 ∧ (∀ i, p ≤ i → i < e → 97 ≤ kf i ∧ kf i ≤ 122) ∧ Mo_nameSize S = nI (e - p) ∧ (∀ k, k < e - p → lt k = nI (kf (p + k))) ∧ Tape_value T = lN (enc kf p (e - p))
def TKn (T : STape) (S : SMo) (L p e v : Nat) : Prop := Tape_kind T = nI 2 ∧ Mo_token S = nI 3 ∧ Tape_after T = nI e ∧ Mo_end S = nI e ∧ p < e ∧ e ≤ L ∧ v ≤ 999 ∧ Mo_whole S = nI v ∧ Tape_value T = lN v
def TKs (T : STape) (S : SMo) (L p : Nat) : Prop := Tape_kind T = nI 3 ∧ Mo_token S = nI 59 ∧ Tape_after T = nI (p + 1) ∧ Mo_end S = nI (p + 1) ∧ p + 1 ≤ L
def TK (T : STape) (S : SMo) (lt : Nat → Int32) (kf : Nat → Nat) (L p : Nat) : Prop := Tape_start T = nI p ∧ Mo_at S = nI p ∧ p ≤ L ∧ ((Tape_kind T = nI 0 ∧ Mo_token S = nI 0) ∨ (∃ e, TKw T S lt kf L p e) ∨ (∃ e v, TKn T S L p e v) ∨ TKs T S L p ∨ (Tape_kind T = nI 4 ∧ Mo_token S = nI 1))
theorem dcN_lt {kf : Nat → Nat} {p : Nat} : ∀ {j : Nat}, (∀ i, p ≤ i → i < p + j → 48 ≤ kf i ∧ kf i ≤ 57) → dcN kf p j < 10 ^ j
  | 0, _ => Nat.lt_add_one 0
  | j + 1, h => by
    have h1 := dcN_lt (j := j) (fun i h1 h2 => h i h1 (by omega))
    have h2 := h (p + j) (by omega) (by omega)
    show dcN kf p j * 10 + (kf (p + j) - 48) < 10 ^ (j + 1)
    rw [Nat.pow_succ]
    omega
theorem dcN_999 {kf : Nat → Nat} {p j : Nat} (hj : j ≤ 3) (h : ∀ i, p ≤ i → i < p + j → 48 ≤ kf i ∧ kf i ≤ 57) : dcN kf p j ≤ 999 := by
  have h1 := dcN_lt h
  have h2 : 10 ^ j ≤ 10 ^ 3 := Nat.pow_le_pow_right (by decide) hj
  omega
theorem adv_step {T : STape} {S : SMo} {lt tp : Nat → Int32} {kf : Nat → Nat} {L e : Nat} (hB : TB (Tape_bytes T) tp kf L) (hL : L ≤ 900) (h1 : Tape_length T = nI L) (h2 : Tape_after T = nI e) (h3 : Mo_size S = nI L) (h4 : Mo_end S = nI e) (he : e ≤ L) : ∃ T' S' lt' p, f_X7_advance T = some T' ∧ f_X10_step S lt tp = some (S', lt') ∧ e ≤ p ∧ TK T' S' lt' kf L p ∧ TE T T' ∧ SE S S' := by
  obtain ⟨p, hp⟩ : ∃ p, p = rnE (spb kf) (L - e) e := ⟨_, rfl⟩
  have p1 : e ≤ p := by
    rw [hp]
    exact rnE_ge _ _ _
  have p2 : p ≤ L := by
    have := rnE_le (spb kf) (L - e) e
    omega
  have p3 : p < L → ¬ kf p = 32 := fun z => by
    have := rnE_at (spb kf) (L - e) e (by omega)
    rw [← hp] at this
    exact of_decide_eq_false this
  have hsk := T_skip (sz := Tape_size T) (kd := Tape_kind T) (va := nI e) (v := Tape_value T) hB hL (L - e) e FU (by omega) (by unfold FU; omega)
  rw [← hp] at hsk
  obtain ⟨k, hms⟩ := M_skip hB hL (lt := lt) h3 (L - e) e FU (by omega) (by unfold FU; omega)
  rw [← hp] at hms
  have ha : f_X7_advance T = b_X7_advance_46 (mkTape (Tape_size T) (Tape_kind T) (nI p) (Tape_value T) (nI e) (nI L) (Tape_bytes T)) := by
    unfold f_X7_advance
    rw [h1, h2]
    exact hsk
  have hst : f_X10_step S lt tp = b_X10_step_5 tp k S lt (nI p) := by
    unfold f_X10_step
    rw [h4]
    exact hms
  rw [ha, hst]
  unfold b_X7_advance_46 b_X10_step_5 b_X7_advance_124
  by_cases z : p = L
  · have g1 : ¬ p < L := by omega
    have g5 : f_X10_see (sMo_at S (nI p)) tp (nI p) = some m1 := M_see_ge hL h3 z
    unfold sMo_at at g5
    refine ⟨mkTape (Tape_size T) (nI 0) (nI p) (Tape_value T) (nI p) (nI L) (Tape_bytes T), stp S (nI p) (nI p) (nI 0) (nI 0) (nI 0), lt, p, ?_, ?_, p1, ⟨rfl, rfl, p2, .inl ⟨rfl, rfl⟩⟩, ⟨rfl, h1.symm, rfl⟩, ⟨rfl, rfl, rfl, rfl, rfl, rfl, rfl, rfl, rfl, rfl⟩⟩
    · simp (disch := omega) only [kTape_size, kTape_kind, kTape_start, kTape_value, kTape_after, kTape_length, kTape_bytes, g1, ↓lm1, ↓lm2, i0, i1, i2, i3, i4, i5, i6, i7, i8, i9, i10, i12, i16, i20, i24, i31, i32, i44, i48, i57, i59, i63, i64, i74, i75, i90, i96, i97, i99, i100, i122, i139, i140, i144, i192, i200, i240, i255, i304, i309, i310, i311, i323, i324, i325, i899, i900, i975, i999, i5200, i4875, i65536, i65537, i15, ob_some, nI_add, nI_clamp, zn_zib, zn_eq, zn_lt, zn_le, m2_lt, m2_le, lt_m2, le_m2, eq_m2, m2_eq, m1_lt, m1_le, lt_m1, le_m1, eq_m1, m1_eq, m1_m2, m2_m1, m2_lt_m1, bI_0, bI_1, bI_t, bI_f, bI_bo, nI0_bo, nI1_bo, if_true, if_false, ite_true, ite_false, Nat.zero_add, Nat.not_lt_zero, Nat.zero_le, not_true_eq_false, not_false_eq_true, or_false, false_or, true_or, or_true, and_true, true_and, Bool.false_eq_true, Bool.true_eq_false, reduceCtorEq, eq_self]
    · simp (disch := omega) only [M_see_ge hL h3 z, g5, ↓lm1, ↓lm2, i0, i1, i2, i3, i4, i5, i6, i7, i8, i9, i10, i12, i16, i20, i24, i31, i32, i44, i48, i57, i59, i63, i64, i74, i75, i90, i96, i97, i99, i100, i122, i139, i140, i144, i192, i200, i240, i255, i304, i309, i310, i311, i323, i324, i325, i899, i900, i975, i999, i5200, i4875, i65536, i65537, i15, ob_some, nI_add, nI_clamp, zn_zib, zn_eq, zn_lt, zn_le, m2_lt, m2_le, lt_m2, le_m2, eq_m2, m2_eq, m1_lt, m1_le, lt_m1, le_m1, eq_m1, m1_eq, m1_m2, m2_m1, m2_lt_m1, bI_0, bI_1, bI_t, bI_f, bI_bo, nI0_bo, nI1_bo, if_true, if_false, ite_true, ite_false, Nat.zero_add, Nat.not_lt_zero, Nat.zero_le, not_true_eq_false, not_false_eq_true, or_false, false_or, true_or, or_true, and_true, true_and, Bool.false_eq_true, Bool.true_eq_false, reduceCtorEq, eq_self]
      rfl
  · have g1 : p < L := by omega
    have k32 : (kf p = 32) = False := eq_false (p3 g1)
    have k256 := TB_256 hB g1
    have g4 := M_see_lt hB hL h3 g1
    have g5 : f_X10_see (sMo_at S (nI p)) tp (nI p) = some (nI (kf p)) := M_see_lt hB hL h3 g1
    unfold sMo_at at g5
    have b59 := TB_eq hB (c := 59) g1 (by omega)
    have iS := M_isSmall k256
    have iD := M_isDigit k256
    by_cases z59 : kf p = 59
    · have s0 : smb kf p = false := smb_f.mpr (by omega)
      have d0 : dgb kf p = false := dgb_f.mpr (by omega)
      rw [s0] at iS
      rw [d0] at iD
      have k59 := eq_true z59
      refine ⟨mkTape (Tape_size T) (nI 3) (nI p) (Tape_value T) (nI (p + 1)) (nI L) (Tape_bytes T), stp S (nI p) (nI (p + 1)) (nI (kf p)) (nI 0) (nI 0), lt, p, ?_, ?_, p1, ⟨rfl, rfl, p2, .inr (.inr (.inr (.inl ⟨rfl, congrArg nI z59, rfl, rfl, g1⟩)))⟩, ⟨rfl, h1.symm, rfl⟩, ⟨rfl, rfl, rfl, rfl, rfl, rfl, rfl, rfl, rfl, rfl⟩⟩
      · simp (disch := omega) only [kTape_size, kTape_kind, kTape_start, kTape_value, kTape_after, kTape_length, kTape_bytes, g1, b59, k59, ↓lm1, ↓lm2, i0, i1, i2, i3, i4, i5, i6, i7, i8, i9, i10, i12, i16, i20, i24, i31, i32, i44, i48, i57, i59, i63, i64, i74, i75, i90, i96, i97, i99, i100, i122, i139, i140, i144, i192, i200, i240, i255, i304, i309, i310, i311, i323, i324, i325, i899, i900, i975, i999, i5200, i4875, i65536, i65537, i15, ob_some, nI_add, nI_clamp, zn_zib, zn_eq, zn_lt, zn_le, m2_lt, m2_le, lt_m2, le_m2, eq_m2, m2_eq, m1_lt, m1_le, lt_m1, le_m1, eq_m1, m1_eq, m1_m2, m2_m1, m2_lt_m1, bI_0, bI_1, bI_t, bI_f, bI_bo, nI0_bo, nI1_bo, if_true, if_false, ite_true, ite_false, Nat.zero_add, Nat.not_lt_zero, Nat.zero_le, not_true_eq_false, not_false_eq_true, or_false, false_or, true_or, or_true, and_true, true_and, Bool.false_eq_true, Bool.true_eq_false, reduceCtorEq, eq_self]
      · simp (disch := omega) only [g4, g5, iS, iD, k32, k59, ↓lm1, ↓lm2, i0, i1, i2, i3, i4, i5, i6, i7, i8, i9, i10, i12, i16, i20, i24, i31, i32, i44, i48, i57, i59, i63, i64, i74, i75, i90, i96, i97, i99, i100, i122, i139, i140, i144, i192, i200, i240, i255, i304, i309, i310, i311, i323, i324, i325, i899, i900, i975, i999, i5200, i4875, i65536, i65537, i15, ob_some, nI_add, nI_clamp, zn_zib, zn_eq, zn_lt, zn_le, m2_lt, m2_le, lt_m2, le_m2, eq_m2, m2_eq, m1_lt, m1_le, lt_m1, le_m1, eq_m1, m1_eq, m1_m2, m2_m1, m2_lt_m1, bI_0, bI_1, bI_t, bI_f, bI_bo, nI0_bo, nI1_bo, if_true, if_false, ite_true, ite_false, Nat.zero_add, Nat.not_lt_zero, Nat.zero_le, not_true_eq_false, not_false_eq_true, or_false, false_or, true_or, or_true, and_true, true_and, Bool.false_eq_true, Bool.true_eq_false, reduceCtorEq, eq_self]
        rfl
    · have k59 := eq_false z59
      rcases TB_rng hB g1 97 122 (by omega) (by omega) with ⟨q1, q2, q3, q4, q5⟩ | ⟨q0, q⟩
      · have s0 : smb kf p = true := smb_t.mpr ⟨q1, q2⟩
        rw [s0] at iS
        obtain ⟨E, hE⟩ : ∃ E, E = rnE (smb kf) (L - p) p := ⟨_, rfl⟩
        have E1 : p < E := by
          have h5 := rnE_ge (smb kf) (L - p - 1) (p + 1)
          have h6 := rnE_s (smb kf) (L - p - 1) p
          rw [if_pos s0, show L - p - 1 + 1 = L - p by omega, ← hE] at h6
          omega
        have E2 : E ≤ L := by
          have := rnE_le (smb kf) (L - p) p
          omega
        have E3 : ∀ i, p ≤ i → i < E → 97 ≤ kf i ∧ kf i ≤ 122 := fun i h5 h6 => smb_t.mp (rnE_in (smb kf) (L - p) p i h5 (hE ▸ h6))
        have hw := T_word (p := p) (sz := Tape_size T) (kd := Tape_kind T) hB hL (L - p) p FU (by omega) (by unfold FU; omega) (Nat.le_refl p)
        rw [← hE, Nat.sub_self] at hw
        obtain ⟨S', lt', m1', m2', m3, m4, m5, m6, m7⟩ := M_word (p := p) hB hL (L - p) p FU (stp S (nI p) (Mo_end S) (Mo_token S) (nI 0) (nI 0)) lt (by omega) (by unfold FU; omega) (Nat.le_refl p) h3 (by rw [Nat.sub_self]; rfl) (fun k hk => absurd hk (by omega))
        rw [← hE] at m4 m5 m6 m7
        have hsc : f_X7_scanWord (mkTape (Tape_size T) (Tape_kind T) (nI p) (Tape_value T) (nI p) (nI L) (Tape_bytes T)) = some (mkTape (Tape_size T) (if E - p ≤ 8 then nI 1 else nI 4) (nI p) (lN (enc kf p (E - p))) (nI E) (nI L) (Tape_bytes T)) := by
          unfold f_X7_scanWord
          refine Eq.trans ?_ (hw.trans ?_)
          · rfl
          · unfold b_X7_scanWord_85
            by_cases y : E - p ≤ 8
            · have y2 : ¬ 8 < E - p := by omega
              simp (disch := omega) only [kTape_size, kTape_kind, kTape_start, kTape_value, kTape_after, kTape_length, kTape_bytes, pk_sub (Nat.le_of_lt E1), y, y2, ↓lm1, ↓lm2, i0, i1, i2, i3, i4, i5, i6, i7, i8, i9, i10, i12, i16, i20, i24, i31, i32, i44, i48, i57, i59, i63, i64, i74, i75, i90, i96, i97, i99, i100, i122, i139, i140, i144, i192, i200, i240, i255, i304, i309, i310, i311, i323, i324, i325, i899, i900, i975, i999, i5200, i4875, i65536, i65537, i15, ob_some, nI_add, nI_clamp, zn_zib, zn_eq, zn_lt, zn_le, m2_lt, m2_le, lt_m2, le_m2, eq_m2, m2_eq, m1_lt, m1_le, lt_m1, le_m1, eq_m1, m1_eq, m1_m2, m2_m1, m2_lt_m1, bI_0, bI_1, bI_t, bI_f, bI_bo, nI0_bo, nI1_bo, if_true, if_false, ite_true, ite_false, Nat.zero_add, Nat.not_lt_zero, Nat.zero_le, not_true_eq_false, not_false_eq_true, or_false, false_or, true_or, or_true, and_true, true_and, Bool.false_eq_true, Bool.true_eq_false, reduceCtorEq, eq_self]
            · have y2 : 8 < E - p := by omega
              simp (disch := omega) only [kTape_size, kTape_kind, kTape_start, kTape_value, kTape_after, kTape_length, kTape_bytes, pk_sub (Nat.le_of_lt E1), y, y2, ↓lm1, ↓lm2, i0, i1, i2, i3, i4, i5, i6, i7, i8, i9, i10, i12, i16, i20, i24, i31, i32, i44, i48, i57, i59, i63, i64, i74, i75, i90, i96, i97, i99, i100, i122, i139, i140, i144, i192, i200, i240, i255, i304, i309, i310, i311, i323, i324, i325, i899, i900, i975, i999, i5200, i4875, i65536, i65537, i15, ob_some, nI_add, nI_clamp, zn_zib, zn_eq, zn_lt, zn_le, m2_lt, m2_le, lt_m2, le_m2, eq_m2, m2_eq, m1_lt, m1_le, lt_m1, le_m1, eq_m1, m1_eq, m1_m2, m2_m1, m2_lt_m1, bI_0, bI_1, bI_t, bI_f, bI_bo, nI0_bo, nI1_bo, if_true, if_false, ite_true, ite_false, Nat.zero_add, Nat.not_lt_zero, Nat.zero_le, not_true_eq_false, not_false_eq_true, or_false, false_or, true_or, or_true, and_true, true_and, Bool.false_eq_true, Bool.true_eq_false, reduceCtorEq, eq_self]
        refine ⟨mkTape (Tape_size T) (if E - p ≤ 8 then nI 1 else nI 4) (nI p) (lN (enc kf p (E - p))) (nI E) (nI L) (Tape_bytes T), S', lt', p, ?_, ?_, p1, ⟨rfl, m3.trans rfl, p2, ?_⟩, ⟨rfl, h1.symm, rfl⟩, SE_trans ⟨rfl, rfl, rfl, rfl, rfl, rfl, rfl, rfl, rfl, rfl⟩ m2'⟩
        · simp (disch := omega) only [kTape_size, kTape_kind, kTape_start, kTape_value, kTape_after, kTape_length, kTape_bytes, g1, b59, k59, q3, q4, hsc, ↓lm1, ↓lm2, i0, i1, i2, i3, i4, i5, i6, i7, i8, i9, i10, i12, i16, i20, i24, i31, i32, i44, i48, i57, i59, i63, i64, i74, i75, i90, i96, i97, i99, i100, i122, i139, i140, i144, i192, i200, i240, i255, i304, i309, i310, i311, i323, i324, i325, i899, i900, i975, i999, i5200, i4875, i65536, i65537, i15, ob_some, nI_add, nI_clamp, zn_zib, zn_eq, zn_lt, zn_le, m2_lt, m2_le, lt_m2, le_m2, eq_m2, m2_eq, m1_lt, m1_le, lt_m1, le_m1, eq_m1, m1_eq, m1_m2, m2_m1, m2_lt_m1, bI_0, bI_1, bI_t, bI_f, bI_bo, nI0_bo, nI1_bo, if_true, if_false, ite_true, ite_false, Nat.zero_add, Nat.not_lt_zero, Nat.zero_le, not_true_eq_false, not_false_eq_true, or_false, false_or, true_or, or_true, and_true, true_and, Bool.false_eq_true, Bool.true_eq_false, reduceCtorEq, eq_self]
        · unfold stp at m1'
          simp (disch := omega) only [g4, g5, iS, k32, ↓lm1, ↓lm2, i0, i1, i2, i3, i4, i5, i6, i7, i8, i9, i10, i12, i16, i20, i24, i31, i32, i44, i48, i57, i59, i63, i64, i74, i75, i90, i96, i97, i99, i100, i122, i139, i140, i144, i192, i200, i240, i255, i304, i309, i310, i311, i323, i324, i325, i899, i900, i975, i999, i5200, i4875, i65536, i65537, i15, ob_some, nI_add, nI_clamp, zn_zib, zn_eq, zn_lt, zn_le, m2_lt, m2_le, lt_m2, le_m2, eq_m2, m2_eq, m1_lt, m1_le, lt_m1, le_m1, eq_m1, m1_eq, m1_m2, m2_m1, m2_lt_m1, bI_0, bI_1, bI_t, bI_f, bI_bo, nI0_bo, nI1_bo, if_true, if_false, ite_true, ite_false, Nat.zero_add, Nat.not_lt_zero, Nat.zero_le, not_true_eq_false, not_false_eq_true, or_false, false_or, true_or, or_true, and_true, true_and, Bool.false_eq_true, Bool.true_eq_false, reduceCtorEq, eq_self]
          exact m1'
        · by_cases y : E - p ≤ 8
          · rw [if_pos y] at m5
            exact .inr (.inl ⟨E, if_pos y, m5, rfl, m4, E1, E2, y, E3, m6, fun k hk => m7 k hk (by omega), rfl⟩)
          · rw [if_neg y] at m5
            exact .inr (.inr (.inr (.inr ⟨if_neg y, m5⟩)))
      · have s0 : smb kf p = false := smb_f.mpr q0
        rw [s0] at iS
        rcases TB_rng hB g1 48 57 (by omega) (by omega) with ⟨d1, d2, d3, d4, d5⟩ | ⟨d0, d⟩
        · have s1 : dgb kf p = true := dgb_t.mpr ⟨d1, d2⟩
          rw [s1] at iD
          have q97 : Tape_bytes T p < nI 97 := by
            rw [d5, zn_lt (by omega) (by omega)]
            omega
          obtain ⟨E, hE⟩ : ∃ E, E = rnE (dgb kf) (L - p) p := ⟨_, rfl⟩
          have E1 : p < E := by
            have h5 := rnE_ge (dgb kf) (L - p - 1) (p + 1)
            have h6 := rnE_s (dgb kf) (L - p - 1) p
            rw [if_pos s1, show L - p - 1 + 1 = L - p by omega, ← hE] at h6
            omega
          have E2 : E ≤ L := by
            have := rnE_le (dgb kf) (L - p) p
            omega
          have E3 : ∀ i, p ≤ i → i < E → 48 ≤ kf i ∧ kf i ≤ 57 := fun i h5 h6 => dgb_t.mp (rnE_in (dgb kf) (L - p) p i h5 (hE ▸ h6))
          have hw := T_whole (p := p) (sz := Tape_size T) (kd := Tape_kind T) hB hL (L - p) p FU (by omega) (by unfold FU; omega) (Nat.le_refl p)
          rw [← hE, Nat.sub_self] at hw
          obtain ⟨S', m1', m2', m3, m4, m5, m6⟩ := M_whole (p := p) hB hL (L - p) p FU (stp S (nI p) (Mo_end S) (Mo_token S) (nI 0) (nI 0)) lt (by omega) (by unfold FU; omega) (Nat.le_refl p) h3 (fun i h5 h6 => absurd h5 (by omega)) (fun _ => by rw [Nat.sub_self]; rfl)
          rw [← hE] at m4 m5 m6
          rw [Nat.sub_self] at m1'
          have hsc : f_X7_scanWhole (mkTape (Tape_size T) (Tape_kind T) (nI p) (Tape_value T) (nI p) (nI L) (Tape_bytes T)) = some (mkTape (Tape_size T) (if E - p ≤ 3 then nI 2 else nI 4) (nI p) (lN (dcN kf p (E - p))) (nI E) (nI L) (Tape_bytes T)) := by
            unfold f_X7_scanWhole
            refine Eq.trans ?_ (hw.trans ?_)
            · rfl
            · unfold b_X7_scanWhole_83
              by_cases y : E - p ≤ 3
              · have y2 : ¬ 3 < E - p := by omega
                simp (disch := omega) only [kTape_size, kTape_kind, kTape_start, kTape_value, kTape_after, kTape_length, kTape_bytes, pk_sub (Nat.le_of_lt E1), y, y2, ↓lm1, ↓lm2, i0, i1, i2, i3, i4, i5, i6, i7, i8, i9, i10, i12, i16, i20, i24, i31, i32, i44, i48, i57, i59, i63, i64, i74, i75, i90, i96, i97, i99, i100, i122, i139, i140, i144, i192, i200, i240, i255, i304, i309, i310, i311, i323, i324, i325, i899, i900, i975, i999, i5200, i4875, i65536, i65537, i15, ob_some, nI_add, nI_clamp, zn_zib, zn_eq, zn_lt, zn_le, m2_lt, m2_le, lt_m2, le_m2, eq_m2, m2_eq, m1_lt, m1_le, lt_m1, le_m1, eq_m1, m1_eq, m1_m2, m2_m1, m2_lt_m1, bI_0, bI_1, bI_t, bI_f, bI_bo, nI0_bo, nI1_bo, if_true, if_false, ite_true, ite_false, Nat.zero_add, Nat.not_lt_zero, Nat.zero_le, not_true_eq_false, not_false_eq_true, or_false, false_or, true_or, or_true, and_true, true_and, Bool.false_eq_true, Bool.true_eq_false, reduceCtorEq, eq_self]
              · have y2 : 3 < E - p := by omega
                simp (disch := omega) only [kTape_size, kTape_kind, kTape_start, kTape_value, kTape_after, kTape_length, kTape_bytes, pk_sub (Nat.le_of_lt E1), y, y2, ↓lm1, ↓lm2, i0, i1, i2, i3, i4, i5, i6, i7, i8, i9, i10, i12, i16, i20, i24, i31, i32, i44, i48, i57, i59, i63, i64, i74, i75, i90, i96, i97, i99, i100, i122, i139, i140, i144, i192, i200, i240, i255, i304, i309, i310, i311, i323, i324, i325, i899, i900, i975, i999, i5200, i4875, i65536, i65537, i15, ob_some, nI_add, nI_clamp, zn_zib, zn_eq, zn_lt, zn_le, m2_lt, m2_le, lt_m2, le_m2, eq_m2, m2_eq, m1_lt, m1_le, lt_m1, le_m1, eq_m1, m1_eq, m1_m2, m2_m1, m2_lt_m1, bI_0, bI_1, bI_t, bI_f, bI_bo, nI0_bo, nI1_bo, if_true, if_false, ite_true, ite_false, Nat.zero_add, Nat.not_lt_zero, Nat.zero_le, not_true_eq_false, not_false_eq_true, or_false, false_or, true_or, or_true, and_true, true_and, Bool.false_eq_true, Bool.true_eq_false, reduceCtorEq, eq_self]
          refine ⟨mkTape (Tape_size T) (if E - p ≤ 3 then nI 2 else nI 4) (nI p) (lN (dcN kf p (E - p))) (nI E) (nI L) (Tape_bytes T), S', lt, p, ?_, ?_, p1, ⟨rfl, m3.trans rfl, p2, ?_⟩, ⟨rfl, h1.symm, rfl⟩, SE_trans ⟨rfl, rfl, rfl, rfl, rfl, rfl, rfl, rfl, rfl, rfl⟩ m2'⟩
          · simp (disch := omega) only [kTape_size, kTape_kind, kTape_start, kTape_value, kTape_after, kTape_length, kTape_bytes, g1, b59, k59, q97, d3, d4, hsc, ↓lm1, ↓lm2, i0, i1, i2, i3, i4, i5, i6, i7, i8, i9, i10, i12, i16, i20, i24, i31, i32, i44, i48, i57, i59, i63, i64, i74, i75, i90, i96, i97, i99, i100, i122, i139, i140, i144, i192, i200, i240, i255, i304, i309, i310, i311, i323, i324, i325, i899, i900, i975, i999, i5200, i4875, i65536, i65537, i15, ob_some, nI_add, nI_clamp, zn_zib, zn_eq, zn_lt, zn_le, m2_lt, m2_le, lt_m2, le_m2, eq_m2, m2_eq, m1_lt, m1_le, lt_m1, le_m1, eq_m1, m1_eq, m1_m2, m2_m1, m2_lt_m1, bI_0, bI_1, bI_t, bI_f, bI_bo, nI0_bo, nI1_bo, if_true, if_false, ite_true, ite_false, Nat.zero_add, Nat.not_lt_zero, Nat.zero_le, not_true_eq_false, not_false_eq_true, or_false, false_or, true_or, or_true, and_true, true_and, Bool.false_eq_true, Bool.true_eq_false, reduceCtorEq, eq_self]
          · unfold stp at m1'
            simp (disch := omega) only [g4, g5, iS, iD, k32, ↓lm1, ↓lm2, i0, i1, i2, i3, i4, i5, i6, i7, i8, i9, i10, i12, i16, i20, i24, i31, i32, i44, i48, i57, i59, i63, i64, i74, i75, i90, i96, i97, i99, i100, i122, i139, i140, i144, i192, i200, i240, i255, i304, i309, i310, i311, i323, i324, i325, i899, i900, i975, i999, i5200, i4875, i65536, i65537, i15, ob_some, nI_add, nI_clamp, zn_zib, zn_eq, zn_lt, zn_le, m2_lt, m2_le, lt_m2, le_m2, eq_m2, m2_eq, m1_lt, m1_le, lt_m1, le_m1, eq_m1, m1_eq, m1_m2, m2_m1, m2_lt_m1, bI_0, bI_1, bI_t, bI_f, bI_bo, nI0_bo, nI1_bo, if_true, if_false, ite_true, ite_false, Nat.zero_add, Nat.not_lt_zero, Nat.zero_le, not_true_eq_false, not_false_eq_true, or_false, false_or, true_or, or_true, and_true, true_and, Bool.false_eq_true, Bool.true_eq_false, reduceCtorEq, eq_self]
            exact m1'
          · by_cases y : E - p ≤ 3
            · rw [if_pos y] at m5
              exact .inr (.inr (.inl ⟨E, dcN kf p (E - p), if_pos y, m5, rfl, m4, E1, E2, dcN_999 y (fun i h5 h6 => E3 i h5 (by omega)), m6 y, rfl⟩))
            · rw [if_neg y] at m5
              exact .inr (.inr (.inr (.inr ⟨if_neg y, m5⟩)))
        · have s1 : dgb kf p = false := dgb_f.mpr d0
          rw [s1] at iD
          refine ⟨mkTape (Tape_size T) (nI 4) (nI p) (Tape_value T) (nI p) (nI L) (Tape_bytes T), stp S (nI p) (nI (p + 1)) (nI 1) (nI 0) (nI 0), lt, p, ?_, ?_, p1, ⟨rfl, rfl, p2, .inr (.inr (.inr (.inr ⟨rfl, rfl⟩)))⟩, ⟨rfl, h1.symm, rfl⟩, ⟨rfl, rfl, rfl, rfl, rfl, rfl, rfl, rfl, rfl, rfl⟩⟩
          · rcases q with q | ⟨q3, q⟩
            · rcases d with d | ⟨d3, d⟩
              · simp (disch := omega) only [kTape_size, kTape_kind, kTape_start, kTape_value, kTape_after, kTape_length, kTape_bytes, g1, b59, k59, q, d, ↓lm1, ↓lm2, i0, i1, i2, i3, i4, i5, i6, i7, i8, i9, i10, i12, i16, i20, i24, i31, i32, i44, i48, i57, i59, i63, i64, i74, i75, i90, i96, i97, i99, i100, i122, i139, i140, i144, i192, i200, i240, i255, i304, i309, i310, i311, i323, i324, i325, i899, i900, i975, i999, i5200, i4875, i65536, i65537, i15, ob_some, nI_add, nI_clamp, zn_zib, zn_eq, zn_lt, zn_le, m2_lt, m2_le, lt_m2, le_m2, eq_m2, m2_eq, m1_lt, m1_le, lt_m1, le_m1, eq_m1, m1_eq, m1_m2, m2_m1, m2_lt_m1, bI_0, bI_1, bI_t, bI_f, bI_bo, nI0_bo, nI1_bo, if_true, if_false, ite_true, ite_false, Nat.zero_add, Nat.not_lt_zero, Nat.zero_le, not_true_eq_false, not_false_eq_true, or_false, false_or, true_or, or_true, and_true, true_and, Bool.false_eq_true, Bool.true_eq_false, reduceCtorEq, eq_self]
              · simp (disch := omega) only [kTape_size, kTape_kind, kTape_start, kTape_value, kTape_after, kTape_length, kTape_bytes, g1, b59, k59, q, d3, d, ↓lm1, ↓lm2, i0, i1, i2, i3, i4, i5, i6, i7, i8, i9, i10, i12, i16, i20, i24, i31, i32, i44, i48, i57, i59, i63, i64, i74, i75, i90, i96, i97, i99, i100, i122, i139, i140, i144, i192, i200, i240, i255, i304, i309, i310, i311, i323, i324, i325, i899, i900, i975, i999, i5200, i4875, i65536, i65537, i15, ob_some, nI_add, nI_clamp, zn_zib, zn_eq, zn_lt, zn_le, m2_lt, m2_le, lt_m2, le_m2, eq_m2, m2_eq, m1_lt, m1_le, lt_m1, le_m1, eq_m1, m1_eq, m1_m2, m2_m1, m2_lt_m1, bI_0, bI_1, bI_t, bI_f, bI_bo, nI0_bo, nI1_bo, if_true, if_false, ite_true, ite_false, Nat.zero_add, Nat.not_lt_zero, Nat.zero_le, not_true_eq_false, not_false_eq_true, or_false, false_or, true_or, or_true, and_true, true_and, Bool.false_eq_true, Bool.true_eq_false, reduceCtorEq, eq_self]
            · rcases d with d | ⟨d3, d⟩
              · simp (disch := omega) only [kTape_size, kTape_kind, kTape_start, kTape_value, kTape_after, kTape_length, kTape_bytes, g1, b59, k59, q3, q, d, ↓lm1, ↓lm2, i0, i1, i2, i3, i4, i5, i6, i7, i8, i9, i10, i12, i16, i20, i24, i31, i32, i44, i48, i57, i59, i63, i64, i74, i75, i90, i96, i97, i99, i100, i122, i139, i140, i144, i192, i200, i240, i255, i304, i309, i310, i311, i323, i324, i325, i899, i900, i975, i999, i5200, i4875, i65536, i65537, i15, ob_some, nI_add, nI_clamp, zn_zib, zn_eq, zn_lt, zn_le, m2_lt, m2_le, lt_m2, le_m2, eq_m2, m2_eq, m1_lt, m1_le, lt_m1, le_m1, eq_m1, m1_eq, m1_m2, m2_m1, m2_lt_m1, bI_0, bI_1, bI_t, bI_f, bI_bo, nI0_bo, nI1_bo, if_true, if_false, ite_true, ite_false, Nat.zero_add, Nat.not_lt_zero, Nat.zero_le, not_true_eq_false, not_false_eq_true, or_false, false_or, true_or, or_true, and_true, true_and, Bool.false_eq_true, Bool.true_eq_false, reduceCtorEq, eq_self]
              · simp (disch := omega) only [kTape_size, kTape_kind, kTape_start, kTape_value, kTape_after, kTape_length, kTape_bytes, g1, b59, k59, q3, q, d3, d, ↓lm1, ↓lm2, i0, i1, i2, i3, i4, i5, i6, i7, i8, i9, i10, i12, i16, i20, i24, i31, i32, i44, i48, i57, i59, i63, i64, i74, i75, i90, i96, i97, i99, i100, i122, i139, i140, i144, i192, i200, i240, i255, i304, i309, i310, i311, i323, i324, i325, i899, i900, i975, i999, i5200, i4875, i65536, i65537, i15, ob_some, nI_add, nI_clamp, zn_zib, zn_eq, zn_lt, zn_le, m2_lt, m2_le, lt_m2, le_m2, eq_m2, m2_eq, m1_lt, m1_le, lt_m1, le_m1, eq_m1, m1_eq, m1_m2, m2_m1, m2_lt_m1, bI_0, bI_1, bI_t, bI_f, bI_bo, nI0_bo, nI1_bo, if_true, if_false, ite_true, ite_false, Nat.zero_add, Nat.not_lt_zero, Nat.zero_le, not_true_eq_false, not_false_eq_true, or_false, false_or, true_or, or_true, and_true, true_and, Bool.false_eq_true, Bool.true_eq_false, reduceCtorEq, eq_self]
          · simp (disch := omega) only [g4, g5, iS, iD, k32, k59, ↓lm1, ↓lm2, i0, i1, i2, i3, i4, i5, i6, i7, i8, i9, i10, i12, i16, i20, i24, i31, i32, i44, i48, i57, i59, i63, i64, i74, i75, i90, i96, i97, i99, i100, i122, i139, i140, i144, i192, i200, i240, i255, i304, i309, i310, i311, i323, i324, i325, i899, i900, i975, i999, i5200, i4875, i65536, i65537, i15, ob_some, nI_add, nI_clamp, zn_zib, zn_eq, zn_lt, zn_le, m2_lt, m2_le, lt_m2, le_m2, eq_m2, m2_eq, m1_lt, m1_le, lt_m1, le_m1, eq_m1, m1_eq, m1_m2, m2_m1, m2_lt_m1, bI_0, bI_1, bI_t, bI_f, bI_bo, nI0_bo, nI1_bo, if_true, if_false, ite_true, ite_false, Nat.zero_add, Nat.not_lt_zero, Nat.zero_le, not_true_eq_false, not_false_eq_true, or_false, false_or, true_or, or_true, and_true, true_and, Bool.false_eq_true, Bool.true_eq_false, reduceCtorEq, eq_self]
            rfl
