/-! feed; what is told -/
theorem bp_ush (x : Int32) {s : Nat} (hs : s ≤ 24) : jiushr x (nI s) &&& nI 255 = (x >>> (nI s &&& nI 31)) &&& nI 255 := by
  have e255 : nI 255 = (255 : Int32) := rfl
  refine b_ext (fun i hi => ?_)
  have h1 := b_ushr s (by omega) x i
  have h2 := b_sshr s (by omega) x hi
  have e31 : (nI s &&& (31 : Int32)) = (nI s &&& nI 31) := rfl
  rw [e31] at h2
  unfold jiushr
  rw [e255, b_and, b_and, b_255, h1, h2]
  by_cases q : i < 8
  · rw [if_pos (by omega)]
  · rw [decide_eq_false q, Bool.and_false, Bool.and_false]
theorem byte_code (x : Int32) {s : Nat} (hs : s ≤ 24) : ∃ k, k < 256 ∧ (x >>> (nI s &&& nI 31)) &&& nI 255 = nI k ∧ ((k < 128 ∧ (jiushr x (nI s)).toInt8.toInt32 = nI k) ∨ (128 ≤ k ∧ (jiushr x (nI s)).toInt8.toInt32 < nI 0)) := by
  have hr := fb_byte_rng (jiushr x (nI s))
  have hb := bp_b (jiushr x (nI s))
  have hb' : (jiushr x (nI s)).toInt8.toInt32 &&& nI 255 = jiushr x (nI s) &&& nI 255 := hb
  rw [bp_ush x hs] at hb'
  rw [← hb']
  generalize (jiushr x (nI s)).toInt8.toInt32 = y at hr
  by_cases q : y < nI 0
  · have h1 : y.toInt < 0 := by
      rw [fa_lt, nI_toInt (by omega)] at q
      exact q
    obtain ⟨j, hj, e⟩ : ∃ j : Nat, j < 128 ∧ y = -(nI (j + 1)) := by
      refine ⟨(-y.toInt - 1).toNat, by omega, ?_⟩
      rw [fa_eq, fb_negI (by rw [nI_toInt (by omega)]; omega), nI_toInt (by omega)]
      omega
    have tb : ∀ j : Fin 128, (-(nI (j.1 + 1))) &&& nI 255 = nI (255 - j.1) := by decide +kernel
    refine ⟨255 - j, by omega, ?_, .inr ⟨by omega, q⟩⟩
    rw [e]
    exact tb ⟨j, hj⟩
  · obtain ⟨j, hj, e⟩ := nI_of q
    have h1 : j < 128 := by
      rw [e, nI_toInt hj] at hr
      omega
    refine ⟨j, by omega, ?_, .inl ⟨h1, e⟩⟩
    rw [e, fa_and]
    congr 1
    have : ∀ a : Fin 128, a.1 &&& 255 = a.1 := by decide +kernel
    exact this ⟨j, h1⟩
theorem nar_b (x : Int32) : vp_nar .byte (x.toInt8.toInt32) = x.toInt8.toInt32 := fb_byte_twice x
def tpP (T : STape) (z : Nat) (x : Int32) : STape := mkTape (nI (z + 1)) (Tape_kind T) (Tape_start T) (Tape_value T) (Tape_after T) (Tape_length T) (upd (Tape_bytes T) z x)
def byc (w : Int32) (j : Nat) : Int32 := (jiushr w (nI (24 - 8 * j))).toInt8.toInt32
theorem T_add1 {T : STape} {z s : Nat} (ht : Tape_size T = nI z) (hz : z < 900) (hs : s ≤ 24) (w : Int32) (k : STape → Int32 → Option STape) : b_X7_addFour_3 w k T (nI s) = k (tpP T z ((jiushr w (nI s)).toInt8.toInt32)) (nI s + (-8)) := by
  have b1 : ¬ s < 0 := by omega
  have b2 : ¬ 900 ≤ z := by omega
  unfold b_X7_addFour_3 tpP
  rw [nar_b]
  simp (disch := omega) only [ht, b1, b2, ↓lm1, ↓lm2, i0, i1, i2, i3, i4, i5, i6, i7, i8, i9, i10, i12, i16, i20, i24, i31, i32, i44, i48, i57, i59, i63, i64, i74, i75, i90, i96, i97, i99, i100, i122, i139, i140, i144, i192, i200, i240, i255, i304, i309, i310, i311, i323, i324, i325, i899, i900, i975, i999, i5200, i4875, i65536, i65537, i15, ob_some, nI_add, nI_clamp, zn_zib, zn_eq, zn_lt, zn_le, m2_lt, m2_le, lt_m2, le_m2, eq_m2, m2_eq, m1_lt, m1_le, lt_m1, le_m1, eq_m1, m1_eq, m1_m2, m2_m1, m2_lt_m1, bI_0, bI_1, bI_t, bI_f, bI_bo, nI0_bo, nI1_bo, if_true, if_false, ite_true, ite_false, Nat.zero_add, Nat.not_lt_zero, Nat.zero_le, not_true_eq_false, not_false_eq_true, or_false, false_or, true_or, or_true, and_true, true_and, Bool.false_eq_true, Bool.true_eq_false, reduceCtorEq, eq_self]
theorem T_add4 {T : STape} {z : Nat} (ht : Tape_size T = nI z) (hz : z + 4 ≤ 900) (w : Int32) : ∃ T', f_X7_addFour T w = some T' ∧ Tape_size T' = nI (z + 4) ∧ (∀ i, i < z → Tape_bytes T' i = Tape_bytes T i) ∧ ∀ j, j < 4 → Tape_bytes T' (z + j) = byc w j := by
  have eF : FU = 5995 + 1 + 1 + 1 + 1 + 1 := rfl
  have e24 : (24 : Int32) = nI 24 := rfl
  have s1 : nI 24 + (-8) = nI 16 := by decide
  have s2 : nI 16 + (-8) = nI 8 := by decide
  have s3 : nI 8 + (-8) = nI 0 := by decide
  have s4 : nI 0 + (-8) < (0 : Int32) := by decide
  refine ⟨tpP (tpP (tpP (tpP T z (byc w 0)) (z + 1) (byc w 1)) (z + 2) (byc w 2)) (z + 3) (byc w 3), ?_, rfl, fun i hi => ?_, fun j hj => ?_⟩
  · unfold f_X7_addFour
    rw [eF, e24, zl2_s, T_add1 ht (by omega) (by omega), s1, zl2_s, T_add1 (z := z + 1) rfl (by omega) (by omega), s2, zl2_s, T_add1 (z := z + 2) rfl (by omega) (by omega), s3, zl2_s, T_add1 (z := z + 3) rfl (by omega) (by omega), zl2_s]
    unfold b_X7_addFour_3
    rw [if_pos s4]
    rfl
  · show upd (upd (upd (upd (Tape_bytes T) z _) (z + 1) _) (z + 2) _) (z + 3) _ i = Tape_bytes T i
    rw [upd_ne (by omega), upd_ne (by omega), upd_ne (by omega), upd_ne (by omega)]
  · show upd (upd (upd (upd (Tape_bytes T) z (byc w 0)) (z + 1) (byc w 1)) (z + 2) (byc w 2)) (z + 3) (byc w 3) (z + j) = byc w j
    have hjj : j = 0 ∨ j = 1 ∨ j = 2 ∨ j = 3 := by omega
    rcases hjj with rfl | rfl | rfl | rfl
    · rw [upd_ne (by omega), upd_ne (by omega), upd_ne (by omega)]
      exact upd_eq
    · rw [upd_ne (by omega), upd_ne (by omega), upd_eq]
    · rw [upd_ne (by omega), upd_eq]
    · rw [upd_eq]
def sel5 (a b c d e : Int32) (k : Nat) : Int32 := if k < 4 then a else if k < 8 then b else if k < 12 then c else if k < 16 then d else e
def mcd (w : Int32) (j : Nat) : Int32 := (w >>> (nI (24 - 8 * j) &&& nI 31)) &&& nI 255
theorem T_feed {T : STape} {z : Nat} (ht : Tape_size T = nI z) (hz : z + 20 ≤ 900) (a b c d e : Int32) (X : SSR) (Y : SRd) : ∃ T', f_X9_feed X Y T a b c d e = some (nI (z + 20), T') ∧ Tape_size T' = nI (z + 20) ∧ (∀ i, i < z → Tape_bytes T' i = Tape_bytes T i) ∧ ∀ j, j < 20 → Tape_bytes T' (z + j) = byc (sel5 a b c d e j) (j % 4) := by
  obtain ⟨T1, a1, a2, a3, a4⟩ := T_add4 ht (by omega) a
  obtain ⟨T2, b1, b2, b3, b4⟩ := T_add4 a2 (by omega) b
  obtain ⟨T3, c1, c2, c3, c4⟩ := T_add4 b2 (by omega) c
  obtain ⟨T4, d1, d2, d3, d4⟩ := T_add4 c2 (by omega) d
  obtain ⟨T5, e1, e2, e3, e4⟩ := T_add4 d2 (by omega) e
  have ez : z + 4 + 4 + 4 + 4 + 4 = z + 20 := by omega
  rw [ez] at e2
  refine ⟨T5, ?_, e2, fun i hi => ?_, fun j hj => ?_⟩
  · have h9 : nI z + nI 20 ≤ nI 900 := by
      rw [nI_add, zn_le (by omega) (by omega)]
      exact hz
    have h9' : Tape_size T + (20 : Int32) ≤ (900 : Int32) := by
      rw [ht]
      exact h9
    unfold f_X9_feed
    rw [if_pos h9', a1, ob_some, b1, ob_some, c1, ob_some, d1, ob_some, e1, ob_some, e2]
  · rw [e3 i (by omega), d3 i (by omega), c3 i (by omega), b3 i (by omega), a3 i hi]
  · unfold sel5
    by_cases q1 : j < 4
    · rw [if_pos q1, e3 _ (by omega), d3 _ (by omega), c3 _ (by omega), b3 _ (by omega), a4 j q1, Nat.mod_eq_of_lt q1]
    · rw [if_neg q1]
      by_cases q2 : j < 8
      · rw [if_pos q2, e3 _ (by omega), d3 _ (by omega), c3 _ (by omega), show z + j = z + 4 + (j - 4) by omega, b4 (j - 4) (by omega), show j - 4 = j % 4 by omega]
      · rw [if_neg q2]
        by_cases q3 : j < 12
        · rw [if_pos q3, e3 _ (by omega), d3 _ (by omega), show z + j = z + 4 + 4 + (j - 8) by omega, c4 (j - 8) (by omega), show j - 8 = j % 4 by omega]
        · rw [if_neg q3]
          by_cases q4 : j < 16
          · rw [if_pos q4, e3 _ (by omega), show z + j = z + 4 + 4 + 4 + (j - 12) by omega, d4 (j - 12) (by omega), show j - 12 = j % 4 by omega]
          · rw [if_neg q4, show z + j = z + 4 + 4 + 4 + 4 + (j - 16) by omega, e4 (j - 16) (by omega), show j - 16 = j % 4 by omega]
theorem M_feed {S : SMo} {tp : Nat → Int32} {z : Nat} (ht : Mo_taped S = nI z) (hz : z + 20 ≤ 900) (a b c d e : Int32) : ∃ S' tp', f_X10_feed S tp a b c d e = some (nI (z + 20), S', tp') ∧ Mo_taped S' = nI (z + 20) ∧ Mo_trouble S' = Mo_trouble S ∧ Mo_fault S' = Mo_fault S ∧ Mo_place S' = Mo_place S ∧ Mo_hasStore S' = Mo_hasStore S ∧ Mo_undos S' = Mo_undos S ∧ Mo_images S' = Mo_images S ∧ Mo_ring S' = Mo_ring S ∧ (∀ i, i < z → tp' i = tp i) ∧ ∀ j, j < 20 → tp' (z + j) = mcd (sel5 a b c d e j) (j % 4) := by
  have h9' : Mo_taped S + (20 : Int32) ≤ (900 : Int32) := by
    rw [ht]
    show nI z + nI 20 ≤ nI 900
    rw [nI_add, zn_le (by omega) (by omega)]
    exact hz
  have key := zl3_ex (f := b_X10_feed_23 a b c d e) (c1 := sMo_thrown S (nI 0)) (c2 := tp) 20 0 (fun k S' t => Mo_taped S' = nI (z + k) ∧ (Mo_trouble S' = Mo_trouble S ∧ Mo_fault S' = Mo_fault S ∧ Mo_place S' = Mo_place S ∧ Mo_hasStore S' = Mo_hasStore S ∧ Mo_undos S' = Mo_undos S ∧ Mo_images S' = Mo_images S ∧ Mo_ring S' = Mo_ring S) ∧ (∀ i, i < z → t i = tp i) ∧ ∀ j, j < k → t (z + j) = mcd (sel5 a b c d e j) (j % 4)) (fun q => q.1 = nI (z + 20) ∧ Mo_taped q.2.1 = nI (z + 20) ∧ (Mo_trouble q.2.1 = Mo_trouble S ∧ Mo_fault q.2.1 = Mo_fault S ∧ Mo_place q.2.1 = Mo_place S ∧ Mo_hasStore q.2.1 = Mo_hasStore S ∧ Mo_undos q.2.1 = Mo_undos S ∧ Mo_images q.2.1 = Mo_images S ∧ Mo_ring q.2.1 = Mo_ring S) ∧ (∀ i, i < z → q.2.2 i = tp i) ∧ ∀ j, j < 20 → q.2.2 (z + j) = mcd (sel5 a b c d e j) (j % 4)) (by omega) (Nat.zero_le _) ⟨ht, ⟨rfl, rfl, rfl, rfl, rfl, rfl, rfl⟩, fun i hi => rfl, fun j hj => absurd hj (Nat.not_lt_zero j)⟩ (fun k j S' t hj hI => ?_) (fun k S' t hI => ?_)
  · obtain ⟨⟨v, S', tp'⟩, k1, k2, k3, k4, k5, k6⟩ := key
    have k2' : v = nI (z + 20) := k2
    refine ⟨S', tp', ?_, k3, k4.1, k4.2.1, k4.2.2.1, k4.2.2.2.1, k4.2.2.2.2.1, k4.2.2.2.2.2.1, k4.2.2.2.2.2.2, k5, k6⟩
    rw [← k2', ← k1]
    unfold f_X10_feed
    rw [if_pos h9']
    rfl
  · obtain ⟨g1, g2, g3, g4⟩ := hI
    have er : nI j - nI j / nI 4 * nI 4 = nI (j % 4) := rem_nI (by omega) (by omega) (by omega)
    have es : nI 24 - nI (8 * (j % 4)) = nI (24 - 8 * (j % 4)) := pk_sub (by omega)
    have h76 : ∀ u0, u0 = sel5 a b c d e j → b_X10_feed_76 a b c d e k S' t (nI j) u0 = k (sMo_taped S' (nI (z + (j + 1)))) (upd t (z + j) (mcd (sel5 a b c d e j) (j % 4))) (nI (j + 1)) := fun u0 hu => by
      unfold b_X10_feed_76 mcd
      rw [← hu]
      simp (disch := omega) only [g1, er, pk_mul, es, Nat.add_assoc, ↓lm1, ↓lm2, i0, i1, i2, i3, i4, i5, i6, i7, i8, i9, i10, i12, i16, i20, i24, i31, i32, i44, i48, i57, i59, i63, i64, i74, i75, i90, i96, i97, i99, i100, i122, i139, i140, i144, i192, i200, i240, i255, i304, i309, i310, i311, i323, i324, i325, i899, i900, i975, i999, i5200, i4875, i65536, i65537, i15, ob_some, nI_add, nI_clamp, zn_zib, zn_eq, zn_lt, zn_le, m2_lt, m2_le, lt_m2, le_m2, eq_m2, m2_eq, m1_lt, m1_le, lt_m1, le_m1, eq_m1, m1_eq, m1_m2, m2_m1, m2_lt_m1, bI_0, bI_1, bI_t, bI_f, bI_bo, nI0_bo, nI1_bo, if_true, if_false, ite_true, ite_false, Nat.zero_add, Nat.not_lt_zero, Nat.zero_le, not_true_eq_false, not_false_eq_true, or_false, false_or, true_or, or_true, and_true, true_and, Bool.false_eq_true, Bool.true_eq_false, reduceCtorEq, eq_self]
      rfl
    refine .inr ⟨sMo_taped S' (nI (z + (j + 1))), upd t (z + j) (mcd (sel5 a b c d e j) (j % 4)), ⟨rfl, g2, fun i hi => by rw [upd_ne (by omega)]; exact g3 i hi, fun j' hj' => ?_⟩, ?_⟩
    · by_cases q : j' = j
      · rw [q, upd_eq]
      · rw [upd_ne (by omega)]
        exact g4 j' (by omega)
    · have b1 : ¬ 20 ≤ j := by omega
      unfold b_X10_feed_23
      by_cases q1 : j < 4
      · have q1' : ¬ 4 ≤ j := by omega
        have := h76 a (by unfold sel5; rw [if_pos q1])
        simp (disch := omega) only [b1, q1', this, ↓lm1, ↓lm2, i0, i1, i2, i3, i4, i5, i6, i7, i8, i9, i10, i12, i16, i20, i24, i31, i32, i44, i48, i57, i59, i63, i64, i74, i75, i90, i96, i97, i99, i100, i122, i139, i140, i144, i192, i200, i240, i255, i304, i309, i310, i311, i323, i324, i325, i899, i900, i975, i999, i5200, i4875, i65536, i65537, i15, ob_some, nI_add, nI_clamp, zn_zib, zn_eq, zn_lt, zn_le, m2_lt, m2_le, lt_m2, le_m2, eq_m2, m2_eq, m1_lt, m1_le, lt_m1, le_m1, eq_m1, m1_eq, m1_m2, m2_m1, m2_lt_m1, bI_0, bI_1, bI_t, bI_f, bI_bo, nI0_bo, nI1_bo, if_true, if_false, ite_true, ite_false, Nat.zero_add, Nat.not_lt_zero, Nat.zero_le, not_true_eq_false, not_false_eq_true, or_false, false_or, true_or, or_true, and_true, true_and, Bool.false_eq_true, Bool.true_eq_false, reduceCtorEq, eq_self]
      · have q1' : 4 ≤ j := by omega
        by_cases q2 : j < 8
        · have q2' : ¬ 8 ≤ j := by omega
          have := h76 b (by unfold sel5; rw [if_neg q1, if_pos q2])
          simp (disch := omega) only [b1, q1', q2', this, ↓lm1, ↓lm2, i0, i1, i2, i3, i4, i5, i6, i7, i8, i9, i10, i12, i16, i20, i24, i31, i32, i44, i48, i57, i59, i63, i64, i74, i75, i90, i96, i97, i99, i100, i122, i139, i140, i144, i192, i200, i240, i255, i304, i309, i310, i311, i323, i324, i325, i899, i900, i975, i999, i5200, i4875, i65536, i65537, i15, ob_some, nI_add, nI_clamp, zn_zib, zn_eq, zn_lt, zn_le, m2_lt, m2_le, lt_m2, le_m2, eq_m2, m2_eq, m1_lt, m1_le, lt_m1, le_m1, eq_m1, m1_eq, m1_m2, m2_m1, m2_lt_m1, bI_0, bI_1, bI_t, bI_f, bI_bo, nI0_bo, nI1_bo, if_true, if_false, ite_true, ite_false, Nat.zero_add, Nat.not_lt_zero, Nat.zero_le, not_true_eq_false, not_false_eq_true, or_false, false_or, true_or, or_true, and_true, true_and, Bool.false_eq_true, Bool.true_eq_false, reduceCtorEq, eq_self]
        · have q2' : 8 ≤ j := by omega
          by_cases q3 : j < 12
          · have q3' : ¬ 12 ≤ j := by omega
            have := h76 c (by unfold sel5; rw [if_neg q1, if_neg q2, if_pos q3])
            simp (disch := omega) only [b1, q1', q2', q3', this, ↓lm1, ↓lm2, i0, i1, i2, i3, i4, i5, i6, i7, i8, i9, i10, i12, i16, i20, i24, i31, i32, i44, i48, i57, i59, i63, i64, i74, i75, i90, i96, i97, i99, i100, i122, i139, i140, i144, i192, i200, i240, i255, i304, i309, i310, i311, i323, i324, i325, i899, i900, i975, i999, i5200, i4875, i65536, i65537, i15, ob_some, nI_add, nI_clamp, zn_zib, zn_eq, zn_lt, zn_le, m2_lt, m2_le, lt_m2, le_m2, eq_m2, m2_eq, m1_lt, m1_le, lt_m1, le_m1, eq_m1, m1_eq, m1_m2, m2_m1, m2_lt_m1, bI_0, bI_1, bI_t, bI_f, bI_bo, nI0_bo, nI1_bo, if_true, if_false, ite_true, ite_false, Nat.zero_add, Nat.not_lt_zero, Nat.zero_le, not_true_eq_false, not_false_eq_true, or_false, false_or, true_or, or_true, and_true, true_and, Bool.false_eq_true, Bool.true_eq_false, reduceCtorEq, eq_self]
          · have q3' : 12 ≤ j := by omega
            by_cases q4 : j < 16
            · have q4' : ¬ 16 ≤ j := by omega
              have := h76 d (by unfold sel5; rw [if_neg q1, if_neg q2, if_neg q3, if_pos q4])
              simp (disch := omega) only [b1, q1', q2', q3', q4', this, ↓lm1, ↓lm2, i0, i1, i2, i3, i4, i5, i6, i7, i8, i9, i10, i12, i16, i20, i24, i31, i32, i44, i48, i57, i59, i63, i64, i74, i75, i90, i96, i97, i99, i100, i122, i139, i140, i144, i192, i200, i240, i255, i304, i309, i310, i311, i323, i324, i325, i899, i900, i975, i999, i5200, i4875, i65536, i65537, i15, ob_some, nI_add, nI_clamp, zn_zib, zn_eq, zn_lt, zn_le, m2_lt, m2_le, lt_m2, le_m2, eq_m2, m2_eq, m1_lt, m1_le, lt_m1, le_m1, eq_m1, m1_eq, m1_m2, m2_m1, m2_lt_m1, bI_0, bI_1, bI_t, bI_f, bI_bo, nI0_bo, nI1_bo, if_true, if_false, ite_true, ite_false, Nat.zero_add, Nat.not_lt_zero, Nat.zero_le, not_true_eq_false, not_false_eq_true, or_false, false_or, true_or, or_true, and_true, true_and, Bool.false_eq_true, Bool.true_eq_false, reduceCtorEq, eq_self]
            · have q4' : 16 ≤ j := by omega
              have := h76 e (by unfold sel5; rw [if_neg q1, if_neg q2, if_neg q3, if_neg q4])
              simp (disch := omega) only [b1, q1', q2', q3', q4', this, ↓lm1, ↓lm2, i0, i1, i2, i3, i4, i5, i6, i7, i8, i9, i10, i12, i16, i20, i24, i31, i32, i44, i48, i57, i59, i63, i64, i74, i75, i90, i96, i97, i99, i100, i122, i139, i140, i144, i192, i200, i240, i255, i304, i309, i310, i311, i323, i324, i325, i899, i900, i975, i999, i5200, i4875, i65536, i65537, i15, ob_some, nI_add, nI_clamp, zn_zib, zn_eq, zn_lt, zn_le, m2_lt, m2_le, lt_m2, le_m2, eq_m2, m2_eq, m1_lt, m1_le, lt_m1, le_m1, eq_m1, m1_eq, m1_m2, m2_m1, m2_lt_m1, bI_0, bI_1, bI_t, bI_f, bI_bo, nI0_bo, nI1_bo, if_true, if_false, ite_true, ite_false, Nat.zero_add, Nat.not_lt_zero, Nat.zero_le, not_true_eq_false, not_false_eq_true, or_false, false_or, true_or, or_true, and_true, true_and, Bool.false_eq_true, Bool.true_eq_false, reduceCtorEq, eq_self]
  · obtain ⟨g1, g2, g3, g4⟩ := hI
    have b1 : (20 : Int32) ≤ nI 20 := by decide
    refine ⟨(Mo_taped S', S', t), ?_, g1, g1, g2, g3, g4⟩
    unfold b_X10_feed_23
    rw [if_pos b1]
