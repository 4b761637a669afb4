/-! size, led, and what is told -/
section
variable {T : SSR} {E : SEv} {Hi : SHi} {P : SPool} {R : SRows} {Tp : STape} {S S' : SMo} {r on og tl st und kpt tp : Nat → Int32} {n m c b : Nat}
theorem IV_SQ (hb : b < 2 ^ 29) (h : IV T E Hi P R Tp S r on og tl st und kpt tp b) (q : SQ S S') : IV T E Hi P R Tp S' r on og tl st und kpt tp b := by
  obtain ⟨h1, h2, h3, h4, h5, ⟨z, kf, z1, z2, z3, z4⟩, h7⟩ := h
  obtain ⟨q1, q2, q3, q4, q5, q6, q7, q8⟩ := q
  refine ⟨TA_S (Nat.le_refl _) hb q6 q7 q5 q8 h1, ER_S h2 q5, h3.trans q4.symm, h4.trans q2.symm, fun x => ?_, ⟨z, kf, z1, z2, q1.trans z3, z4⟩, fun x => h7 (q5.symm.trans x)⟩
  rw [q3]
  exact h5 (q4.symm.trans x)
theorem IV_QQ (h : IV T E Hi P R Tp S r on og tl st und kpt tp b) : QQ R S r st b := TA_QQ h.1
theorem IV_SA {q : Int32} (hb : b < 2 ^ 29) (hq : q ≠ nI 4) (h : IV T E Hi P R Tp S r on og tl st und kpt tp b) (g : SA S S' q) : IV (sSR_troubleNumber T q) E Hi P R Tp S' r on og tl st und kpt tp b := by
  obtain ⟨h1, h2, h3, h4, h5, ⟨z, kf, z1, z2, z3, z4⟩, h7⟩ := h
  obtain ⟨g1, g2, g3, g4, g5, g6, g7, g8⟩ := g
  exact ⟨TA_S (Nat.le_refl _) hb g6 g7 g5 g8 h1, ER_S h2 g5, g1.symm, h4.trans g3.symm, fun x => absurd (g1.symm.trans x) hq, ⟨z, kf, z1, z2, g2.trans z3, z4⟩, fun x => h7 (g5.symm.trans x)⟩
theorem t_feed (hb : b < 2 ^ 29) (h : IV T E Hi P R Tp S r on og tl st und kpt tp b) (D : SRd) (x1 x2 x3 x4 x5 : Int32) : ∃ a Tp' S' tp', f_X9_feed T D Tp x1 x2 x3 x4 x5 = some (a, Tp') ∧ f_X10_feed S tp x1 x2 x3 x4 x5 = some (a, S', tp') ∧ IV T E Hi P R Tp' S' r on og tl st und kpt tp' b := by
  obtain ⟨z, kf, z1, z2, z3, z4⟩ := h.2.2.2.2.2.1
  by_cases q : z + 20 ≤ 900
  · obtain ⟨Tp', a1, a2, a3, a4⟩ := T_feed z2 q x1 x2 x3 x4 x5 T D
    obtain ⟨S', tp', b1, b2, b3, b4, b5, b6, b7, b8, b9, b10, b11⟩ := M_feed (tp := tp) z3 q x1 x2 x3 x4 x5
    obtain ⟨h1, h2, h3, h4, h5, -, h7⟩ := h
    have hc : ∀ j, ∃ k, j < 20 → k < 256 ∧ mcd (sel5 x1 x2 x3 x4 x5 j) (j % 4) = nI k ∧ ((k < 128 ∧ byc (sel5 x1 x2 x3 x4 x5 j) (j % 4) = nI k) ∨ (128 ≤ k ∧ byc (sel5 x1 x2 x3 x4 x5 j) (j % 4) < nI 0)) := fun j => by
      obtain ⟨k, k1, k2, k3⟩ := byte_code (sel5 x1 x2 x3 x4 x5 j) (s := 24 - 8 * (j % 4)) (by omega)
      exact ⟨k, fun _ => ⟨k1, k2, k3⟩⟩
    refine ⟨nI (z + 20), Tp', S', tp', a1, b1, TA_S (Nat.le_refl _) hb b7 b8 b6 b9 h1, ER_S h2 b6, h3.trans b3.symm, h4.trans b4.symm, fun x => ?_, ⟨z + 20, fun i => if i < z then kf i else (hc (i - z)).choose, by omega, a2, b2, fun i hi => ?_⟩, fun x => h7 (b6.symm.trans x)⟩
    · rw [b5]
      exact h5 (b3.symm.trans x)
    · show (if i < z then kf i else (hc (i - z)).choose) < 256 ∧ tp' i = nI (if i < z then kf i else (hc (i - z)).choose) ∧ (((if i < z then kf i else (hc (i - z)).choose) < 128 ∧ Tape_bytes Tp' i = nI (if i < z then kf i else (hc (i - z)).choose)) ∨ (128 ≤ (if i < z then kf i else (hc (i - z)).choose) ∧ Tape_bytes Tp' i < nI 0))
      by_cases y : i < z
      · rw [if_pos y, a3 i y, b10 i y]
        exact z4 i y
      · have hk := (hc (i - z)).choose_spec (by omega)
        have ei : z + (i - z) = i := by omega
        have ea := a4 (i - z) (by omega)
        have eb := b11 (i - z) (by omega)
        rw [ei] at ea eb
        rw [if_neg y, ea, eb]
        exact hk
  · have h9 : ¬ Tape_size Tp + (20 : Int32) ≤ (900 : Int32) := by
      rw [z2]
      show ¬ nI z + nI 20 ≤ nI 900
      rw [nI_add, zn_le (by omega) (by omega)]
      exact q
    have h9' : ¬ Mo_taped S + (20 : Int32) ≤ (900 : Int32) := by
      rw [z3]
      show ¬ nI z + nI 20 ≤ nI 900
      rw [nI_add, zn_le (by omega) (by omega)]
      exact q
    refine ⟨m1, Tp, sMo_thrown S (nI 0), tp, ?_, ?_, IV_SQ hb h ⟨rfl, rfl, rfl, rfl, rfl, rfl, rfl, rfl⟩⟩
    · unfold f_X9_feed
      rw [if_neg h9]
      rfl
    · unfold f_X10_feed
      rw [if_neg h9']
      rfl
theorem t_fault (hb : b < 2 ^ 29) (h : IV T E Hi P R Tp S r on og tl st und kpt tp b) : ∃ a S', f_X9_fault T = some a ∧ f_X10_fault S = some (a, S') ∧ IV T E Hi P R Tp S' r on og tl st und kpt tp b := by
  refine ⟨SR_faultNumber T, sMo_thrown S (nI 0), rfl, ?_, IV_SQ hb h ⟨rfl, rfl, rfl, rfl, rfl, rfl, rfl, rfl⟩⟩
  rw [h.2.2.2.1]
  rfl
theorem t_trouble (hb : b < 2 ^ 29) (h : IV T E Hi P R Tp S r on og tl st und kpt tp b) : ∃ a S', f_X9_trouble T = some a ∧ f_X10_trouble S = some (a, S') ∧ IV T E Hi P R Tp S' r on og tl st und kpt tp b := by
  refine ⟨SR_troubleNumber T, sMo_thrown S (nI 0), rfl, ?_, IV_SQ hb h ⟨rfl, rfl, rfl, rfl, rfl, rfl, rfl, rfl⟩⟩
  rw [h.2.2.1]
  rfl
theorem t_where (hb : b < 2 ^ 29) (h : IV T E Hi P R Tp S r on og tl st und kpt tp b) : ∃ a S', f_X9_where T = some a ∧ f_X10_where S = some (a, S') ∧ IV T E Hi P R Tp S' r on og tl st und kpt tp b := by
  by_cases q : Mo_trouble S = nI 4
  · have q1 : Mo_trouble S = 4 := q
    have q2 : SR_troubleNumber T = 4 := h.2.2.1.trans q
    refine ⟨Mo_place S, sMo_thrown S (nI 0), ?_, ?_, IV_SQ hb h ⟨rfl, rfl, rfl, rfl, rfl, rfl, rfl, rfl⟩⟩
    · unfold f_X9_where
      rw [if_pos q2, h.2.2.2.2.1 q]
    · unfold f_X10_where
      rw [if_pos q1]
      rfl
  · have q1 : ¬ Mo_trouble S = 4 := q
    have q2 : ¬ SR_troubleNumber T = 4 := fun x => q (h.2.2.1.symm.trans x)
    refine ⟨m1, sMo_thrown S (nI 0), ?_, ?_, IV_SQ hb h ⟨rfl, rfl, rfl, rfl, rfl, rfl, rfl, rfl⟩⟩
    · unfold f_X9_where
      rw [if_neg q2]
      rfl
    · unfold f_X10_where
      rw [if_neg q1]
      rfl
theorem orI_nI (p : Nat → Bool) : orI p 6 = nI (unN p 6) := b_ext (fun k hk => by
  have hU := unN_lt p 6
  rw [orI_bt p 6 (Nat.le_refl _) k hk, bt_nat hU hk]
  by_cases q : k < 6
  · rw [decide_eq_true q, Bool.true_and, unN_bit p 6 k q]
  · rw [decide_eq_false q, Bool.false_and]
    refine (Nat.testBit_lt_two_pow (Nat.lt_of_lt_of_le hU ?_)).symm
    exact Nat.pow_le_pow_right (by decide) (by omega))
theorem J_bits (p : Nat → Bool) : f_J6_bitCount_0f7a4 (orI p 6) = some (nI (fb_ct p 6)) := by
  have tb : ∀ e : Fin 64, f_J6_bitCount_0f7a4 (nI e.1) = some (nI (fb_ct (fun w => e.1.testBit w) 6)) := by decide +kernel
  have hU := unN_lt p 6
  rw [orI_nI, tb ⟨unN p 6, hU⟩]
  have e : fb_ct (fun w => (unN p 6).testBit w) 6 = fb_ct p 6 := fb_ct_cong (fun w hw => unN_bit p 6 w hw)
  rw [e]
theorem M_runMany (W : WS st n m) : f_X10_runMany S st = some (nI (fb_ct (rn st) 6)) := by
  unfold f_X10_runMany
  rw [← cI_ct]
  refine Eq.trans ?_ (zl2_fold (f := b_X10_runMany_4 S st) 6 (cI (rn st)) _ (by omega) (fun k i hi => ?_) (fun k => ?_))
  · rfl
  · have b1 : ¬ 6 ≤ i := by omega
    have h1 := M_doesRun W hi
    unfold b_X10_runMany_4
    rw [cI_s]
    cases z : rn st i
    · rw [z] at h1
      simp (disch := omega) only [b1, h1, add_n0, ↓lm1, ↓lm2, i0, i1, i2, i3, i4, i5, i6, i7, i8, i9, i10, i12, i16, i20, i24, i31, i32, i44, i48, i57, i59, i63, i64, i74, i75, i90, i96, i97, i99, i100, i122, i139, i140, i144, i192, i200, i240, i255, i304, i309, i310, i311, i323, i324, i325, i899, i900, i975, i999, i5200, i4875, i65536, i65537, i15, ob_some, nI_add, nI_clamp, zn_zib, zn_eq, zn_lt, zn_le, m2_lt, m2_le, lt_m2, le_m2, eq_m2, m2_eq, m1_lt, m1_le, lt_m1, le_m1, eq_m1, m1_eq, m1_m2, m2_m1, m2_lt_m1, bI_0, bI_1, bI_t, bI_f, bI_bo, nI0_bo, nI1_bo, if_true, if_false, ite_true, ite_false, Nat.zero_add, Nat.not_lt_zero, Nat.zero_le, not_true_eq_false, not_false_eq_true, or_false, false_or, true_or, or_true, and_true, true_and, Bool.false_eq_true, Bool.true_eq_false, reduceCtorEq, eq_self]
    · rw [z] at h1
      simp (disch := omega) only [b1, h1, ↓lm1, ↓lm2, i0, i1, i2, i3, i4, i5, i6, i7, i8, i9, i10, i12, i16, i20, i24, i31, i32, i44, i48, i57, i59, i63, i64, i74, i75, i90, i96, i97, i99, i100, i122, i139, i140, i144, i192, i200, i240, i255, i304, i309, i310, i311, i323, i324, i325, i899, i900, i975, i999, i5200, i4875, i65536, i65537, i15, ob_some, nI_add, nI_clamp, zn_zib, zn_eq, zn_lt, zn_le, m2_lt, m2_le, lt_m2, le_m2, eq_m2, m2_eq, m1_lt, m1_le, lt_m1, le_m1, eq_m1, m1_eq, m1_m2, m2_m1, m2_lt_m1, bI_0, bI_1, bI_t, bI_f, bI_bo, nI0_bo, nI1_bo, if_true, if_false, ite_true, ite_false, Nat.zero_add, Nat.not_lt_zero, Nat.zero_le, not_true_eq_false, not_false_eq_true, or_false, false_or, true_or, or_true, and_true, true_and, Bool.false_eq_true, Bool.true_eq_false, reduceCtorEq, eq_self]
  · have b1 : (6 : Int32) ≤ nI 6 := by decide
    unfold b_X10_runMany_4
    rw [if_pos b1]
theorem X6_run0 (h : ∀ w, w < 6 → Rows_stamps R w = m2) : f_X6_runningSlots R = some (orI (fun _ => false) 6) := by
  unfold f_X6_runningSlots
  refine Eq.trans ?_ (zl2_fold (f := b_X6_runningSlots_4 R) 6 (orI (fun _ => false)) _ (by omega) (fun k i hi => ?_) (fun k => ?_))
  · rfl
  · have b1 : ¬ 6 ≤ i := by omega
    have h1 : f_X6_runs R (nI i) = some (nI 0) := by
      unfold f_X6_runs
      simp (disch := omega) only [b1, h i hi, ↓lm1, ↓lm2, i0, i1, i2, i3, i4, i5, i6, i7, i8, i9, i10, i12, i16, i20, i24, i31, i32, i44, i48, i57, i59, i63, i64, i74, i75, i90, i96, i97, i99, i100, i122, i139, i140, i144, i192, i200, i240, i255, i304, i309, i310, i311, i323, i324, i325, i899, i900, i975, i999, i5200, i4875, i65536, i65537, i15, ob_some, nI_add, nI_clamp, zn_zib, zn_eq, zn_lt, zn_le, m2_lt, m2_le, lt_m2, le_m2, eq_m2, m2_eq, m1_lt, m1_le, lt_m1, le_m1, eq_m1, m1_eq, m1_m2, m2_m1, m2_lt_m1, bI_0, bI_1, bI_t, bI_f, bI_bo, nI0_bo, nI1_bo, if_true, if_false, ite_true, ite_false, Nat.zero_add, Nat.not_lt_zero, Nat.zero_le, not_true_eq_false, not_false_eq_true, or_false, false_or, true_or, or_true, and_true, true_and, Bool.false_eq_true, Bool.true_eq_false, reduceCtorEq, eq_self]
    unfold b_X6_runningSlots_4
    rw [orI_s]
    simp (disch := omega) only [b1, h1, ↓lm1, ↓lm2, i0, i1, i2, i3, i4, i5, i6, i7, i8, i9, i10, i12, i16, i20, i24, i31, i32, i44, i48, i57, i59, i63, i64, i74, i75, i90, i96, i97, i99, i100, i122, i139, i140, i144, i192, i200, i240, i255, i304, i309, i310, i311, i323, i324, i325, i899, i900, i975, i999, i5200, i4875, i65536, i65537, i15, ob_some, nI_add, nI_clamp, zn_zib, zn_eq, zn_lt, zn_le, m2_lt, m2_le, lt_m2, le_m2, eq_m2, m2_eq, m1_lt, m1_le, lt_m1, le_m1, eq_m1, m1_eq, m1_m2, m2_m1, m2_lt_m1, bI_0, bI_1, bI_t, bI_f, bI_bo, nI0_bo, nI1_bo, if_true, if_false, ite_true, ite_false, Nat.zero_add, Nat.not_lt_zero, Nat.zero_le, not_true_eq_false, not_false_eq_true, or_false, false_or, true_or, or_true, and_true, true_and, Bool.false_eq_true, Bool.true_eq_false, reduceCtorEq, eq_self]
  · have b1 : (6 : Int32) ≤ nI 6 := by decide
    unfold b_X6_runningSlots_4
    rw [if_pos b1]
end
