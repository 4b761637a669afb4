section
variable {R : SRows} {S : SMo} {st : Nat → Int32} {n m c b : Nat}
theorem okS_f (W : WS st n m) {i v : Nat} (hv : v < 48) : okS n (frS st n i (96 + v)) := by
  rw [frS_f hv]
  split
  · exact .inl rfl
  · exact WS_f W hv
theorem okS_t (W : WS st n m) {i v : Nat} (hv : v < 48) (hi : i ≤ 48) : okS n (frS st n i (144 + v)) := by
  rw [frS_t hi]
  split
  · exact .inl rfl
  · exact WS_d W hv
theorem frS_WS (W : WS st n m) : WS (frS st n 48) n m := by
  refine ⟨W.1, by rw [frS_out (by omega) (by omega)]; exact WS_x W, fun v hv => ?_, fun t ht => by rw [frS_out (by omega) (by omega)]; exact WS_t W ht, fun w hw => by rw [frS_out (by omega) (by omega)]; exact WS_w W hw⟩
  obtain ⟨a1, a2, a3, a4, a5⟩ := WS_v W hv
  unfold WV
  rw [frS_out (j := v) (by omega) (by omega), frS_out (j := 48 + v) (by omega) (by omega), frS_out (j := 192 + v) (by omega) (by omega)]
  exact ⟨a1, a2, okS_f W hv, okS_t W hv (by omega), a5⟩
theorem frS_od {v : Nat} : od (frS st n 48) v = od st v := by
  unfold od
  rw [frS_out (by omega) (by omega)]
def frR (R : SRows) (st : Nat → Int32) (n i : Nat) : SRows := mkRows (Rows_ring R) (Rows_rowCount R) (Rows_crash R) (Rows_nextStamp R) (Rows_count R) (Rows_lostSlots R) (Rows_runningStamps R) (Rows_doneStamps R) (Rows_goneStamps R) (Rows_stamps R) (Rows_held R) (Rows_rowsOf R) (Rows_values R) (fun v => if v < i ∧ v < 48 ∧ fz st n v = true then m2 else Rows_froms R v) (fun v => if v < i ∧ v < 48 ∧ lg st v = true then m2 else Rows_tills R v) (Rows_made R)
theorem X6_freezeAll (H : RC R st n m c) (I : IS st n) (K : MK st b) : ∃ R', f_X6_freezeAll R = some (cI (fun v => fz st n v || lg st v) 48, R') ∧ RC R' (frS st n 48) n m c ∧ IS (frS st n 48) n ∧ MK (frS st n 48) b := by
  have W := RC_W H
  have hn := WS_n W
  have hm := WS_m W
  refine ⟨frR R st n 48, ?_, ⟨frS_WS W, RC_c H, (kRows_ring).trans (RC_ring H), (kRows_rowCount).trans (RC_rc H), (kRows_crash).trans (RC_cr H), ?_, fun t ht => ?_, fun w hw => ?_, fun v hv => ?_, ?_⟩, ?_, ?_⟩
  · unfold f_X6_freezeAll
    rw [lm2, X6_settledWithout H, ob_some]
    have e0 : frR R st n 0 = R := by
      unfold frR
      have a1 : (fun v => if v < 0 ∧ v < 48 ∧ fz st n v = true then m2 else Rows_froms R v) = Rows_froms R := by
        funext v
        rw [if_neg (by omega)]
      have a2 : (fun v => if v < 0 ∧ v < 48 ∧ lg st v = true then m2 else Rows_tills R v) = Rows_tills R := by
        funext v
        rw [if_neg (by omega)]
      rw [a1, a2]
      rfl
    refine Eq.trans ?_ (zl4_fold (f := b_X6_freezeAll_12) 48 (fun i => frR R st n i) (fun _ => Rows_doneStamps R &&& ot n (hz st n m2)) (cI (fun v => fz st n v || lg st v)) _ (by omega) (fun k i hi => ?_) (fun k => ?_))
    · rw [e0]
      rfl
    · have h1 : ¬ 48 ≤ i := by omega
      have hvs : f_X6_isVersion (frR R st n i) (nI i) = some (bI (lv st i)) := X6_isVersion H hi
      have hf0 : Rows_froms (frR R st n i) i = Rows_froms R i := by
        show (if i < i ∧ i < 48 ∧ fz st n i = true then m2 else Rows_froms R i) = Rows_froms R i
        rw [if_neg (by omega)]
      have ht0 : Rows_tills (frR R st n i) i = Rows_tills R i := by
        show (if i < i ∧ i < 48 ∧ lg st i = true then m2 else Rows_tills R i) = Rows_tills R i
        rw [if_neg (by omega)]
      have hfr : f_X6_fromOf (frR R st n i) (nI i) = some (frI st i) := by
        rw [← X6_fromOf H hi]
        unfold f_X6_fromOf
        rw [hvs, X6_isVersion H hi]
        simp (disch := omega) only [hf0, ↓lm1, ↓lm2, i0, i1, i2, i3, i4, i5, i6, i7, i8, i9, i10, i12, i16, i20, i24, i31, i32, i44, i48, i57, i59, i63, i64, i74, i75, i90, i96, i97, i99, i100, i122, i139, i140, i144, i192, i200, i240, i255, i304, i309, i310, i311, i323, i324, i325, i899, i900, i975, i999, i5200, i4875, i65536, i65537, i15, ob_some, nI_add, nI_clamp, zn_zib, zn_eq, zn_lt, zn_le, m2_lt, m2_le, lt_m2, le_m2, eq_m2, m2_eq, m1_lt, m1_le, lt_m1, le_m1, eq_m1, m1_eq, m1_m2, m2_m1, m2_lt_m1, bI_0, bI_1, bI_t, bI_f, bI_bo, nI0_bo, nI1_bo, if_true, if_false, ite_true, ite_false, Nat.zero_add, Nat.not_lt_zero, Nat.zero_le, not_true_eq_false, not_false_eq_true, or_false, false_or, true_or, or_true, and_true, true_and, Bool.false_eq_true, Bool.true_eq_false, reduceCtorEq, eq_self]
      have htl : f_X6_tillOf (frR R st n i) (nI i) = some (tlI st i) := by
        rw [← X6_tillOf H hi]
        unfold f_X6_tillOf
        rw [hvs, X6_isVersion H hi]
        simp (disch := omega) only [ht0, ↓lm1, ↓lm2, i0, i1, i2, i3, i4, i5, i6, i7, i8, i9, i10, i12, i16, i20, i24, i31, i32, i44, i48, i57, i59, i63, i64, i74, i75, i90, i96, i97, i99, i100, i122, i139, i140, i144, i192, i200, i240, i255, i304, i309, i310, i311, i323, i324, i325, i899, i900, i975, i999, i5200, i4875, i65536, i65537, i15, ob_some, nI_add, nI_clamp, zn_zib, zn_eq, zn_lt, zn_le, m2_lt, m2_le, lt_m2, le_m2, eq_m2, m2_eq, m1_lt, m1_le, lt_m1, le_m1, eq_m1, m1_eq, m1_m2, m2_m1, m2_lt_m1, bI_0, bI_1, bI_t, bI_f, bI_bo, nI0_bo, nI1_bo, if_true, if_false, ite_true, ite_false, Nat.zero_add, Nat.not_lt_zero, Nat.zero_le, not_true_eq_false, not_false_eq_true, or_false, false_or, true_or, or_true, and_true, true_and, Bool.false_eq_true, Bool.true_eq_false, reduceCtorEq, eq_self]
      have uf : ∀ i, (fun v => if v < i + 1 ∧ v < 48 ∧ fz st n v = true then m2 else Rows_froms R v) = if i < 48 ∧ fz st n i = true then upd (fun v => if v < i ∧ v < 48 ∧ fz st n v = true then m2 else Rows_froms R v) i m2 else (fun v => if v < i ∧ v < 48 ∧ fz st n v = true then m2 else Rows_froms R v) := fun i => by
        funext v
        by_cases q : v = i
        · subst q
          by_cases q2 : v < 48 ∧ fz st n v = true
          · rw [if_pos ⟨by omega, q2⟩, if_pos q2, upd_eq]
          · rw [if_neg (fun z => q2 z.2), if_neg q2, if_neg (fun z => q2 z.2)]
        · have a : (v < i + 1 ∧ v < 48 ∧ fz st n v = true) ↔ (v < i ∧ v < 48 ∧ fz st n v = true) := ⟨fun z => ⟨by omega, z.2⟩, fun z => ⟨by omega, z.2⟩⟩
          simp only [a]
          by_cases z : i < 48 ∧ fz st n i = true
          · rw [if_pos z, upd_ne q]
          · rw [if_neg z]
      have ut : ∀ i, (fun v => if v < i + 1 ∧ v < 48 ∧ lg st v = true then m2 else Rows_tills R v) = if i < 48 ∧ lg st i = true then upd (fun v => if v < i ∧ v < 48 ∧ lg st v = true then m2 else Rows_tills R v) i m2 else (fun v => if v < i ∧ v < 48 ∧ lg st v = true then m2 else Rows_tills R v) := fun i => by
        funext v
        by_cases q : v = i
        · subst q
          by_cases q2 : v < 48 ∧ lg st v = true
          · rw [if_pos ⟨by omega, q2⟩, if_pos q2, upd_eq]
          · rw [if_neg (fun z => q2 z.2), if_neg q2, if_neg (fun z => q2 z.2)]
        · have a : (v < i + 1 ∧ v < 48 ∧ lg st v = true) ↔ (v < i ∧ v < 48 ∧ lg st v = true) := ⟨fun z => ⟨by omega, z.2⟩, fun z => ⟨by omega, z.2⟩⟩
          simp only [a]
          by_cases z : i < 48 ∧ lg st i = true
          · rw [if_pos z, upd_ne q]
          · rw [if_neg z]
      have hg : Rows_goneStamps (frR R st n i) = Rows_goneStamps R := rfl
      have hfz : has (lb (Rows_doneStamps R &&& ot n (hz st n m2))) (frI st i) = fz st n i := has_cong (fun s hs => lb_stl H m2 hs) (by omega) (frI_ok W hi)
      have hlg : has (lb (Rows_goneStamps R)) (tlI st i) = lg st i := has_cong (fun s hs => RC_gn H (by omega : s < 64)) (by omega) (tlI_ok W hi)
      unfold b_X6_freezeAll_12 b_X6_freezeAll_74
      rw [cI_s]
      have e1 : frR R st n (i + 1) = mkRows (Rows_ring R) (Rows_rowCount R) (Rows_crash R) (Rows_nextStamp R) (Rows_count R) (Rows_lostSlots R) (Rows_runningStamps R) (Rows_doneStamps R) (Rows_goneStamps R) (Rows_stamps R) (Rows_held R) (Rows_rowsOf R) (Rows_values R) (fun v => if v < i + 1 ∧ v < 48 ∧ fz st n v = true then m2 else Rows_froms R v) (fun v => if v < i + 1 ∧ v < 48 ∧ lg st v = true then m2 else Rows_tills R v) (Rows_made R) := rfl
      rw [e1, uf i, ut i]
      simp (disch := omega) only [hfr, htl, hg, hol_ok (by omega : n ≤ 64) _ (frI_ok W hi), hol_ok (by omega : n ≤ 64) _ (tlI_ok W hi), hfz, hlg, h1, hi, ↓lm1, ↓lm2, i0, i1, i2, i3, i4, i5, i6, i7, i8, i9, i10, i12, i16, i20, i24, i31, i32, i44, i48, i57, i59, i63, i64, i74, i75, i90, i96, i97, i99, i100, i122, i139, i140, i144, i192, i200, i240, i255, i304, i309, i310, i311, i323, i324, i325, i899, i900, i975, i999, i5200, i4875, i65536, i65537, i15, ob_some, nI_add, nI_clamp, zn_zib, zn_eq, zn_lt, zn_le, m2_lt, m2_le, lt_m2, le_m2, eq_m2, m2_eq, m1_lt, m1_le, lt_m1, le_m1, eq_m1, m1_eq, m1_m2, m2_m1, m2_lt_m1, bI_0, bI_1, bI_t, bI_f, bI_bo, nI0_bo, nI1_bo, if_true, if_false, ite_true, ite_false, Nat.zero_add, Nat.not_lt_zero, Nat.zero_le, not_true_eq_false, not_false_eq_true, or_false, false_or, true_or, or_true, and_true, true_and, Bool.false_eq_true, Bool.true_eq_false, reduceCtorEq, eq_self]
      cases fz st n i <;> cases lg st i <;> simp (disch := omega) only [add_n0, Bool.or_self, Bool.or_true, Bool.or_false, ↓lm1, ↓lm2, i0, i1, i2, i3, i4, i5, i6, i7, i8, i9, i10, i12, i16, i20, i24, i31, i32, i44, i48, i57, i59, i63, i64, i74, i75, i90, i96, i97, i99, i100, i122, i139, i140, i144, i192, i200, i240, i255, i304, i309, i310, i311, i323, i324, i325, i899, i900, i975, i999, i5200, i4875, i65536, i65537, i15, ob_some, nI_add, nI_clamp, zn_zib, zn_eq, zn_lt, zn_le, m2_lt, m2_le, lt_m2, le_m2, eq_m2, m2_eq, m1_lt, m1_le, lt_m1, le_m1, eq_m1, m1_eq, m1_m2, m2_m1, m2_lt_m1, bI_0, bI_1, bI_t, bI_f, bI_bo, nI0_bo, nI1_bo, if_true, if_false, ite_true, ite_false, Nat.zero_add, Nat.not_lt_zero, Nat.zero_le, not_true_eq_false, not_false_eq_true, or_false, false_or, true_or, or_true, and_true, true_and, Bool.false_eq_true, Bool.true_eq_false, reduceCtorEq, eq_self] <;> rfl
    · unfold b_X6_freezeAll_12
      simp (disch := omega) only [Nat.le_refl, ↓lm1, ↓lm2, i0, i1, i2, i3, i4, i5, i6, i7, i8, i9, i10, i12, i16, i20, i24, i31, i32, i44, i48, i57, i59, i63, i64, i74, i75, i90, i96, i97, i99, i100, i122, i139, i140, i144, i192, i200, i240, i255, i304, i309, i310, i311, i323, i324, i325, i899, i900, i975, i999, i5200, i4875, i65536, i65537, i15, ob_some, nI_add, nI_clamp, zn_zib, zn_eq, zn_lt, zn_le, m2_lt, m2_le, lt_m2, le_m2, eq_m2, m2_eq, m1_lt, m1_le, lt_m1, le_m1, eq_m1, m1_eq, m1_m2, m2_m1, m2_lt_m1, bI_0, bI_1, bI_t, bI_f, bI_bo, nI0_bo, nI1_bo, if_true, if_false, ite_true, ite_false, Nat.zero_add, Nat.not_lt_zero, Nat.zero_le, not_true_eq_false, not_false_eq_true, or_false, false_or, true_or, or_true, and_true, true_and, Bool.false_eq_true, Bool.true_eq_false, reduceCtorEq, eq_self]
  · show Rows_nextStamp R = _
    rw [frS_out (by omega) (by omega)]
    exact RC_nx H
  · unfold RT
    rw [frS_out (by omega) (by omega)]
    exact RC_t H ht
  · unfold RW
    rw [frS_out (by omega) (by omega), frS_out (j := 310) (by omega) (by omega)]
    rcases RC_w H hw with a | ⟨z, hz, a1, a2, a3, a4⟩
    · exact .inl a
    · exact .inr ⟨z, hz, a1, a2, fun t ht => by rw [sb_eq (frS_out (by omega) (by omega)) (frS_out (by omega) (by omega)) ht]; exact a3 t ht, a4⟩
  · unfold RV
    rw [frS_out (j := v) (by omega) (by omega), frS_out (j := 48 + v) (by omega) (by omega), frS_f hv, frS_t (by omega)]
    rcases RC_v H hv with a | ⟨r, hr, a1, a2, a3, a4, a5⟩
    · exact .inl a
    · refine .inr ⟨r, hr, a1, a2, a3, ?_, ?_⟩
      · show (if v < 48 ∧ v < 48 ∧ fz st n v = true then m2 else Rows_froms R v) = _
        rw [a4]
        simp only [hv, true_and]
      · show (if v < 48 ∧ v < 48 ∧ lg st v = true then m2 else Rows_tills R v) = _
        rw [a5]
        simp only [hv, true_and]
  · exact RO_eq (R := R) (fun v hv => frS_out (by omega) (by omega)) (fun v hv => frS_out (by omega) (by omega)) rfl rfl (RC_o H)
  · refine IS_frame I (fun i h1 h2 => frS_out (by omega) (by omega)) (fun v hv s hs e1 e2 => ?_) (by omega)
    rw [frS_out (by omega) (by omega)] at e1
    rw [frS_f hv] at e2
    split at e2
    · rw [m2_eq (by omega)] at e2
      cases e2
    · exact I.2.2.2.2.1 v hv s hs e1 e2
  · obtain ⟨kb, k, h1, h2, h3⟩ := K
    exact ⟨kb, k, by rw [frS_out (by omega) (by omega)]; exact h1, h2, fun v hv hl => by rw [frS_od]; exact h3 v hv (by rw [frS_out (by omega) (by omega)] at hl; exact hl)⟩
end
