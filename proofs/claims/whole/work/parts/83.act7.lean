/-! acts: a new version -/
section
variable {R : SRows} {st st' : Nat → Int32} {n m c b : Nat}
theorem RO_ct {cN : Nat} {md : Nat → Nat} (hmd : ∀ i, i < cN → Rows_made R i = nI (md i) ∧ md i < 48 ∧ st (md i) ≠ nI 0) (ho : ∀ i j, i < j → j < cN → od st (md i) < od st (md j)) (hs : ∀ v, v < 48 → st v ≠ nI 0 → ∃ i, i < cN ∧ md i = v) : fb_ct (lv st) 48 = cN := by
  have h := ahead_ct (N := 48) (fun i hi => (hmd i hi).2.1) (fun i j h1 h2 e => by have := ho i j h1 h2; rw [e] at this; omega) (lv st) cN (Nat.le_refl _)
  have h2 : fb_ct (fun j => lv st (md j)) cN = cN := fb_ct_all.mpr (fun k hk => lv_ne.mpr (hmd k hk).2.2)
  rw [h2] at h
  refine Eq.trans (fb_ct_cong (fun v hv => ?_)) h
  cases hl : lv st v
  · rfl
  · obtain ⟨i, hi, e⟩ := hs v hv (lv_ne.mp hl)
    rw [an_iff.mpr ⟨i, hi, decide_eq_true e⟩]
    rfl
theorem RC_count (H : RC R st n m c) : Rows_count R = cI (lv st) 48 := by
  obtain ⟨cN, md, hc, hc2, hmd, ho, hs⟩ := RC_o H
  rw [cI_ct, RO_ct hmd ho hs, hc]
theorem X6_firstFreeNumber (H : RC R st n m c) : f_X6_firstFreeNumber R = some (eo (fi (fun v => !lv st v) 48)) := by
  have hm := WS_m (RC_W H)
  unfold f_X6_firstFreeNumber
  refine zl1_up 48 0 (fun i => ∀ k, k < i → (!lv st k) = false) _ (by omega) (by omega) (fun k hk => absurd hk (Nat.not_lt_zero k)) (fun k i hi hI => ?_) (fun k hI => ?_)
  · have h1 : ¬ 48 ≤ i := by omega
    unfold b_X6_firstFreeNumber_2
    rcases RC_v H hi with ⟨e, e2⟩ | ⟨r, hr, e, e2, -⟩
    · left
      simp (disch := omega) only [h1, e2, ↓lm1, ↓lm2, i0, i1, i2, i3, i4, i5, i6, i7, i8, i9, i10, i12, i16, i20, i24, i31, i32, i44, i48, i57, i59, i63, i64, i74, i75, i90, i96, i97, i99, i100, i122, i139, i140, i144, i192, i200, i240, i255, i304, i309, i310, i311, i323, i324, i325, i899, i900, i975, i999, i5200, i4875, i65536, i65537, i15, ob_some, nI_add, nI_clamp, zn_zib, zn_eq, zn_lt, zn_le, m2_lt, m2_le, lt_m2, le_m2, eq_m2, m2_eq, m1_lt, m1_le, lt_m1, le_m1, eq_m1, m1_eq, m1_m2, m2_m1, m2_lt_m1, bI_0, bI_1, bI_t, bI_f, bI_bo, nI0_bo, nI1_bo, if_true, if_false, ite_true, ite_false, Nat.zero_add, Nat.not_lt_zero, Nat.zero_le, not_true_eq_false, not_false_eq_true, or_false, false_or, true_or, or_true, and_true, true_and, Bool.false_eq_true, Bool.true_eq_false, reduceCtorEq, eq_self]
      rw [fi_eq (a := i) (by omega) (by rw [lv_f e]; rfl) hI, eo_s]
    · right
      refine ⟨fun k hk => ?_, by simp (disch := omega) only [h1, e2, ↓lm1, ↓lm2, i0, i1, i2, i3, i4, i5, i6, i7, i8, i9, i10, i12, i16, i20, i24, i31, i32, i44, i48, i57, i59, i63, i64, i74, i75, i90, i96, i97, i99, i100, i122, i139, i140, i144, i192, i200, i240, i255, i304, i309, i310, i311, i323, i324, i325, i899, i900, i975, i999, i5200, i4875, i65536, i65537, i15, ob_some, nI_add, nI_clamp, zn_zib, zn_eq, zn_lt, zn_le, m2_lt, m2_le, lt_m2, le_m2, eq_m2, m2_eq, m1_lt, m1_le, lt_m1, le_m1, eq_m1, m1_eq, m1_m2, m2_m1, m2_lt_m1, bI_0, bI_1, bI_t, bI_f, bI_bo, nI0_bo, nI1_bo, if_true, if_false, ite_true, ite_false, Nat.zero_add, Nat.not_lt_zero, Nat.zero_le, not_true_eq_false, not_false_eq_true, or_false, false_or, true_or, or_true, and_true, true_and, Bool.false_eq_true, Bool.true_eq_false, reduceCtorEq, eq_self]⟩
      by_cases z : k = i
      · rw [z, lv_t e (by omega)]
        rfl
      · exact hI k (by omega)
  · unfold b_X6_firstFreeNumber_2
    simp (disch := omega) only [Nat.le_refl, ↓lm1, ↓lm2, i0, i1, i2, i3, i4, i5, i6, i7, i8, i9, i10, i12, i16, i20, i24, i31, i32, i44, i48, i57, i59, i63, i64, i74, i75, i90, i96, i97, i99, i100, i122, i139, i140, i144, i192, i200, i240, i255, i304, i309, i310, i311, i323, i324, i325, i899, i900, i975, i999, i5200, i4875, i65536, i65537, i15, ob_some, nI_add, nI_clamp, zn_zib, zn_eq, zn_lt, zn_le, m2_lt, m2_le, lt_m2, le_m2, eq_m2, m2_eq, m1_lt, m1_le, lt_m1, le_m1, eq_m1, m1_eq, m1_m2, m2_m1, m2_lt_m1, bI_0, bI_1, bI_t, bI_f, bI_bo, nI0_bo, nI1_bo, if_true, if_false, ite_true, ite_false, Nat.zero_add, Nat.not_lt_zero, Nat.zero_le, not_true_eq_false, not_false_eq_true, or_false, false_or, true_or, or_true, and_true, true_and, Bool.false_eq_true, Bool.true_eq_false, reduceCtorEq, eq_self]
    rw [fi_eqn hI, eo_n]
theorem newS_at {r k u : Nat} {x : Int32} (hu : u < 48) : newS st r k x u u = nI (r + 1) ∧ newS st r k x u (48 + u) = nI k ∧ newS st r k x u (96 + u) = x ∧ newS st r k x u (144 + u) = m2 ∧ newS st r k x u (192 + u) = st 324 ∧ newS st r k x u 324 = st 324 + nI 1 ∧ ∀ i, i ≠ u → i ≠ 48 + u → i ≠ 96 + u → i ≠ 144 + u → i ≠ 192 + u → i ≠ 324 → newS st r k x u i = st i := by
  unfold newS
  refine ⟨?_, ?_, ?_, ?_, ?_, ?_, fun i h1 h2 h3 h4 h5 h6 => ?_⟩
  · rw [upd_ne (by omega), upd_ne (by omega), upd_ne (by omega), upd_ne (by omega), upd_ne (by omega), upd_eq]
  · rw [upd_ne (by omega), upd_ne (by omega), upd_ne (by omega), upd_ne (by omega), upd_eq]
  · rw [upd_ne (by omega), upd_ne (by omega), upd_ne (by omega), upd_eq]
  · rw [upd_ne (by omega), upd_ne (by omega), upd_eq]
  · rw [upd_ne (by omega), upd_eq]
  · rw [upd_eq]
  · rw [upd_ne h6, upd_ne h5, upd_ne h4, upd_ne h3, upd_ne h2, upd_ne h1]
theorem X6_makeVersion (H : RC R st n m c) (I : IS st n) (K : MK st b) (hb2 : b + 1 < 2 ^ 29) {u r k s : Nat} (hf : fi (fun v => !lv st v) 48 = some u) (hr : r < m) (hk : k ≤ 999) (hs : s < n) (h1s : st (240 + s) ≠ nI 0) : ∃ R', f_X6_makeVersion R (nI r) (nI k) (nI s) = some (nI u, R') ∧ RC R' (newS st r k (nI s) u) n m c ∧ IS (newS st r k (nI s) u) n ∧ MK (newS st r k (nI s) u) (b + 1) := by
  have W := RC_W H
  have hn := WS_n W
  have hm := WS_m W
  obtain ⟨hu, hu2, -⟩ := fi_some hf
  have hud : st u = nI 0 := by
    rcases WS_l W hu with e | ⟨q, hq, e⟩
    · exact e
    · rw [lv_t e (by omega)] at hu2
      cases hu2
  obtain ⟨cN, md, hc, hc2, hmd, ho, hsur⟩ := RC_o H
  have hct := RO_ct hmd ho hsur
  have hc48 : cN < 48 := by
    by_cases q : cN < 48
    · exact q
    · have e48 : fb_ct (lv st) 48 = 48 := by rw [hct]; omega
      have := fb_ct_all.mp e48 u hu
      rw [lv_f hud] at this
      cases this
  obtain ⟨kb, mk, hk1, hk2, hk3⟩ := K
  obtain ⟨a1, a2, a3, a4, a5, a6, g⟩ := newS_at (st := st) (r := r) (k := k) (x := nI s) hu
  have a6' : newS st r k (nI s) u 324 = nI (mk + 1) := by rw [a6, hk1, nI_add]
  have odu : od (newS st r k (nI s) u) u = mk := by
    unfold od
    rw [a5, hk1, nI_clamp (by omega)]
  have odv : ∀ v, v < 48 → v ≠ u → od (newS st r k (nI s) u) v = od st v := fun v hv hne => by
    unfold od
    rw [g _ (by omega) (by omega) (by omega) (by omega) (by omega) (by omega)]
  have W' : WS (newS st r k (nI s) u) n m := by
    refine ⟨W.1, by rw [g _ (by omega) (by omega) (by omega) (by omega) (by omega) (by omega)]; exact WS_x W, fun v hv => ?_, fun t ht => by rw [g _ (by omega) (by omega) (by omega) (by omega) (by omega) (by omega)]; exact WS_t W ht, fun w hw => by rw [g _ (by omega) (by omega) (by omega) (by omega) (by omega) (by omega)]; exact WS_w W hw⟩
    by_cases q : v = u
    · subst q
      exact ⟨.inr ⟨r, hr, a1⟩, ⟨k, hk, a2⟩, by rw [a3]; exact .inr ⟨s, hs, rfl⟩, by rw [a4]; exact .inl rfl, ⟨mk, by omega, by rw [a5, hk1]⟩⟩
    · exact WV_eq (g _ (by omega) (by omega) (by omega) (by omega) (by omega) (by omega)) (g _ (by omega) (by omega) (by omega) (by omega) (by omega) (by omega)) (g _ (by omega) (by omega) (by omega) (by omega) (by omega) (by omega)) (g _ (by omega) (by omega) (by omega) (by omega) (by omega) (by omega)) (g _ (by omega) (by omega) (by omega) (by omega) (by omega) (by omega)) (WS_v W hv)
  refine ⟨mkRows (Rows_ring R) (Rows_rowCount R) (Rows_crash R) (Rows_nextStamp R) (nI (cN + 1)) (Rows_lostSlots R) (Rows_runningStamps R) (Rows_doneStamps R) (Rows_goneStamps R) (Rows_stamps R) (Rows_held R) (upd (Rows_rowsOf R) u (nI r)) (upd (Rows_values R) u (nI k)) (upd (Rows_froms R) u (nI s)) (upd (Rows_tills R) u m2) (upd (Rows_made R) cN (nI u)), ?_, ⟨W', RC_c H, (kRows_ring).trans (RC_ring H), (kRows_rowCount).trans (RC_rc H), (kRows_crash).trans (RC_cr H), ?_, fun t ht => ?_, fun w hw => ?_, fun v hv => ?_, ?_⟩, ?_, ?_⟩
  · unfold f_X6_makeVersion
    have q1 : ¬ nI u = -2 := by
      have : ¬ nI u = m2 := by rw [eq_m2 (by omega)]; exact id
      exact this
    have q2 : nI cN < 48 := by
      have : nI cN < nI 48 := by rw [zn_lt (by omega) (by omega)]; exact hc48
      exact this
    rw [X6_firstFreeNumber H, hf, ob_some, eo_s, if_neg q1, hc, if_pos q2]
    simp (disch := omega) only [zn_zib, nI_clamp, if_true]
    rw [nI_1]
    rfl
  · rw [kRows_nextStamp, g _ (by omega) (by omega) (by omega) (by omega) (by omega) (by omega)]
    exact RC_nx H
  · unfold RT
    rw [g _ (by omega) (by omega) (by omega) (by omega) (by omega) (by omega)]
    exact RC_t H ht
  · unfold RW
    rw [g _ (by omega) (by omega) (by omega) (by omega) (by omega) (by omega), g 310 (by omega) (by omega) (by omega) (by omega) (by omega) (by omega)]
    rcases RC_w H hw with a | ⟨z, hz, b1, b2, b3, b4⟩
    · exact .inl a
    · exact .inr ⟨z, hz, b1, b2, fun t ht => by rw [sb_eq (g _ (by omega) (by omega) (by omega) (by omega) (by omega) (by omega)) (g _ (by omega) (by omega) (by omega) (by omega) (by omega) (by omega)) ht]; exact b3 t ht, b4⟩
  · by_cases q : v = u
    · subst q
      exact .inr ⟨r, hr, a1, by rw [kRows_rowsOf, upd_eq], by rw [kRows_values, upd_eq, a2], by rw [kRows_froms, upd_eq, a3], by rw [kRows_tills, upd_eq, a4]⟩
    · exact RV_eq (R := R) (g _ (by omega) (by omega) (by omega) (by omega) (by omega) (by omega)) (g _ (by omega) (by omega) (by omega) (by omega) (by omega) (by omega)) (g _ (by omega) (by omega) (by omega) (by omega) (by omega) (by omega)) (g _ (by omega) (by omega) (by omega) (by omega) (by omega) (by omega)) (by rw [kRows_rowsOf, upd_ne q]) (by rw [kRows_values, upd_ne q]) (by rw [kRows_froms, upd_ne q]) (by rw [kRows_tills, upd_ne q]) (RC_v H hv)
  · have gl : ∀ v, v < 48 → v ≠ u → newS st r k (nI s) u v = st v := fun v hv hne => g _ (by omega) (by omega) (by omega) (by omega) (by omega) (by omega)
    have hne : ∀ i, i < cN → md i ≠ u := fun i hi z => (hmd i hi).2.2 (by rw [z]; exact hud)
    refine ⟨cN + 1, fun i => if i = cN then u else md i, rfl, by omega, fun i hi => ?_, fun i j h1 h2 => ?_, fun v hv hl => ?_⟩
    · by_cases q : i = cN
      · subst q
        simp only [if_true]
        exact ⟨by rw [kRows_made, upd_eq], hu, by rw [a1, ne_eq, zn_eq (by omega) (by omega)]; omega⟩
      · simp only [q, if_false]
        obtain ⟨b1, b2, b3⟩ := hmd i (by omega)
        exact ⟨by rw [kRows_made, upd_ne q]; exact b1, b2, by rw [gl _ b2 (hne i (by omega))]; exact b3⟩
    · have hi1 : i ≠ cN := by omega
      obtain ⟨b1, b2, b3⟩ := hmd i (by omega)
      simp only [hi1, if_false]
      by_cases q : j = cN
      · simp only [q, if_true]
        rw [odu, odv _ b2 (hne i (by omega))]
        exact hk3 _ b2 b3
      · simp only [q, if_false]
        rw [odv _ b2 (hne i (by omega)), odv _ (hmd j (by omega)).2.1 (hne j (by omega))]
        exact ho i j h1 (by omega)
    · by_cases q : v = u
      · exact ⟨cN, by omega, by simp only [if_true]; exact q.symm⟩
      · rw [gl v hv q] at hl
        obtain ⟨i, hi, e⟩ := hsur v hv hl
        exact ⟨i, by omega, by simp only [show i ≠ cN by omega, if_false]; exact e⟩
  · refine IS_frame I (fun i h1 h2 => g _ (by omega) (by omega) (by omega) (by omega) (by omega) (by omega)) (fun v hv t ht e1 e2 => ?_) (by omega)
    by_cases q : v = u
    · rw [q, a3, zn_eq (by omega) (by omega)] at e2
      rw [← e2]
      exact h1s
    · exact I.2.2.2.2.1 v hv t ht (by rw [← g v (by omega) (by omega) (by omega) (by omega) (by omega) (by omega)]; exact e1) (by rw [← g (96 + v) (by omega) (by omega) (by omega) (by omega) (by omega) (by omega)]; exact e2)
  · refine ⟨hb2, mk + 1, a6', by omega, fun v hv hl => ?_⟩
    by_cases q : v = u
    · rw [q, odu]
      omega
    · rw [odv v hv q]
      rw [g v (by omega) (by omega) (by omega) (by omega) (by omega) (by omega)] at hl
      have := hk3 v hv hl
      omega
end
