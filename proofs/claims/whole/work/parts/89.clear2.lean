section
variable {R : SRows} {S : SMo} {st : Nat → Int32} {n m c b : Nat}
theorem clS_WS (W : WS st n m) : WS (clS st n) n m := by
  refine ⟨W.1, by rw [clS_out (by omega)]; exact WS_x W, fun v hv => ?_, fun t ht => by rw [clS_out (by omega)]; exact WS_t W ht, fun w hw => by rw [clS_out (by omega)]; exact WS_w W hw⟩
  obtain ⟨a1, a2, a3, a4, a5⟩ := WS_v W hv
  unfold WV
  rw [clS_out (i := 48 + v) (by omega), clS_out (i := 96 + v) (by omega), clS_out (i := 144 + v) (by omega), clS_out (i := 192 + v) (by omega)]
  refine ⟨?_, a2, a3, a4, a5⟩
  cases hd : dp st n v
  · rw [clS_l hd]
    exact a1
  · exact .inl (clS_d hv hd)
theorem clS_live {v : Nat} (hv : v < 48) : clS st n v ≠ nI 0 ↔ st v ≠ nI 0 ∧ dp st n v = false := by
  cases hd : dp st n v
  · rw [clS_l hd]
    exact ⟨fun h => ⟨h, rfl⟩, fun h => h.1⟩
  · rw [clS_d hv hd]
    exact ⟨fun h => absurd rfl h, fun h => absurd h.2 (by decide)⟩
theorem clS_od {v : Nat} : od (clS st n) v = od st v := by
  unfold od
  rw [clS_out (by omega)]
theorem X6_clearDead (H : RC R st n m c) (I : IS st n) (K : MK st b) : ∃ R', f_X6_clearDead R = some (cI (dp st n) 48, R') ∧ RC R' (clS st n) n m c ∧ IS (clS st n) n ∧ MK (clS st n) b := by
  have W := RC_W H
  have hn := WS_n W
  have hm := WS_m W
  obtain ⟨cN, md, hc, hc2, hmd, ho, hsur⟩ := RC_o H
  have hct := RO_ct hmd ho hsur
  have inj : ∀ i j, i < cN → j < cN → md i = md j → i = j := fun i j hi hj e => by
    by_cases q : i < j
    · have := ho i j q hj
      rw [e] at this
      omega
    · by_cases q2 : j < i
      · have := ho j i q2 hi
        rw [e] at this
        omega
      · omega
  have hI : IS (clS st n) n := IS_frame I (fun i h1 h2 => clS_out (by omega)) (fun v hv s hs e1 e2 => I.2.2.2.2.1 v hv s hs ((clS_live hv).mp e1).1 (by rw [clS_out (by omega)] at e2; exact e2)) (by omega)
  have hK : MK (clS st n) b := by
    obtain ⟨kb, k, h1, h2, h3⟩ := K
    exact ⟨kb, k, by rw [clS_out (by omega)]; exact h1, h2, fun v hv hl => by rw [clS_od]; exact h3 v hv ((clS_live hv).mp hl).1⟩
  have base : ∀ (rws : Nat → Int32) (mde : Nat → Int32) (kp : Nat) (e : Nat → Nat), kp ≤ cN → (∀ v, v < 48 → rws v = if dp st n v = true then m2 else Rows_rowsOf R v) → (∀ j, j < kp → mde j = nI (e j) ∧ (∃ q, q < cN ∧ md q = e j) ∧ dp st n (e j) = false) → (∀ i j, i < j → j < kp → od st (e i) < od st (e j)) → (∀ q, q < cN → dp st n (md q) = false → ∃ j, j < kp ∧ e j = md q) → RC (mkRows (Rows_ring R) (Rows_rowCount R) (Rows_crash R) (Rows_nextStamp R) (nI kp) (Rows_lostSlots R) (Rows_runningStamps R) (Rows_doneStamps R) (Rows_goneStamps R) (Rows_stamps R) (Rows_held R) rws (Rows_values R) (Rows_froms R) (Rows_tills R) mde) (clS st n) n m c := by
    intro rws mde kp e hkp h1 h2 h3 h4
    refine ⟨clS_WS W, RC_c H, (kRows_ring).trans (RC_ring H), (kRows_rowCount).trans (RC_rc H), (kRows_crash).trans (RC_cr H), ?_, fun t ht => ?_, fun w hw => ?_, fun v hv => ?_, ?_⟩
    · rw [kRows_nextStamp, clS_out (by omega)]
      exact RC_nx H
    · unfold RT
      rw [clS_out (by omega)]
      exact RC_t H ht
    · unfold RW
      rw [clS_out (by omega), clS_out (i := 310) (by omega)]
      rcases RC_w H hw with a | ⟨z, hz, a1, a2, a3, a4⟩
      · exact .inl a
      · exact .inr ⟨z, hz, a1, a2, fun t ht => by rw [sb_eq (clS_out (by omega)) (clS_out (by omega)) ht]; exact a3 t ht, a4⟩
    · unfold RV
      rw [clS_out (i := 48 + v) (by omega), clS_out (i := 96 + v) (by omega), clS_out (i := 144 + v) (by omega), kRows_rowsOf, h1 v hv]
      cases hd : dp st n v
      · rw [clS_l hd]
        exact RC_v H hv
      · rw [clS_d hv hd, if_pos rfl]
        exact .inl ⟨rfl, rfl⟩
    · refine ⟨kp, e, rfl, by omega, fun i hi => ?_, fun i j a1 a2 => by rw [clS_od, clS_od]; exact h3 i j a1 a2, fun v hv hl => ?_⟩
      · obtain ⟨a1, ⟨q, hq, a2⟩, a3⟩ := h2 i hi
        have hv := (hmd q hq).2.1
        rw [a2] at hv
        refine ⟨a1, hv, (clS_live hv).mpr ⟨?_, a3⟩⟩
        rw [← a2]
        exact (hmd q hq).2.2
      · have hl2 := (clS_live hv).mp hl
        obtain ⟨i, hi, e2⟩ := hsur v hv hl2.1
        obtain ⟨j, hj, e3⟩ := h4 i hi (by rw [e2]; exact hl2.2)
        exact ⟨j, hj, by rw [e3, e2]⟩
  have hsum : ∀ kp (R' : SRows), RC R' (clS st n) n m c → Rows_count R' = nI kp → kp ≤ cN → nI cN - nI kp = cI (dp st n) 48 := fun kp R' h e hk => by
    have e2 := RC_count h
    rw [e, cI_ct] at e2
    have l1 := fb_ct_le (lv (clS st n)) 48
    rw [zn_eq (by omega) (by omega)] at e2
    have e3 : fb_ct (lv st) 48 = fb_ct (dp st n) 48 + fb_ct (lv (clS st n)) 48 := by
      have h4 := fb_ct_or (p := dp st n) (q := lv (clS st n)) (n := 48) (fun v hv z => by
        have := (clS_live (n := n) hv).mp (lv_ne.mp z.2)
        rw [this.2] at z
        exact absurd z.1 (by decide))
      rw [← h4]
      refine fb_ct_cong (fun v hv => ?_)
      cases hd : dp st n v
      · unfold lv
        rw [clS_l hd]
        rfl
      · have : lv st v = true := by
          unfold dp at hd
          rw [Bool.and_eq_true] at hd
          exact hd.1
        rw [this]
        rfl
    rw [cI_ct, pk_sub hk]
    congr 1
    omega
  have main : ∃ r, f_X6_clearDead R = some r ∧ (r.1 = cI (dp st n) 48 ∧ RC r.2 (clS st n) n m c) := by
    unfold f_X6_clearDead
    rw [lm2, X6_settledWithout H, ob_some, hc]
    refine zl5_ex cN 0 (fun i St v1 v3 v4 => v1 = (Rows_doneStamps R &&& ot n (hz st n m2)) ∧ v3 = nI cN ∧ ∃ (kp : Nat) (e : Nat → Nat) (rws mde : Nat → Int32), v4 = nI kp ∧ kp ≤ i ∧ St = mkRows (Rows_ring R) (Rows_rowCount R) (Rows_crash R) (Rows_nextStamp R) (Rows_count R) (Rows_lostSlots R) (Rows_runningStamps R) (Rows_doneStamps R) (Rows_goneStamps R) (Rows_stamps R) (Rows_held R) rws (Rows_values R) (Rows_froms R) (Rows_tills R) mde ∧ (∀ v, v < 48 → rws v = if (an (fun j => decide (md j = v)) i && dp st n v) = true then m2 else Rows_rowsOf R v) ∧ (∀ j, j < kp → mde j = nI (e j) ∧ (∃ q, q < i ∧ md q = e j) ∧ dp st n (e j) = false) ∧ (∀ i j, i < j → j < kp → od st (e i) < od st (e j)) ∧ (∀ q, q < i → dp st n (md q) = false → ∃ j, j < kp ∧ e j = md q) ∧ (∀ j, i ≤ j → j < cN → mde j = nI (md j))) _ (by omega) (by omega) ⟨rfl, rfl, 0, md, Rows_rowsOf R, Rows_made R, rfl, by omega, rfl, fun v hv => rfl, fun j hj => absurd hj (Nat.not_lt_zero j), fun i j _ hj => absurd hj (Nat.not_lt_zero j), fun q hq => absurd hq (Nat.not_lt_zero q), fun j _ hj => (hmd j hj).1⟩ ?_ ?_
    · rintro k i St v1 v3 v4 hi ⟨rfl, rfl, kp, e, rws, mde, rfl, hkp, rfl, h1, h2, h3, h4, h5⟩
      right
      obtain ⟨b1, b2, b3⟩ := hmd i hi
      have q1 : ¬ cN ≤ i := by omega
      have q48 : ¬ 48 ≤ i := by omega
      have hnot : an (fun j => decide (md j = md i)) i = false := by
        cases h : an (fun j => decide (md j = md i)) i
        · rfl
        · obtain ⟨j, hj, e2⟩ := an_iff.mp h
          rw [decide_eq_true_eq] at e2
          have := inj j i (by omega) hi e2
          omega
      obtain ⟨r, hr, er⟩ : ∃ r, r < m ∧ Rows_rowsOf R (md i) = nI r := by
        rcases RC_v H b2 with ⟨a, -⟩ | ⟨r, hr, -, a, -⟩
        · exact absurd a b3
        · exact ⟨r, hr, a⟩
      have frs : Rows_froms R (md i) = st (96 + md i) ∧ Rows_tills R (md i) = st (144 + md i) := by
        rcases RC_v H b2 with ⟨a, -⟩ | ⟨r, hr, -, -, -, a1, a2⟩
        · exact absurd a b3
        · exact ⟨a1, a2⟩
      have hgen := X6_isDead_gen (n := n) (R' := mkRows (Rows_ring R) (Rows_rowCount R) (Rows_crash R) (Rows_nextStamp R) (Rows_count R) (Rows_lostSlots R) (Rows_runningStamps R) (Rows_doneStamps R) (Rows_goneStamps R) (Rows_stamps R) (Rows_held R) rws (Rows_values R) (Rows_froms R) (Rows_tills R) mde) (v := md i) (r := r) (by omega) b2 (by omega) (by rw [kRows_rowsOf, h1 _ b2, hnot, Bool.false_and, if_neg (by decide)]; exact er) frs.1 frs.2 (WS_f W b2) (WS_d W b2) (Rows_goneStamps R) (Rows_doneStamps R &&& ot n (hz st n m2))
      have hdp : (has (lb (Rows_goneStamps R)) (st (96 + md i)) || has (lb (Rows_doneStamps R &&& ot n (hz st n m2))) (st (144 + md i))) = dp st n (md i) := by
        unfold dp dd
        rw [lv_ne.mpr b3, frI_l (lv_ne.mpr b3), tlI_l (lv_ne.mpr b3), Bool.true_and, has_cong (fun s hs => RC_gn H (by omega : s < 64)) (by omega) (WS_f W b2), has_cong (fun s hs => lb_stl H m2 hs) (by omega) (WS_d W b2)]
      rw [hdp] at hgen
      have hmade : f_X6_madeAt (mkRows (Rows_ring R) (Rows_rowCount R) (Rows_crash R) (Rows_nextStamp R) (Rows_count R) (Rows_lostSlots R) (Rows_runningStamps R) (Rows_doneStamps R) (Rows_goneStamps R) (Rows_stamps R) (Rows_held R) rws (Rows_values R) (Rows_froms R) (Rows_tills R) mde) (nI i) = some (nI (md i)) := by
        unfold f_X6_madeAt
        simp (disch := omega) only [kRows_count, kRows_made, hc, q1, q48, h5 i (Nat.le_refl _) hi, ↓lm1, ↓lm2, i0, i1, i2, i3, i4, i5, i6, i7, i8, i9, i10, i12, i16, i20, i24, i31, i32, i44, i48, i57, i59, i63, i64, i74, i75, i90, i96, i97, i99, i100, i122, i139, i140, i144, i192, i200, i240, i255, i304, i309, i310, i311, i323, i324, i325, i899, i900, i975, i999, i5200, i4875, i65536, i65537, i15, ob_some, nI_add, nI_clamp, zn_zib, zn_eq, zn_lt, zn_le, m2_lt, m2_le, lt_m2, le_m2, eq_m2, m2_eq, m1_lt, m1_le, lt_m1, le_m1, eq_m1, m1_eq, m1_m2, m2_m1, m2_lt_m1, bI_0, bI_1, bI_t, bI_f, bI_bo, nI0_bo, nI1_bo, if_true, if_false, ite_true, ite_false, Nat.zero_add, Nat.not_lt_zero, Nat.zero_le, not_true_eq_false, not_false_eq_true, or_false, false_or, true_or, or_true, and_true, true_and, Bool.false_eq_true, Bool.true_eq_false, reduceCtorEq, eq_self]
      have an1 : ∀ v, an (fun j => decide (md j = v)) (i + 1) = (an (fun j => decide (md j = v)) i || decide (md i = v)) := fun v => an_s _ _
      unfold b_X6_clearDead_18
      rw [hmade]
      cases hd : dp st n (md i)
      · rw [hd] at hgen
        refine ⟨_, _, _, _, ⟨rfl, rfl, kp + 1, fun j => if j = kp then md i else e j, rws, upd mde kp (nI (md i)), rfl, by omega, rfl, fun v hv => ?_, fun j hj => ?_, fun i2 j2 a1 a2 => ?_, fun q hq hq2 => ?_, fun j a1 a2 => ?_⟩, ?_⟩
        · rw [h1 v hv, an1]
          by_cases z : md i = v
          · rw [← z, hd, Bool.and_false, Bool.and_false]
          · rw [decide_eq_false z, Bool.or_false]
        · by_cases z : j = kp
          · rw [z, upd_eq]
            simp only [if_true]
            exact ⟨trivial, ⟨i, by omega, rfl⟩, hd⟩
          · rw [upd_ne z]
            simp only [z, if_false]
            obtain ⟨d1, ⟨q, hq, d2⟩, d3⟩ := h2 j (by omega)
            exact ⟨d1, ⟨q, by omega, d2⟩, d3⟩
        · have z1 : i2 ≠ kp := by omega
          simp only [z1, if_false]
          by_cases z : j2 = kp
          · simp only [z, if_true]
            obtain ⟨-, ⟨q, hq, d2⟩, -⟩ := h2 i2 (by omega)
            rw [← d2]
            exact ho q i hq hi
          · simp only [z, if_false]
            exact h3 i2 j2 a1 (by omega)
        · by_cases z : q = i
          · exact ⟨kp, by omega, by simp only [if_true, z]⟩
          · obtain ⟨j, hj, d2⟩ := h4 q (by omega) hq2
            exact ⟨j, by omega, by simp only [show j ≠ kp by omega, if_false]; exact d2⟩
        · rw [upd_ne (by omega)]
          exact h5 j (by omega) a2
        · simp (disch := omega) only [q1, hgen.1, hgen.2, kRows_ring, kRows_rowCount, kRows_crash, kRows_nextStamp, kRows_count, kRows_lostSlots, kRows_runningStamps, kRows_doneStamps, kRows_goneStamps, kRows_stamps, kRows_held, kRows_rowsOf, kRows_values, kRows_froms, kRows_tills, kRows_made, ↓lm1, ↓lm2, i0, i1, i2, i3, i4, i5, i6, i7, i8, i9, i10, i12, i16, i20, i24, i31, i32, i44, i48, i57, i59, i63, i64, i74, i75, i90, i96, i97, i99, i100, i122, i139, i140, i144, i192, i200, i240, i255, i304, i309, i310, i311, i323, i324, i325, i899, i900, i975, i999, i5200, i4875, i65536, i65537, i15, ob_some, nI_add, nI_clamp, zn_zib, zn_eq, zn_lt, zn_le, m2_lt, m2_le, lt_m2, le_m2, eq_m2, m2_eq, m1_lt, m1_le, lt_m1, le_m1, eq_m1, m1_eq, m1_m2, m2_m1, m2_lt_m1, bI_0, bI_1, bI_t, bI_f, bI_bo, nI0_bo, nI1_bo, if_true, if_false, ite_true, ite_false, Nat.zero_add, Nat.not_lt_zero, Nat.zero_le, not_true_eq_false, not_false_eq_true, or_false, false_or, true_or, or_true, and_true, true_and, Bool.false_eq_true, Bool.true_eq_false, reduceCtorEq, eq_self]
      · rw [hd] at hgen
        refine ⟨_, _, _, _, ⟨rfl, rfl, kp, e, upd rws (md i) m2, mde, rfl, by omega, rfl, fun v hv => ?_, fun j hj => ?_, h3, fun q hq hq2 => ?_, fun j a1 a2 => h5 j (by omega) a2⟩, ?_⟩
        · rw [an1]
          by_cases z : v = md i
          · rw [z, upd_eq, hd, decide_eq_true rfl, Bool.or_true, Bool.true_and, if_pos rfl]
          · rw [upd_ne z, h1 v hv, decide_eq_false (fun y => z y.symm), Bool.or_false]
        · obtain ⟨d1, ⟨q, hq, d2⟩, d3⟩ := h2 j hj
          exact ⟨d1, ⟨q, by omega, d2⟩, d3⟩
        · by_cases z : q = i
          · rw [z, hd] at hq2
            cases hq2
          · exact h4 q (by omega) hq2
        · simp (disch := omega) only [q1, hgen.1, hgen.2, kRows_ring, kRows_rowCount, kRows_crash, kRows_nextStamp, kRows_count, kRows_lostSlots, kRows_runningStamps, kRows_doneStamps, kRows_goneStamps, kRows_stamps, kRows_held, kRows_rowsOf, kRows_values, kRows_froms, kRows_tills, kRows_made, ↓lm1, ↓lm2, i0, i1, i2, i3, i4, i5, i6, i7, i8, i9, i10, i12, i16, i20, i24, i31, i32, i44, i48, i57, i59, i63, i64, i74, i75, i90, i96, i97, i99, i100, i122, i139, i140, i144, i192, i200, i240, i255, i304, i309, i310, i311, i323, i324, i325, i899, i900, i975, i999, i5200, i4875, i65536, i65537, i15, ob_some, nI_add, nI_clamp, zn_zib, zn_eq, zn_lt, zn_le, m2_lt, m2_le, lt_m2, le_m2, eq_m2, m2_eq, m1_lt, m1_le, lt_m1, le_m1, eq_m1, m1_eq, m1_m2, m2_m1, m2_lt_m1, bI_0, bI_1, bI_t, bI_f, bI_bo, nI0_bo, nI1_bo, if_true, if_false, ite_true, ite_false, Nat.zero_add, Nat.not_lt_zero, Nat.zero_le, not_true_eq_false, not_false_eq_true, or_false, false_or, true_or, or_true, and_true, true_and, Bool.false_eq_true, Bool.true_eq_false, reduceCtorEq, eq_self]
    · rintro k St v1 v3 v4 ⟨rfl, rfl, kp, e, rws, mde, rfl, hkp, rfl, h1, h2, h3, h4, h5⟩
      have hRC := base rws mde kp e hkp (fun v hv => by
        rw [h1 v hv]
        cases hd : dp st n v
        · rw [Bool.and_false]
        · have hl : st v ≠ nI 0 := by
            unfold dp at hd
            rw [Bool.and_eq_true] at hd
            exact lv_ne.mp hd.1
          obtain ⟨j, hj, e2⟩ := hsur v hv hl
          rw [an_iff.mpr ⟨j, hj, decide_eq_true e2⟩]
          rfl) h2 h3 h4
      refine ⟨(nI cN - nI kp, mkRows (Rows_ring R) (Rows_rowCount R) (Rows_crash R) (Rows_nextStamp R) (nI kp) (Rows_lostSlots R) (Rows_runningStamps R) (Rows_doneStamps R) (Rows_goneStamps R) (Rows_stamps R) (Rows_held R) rws (Rows_values R) (Rows_froms R) (Rows_tills R) mde), ?_, ?_, hRC⟩
      · unfold b_X6_clearDead_18
        simp (disch := omega) only [Nat.le_refl, kRows_ring, kRows_rowCount, kRows_crash, kRows_nextStamp, kRows_count, kRows_lostSlots, kRows_runningStamps, kRows_doneStamps, kRows_goneStamps, kRows_stamps, kRows_held, kRows_rowsOf, kRows_values, kRows_froms, kRows_tills, kRows_made, ↓lm1, ↓lm2, i0, i1, i2, i3, i4, i5, i6, i7, i8, i9, i10, i12, i16, i20, i24, i31, i32, i44, i48, i57, i59, i63, i64, i74, i75, i90, i96, i97, i99, i100, i122, i139, i140, i144, i192, i200, i240, i255, i304, i309, i310, i311, i323, i324, i325, i899, i900, i975, i999, i5200, i4875, i65536, i65537, i15, ob_some, nI_add, nI_clamp, zn_zib, zn_eq, zn_lt, zn_le, m2_lt, m2_le, lt_m2, le_m2, eq_m2, m2_eq, m1_lt, m1_le, lt_m1, le_m1, eq_m1, m1_eq, m1_m2, m2_m1, m2_lt_m1, bI_0, bI_1, bI_t, bI_f, bI_bo, nI0_bo, nI1_bo, if_true, if_false, ite_true, ite_false, Nat.zero_add, Nat.not_lt_zero, Nat.zero_le, not_true_eq_false, not_false_eq_true, or_false, false_or, true_or, or_true, and_true, true_and, Bool.false_eq_true, Bool.true_eq_false, reduceCtorEq, eq_self]
      · exact hsum kp _ hRC rfl hkp
  obtain ⟨⟨x, R'⟩, h1, h2, h3⟩ := main
  have h2 : x = cI (dp st n) 48 := h2
  exact ⟨R', by rw [h1, h2], h3, hI, hK⟩
end
