/-! crashes: the trial, the weights -/
def chc (st : Nat → Int32) (w : Nat) : Bool := rn st w && !bt (st 310) w
def mcx (st : Nat → Int32) (x : Int32) (j s : Nat) : Bool := dn st s || an (fun w => chc st w && !bt x w && decide (st (304 + w) = nI s)) j
section
variable {R : SRows} {S : SMo} {st tr t t' : Nat → Int32} {n m c : Nat}
theorem EN_WS2 (W : WS t n m) {w s d : Nat} (hw : w < 6) (hs : s < 64) (hd : d < 4) (E : EN t t' n w s d) : WS t' n m := by
  obtain ⟨w1, w2, w3, w4, w5⟩ := W
  refine ⟨w1, ?_, fun v hv => ?_, fun q hq => ?_, fun q hq => ?_⟩
  · rw [E.1 323 (by omega) (by omega) (by omega) (by omega) (by omega)]
    exact w2
  · have := w3 v hv
    unfold WV at this ⊢
    rw [E.1 v (by omega) (by omega) (by omega) (by omega) (by omega), E.1 (48 + v) (by omega) (by omega) (by omega) (by omega) (by omega), E.1 (96 + v) (by omega) (by omega) (by omega) (by omega) (by omega), E.1 (144 + v) (by omega) (by omega) (by omega) (by omega) (by omega), E.1 (192 + v) (by omega) (by omega) (by omega) (by omega) (by omega)]
    exact this
  · by_cases z : q = s
    · rw [z, E.2.1]
      exact ⟨d, hd, rfl⟩
    · rw [E.1 (240 + q) (by omega) (by omega) (by omega) (by omega) (by omega)]
      exact w4 q hq
  · by_cases z : q = w
    · rw [z]
      exact .inl E.2.2.1
    · rw [E.1 (304 + q) (by omega) (by omega) (by omega) (by omega) (by omega)]
      exact w5 q hq
theorem M_crashOn (W : WS st n m) (I : IS st n) (x : Int32) : ∃ tr', f_X10_crashOn S st tr x = some tr' ∧ WS tr' n m ∧ (∀ i, i < 240 → tr' i = st i) ∧ ∀ s, s < n → dn tr' s = mcx st x 6 s := by
  have hn := WS_n W
  have hcp' : f_X10_copy 325 325 st tr (0 : Int32) (0 : Int32) (325 : Int32) = some (fb_put tr (fun j => st (0 + j)) 0 325) := cp_all 325 (by omega) _ _
  have ht0 : ∀ i, i < 325 → fb_put tr (fun j => st (0 + j)) 0 325 i = st i := fun i hi => cp_in hi
  unfold f_X10_crashOn
  rw [hcp', ob_some]
  refine zl2_ex (f := b_X10_crashOn_18 S st x) 6 0 (fun j t => WS t n m ∧ (∀ i, i < 240 → t i = st i) ∧ (∀ w, j ≤ w → w < 6 → t (304 + w) = st (304 + w)) ∧ ∀ s, s < n → dn t s = mcx st x j s) (fun t => WS t n m ∧ (∀ i, i < 240 → t i = st i) ∧ ∀ s, s < n → dn t s = mcx st x 6 s) (by omega) (Nat.zero_le _) ⟨WS_congr ht0 W, fun i hi => ht0 i (by omega), fun w _ hw => ht0 _ (by omega), fun s hs => ?_⟩ (fun k j t hj hI => ?_) (fun k t hI => ?_)
  · show dn _ s = (dn st s || false)
    unfold dn
    rw [ht0 _ (by omega), Bool.or_false]
  · obtain ⟨g1, g2, g3, g4⟩ := hI
    have b1 : ¬ 6 ≤ j := by omega
    have hrun := M_doesRun W hj
    have s_s : ∀ s, mcx st x (j + 1) s = (mcx st x j s || (chc st j && !bt x j && decide (st (304 + j) = nI s))) := fun s => by
      unfold mcx
      rw [an_s, Bool.or_assoc]
    unfold b_X10_crashOn_18
    cases z : rn st j
    · rw [z] at hrun
      refine .inr ⟨t, ⟨g1, g2, fun w h1 h2 => g3 w (by omega) h2, fun s hs => ?_⟩, ?_⟩
      · rw [s_s, g4 s hs]
        unfold chc
        rw [z, Bool.false_and, Bool.false_and, Bool.false_and, Bool.or_false]
      · simp (disch := omega) only [b1, hrun, ↓lm1, ↓lm2, i0, i1, i2, i3, i4, i5, i6, i7, i8, i9, i10, i12, i16, i20, i24, i31, i32, i44, i48, i57, i59, i63, i64, i74, i75, i90, i96, i97, i99, i100, i122, i139, i140, i144, i192, i200, i240, i255, i304, i309, i310, i311, i323, i324, i325, i899, i900, i975, i999, i5200, i4875, i65536, i65537, i15, ob_some, nI_add, nI_clamp, zn_zib, zn_eq, zn_lt, zn_le, m2_lt, m2_le, lt_m2, le_m2, eq_m2, m2_eq, m1_lt, m1_le, lt_m1, le_m1, eq_m1, m1_eq, m1_m2, m2_m1, m2_lt_m1, bI_0, bI_1, bI_t, bI_f, bI_bo, nI0_bo, nI1_bo, if_true, if_false, ite_true, ite_false, Nat.zero_add, Nat.not_lt_zero, Nat.zero_le, not_true_eq_false, not_false_eq_true, or_false, false_or, true_or, or_true, and_true, true_and, Bool.false_eq_true, Bool.true_eq_false, reduceCtorEq, eq_self]
    · rw [z] at hrun
      obtain ⟨s, hs, es⟩ := run_s W hj z
      have est : t (304 + j) = nI s := (g3 j (Nat.le_refl _) hj).trans es
      have hst1 := I.1 j hj s hs es
      have hdn0 : dn st s = false := by
        unfold dn
        rw [hst1]
        decide
      have hmj : mcx st x j s = false := by
        unfold mcx
        rw [hdn0, Bool.false_or]
        cases y : an (fun w => chc st w && !bt x w && decide (st (304 + w) = nI s)) j
        · rfl
        · obtain ⟨w, hw, e1⟩ := an_iff.mp y
          rw [Bool.and_eq_true, decide_eq_true_iff] at e1
          have := I.2.2.1 w j (by omega) hj (by omega) (e1.2.trans es.symm)
          rw [e1.2, eq_m1 (by omega)] at this
          exact this.elim
      have hbit := M_hasBit (x ||| st 310) (by omega : j < 32)
      have hb2 : bt (x ||| st 310) j = (bt x j || bt (st 310) j) := b_or _ _ _
      have upd_at : ∀ d, d = 2 ∨ d = 3 → (decide (d = 2) = (chc st j && !bt x j)) → (WS (enS t j s d) n m ∧ (∀ i, i < 240 → enS t j s d i = st i) ∧ (∀ w, j + 1 ≤ w → w < 6 → enS t j s d (304 + w) = st (304 + w)) ∧ ∀ s', s' < n → dn (enS t j s d) s' = mcx st x (j + 1) s') := fun d hd hdd => by
        have hE := enS_EN (st := t) (n := n) (w := j) (s := s) (d := d) hj (by omega)
        refine ⟨EN_WS2 g1 hj (by omega) (by omega) hE, fun i hi => ?_, fun w h1 h2 => ?_, fun s' hs' => ?_⟩
        · rw [hE.1 i (by omega) (by omega) (by omega) (by omega) (by omega)]
          exact g2 i hi
        · rw [hE.1 (304 + w) (by omega) (by omega) (by omega) (by omega) (by omega)]
          exact g3 w (by omega) h2
        · rw [s_s]
          by_cases y : s' = s
          · subst y
            rw [hmj, Bool.false_or, es, decide_eq_true rfl, Bool.and_true, ← hdd]
            unfold dn
            rw [hE.2.1]
            rcases hd with rfl | rfl
            · decide
            · decide
          · have e1 : dn (enS t j s d) s' = dn t s' := by
              unfold dn
              rw [hE.1 (240 + s') (by omega) (by omega) (by omega) (by omega) (by omega)]
            rw [e1, g4 s' hs', es, decide_eq_false (by rw [zn_eq (by omega) (by omega)]; exact fun q => y q.symm), Bool.and_false, Bool.or_false]
      cases y : bt (x ||| st 310) j
      · rw [y] at hbit hb2
        have h3 := M_endOn (d := 2) g1 hj hs est
        refine .inr ⟨enS t j s 2, upd_at 2 (.inl rfl) ?_, ?_⟩
        · unfold chc
          cases b1' : bt x j
          · rw [b1'] at hb2
            cases b2' : bt (st 310) j
            · rw [z]
              rfl
            · rw [b2'] at hb2
              cases hb2
          · rw [b1'] at hb2
            cases hb2
        · simp (disch := omega) only [b1, hrun, hbit, h3, ↓lm1, ↓lm2, i0, i1, i2, i3, i4, i5, i6, i7, i8, i9, i10, i12, i16, i20, i24, i31, i32, i44, i48, i57, i59, i63, i64, i74, i75, i90, i96, i97, i99, i100, i122, i139, i140, i144, i192, i200, i240, i255, i304, i309, i310, i311, i323, i324, i325, i899, i900, i975, i999, i5200, i4875, i65536, i65537, i15, ob_some, nI_add, nI_clamp, zn_zib, zn_eq, zn_lt, zn_le, m2_lt, m2_le, lt_m2, le_m2, eq_m2, m2_eq, m1_lt, m1_le, lt_m1, le_m1, eq_m1, m1_eq, m1_m2, m2_m1, m2_lt_m1, bI_0, bI_1, bI_t, bI_f, bI_bo, nI0_bo, nI1_bo, if_true, if_false, ite_true, ite_false, Nat.zero_add, Nat.not_lt_zero, Nat.zero_le, not_true_eq_false, not_false_eq_true, or_false, false_or, true_or, or_true, and_true, true_and, Bool.false_eq_true, Bool.true_eq_false, reduceCtorEq, eq_self]
      · rw [y] at hbit hb2
        have h3 := M_endOn (d := 3) g1 hj hs est
        refine .inr ⟨enS t j s 3, upd_at 3 (.inr rfl) ?_, ?_⟩
        · unfold chc
          cases b1' : bt x j
          · rw [b1'] at hb2
            cases b2' : bt (st 310) j
            · rw [b2'] at hb2
              cases hb2
            · rw [z]
              rfl
          · cases b2' : bt (st 310) j <;> rw [z] <;> rfl
        · simp (disch := omega) only [b1, hrun, hbit, h3, ↓lm1, ↓lm2, i0, i1, i2, i3, i4, i5, i6, i7, i8, i9, i10, i12, i16, i20, i24, i31, i32, i44, i48, i57, i59, i63, i64, i74, i75, i90, i96, i97, i99, i100, i122, i139, i140, i144, i192, i200, i240, i255, i304, i309, i310, i311, i323, i324, i325, i899, i900, i975, i999, i5200, i4875, i65536, i65537, i15, ob_some, nI_add, nI_clamp, zn_zib, zn_eq, zn_lt, zn_le, m2_lt, m2_le, lt_m2, le_m2, eq_m2, m2_eq, m1_lt, m1_le, lt_m1, le_m1, eq_m1, m1_eq, m1_m2, m2_m1, m2_lt_m1, bI_0, bI_1, bI_t, bI_f, bI_bo, nI0_bo, nI1_bo, if_true, if_false, ite_true, ite_false, Nat.zero_add, Nat.not_lt_zero, Nat.zero_le, not_true_eq_false, not_false_eq_true, or_false, false_or, true_or, or_true, and_true, true_and, Bool.false_eq_true, Bool.true_eq_false, reduceCtorEq, eq_self]
  · obtain ⟨g1, g2, g3, g4⟩ := hI
    have b1 : (6 : Int32) ≤ nI 6 := by decide
    refine ⟨t, ?_, g1, g2, g4⟩
    unfold b_X10_crashOn_18
    rw [if_pos b1]
theorem T_uncertain (H : RC R st n m c) : f_X1_uncertain R = some (orI (chc st) 6) := by
  unfold f_X1_uncertain
  refine Eq.trans ?_ (zl2_fold (f := b_X1_uncertain_4 R) 6 (orI (chc st)) _ (by omega) (fun k i hi => ?_) (fun k => ?_))
  · rfl
  · have b1 : ¬ 6 ≤ i := by omega
    have h1 := X6_runs H hi
    have h2 := X6_hasLost H hi
    unfold b_X1_uncertain_4
    rw [orI_s]
    unfold chc
    cases z : rn st i
    · rw [z] at h1
      simp (disch := omega) only [b1, h1, Bool.false_and, ↓lm1, ↓lm2, i0, i1, i2, i3, i4, i5, i6, i7, i8, i9, i10, i12, i16, i20, i24, i31, i32, i44, i48, i57, i59, i63, i64, i74, i75, i90, i96, i97, i99, i100, i122, i139, i140, i144, i192, i200, i240, i255, i304, i309, i310, i311, i323, i324, i325, i899, i900, i975, i999, i5200, i4875, i65536, i65537, i15, ob_some, nI_add, nI_clamp, zn_zib, zn_eq, zn_lt, zn_le, m2_lt, m2_le, lt_m2, le_m2, eq_m2, m2_eq, m1_lt, m1_le, lt_m1, le_m1, eq_m1, m1_eq, m1_m2, m2_m1, m2_lt_m1, bI_0, bI_1, bI_t, bI_f, bI_bo, nI0_bo, nI1_bo, if_true, if_false, ite_true, ite_false, Nat.zero_add, Nat.not_lt_zero, Nat.zero_le, not_true_eq_false, not_false_eq_true, or_false, false_or, true_or, or_true, and_true, true_and, Bool.false_eq_true, Bool.true_eq_false, reduceCtorEq, eq_self]
    · rw [z] at h1 h2
      cases y : bt (st 310) i
      · rw [y] at h2
        simp (disch := omega) only [b1, h1, h2, Bool.true_and, Bool.and_self, Bool.not_false, Bool.and_false, ↓lm1, ↓lm2, i0, i1, i2, i3, i4, i5, i6, i7, i8, i9, i10, i12, i16, i20, i24, i31, i32, i44, i48, i57, i59, i63, i64, i74, i75, i90, i96, i97, i99, i100, i122, i139, i140, i144, i192, i200, i240, i255, i304, i309, i310, i311, i323, i324, i325, i899, i900, i975, i999, i5200, i4875, i65536, i65537, i15, ob_some, nI_add, nI_clamp, zn_zib, zn_eq, zn_lt, zn_le, m2_lt, m2_le, lt_m2, le_m2, eq_m2, m2_eq, m1_lt, m1_le, lt_m1, le_m1, eq_m1, m1_eq, m1_m2, m2_m1, m2_lt_m1, bI_0, bI_1, bI_t, bI_f, bI_bo, nI0_bo, nI1_bo, if_true, if_false, ite_true, ite_false, Nat.zero_add, Nat.not_lt_zero, Nat.zero_le, not_true_eq_false, not_false_eq_true, or_false, false_or, true_or, or_true, and_true, true_and, Bool.false_eq_true, Bool.true_eq_false, reduceCtorEq, eq_self]
      · rw [y] at h2
        simp (disch := omega) only [b1, h1, h2, Bool.true_and, Bool.and_self, Bool.not_true, ↓lm1, ↓lm2, i0, i1, i2, i3, i4, i5, i6, i7, i8, i9, i10, i12, i16, i20, i24, i31, i32, i44, i48, i57, i59, i63, i64, i74, i75, i90, i96, i97, i99, i100, i122, i139, i140, i144, i192, i200, i240, i255, i304, i309, i310, i311, i323, i324, i325, i899, i900, i975, i999, i5200, i4875, i65536, i65537, i15, ob_some, nI_add, nI_clamp, zn_zib, zn_eq, zn_lt, zn_le, m2_lt, m2_le, lt_m2, le_m2, eq_m2, m2_eq, m1_lt, m1_le, lt_m1, le_m1, eq_m1, m1_eq, m1_m2, m2_m1, m2_lt_m1, bI_0, bI_1, bI_t, bI_f, bI_bo, nI0_bo, nI1_bo, if_true, if_false, ite_true, ite_false, Nat.zero_add, Nat.not_lt_zero, Nat.zero_le, not_true_eq_false, not_false_eq_true, or_false, false_or, true_or, or_true, and_true, true_and, Bool.false_eq_true, Bool.true_eq_false, reduceCtorEq, eq_self]
  · have b1 : (6 : Int32) ≤ nI 6 := by decide
    unfold b_X1_uncertain_4
    rw [if_pos b1]
theorem lN1 : (1 : Int64) = lN 1 := rfl
theorem T_whole_w (H : RC R st n m c) : f_X1_wholeWeight R = some (lN (pM (fun w => if chc st w then 100 else 1) 6)) := by
  unfold f_X1_wholeWeight
  rw [T_uncertain H, ob_some]
  refine Eq.trans ?_ (zl3_fold (f := b_X1_wholeWeight_10 R) 6 (fun _ => orI (chc st) 6) (fun i => lN (pM (fun w => if chc st w then 100 else 1) i)) _ (by omega) (fun k i hi => ?_) (fun k => ?_))
  · rfl
  · have b1 : ¬ 6 ≤ i := by omega
    have e := bit_and1 (orI (chc st) 6) (by omega : i < 32)
    have eb := orI_bt (chc st) 6 (Nat.le_refl _) i (by omega)
    rw [decide_eq_true hi, Bool.true_and] at eb
    rw [eb] at e
    have e100 : (100 : Int64) = lN 100 := rfl
    unfold b_X1_wholeWeight_10
    rw [pM_s]
    cases z : chc st i
    · rw [z] at e
      simp (disch := omega) only [b1, e, Nat.mul_one, ↓lm1, ↓lm2, i0, i1, i2, i3, i4, i5, i6, i7, i8, i9, i10, i12, i16, i20, i24, i31, i32, i44, i48, i57, i59, i63, i64, i74, i75, i90, i96, i97, i99, i100, i122, i139, i140, i144, i192, i200, i240, i255, i304, i309, i310, i311, i323, i324, i325, i899, i900, i975, i999, i5200, i4875, i65536, i65537, i15, ob_some, nI_add, nI_clamp, zn_zib, zn_eq, zn_lt, zn_le, m2_lt, m2_le, lt_m2, le_m2, eq_m2, m2_eq, m1_lt, m1_le, lt_m1, le_m1, eq_m1, m1_eq, m1_m2, m2_m1, m2_lt_m1, bI_0, bI_1, bI_t, bI_f, bI_bo, nI0_bo, nI1_bo, if_true, if_false, ite_true, ite_false, Nat.zero_add, Nat.not_lt_zero, Nat.zero_le, not_true_eq_false, not_false_eq_true, or_false, false_or, true_or, or_true, and_true, true_and, Bool.false_eq_true, Bool.true_eq_false, reduceCtorEq, eq_self]
    · rw [z] at e
      simp (disch := omega) only [b1, e, e100, lN_mul, ↓lm1, ↓lm2, i0, i1, i2, i3, i4, i5, i6, i7, i8, i9, i10, i12, i16, i20, i24, i31, i32, i44, i48, i57, i59, i63, i64, i74, i75, i90, i96, i97, i99, i100, i122, i139, i140, i144, i192, i200, i240, i255, i304, i309, i310, i311, i323, i324, i325, i899, i900, i975, i999, i5200, i4875, i65536, i65537, i15, ob_some, nI_add, nI_clamp, zn_zib, zn_eq, zn_lt, zn_le, m2_lt, m2_le, lt_m2, le_m2, eq_m2, m2_eq, m1_lt, m1_le, lt_m1, le_m1, eq_m1, m1_eq, m1_m2, m2_m1, m2_lt_m1, bI_0, bI_1, bI_t, bI_f, bI_bo, nI0_bo, nI1_bo, if_true, if_false, ite_true, ite_false, Nat.zero_add, Nat.not_lt_zero, Nat.zero_le, not_true_eq_false, not_false_eq_true, or_false, false_or, true_or, or_true, and_true, true_and, Bool.false_eq_true, Bool.true_eq_false, reduceCtorEq, eq_self]
  · have b1 : (6 : Int32) ≤ nI 6 := by decide
    unfold b_X1_wholeWeight_10
    rw [if_pos b1]
theorem T_weightOf (H : RC R st n m c) {e : Nat} (he : e < 64) : f_X1_weightOf R (orI (chc st) 6) (nI e) = some (lN (wC (chc st) c e)) := by
  have hc := RC_c H
  unfold f_X1_weightOf wC
  refine Eq.trans ?_ (zl2_fold (f := b_X1_weightOf_5 R (orI (chc st) 6) (nI e)) 6 (fun i => lN (pM (fun w => if chc st w then (if e.testBit w then 100 - c else c) else 1) i)) _ (by omega) (fun k i hi => ?_) (fun k => ?_))
  · rfl
  · have b1 : ¬ 6 ≤ i := by omega
    have e1 := bit_and1 (orI (chc st) 6) (by omega : i < 32)
    have eb := orI_bt (chc st) 6 (Nat.le_refl _) i (by omega)
    rw [decide_eq_true hi, Bool.true_and] at eb
    rw [eb] at e1
    have e2 := bit_and1 (nI e) (by omega : i < 32)
    rw [bt_nat he (by omega)] at e2
    have e3 : nI 100 - nI c = nI (100 - c) := pk_sub hc
    unfold b_X1_weightOf_5
    rw [pM_s]
    cases z : chc st i
    · rw [z] at e1
      simp (disch := omega) only [b1, e1, Nat.mul_one, ↓lm1, ↓lm2, i0, i1, i2, i3, i4, i5, i6, i7, i8, i9, i10, i12, i16, i20, i24, i31, i32, i44, i48, i57, i59, i63, i64, i74, i75, i90, i96, i97, i99, i100, i122, i139, i140, i144, i192, i200, i240, i255, i304, i309, i310, i311, i323, i324, i325, i899, i900, i975, i999, i5200, i4875, i65536, i65537, i15, ob_some, nI_add, nI_clamp, zn_zib, zn_eq, zn_lt, zn_le, m2_lt, m2_le, lt_m2, le_m2, eq_m2, m2_eq, m1_lt, m1_le, lt_m1, le_m1, eq_m1, m1_eq, m1_m2, m2_m1, m2_lt_m1, bI_0, bI_1, bI_t, bI_f, bI_bo, nI0_bo, nI1_bo, if_true, if_false, ite_true, ite_false, Nat.zero_add, Nat.not_lt_zero, Nat.zero_le, not_true_eq_false, not_false_eq_true, or_false, false_or, true_or, or_true, and_true, true_and, Bool.false_eq_true, Bool.true_eq_false, reduceCtorEq, eq_self]
    · rw [z] at e1
      cases y : e.testBit i
      · rw [y] at e2
        simp (disch := omega) only [b1, e1, e2, RC_cr H, nI_l, lN_mul, ↓lm1, ↓lm2, i0, i1, i2, i3, i4, i5, i6, i7, i8, i9, i10, i12, i16, i20, i24, i31, i32, i44, i48, i57, i59, i63, i64, i74, i75, i90, i96, i97, i99, i100, i122, i139, i140, i144, i192, i200, i240, i255, i304, i309, i310, i311, i323, i324, i325, i899, i900, i975, i999, i5200, i4875, i65536, i65537, i15, ob_some, nI_add, nI_clamp, zn_zib, zn_eq, zn_lt, zn_le, m2_lt, m2_le, lt_m2, le_m2, eq_m2, m2_eq, m1_lt, m1_le, lt_m1, le_m1, eq_m1, m1_eq, m1_m2, m2_m1, m2_lt_m1, bI_0, bI_1, bI_t, bI_f, bI_bo, nI0_bo, nI1_bo, if_true, if_false, ite_true, ite_false, Nat.zero_add, Nat.not_lt_zero, Nat.zero_le, not_true_eq_false, not_false_eq_true, or_false, false_or, true_or, or_true, and_true, true_and, Bool.false_eq_true, Bool.true_eq_false, reduceCtorEq, eq_self]
      · rw [y] at e2
        simp (disch := omega) only [b1, e1, e2, RC_cr H, e3, nI_l, lN_mul, ↓lm1, ↓lm2, i0, i1, i2, i3, i4, i5, i6, i7, i8, i9, i10, i12, i16, i20, i24, i31, i32, i44, i48, i57, i59, i63, i64, i74, i75, i90, i96, i97, i99, i100, i122, i139, i140, i144, i192, i200, i240, i255, i304, i309, i310, i311, i323, i324, i325, i899, i900, i975, i999, i5200, i4875, i65536, i65537, i15, ob_some, nI_add, nI_clamp, zn_zib, zn_eq, zn_lt, zn_le, m2_lt, m2_le, lt_m2, le_m2, eq_m2, m2_eq, m1_lt, m1_le, lt_m1, le_m1, eq_m1, m1_eq, m1_m2, m2_m1, m2_lt_m1, bI_0, bI_1, bI_t, bI_f, bI_bo, nI0_bo, nI1_bo, if_true, if_false, ite_true, ite_false, Nat.zero_add, Nat.not_lt_zero, Nat.zero_le, not_true_eq_false, not_false_eq_true, or_false, false_or, true_or, or_true, and_true, true_and, Bool.false_eq_true, Bool.true_eq_false, reduceCtorEq, eq_self]
  · have b1 : (6 : Int32) ≤ nI 6 := by decide
    unfold b_X1_weightOf_5
    rw [if_pos b1]
theorem T_stampsOf (H : RC R st n m c) {e : Nat} (he : e < 64) : ∃ y, f_X1_stampsOf R (nI e) = some y ∧ ∀ s, s < 64 → lb y s = an (fun w => e.testBit w && (rn st w && decide (st (304 + w) = nI s))) 6 := by
  have hn := WS_n (RC_W H)
  unfold f_X1_stampsOf
  refine zl2_ex (f := b_X1_stampsOf_5 R (nI e)) 6 0 (fun j a => ∀ s, s < 64 → lb a s = an (fun w => e.testBit w && (rn st w && decide (st (304 + w) = nI s))) j) (fun y => ∀ s, s < 64 → lb y s = an (fun w => e.testBit w && (rn st w && decide (st (304 + w) = nI s))) 6) (by omega) (Nat.zero_le _) (fun s hs => lb_0 s) (fun k i a hi hI => ?_) (fun k a hI => ?_)
  · have b1 : ¬ 6 ≤ i := by omega
    have e2 := bit_and1 (nI e) (by omega : i < 32)
    rw [bt_nat he (by omega)] at e2
    have h1 := X6_stampOf H hi
    unfold b_X1_stampsOf_5
    cases y : e.testBit i
    · rw [y] at e2
      refine .inr ⟨a, fun s hs => ?_, ?_⟩
      · rw [an_s, hI s hs, y, Bool.false_and, Bool.or_false]
      · simp (disch := omega) only [b1, e2, ↓lm1, ↓lm2, i0, i1, i2, i3, i4, i5, i6, i7, i8, i9, i10, i12, i16, i20, i24, i31, i32, i44, i48, i57, i59, i63, i64, i74, i75, i90, i96, i97, i99, i100, i122, i139, i140, i144, i192, i200, i240, i255, i304, i309, i310, i311, i323, i324, i325, i899, i900, i975, i999, i5200, i4875, i65536, i65537, i15, ob_some, nI_add, nI_clamp, zn_zib, zn_eq, zn_lt, zn_le, m2_lt, m2_le, lt_m2, le_m2, eq_m2, m2_eq, m1_lt, m1_le, lt_m1, le_m1, eq_m1, m1_eq, m1_m2, m2_m1, m2_lt_m1, bI_0, bI_1, bI_t, bI_f, bI_bo, nI0_bo, nI1_bo, if_true, if_false, ite_true, ite_false, Nat.zero_add, Nat.not_lt_zero, Nat.zero_le, not_true_eq_false, not_false_eq_true, or_false, false_or, true_or, or_true, and_true, true_and, Bool.false_eq_true, Bool.true_eq_false, reduceCtorEq, eq_self]
    · rw [y] at e2
      cases z : rn st i
      · rw [z, if_neg (by decide)] at h1
        have hb : f_X6_bitOf m2 = some 0 := bitOf_neg (by decide +kernel)
        refine .inr ⟨a ||| 0, fun s hs => ?_, ?_⟩
        · rw [lb_or, lb_0, Bool.or_false, an_s, hI s hs, y, z, Bool.false_and, Bool.and_false, Bool.or_false]
        · simp (disch := omega) only [b1, e2, h1, hb, ↓lm1, ↓lm2, i0, i1, i2, i3, i4, i5, i6, i7, i8, i9, i10, i12, i16, i20, i24, i31, i32, i44, i48, i57, i59, i63, i64, i74, i75, i90, i96, i97, i99, i100, i122, i139, i140, i144, i192, i200, i240, i255, i304, i309, i310, i311, i323, i324, i325, i899, i900, i975, i999, i5200, i4875, i65536, i65537, i15, ob_some, nI_add, nI_clamp, zn_zib, zn_eq, zn_lt, zn_le, m2_lt, m2_le, lt_m2, le_m2, eq_m2, m2_eq, m1_lt, m1_le, lt_m1, le_m1, eq_m1, m1_eq, m1_m2, m2_m1, m2_lt_m1, bI_0, bI_1, bI_t, bI_f, bI_bo, nI0_bo, nI1_bo, if_true, if_false, ite_true, ite_false, Nat.zero_add, Nat.not_lt_zero, Nat.zero_le, not_true_eq_false, not_false_eq_true, or_false, false_or, true_or, or_true, and_true, true_and, Bool.false_eq_true, Bool.true_eq_false, reduceCtorEq, eq_self]
      · rw [z, if_pos rfl] at h1
        obtain ⟨s0, hs0, es⟩ := run_s (RC_W H) hi z
        rw [es] at h1
        refine .inr ⟨a ||| jlshl 1 (nI s0), fun s hs => ?_, ?_⟩
        · rw [lb_or, lb_one (by omega), an_s, hI s hs, y, z, es, Bool.true_and, Bool.true_and]
          congr 1
          by_cases q : s = s0
          · rw [decide_eq_true q, decide_eq_true (by rw [q])]
          · rw [decide_eq_false q, decide_eq_false (by rw [zn_eq (by omega) (by omega)]; exact fun x => q x.symm)]
        · simp (disch := omega) only [b1, e2, h1, bitOf_nI (by omega : s0 < 64), ↓lm1, ↓lm2, i0, i1, i2, i3, i4, i5, i6, i7, i8, i9, i10, i12, i16, i20, i24, i31, i32, i44, i48, i57, i59, i63, i64, i74, i75, i90, i96, i97, i99, i100, i122, i139, i140, i144, i192, i200, i240, i255, i304, i309, i310, i311, i323, i324, i325, i899, i900, i975, i999, i5200, i4875, i65536, i65537, i15, ob_some, nI_add, nI_clamp, zn_zib, zn_eq, zn_lt, zn_le, m2_lt, m2_le, lt_m2, le_m2, eq_m2, m2_eq, m1_lt, m1_le, lt_m1, le_m1, eq_m1, m1_eq, m1_m2, m2_m1, m2_lt_m1, bI_0, bI_1, bI_t, bI_f, bI_bo, nI0_bo, nI1_bo, if_true, if_false, ite_true, ite_false, Nat.zero_add, Nat.not_lt_zero, Nat.zero_le, not_true_eq_false, not_false_eq_true, or_false, false_or, true_or, or_true, and_true, true_and, Bool.false_eq_true, Bool.true_eq_false, reduceCtorEq, eq_self]
  · have b1 : (6 : Int32) ≤ nI 6 := by decide
    refine ⟨a, ?_, hI⟩
    unfold b_X1_stampsOf_5
    rw [if_pos b1]
end
