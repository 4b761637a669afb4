/-! whose end isn't sure, as told -/
theorem bst_st {st st' : Nat → Int32} {P : Nat → Bool} : ∀ {n : Nat}, (∀ v, v < n → od st' v = od st v) → bst st' P n = bst st P n
  | 0, _ => rfl
  | n + 1, h => by
    rw [bst_s, bst_s, bst_st (fun v hv => h v (by omega))]
    cases hm : bst st P n with
    | none => rfl
    | some b =>
      obtain ⟨⟨h1, -⟩, -⟩ := bst_some hm
      dsimp only
      rw [h b (by omega), h n (by omega)]
theorem sp_st {st st' : Nat → Int32} {C : Nat → Bool} {r v : Nat} (hv : v < 48) (h : ∀ i, i < 240 → st' i = st i) : sp st' C r v = sp st C r v := by
  unfold sp sees lv
  rw [h v (by omega), h (96 + v) (by omega), h (144 + v) (by omega)]
theorem bsp_st {st st' : Nat → Int32} {C C' : Nat → Bool} {n m r : Nat} (W : WS st n m) (h : ∀ i, i < 240 → st' i = st i) (hC : ∀ s, s < n → C' s = C s) : bst st' (sp st' C' r) 48 = bst st (sp st C r) 48 := by
  rw [bst_st (st := st) (fun v hv => by unfold od; rw [h (192 + v) (by omega)])]
  exact bst_cong (fun v hv => (sp_st hv h).trans (sp_cong W hC r hv))
theorem va_st {st st' : Nat → Int32} {C C' : Nat → Bool} {n m r : Nat} (W : WS st n m) (h : ∀ i, i < 240 → st' i = st i) (hC : ∀ s, s < n → C' s = C s) : va st' (bst st' (sp st' C' r) 48) = va st (bst st (sp st C r) 48) := by
  rw [bsp_st W h hC]
  cases hm : bst st (sp st C r) 48 with
  | none => rfl
  | some v =>
    obtain ⟨⟨h1, -⟩, -⟩ := bst_some hm
    exact h (48 + v) (by omega)
theorem vN_st {st st' : Nat → Int32} {C C' : Nat → Bool} {n m r : Nat} (W : WS st n m) (h : ∀ i, i < 240 → st' i = st i) (hC : ∀ s, s < n → C' s = C s) : vN st' C' r = vN st C r := by
  unfold vN
  rw [bsp_st W h hC]
  cases hm : bst st (sp st C r) 48 with
  | none => rfl
  | some v =>
    obtain ⟨⟨h1, -⟩, -⟩ := bst_some hm
    dsimp only
    rw [h (48 + v) (by omega)]
section
variable {D : SRd} {E : SEv} {fr ow : Nat → Int32} {n kn u : Nat}
theorem T_stampNamed {i : Nat} (hi : i < 12) : f_X5_stampNamed D (nI i) = some (Rd_nameStamps D i) := by
  have b1 : ¬ 12 ≤ i := by omega
  unfold f_X5_stampNamed
  simp (disch := omega) only [b1, ↓lm1, ↓lm2, i0, i1, i2, i3, i4, i5, i6, i7, i8, i9, i10, i12, i16, i20, i24, i31, i32, i44, i48, i57, i59, i63, i64, i74, i75, i90, i96, i97, i99, i100, i122, i139, i140, i144, i192, i200, i240, i255, i304, i309, i310, i311, i323, i324, i325, i899, i900, i975, i999, i5200, i4875, i65536, i65537, i15, ob_some, nI_add, nI_clamp, zn_zib, zn_eq, zn_lt, zn_le, m2_lt, m2_le, lt_m2, le_m2, eq_m2, m2_eq, m1_lt, m1_le, lt_m1, le_m1, eq_m1, m1_eq, m1_m2, m2_m1, m2_lt_m1, bI_0, bI_1, bI_t, bI_f, bI_bo, nI0_bo, nI1_bo, if_true, if_false, ite_true, ite_false, Nat.zero_add, Nat.not_lt_zero, Nat.zero_le, not_true_eq_false, not_false_eq_true, or_false, false_or, true_or, or_true, and_true, true_and, Bool.false_eq_true, Bool.true_eq_false, reduceCtorEq, eq_self]
theorem T_flipOf (hn : n ≤ 64) (hk : kn ≤ 12) (hc : Rd_nameCount D = nI kn) (ho : OW (Rd_nameStamps D) fr ow n kn) {i : Nat} (hi : i < kn) : ∃ x s, f_X5_flipOf D (nI i) = some x ∧ s < n ∧ fr (20 + i) = nI s ∧ ∀ t, t < 64 → lb x t = (decide (ow s = nI (i + 1)) && decide (t = s)) := by
  obtain ⟨s, s1, s2, s3, s4⟩ := ho i hi
  refine ⟨if ow s = nI (i + 1) then jlshl 1 (nI s) else 0, s, ?_, s1, s3, fun t ht => ?_⟩
  · unfold f_X5_flipOf
    rw [T_stampNamed (by omega), ob_some, s2, nI_1]
    refine zl2_up kn (i + 1) (fun j a => a = nI s ∧ i < j ∧ ∀ k, i < k → k < j → fr (20 + k) ≠ nI s) _ (by omega) (by omega) ⟨rfl, by omega, fun k h1 h2 => by omega⟩ (fun k j a hj hI => ?_) (fun k a hI => ?_)
    · obtain ⟨rfl, hI⟩ := hI
      have b1 : ¬ kn ≤ j := by omega
      obtain ⟨s', t1, t2, t3, -⟩ := ho j hj
      unfold b_X5_flipOf_10
      by_cases y : s' = s
      · refine .inl ?_
        have : ¬ ow s = nI (i + 1) := fun z => s4.mp z j hI.1 hj (by rw [t3, y])
        rw [if_neg this]
        simp (disch := omega) only [hc, b1, T_stampNamed (D := D) (by omega : j < 12), t2, y, ↓lm1, ↓lm2, i0, i1, i2, i3, i4, i5, i6, i7, i8, i9, i10, i12, i16, i20, i24, i31, i32, i44, i48, i57, i59, i63, i64, i74, i75, i90, i96, i97, i99, i100, i122, i139, i140, i144, i192, i200, i240, i255, i304, i309, i310, i311, i323, i324, i325, i899, i900, i975, i999, i5200, i4875, i65536, i65537, i15, ob_some, nI_add, nI_clamp, zn_zib, zn_eq, zn_lt, zn_le, m2_lt, m2_le, lt_m2, le_m2, eq_m2, m2_eq, m1_lt, m1_le, lt_m1, le_m1, eq_m1, m1_eq, m1_m2, m2_m1, m2_lt_m1, bI_0, bI_1, bI_t, bI_f, bI_bo, nI0_bo, nI1_bo, if_true, if_false, ite_true, ite_false, Nat.zero_add, Nat.not_lt_zero, Nat.zero_le, not_true_eq_false, not_false_eq_true, or_false, false_or, true_or, or_true, and_true, true_and, Bool.false_eq_true, Bool.true_eq_false, reduceCtorEq, eq_self]
      · refine .inr ⟨nI s, ⟨rfl, by omega, fun k h1 h2 => ?_⟩, ?_⟩
        · by_cases z : k = j
          · rw [z, t3, ne_eq, zn_eq (by omega) (by omega)]
            exact y
          · exact hI.2 k h1 (by omega)
        · simp (disch := omega) only [hc, b1, T_stampNamed (D := D) (by omega : j < 12), t2, y, ↓lm1, ↓lm2, i0, i1, i2, i3, i4, i5, i6, i7, i8, i9, i10, i12, i16, i20, i24, i31, i32, i44, i48, i57, i59, i63, i64, i74, i75, i90, i96, i97, i99, i100, i122, i139, i140, i144, i192, i200, i240, i255, i304, i309, i310, i311, i323, i324, i325, i899, i900, i975, i999, i5200, i4875, i65536, i65537, i15, ob_some, nI_add, nI_clamp, zn_zib, zn_eq, zn_lt, zn_le, m2_lt, m2_le, lt_m2, le_m2, eq_m2, m2_eq, m1_lt, m1_le, lt_m1, le_m1, eq_m1, m1_eq, m1_m2, m2_m1, m2_lt_m1, bI_0, bI_1, bI_t, bI_f, bI_bo, nI0_bo, nI1_bo, if_true, if_false, ite_true, ite_false, Nat.zero_add, Nat.not_lt_zero, Nat.zero_le, not_true_eq_false, not_false_eq_true, or_false, false_or, true_or, or_true, and_true, true_and, Bool.false_eq_true, Bool.true_eq_false, reduceCtorEq, eq_self]
    · obtain ⟨rfl, hI⟩ := hI
      have b1 : kn ≤ kn := Nat.le_refl _
      unfold b_X5_flipOf_10
      rw [if_pos (s4.mpr hI.2)]
      simp (disch := omega) only [hc, b1, bitOf_nI (by omega : s < 64), ↓lm1, ↓lm2, i0, i1, i2, i3, i4, i5, i6, i7, i8, i9, i10, i12, i16, i20, i24, i31, i32, i44, i48, i57, i59, i63, i64, i74, i75, i90, i96, i97, i99, i100, i122, i139, i140, i144, i192, i200, i240, i255, i304, i309, i310, i311, i323, i324, i325, i899, i900, i975, i999, i5200, i4875, i65536, i65537, i15, ob_some, nI_add, nI_clamp, zn_zib, zn_eq, zn_lt, zn_le, m2_lt, m2_le, lt_m2, le_m2, eq_m2, m2_eq, m1_lt, m1_le, lt_m1, le_m1, eq_m1, m1_eq, m1_m2, m2_m1, m2_lt_m1, bI_0, bI_1, bI_t, bI_f, bI_bo, nI0_bo, nI1_bo, if_true, if_false, ite_true, ite_false, Nat.zero_add, Nat.not_lt_zero, Nat.zero_le, not_true_eq_false, not_false_eq_true, or_false, false_or, true_or, or_true, and_true, true_and, Bool.false_eq_true, Bool.true_eq_false, reduceCtorEq, eq_self]
  · by_cases q : ow s = nI (i + 1)
    · rw [if_pos q, decide_eq_true q, Bool.true_and, lb_one (by omega)]
    · rw [if_neg q, decide_eq_false q, Bool.false_and, lb_0]
/-- the evidence as the reader leaves it: flips by the unsure, the seen as they were -/
def UE (E E' : SEv) (fr ow : Nat → Int32) (n u : Nat) : Prop := Ev_unsureCount E' = nI u ∧ Ev_seenCount E' = Ev_seenCount E ∧ Ev_seenRows E' = Ev_seenRows E ∧ Ev_seenValues E' = Ev_seenValues E ∧ ∀ k, k < u → ∃ i s, i < 12 ∧ s < n ∧ fr (8 + k) = nI i ∧ fr (20 + i) = nI s ∧ ∀ t, t < 64 → lb (Ev_flips E' k) t = (decide (ow s = nI (i + 1)) && decide (t = s))
theorem T_tell (hn : n ≤ 64) (hk : kn ≤ 12) (hc : Rd_nameCount D = nI kn) (ho : OW (Rd_nameStamps D) fr ow n kn) (uc : Rd_unsureCount D = nI u) (hu : UN (Rd_unsureNames D) fr kn u) (he : Ev_unsureCount E = nI 0) : ∃ E', f_X5_tellUnsure D E = some E' ∧ UE E E' fr ow n u := by
  have hu4 := hu.1
  unfold f_X5_tellUnsure
  refine zl2_ex u 0 (fun k E' => UE E E' fr ow n k) (fun E' => UE E E' fr ow n u) (by omega) (Nat.zero_le _) ⟨he, rfl, rfl, rfl, fun k hk => absurd hk (Nat.not_lt_zero k)⟩ (fun k j E' hj hI => ?_) (fun k E' hI => ?_)
  · obtain ⟨i, ih1, ih2, ih3⟩ := hu.2.2 j hj
    obtain ⟨x, s, x1, x2, x3, x4⟩ := T_flipOf hn hk hc ho ih1
    obtain ⟨e1, e2, e3, e4, e5⟩ := hI
    have b1 : ¬ u ≤ j := by omega
    have b2 : ¬ 4 ≤ j := by omega
    refine .inr ⟨mkEv (nI (j + 1)) (Ev_seenCount E') (Ev_fitCount E') (Ev_firstWrong E') (vp_updL (Ev_flips E') j x) (Ev_seenRows E') (Ev_seenValues E') (Ev_fitSets E'), ⟨rfl, e2, e3, e4, fun k hk => ?_⟩, ?_⟩
    · by_cases z : k = j
      · refine ⟨i, s, by omega, x2, by rw [z]; exact ih3, x3, fun t ht => ?_⟩
        have : Ev_flips (mkEv (nI (j + 1)) (Ev_seenCount E') (Ev_fitCount E') (Ev_firstWrong E') (vp_updL (Ev_flips E') j x) (Ev_seenRows E') (Ev_seenValues E') (Ev_fitSets E')) k = x := by
          show vp_updL (Ev_flips E') j x k = x
          rw [z, updL_eq]
        rw [this]
        exact x4 t ht
      · obtain ⟨i', s', y1, y2, y3, y4, y5⟩ := e5 k (by omega)
        refine ⟨i', s', y1, y2, y3, y4, fun t ht => ?_⟩
        have : Ev_flips (mkEv (nI (j + 1)) (Ev_seenCount E') (Ev_fitCount E') (Ev_firstWrong E') (vp_updL (Ev_flips E') j x) (Ev_seenRows E') (Ev_seenValues E') (Ev_fitSets E')) k = Ev_flips E' k := by
          show vp_updL (Ev_flips E') j x k = Ev_flips E' k
          rw [updL_ne z]
        rw [this]
        exact y5 t ht
    · unfold b_X5_tellUnsure_2 f_X2_addUnsure
      simp (disch := omega) only [uc, b1, b2, ih2, x1, e1, ↓lm1, ↓lm2, i0, i1, i2, i3, i4, i5, i6, i7, i8, i9, i10, i12, i16, i20, i24, i31, i32, i44, i48, i57, i59, i63, i64, i74, i75, i90, i96, i97, i99, i100, i122, i139, i140, i144, i192, i200, i240, i255, i304, i309, i310, i311, i323, i324, i325, i899, i900, i975, i999, i5200, i4875, i65536, i65537, i15, ob_some, nI_add, nI_clamp, zn_zib, zn_eq, zn_lt, zn_le, m2_lt, m2_le, lt_m2, le_m2, eq_m2, m2_eq, m1_lt, m1_le, lt_m1, le_m1, eq_m1, m1_eq, m1_m2, m2_m1, m2_lt_m1, bI_0, bI_1, bI_t, bI_f, bI_bo, nI0_bo, nI1_bo, if_true, if_false, ite_true, ite_false, Nat.zero_add, Nat.not_lt_zero, Nat.zero_le, not_true_eq_false, not_false_eq_true, or_false, false_or, true_or, or_true, and_true, true_and, Bool.false_eq_true, Bool.true_eq_false, reduceCtorEq, eq_self]
  · have b1 : u ≤ u := Nat.le_refl _
    refine ⟨E', ?_, hI⟩
    unfold b_X5_tellUnsure_2
    simp (disch := omega) only [uc, b1, ↓lm1, ↓lm2, i0, i1, i2, i3, i4, i5, i6, i7, i8, i9, i10, i12, i16, i20, i24, i31, i32, i44, i48, i57, i59, i63, i64, i74, i75, i90, i96, i97, i99, i100, i122, i139, i140, i144, i192, i200, i240, i255, i304, i309, i310, i311, i323, i324, i325, i899, i900, i975, i999, i5200, i4875, i65536, i65537, i15, ob_some, nI_add, nI_clamp, zn_zib, zn_eq, zn_lt, zn_le, m2_lt, m2_le, lt_m2, le_m2, eq_m2, m2_eq, m1_lt, m1_le, lt_m1, le_m1, eq_m1, m1_eq, m1_m2, m2_m1, m2_lt_m1, bI_0, bI_1, bI_t, bI_f, bI_bo, nI0_bo, nI1_bo, if_true, if_false, ite_true, ite_false, Nat.zero_add, Nat.not_lt_zero, Nat.zero_le, not_true_eq_false, not_false_eq_true, or_false, false_or, true_or, or_true, and_true, true_and, Bool.false_eq_true, Bool.true_eq_false, reduceCtorEq, eq_self]
end
