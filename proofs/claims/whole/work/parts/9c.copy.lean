/-! rows copied -/
section
variable {T : SSR} {R : SRows} {S : SMo} {r st st' : Nat → Int32} {n m c b : Nat}
theorem M_copy {p q : Nat} (f g : Nat → Int32) {a d k : Nat} (ha : a + k ≤ p) (hd : d + k ≤ q) (hp : p < 6000) (hq : q < 6000) : f_X10_copy p q f g (nI a) (nI d) (nI k) = some (fb_put g (fun j => f (a + j)) d k) := by
  unfold f_X10_copy
  refine Eq.trans ?_ (zl2_fold (f := b_X10_copy_3 p q f (nI a) (nI d) (nI k)) k (fun i => fb_put g (fun j => f (a + j)) d i) _ (by omega) (fun kk i hi => ?_) (fun kk => ?_))
  · rw [fb_put_0]
    rfl
  · have h1 : ¬ k ≤ i := by omega
    unfold b_X10_copy_3
    rw [← fb_put_succ]
    simp (disch := omega) only [h1, ↓lm1, ↓lm2, i0, i1, i2, i3, i4, i5, i6, i7, i8, i9, i10, i12, i16, i20, i24, i31, i32, i44, i48, i57, i59, i63, i64, i74, i75, i90, i96, i97, i99, i100, i122, i139, i140, i144, i192, i200, i240, i255, i304, i309, i310, i311, i323, i324, i325, i899, i900, i975, i999, i5200, i4875, i65536, i65537, i15, ob_some, nI_add, nI_clamp, zn_zib, zn_eq, zn_lt, zn_le, m2_lt, m2_le, lt_m2, le_m2, eq_m2, m2_eq, m1_lt, m1_le, lt_m1, le_m1, eq_m1, m1_eq, m1_m2, m2_m1, m2_lt_m1, bI_0, bI_1, bI_t, bI_f, bI_bo, nI0_bo, nI1_bo, if_true, if_false, ite_true, ite_false, Nat.zero_add, Nat.not_lt_zero, Nat.zero_le, not_true_eq_false, not_false_eq_true, or_false, false_or, true_or, or_true, and_true, true_and, Bool.false_eq_true, Bool.true_eq_false, reduceCtorEq, eq_self]
  · unfold b_X10_copy_3
    simp (disch := omega) only [Nat.le_refl, ↓lm1, ↓lm2, i0, i1, i2, i3, i4, i5, i6, i7, i8, i9, i10, i12, i16, i20, i24, i31, i32, i44, i48, i57, i59, i63, i64, i74, i75, i90, i96, i97, i99, i100, i122, i139, i140, i144, i192, i200, i240, i255, i304, i309, i310, i311, i323, i324, i325, i899, i900, i975, i999, i5200, i4875, i65536, i65537, i15, ob_some, nI_add, nI_clamp, zn_zib, zn_eq, zn_lt, zn_le, m2_lt, m2_le, lt_m2, le_m2, eq_m2, m2_eq, m1_lt, m1_le, lt_m1, le_m1, eq_m1, m1_eq, m1_m2, m2_m1, m2_lt_m1, bI_0, bI_1, bI_t, bI_f, bI_bo, nI0_bo, nI1_bo, if_true, if_false, ite_true, ite_false, Nat.zero_add, Nat.not_lt_zero, Nat.zero_le, not_true_eq_false, not_false_eq_true, or_false, false_or, true_or, or_true, and_true, true_and, Bool.false_eq_true, Bool.true_eq_false, reduceCtorEq, eq_self]
theorem put_in {f g : Nat → Int32} {k i : Nat} (h : i < k) : fb_put f g 0 k i = g i := by
  rw [fb_put_in (by omega) (by omega), Nat.sub_zero]
theorem WS_congr (h : ∀ i, i < 325 → st' i = st i) (W : WS st n m) : WS st' n m := by
  refine ⟨W.1, by rw [h _ (by omega)]; exact WS_x W, fun v hv => WV_eq (h _ (by omega)) (h _ (by omega)) (h _ (by omega)) (h _ (by omega)) (h _ (by omega)) (WS_v W hv), fun t ht => by rw [h _ (by omega)]; exact WS_t W ht, fun w hw => by rw [h _ (by omega)]; exact WS_w W hw⟩
theorem RC_congr (h : ∀ i, i < 325 → st' i = st i) (H : RC R st n m c) : RC R st' n m c := by
  refine ⟨WS_congr h (RC_W H), RC_c H, RC_ring H, RC_rc H, RC_cr H, ?_, fun t ht => ?_, fun w hw => ?_, fun v hv => ?_, ?_⟩
  · rw [h _ (by omega)]
    exact RC_nx H
  · unfold RT
    rw [h _ (by omega)]
    exact RC_t H ht
  · unfold RW
    rw [h _ (by omega), h 310 (by omega)]
    rcases RC_w H hw with a | ⟨z, hz, a1, a2, a3, a4⟩
    · exact .inl a
    · exact .inr ⟨z, hz, a1, a2, fun t ht => by rw [sb_eq (h _ (by omega)) (h _ (by omega)) ht]; exact a3 t ht, a4⟩
  · exact RV_eq (R := R) (h _ (by omega)) (h _ (by omega)) (h _ (by omega)) (h _ (by omega)) rfl rfl rfl rfl (RC_v H hv)
  · exact RO_eq (R := R) (fun v hv => h _ (by omega)) (fun v hv => h _ (by omega)) rfl rfl (RC_o H)
theorem IS_congr (h : ∀ i, i < 325 → st' i = st i) (hn : n ≤ 64) (I : IS st n) : IS st' n := IS_frame I (fun i h1 h2 => h i (by omega)) (fun v hv s hs e1 e2 => I.2.2.2.2.1 v hv s hs (by rw [← h v (by omega)]; exact e1) (by rw [← h (96 + v) (by omega)]; exact e2)) hn
theorem MK_congr (h : ∀ i, i < 325 → st' i = st i) (K : MK st b) : MK st' b := by
  obtain ⟨kb, k, h1, h2, h3⟩ := K
  refine ⟨kb, k, by rw [h _ (by omega)]; exact h1, h2, fun v hv hl => ?_⟩
  rw [h v (by omega)] at hl
  have : od st' v = od st v := by
    unfold od
    rw [h _ (by omega)]
  rw [this]
  exact h3 v hv hl
theorem MK_mono {b' : Nat} (h : b ≤ b') (hb : b' < 2 ^ 29) (K : MK st b) : MK st b' := by
  obtain ⟨kb, k, h1, h2, h3⟩ := K
  exact ⟨hb, k, h1, by omega, h3⟩
/-! what the high part alone tells -/
theorem hi_nx (h : ∀ i, 192 ≤ i → st' i = st i) : nx st' = nx st := by
  unfold nx
  rw [h _ (by omega)]
theorem hi_ag (h : ∀ i, 192 ≤ i → st' i = st i) : ag st' n = ag st n := by
  funext s
  unfold ag
  rw [hi_nx h]
theorem hi_hb (h : ∀ i, 192 ≤ i → st' i = st i) : hb st' = hb st := by
  funext w t
  unfold hb rn sb
  rw [h _ (by omega), h _ (by omega)]
theorem hi_hbx (h : ∀ i, 192 ≤ i → st' i = st i) : hbx st' = hbx st := by
  funext x t
  unfold hbx
  rw [hi_hb h]
theorem hi_dn (h : ∀ i, 192 ≤ i → st' i = st i) : dn st' = dn st := by
  funext s
  unfold dn
  rw [h _ (by omega)]
theorem hi_gn (h : ∀ i, 192 ≤ i → st' i = st i) : gn st' = gn st := by
  funext s
  unfold gn
  rw [h _ (by omega)]
theorem hi_stl (h : ∀ i, 192 ≤ i → st' i = st i) (x : Int32) : stl st' n x = stl st n x := by
  funext s
  unfold stl hz Mx
  rw [hi_dn h, hi_hbx h, hi_ag h, hi_nx h]
theorem hi_rn (h : ∀ i, 192 ≤ i → st' i = st i) : rn st' = rn st := by
  funext w
  unfold rn
  rw [h _ (by omega)]
theorem iu_frozen (W : WS st n m) {t : Nat} (ht : t < n) : iu (frS (clS st n) n 48) t = iuf st n t := by
  have hn := WS_n W
  have h1 : ∀ i, 192 ≤ i → clS st n i = st i := fun i hi => clS_out (by omega)
  have h2 : ∀ i, 192 ≤ i → frS (clS st n) n 48 i = st i := fun i hi => by rw [frS_out (by omega) (by omega), h1 i hi]
  unfold iu iuf
  rw [hi_hbx h2, Bool.or_comm]
  congr 1
  refine an_cong (fun v hv => ?_)
  have hlv : lv (frS (clS st n) n 48) v = (lv st v && !dd st (gn st) (stl st n m2) v) := by
    have e : frS (clS st n) n 48 v = clS st n v := frS_out (by omega) (by omega)
    unfold lv
    rw [e]
    cases hd : dp st n v
    · rw [clS_l hd]
      unfold dp lv at hd
      cases hl : decide (st v ≠ nI 0)
      · rfl
      · rw [hl, Bool.true_and] at hd
        rw [hd]
        rfl
    · rw [clS_d hv hd]
      unfold dp at hd
      rw [Bool.and_eq_true] at hd
      rw [hd.2, decide_eq_false (by simp)]
      simp
  rw [hlv]
  cases hl : (lv st v && !dd st (gn st) (stl st n m2) v)
  · rfl
  · rw [Bool.true_and, Bool.true_and]
    rw [Bool.and_eq_true, Bool.not_eq_true'] at hl
    have hdp : dp st n v = false := by
      unfold dp
      rw [hl.1, hl.2]
      rfl
    have hlc : lv (clS st n) v = true := by
      unfold lv
      rw [clS_l hdp]
      exact hl.1
    have ef : frI (clS st n) v = st (96 + v) := by rw [frI_l hlc, clS_out (by omega)]
    have et : tlI (clS st n) v = st (144 + v) := by rw [tlI_l hlc, clS_out (by omega)]
    rw [frS_f hv, frS_t (by omega)]
    unfold fz lg
    rw [ef, et, hi_stl h1, hi_gn h1, clS_out (by omega), clS_out (by omega)]
    simp only [hv, true_and]
    congr 1
    · rcases WS_f W hv with e | ⟨s, hs, e⟩
      · rw [e, has_m2]
        simp (disch := omega) only [↓lm1, ↓lm2, i0, i1, i2, i3, i4, i5, i6, i7, i8, i9, i10, i12, i16, i20, i24, i31, i32, i44, i48, i57, i59, i63, i64, i74, i75, i90, i96, i97, i99, i100, i122, i139, i140, i144, i192, i200, i240, i255, i304, i309, i310, i311, i323, i324, i325, i899, i900, i975, i999, i5200, i4875, i65536, i65537, i15, ob_some, nI_add, nI_clamp, zn_zib, zn_eq, zn_lt, zn_le, m2_lt, m2_le, lt_m2, le_m2, eq_m2, m2_eq, m1_lt, m1_le, lt_m1, le_m1, eq_m1, m1_eq, m1_m2, m2_m1, m2_lt_m1, bI_0, bI_1, bI_t, bI_f, bI_bo, nI0_bo, nI1_bo, if_true, if_false, ite_true, ite_false, Nat.zero_add, Nat.not_lt_zero, Nat.zero_le, not_true_eq_false, not_false_eq_true, or_false, false_or, true_or, or_true, and_true, true_and, Bool.false_eq_true, Bool.true_eq_false, reduceCtorEq, eq_self, decide_false, Bool.false_and]
      · rw [e, has_nI _ (by omega)]
        by_cases q : s = t
        · subst q
          cases hst : stl st n m2 s <;> simp (disch := omega) only [↓lm1, ↓lm2, i0, i1, i2, i3, i4, i5, i6, i7, i8, i9, i10, i12, i16, i20, i24, i31, i32, i44, i48, i57, i59, i63, i64, i74, i75, i90, i96, i97, i99, i100, i122, i139, i140, i144, i192, i200, i240, i255, i304, i309, i310, i311, i323, i324, i325, i899, i900, i975, i999, i5200, i4875, i65536, i65537, i15, ob_some, nI_add, nI_clamp, zn_zib, zn_eq, zn_lt, zn_le, m2_lt, m2_le, lt_m2, le_m2, eq_m2, m2_eq, m1_lt, m1_le, lt_m1, le_m1, eq_m1, m1_eq, m1_m2, m2_m1, m2_lt_m1, bI_0, bI_1, bI_t, bI_f, bI_bo, nI0_bo, nI1_bo, if_true, if_false, ite_true, ite_false, Nat.zero_add, Nat.not_lt_zero, Nat.zero_le, not_true_eq_false, not_false_eq_true, or_false, false_or, true_or, or_true, and_true, true_and, Bool.false_eq_true, Bool.true_eq_false, reduceCtorEq, eq_self, decide_true, decide_false, Bool.not_true, Bool.not_false, Bool.and_true, Bool.and_false]
        · cases hst : stl st n m2 s <;> simp (disch := omega) only [q, ↓lm1, ↓lm2, i0, i1, i2, i3, i4, i5, i6, i7, i8, i9, i10, i12, i16, i20, i24, i31, i32, i44, i48, i57, i59, i63, i64, i74, i75, i90, i96, i97, i99, i100, i122, i139, i140, i144, i192, i200, i240, i255, i304, i309, i310, i311, i323, i324, i325, i899, i900, i975, i999, i5200, i4875, i65536, i65537, i15, ob_some, nI_add, nI_clamp, zn_zib, zn_eq, zn_lt, zn_le, m2_lt, m2_le, lt_m2, le_m2, eq_m2, m2_eq, m1_lt, m1_le, lt_m1, le_m1, eq_m1, m1_eq, m1_m2, m2_m1, m2_lt_m1, bI_0, bI_1, bI_t, bI_f, bI_bo, nI0_bo, nI1_bo, if_true, if_false, ite_true, ite_false, Nat.zero_add, Nat.not_lt_zero, Nat.zero_le, not_true_eq_false, not_false_eq_true, or_false, false_or, true_or, or_true, and_true, true_and, Bool.false_eq_true, Bool.true_eq_false, reduceCtorEq, eq_self, decide_false, Bool.false_and]
    · rcases WS_d W hv with e | ⟨s, hs, e⟩
      · rw [e, has_m2]
        simp (disch := omega) only [↓lm1, ↓lm2, i0, i1, i2, i3, i4, i5, i6, i7, i8, i9, i10, i12, i16, i20, i24, i31, i32, i44, i48, i57, i59, i63, i64, i74, i75, i90, i96, i97, i99, i100, i122, i139, i140, i144, i192, i200, i240, i255, i304, i309, i310, i311, i323, i324, i325, i899, i900, i975, i999, i5200, i4875, i65536, i65537, i15, ob_some, nI_add, nI_clamp, zn_zib, zn_eq, zn_lt, zn_le, m2_lt, m2_le, lt_m2, le_m2, eq_m2, m2_eq, m1_lt, m1_le, lt_m1, le_m1, eq_m1, m1_eq, m1_m2, m2_m1, m2_lt_m1, bI_0, bI_1, bI_t, bI_f, bI_bo, nI0_bo, nI1_bo, if_true, if_false, ite_true, ite_false, Nat.zero_add, Nat.not_lt_zero, Nat.zero_le, not_true_eq_false, not_false_eq_true, or_false, false_or, true_or, or_true, and_true, true_and, Bool.false_eq_true, Bool.true_eq_false, reduceCtorEq, eq_self, decide_false, Bool.false_and]
      · rw [e, has_nI _ (by omega)]
        by_cases q : s = t
        · subst q
          cases hst : gn st s <;> simp (disch := omega) only [↓lm1, ↓lm2, i0, i1, i2, i3, i4, i5, i6, i7, i8, i9, i10, i12, i16, i20, i24, i31, i32, i44, i48, i57, i59, i63, i64, i74, i75, i90, i96, i97, i99, i100, i122, i139, i140, i144, i192, i200, i240, i255, i304, i309, i310, i311, i323, i324, i325, i899, i900, i975, i999, i5200, i4875, i65536, i65537, i15, ob_some, nI_add, nI_clamp, zn_zib, zn_eq, zn_lt, zn_le, m2_lt, m2_le, lt_m2, le_m2, eq_m2, m2_eq, m1_lt, m1_le, lt_m1, le_m1, eq_m1, m1_eq, m1_m2, m2_m1, m2_lt_m1, bI_0, bI_1, bI_t, bI_f, bI_bo, nI0_bo, nI1_bo, if_true, if_false, ite_true, ite_false, Nat.zero_add, Nat.not_lt_zero, Nat.zero_le, not_true_eq_false, not_false_eq_true, or_false, false_or, true_or, or_true, and_true, true_and, Bool.false_eq_true, Bool.true_eq_false, reduceCtorEq, eq_self, decide_true, decide_false, Bool.not_true, Bool.not_false, Bool.and_true, Bool.and_false]
        · cases hst : gn st s <;> simp (disch := omega) only [q, ↓lm1, ↓lm2, i0, i1, i2, i3, i4, i5, i6, i7, i8, i9, i10, i12, i16, i20, i24, i31, i32, i44, i48, i57, i59, i63, i64, i74, i75, i90, i96, i97, i99, i100, i122, i139, i140, i144, i192, i200, i240, i255, i304, i309, i310, i311, i323, i324, i325, i899, i900, i975, i999, i5200, i4875, i65536, i65537, i15, ob_some, nI_add, nI_clamp, zn_zib, zn_eq, zn_lt, zn_le, m2_lt, m2_le, lt_m2, le_m2, eq_m2, m2_eq, m1_lt, m1_le, lt_m1, le_m1, eq_m1, m1_eq, m1_m2, m2_m1, m2_lt_m1, bI_0, bI_1, bI_t, bI_f, bI_bo, nI0_bo, nI1_bo, if_true, if_false, ite_true, ite_false, Nat.zero_add, Nat.not_lt_zero, Nat.zero_le, not_true_eq_false, not_false_eq_true, or_false, false_or, true_or, or_true, and_true, true_and, Bool.false_eq_true, Bool.true_eq_false, reduceCtorEq, eq_self, decide_false, Bool.false_and]
end
