/-! odds, means -/
section
variable {R : SRows} {S : SMo} {r st tr : Nat → Int32} {n m c : Nat}
theorem vN_999 (W : WS st n m) (C : Nat → Bool) (i : Nat) : vN st C i ≤ 999 := by
  unfold vN
  cases h : bst st (sp st C i) 48 with
  | none => exact Nat.zero_le _
  | some v =>
    obtain ⟨⟨h1, -⟩, -⟩ := bst_some h
    obtain ⟨k, hk, e⟩ := WS_a W h1
    show (st (48 + v)).toNatClampNeg ≤ 999
    rw [e, nI_clamp (by omega)]
    exact hk
/-- what counts for a fresh reader behind a crash of a set of slots -/
theorem cls_C (H : RC R st n m c) {e : Nat} (he : e < 64) (hok : okB (chc st) e = true) {y : Int64} (hy : ∀ s, s < 64 → lb y s = an (fun w => (unN (chc st) 6 ^^^ e).testBit w && (rn st w && decide (st (304 + w) = nI s))) 6) : ∀ s, s < n → lb (Rows_doneStamps R ||| y) s = mcx st (nI e) 6 s := fun s hs => by
  have hn := WS_n (RC_W H)
  rw [lb_or, hy s (by omega), (RC_t H (by omega : s < 64)).2.1]
  unfold mcx
  congr 1
  refine an_cong (fun w hw => ?_)
  rw [bit_xor hok hw, bt_nat he (by omega)]
  unfold chc
  cases rn st w <;> cases bt (st 310) w <;> cases e.testBit w <;> rfl
theorem xor_64 {U e : Nat} (hU : U < 64) (he : e < 64) : U ^^^ e < 64 := Nat.xor_lt_two_pow (n := 6) hU he
theorem T_wov (H : RC R st n m c) {i : Nat} (hi : i < m) (x : Int32) : f_X1_weightOfValue R (nI i) x = some (lN (fb_sm (fun e => if okB (chc st) e && decide (va st (bst st (sp st (mcx st (nI e) 6) i) 48) = x) then wM (chc st) c e else 0) 64)) := by
  have hU := unN_lt (chc st) 6
  obtain ⟨F, hF⟩ : ∃ F : Nat → Nat, ∀ e, e < 64 → ∃ y, f_X1_stampsOf R (nI e) = some y ∧ (∀ s, s < 64 → lb y s = an (fun w => e.testBit w && (rn st w && decide (st (304 + w) = nI s))) 6) ∧ F e = if okB (chc st) e && decide (va st (bst st (sp st (lb (Rows_doneStamps R ||| y)) i) 48) = x) then wC (chc st) c e else 0 := by
    have hh : ∀ e, ∃ q, e < 64 → ∃ y, f_X1_stampsOf R (nI e) = some y ∧ (∀ s, s < 64 → lb y s = an (fun w => e.testBit w && (rn st w && decide (st (304 + w) = nI s))) 6) ∧ q = if okB (chc st) e && decide (va st (bst st (sp st (lb (Rows_doneStamps R ||| y)) i) 48) = x) then wC (chc st) c e else 0 := fun e => by
      by_cases he : e < 64
      · obtain ⟨y, y1, y2⟩ := T_stampsOf H he
        exact ⟨_, fun _ => ⟨y, y1, y2, rfl⟩⟩
      · exact ⟨0, fun q => absurd q he⟩
    exact ⟨fun e => (hh e).choose, fun e he => (hh e).choose_spec he⟩
  have hsum : fb_sm F 64 = fb_sm (fun e => if okB (chc st) e && decide (va st (bst st (sp st (mcx st (nI e) 6) i) 48) = x) then wM (chc st) c e else 0) 64 := by
    rw [← sum_xor hU F]
    refine fb_sm_cong (fun e he => ?_)
    obtain ⟨y, y1, y2, y3⟩ := hF (unN (chc st) 6 ^^^ e) (xor_64 hU he)
    rw [y3, ok_xor]
    cases z : okB (chc st) e
    · rfl
    · rw [va_st (RC_W H) (fun i _ => rfl) (cls_C H he z y2), w_xor z]
  rw [← hsum]
  unfold f_X1_weightOfValue
  have hfr : f_X6_countingFresh R = some (Rows_doneStamps R) := rfl
  rw [T_uncertain H, ob_some, hfr, ob_some]
  refine Eq.trans ?_ (zl4_fold (f := b_X1_weightOfValue_17 R (nI i) x) 64 (fun _ => orI (chc st) 6) (fun _ => Rows_doneStamps R) (fun e => lN (fb_sm F e)) _ (by omega) (fun k e he => ?_) (fun k => ?_))
  · rfl
  · have b1 : ¬ 64 ≤ e := by omega
    obtain ⟨y, y1, y2, y3⟩ := hF e he
    have hv := X6_valueSeen H (Rows_doneStamps R ||| y) hi
    have hok := sub_ok (chc st) he
    have hsm : fb_sm F (e + 1) = fb_sm F e + F e := rfl
    have em : (-1 : Int32) = m1 := rfl
    unfold b_X1_weightOfValue_17
    rw [hsm, y3]
    cases z : okB (chc st) e
    · rw [z] at hok
      simp (disch := omega) only [b1, hok, Bool.false_and, Nat.add_zero, ↓lm1, ↓lm2, i0, i1, i2, i3, i4, i5, i6, i7, i8, i9, i10, i12, i16, i20, i24, i31, i32, i44, i48, i57, i59, i63, i64, i74, i75, i90, i96, i97, i99, i100, i122, i139, i140, i144, i192, i200, i240, i255, i304, i309, i310, i311, i323, i324, i325, i899, i900, i975, i999, i5200, i4875, i65536, i65537, i15, ob_some, nI_add, nI_clamp, zn_zib, zn_eq, zn_lt, zn_le, m2_lt, m2_le, lt_m2, le_m2, eq_m2, m2_eq, m1_lt, m1_le, lt_m1, le_m1, eq_m1, m1_eq, m1_m2, m2_m1, m2_lt_m1, bI_0, bI_1, bI_t, bI_f, bI_bo, nI0_bo, nI1_bo, if_true, if_false, ite_true, ite_false, Nat.zero_add, Nat.not_lt_zero, Nat.zero_le, not_true_eq_false, not_false_eq_true, or_false, false_or, true_or, or_true, and_true, true_and, Bool.false_eq_true, Bool.true_eq_false, reduceCtorEq, eq_self]
    · rw [z] at hok
      by_cases q : va st (bst st (sp st (lb (Rows_doneStamps R ||| y)) i) 48) = x
      · rw [decide_eq_true q]
        rw [q] at hv
        simp (disch := omega) only [b1, hok, y1, hv, T_weightOf H he, lN_add, Bool.and_self, ↓lm1, ↓lm2, i0, i1, i2, i3, i4, i5, i6, i7, i8, i9, i10, i12, i16, i20, i24, i31, i32, i44, i48, i57, i59, i63, i64, i74, i75, i90, i96, i97, i99, i100, i122, i139, i140, i144, i192, i200, i240, i255, i304, i309, i310, i311, i323, i324, i325, i899, i900, i975, i999, i5200, i4875, i65536, i65537, i15, ob_some, nI_add, nI_clamp, zn_zib, zn_eq, zn_lt, zn_le, m2_lt, m2_le, lt_m2, le_m2, eq_m2, m2_eq, m1_lt, m1_le, lt_m1, le_m1, eq_m1, m1_eq, m1_m2, m2_m1, m2_lt_m1, bI_0, bI_1, bI_t, bI_f, bI_bo, nI0_bo, nI1_bo, if_true, if_false, ite_true, ite_false, Nat.zero_add, Nat.not_lt_zero, Nat.zero_le, not_true_eq_false, not_false_eq_true, or_false, false_or, true_or, or_true, and_true, true_and, Bool.false_eq_true, Bool.true_eq_false, reduceCtorEq, eq_self]
      · rw [decide_eq_false q]
        simp (disch := omega) only [b1, hok, y1, hv, q, Bool.and_false, Nat.add_zero, ↓lm1, ↓lm2, i0, i1, i2, i3, i4, i5, i6, i7, i8, i9, i10, i12, i16, i20, i24, i31, i32, i44, i48, i57, i59, i63, i64, i74, i75, i90, i96, i97, i99, i100, i122, i139, i140, i144, i192, i200, i240, i255, i304, i309, i310, i311, i323, i324, i325, i899, i900, i975, i999, i5200, i4875, i65536, i65537, i15, ob_some, nI_add, nI_clamp, zn_zib, zn_eq, zn_lt, zn_le, m2_lt, m2_le, lt_m2, le_m2, eq_m2, m2_eq, m1_lt, m1_le, lt_m1, le_m1, eq_m1, m1_eq, m1_m2, m2_m1, m2_lt_m1, bI_0, bI_1, bI_t, bI_f, bI_bo, nI0_bo, nI1_bo, if_true, if_false, ite_true, ite_false, Nat.zero_add, Nat.not_lt_zero, Nat.zero_le, not_true_eq_false, not_false_eq_true, or_false, false_or, true_or, or_true, and_true, true_and, Bool.false_eq_true, Bool.true_eq_false, reduceCtorEq, eq_self]
  · have b1 : (64 : Int32) ≤ nI 64 := by decide
    unfold b_X1_weightOfValue_17
    rw [if_pos b1]
theorem T_ws (H : RC R st n m c) : f_X1_weightedSum R = some (lN (fb_sm (fun e => if okB (chc st) e then wM (chc st) c e * fb_sm (vN st (mcx st (nI e) 6)) m else 0) 64)) := by
  have hU := unN_lt (chc st) 6
  have hm := WS_m (RC_W H)
  obtain ⟨F, hF⟩ : ∃ F : Nat → Nat, ∀ e, e < 64 → ∃ y, f_X1_stampsOf R (nI e) = some y ∧ (∀ s, s < 64 → lb y s = an (fun w => e.testBit w && (rn st w && decide (st (304 + w) = nI s))) 6) ∧ F e = if okB (chc st) e then wC (chc st) c e * fb_sm (vN st (lb (Rows_doneStamps R ||| y))) m else 0 := by
    have hh : ∀ e, ∃ q, e < 64 → ∃ y, f_X1_stampsOf R (nI e) = some y ∧ (∀ s, s < 64 → lb y s = an (fun w => e.testBit w && (rn st w && decide (st (304 + w) = nI s))) 6) ∧ q = if okB (chc st) e then wC (chc st) c e * fb_sm (vN st (lb (Rows_doneStamps R ||| y))) m else 0 := fun e => by
      by_cases he : e < 64
      · obtain ⟨y, y1, y2⟩ := T_stampsOf H he
        exact ⟨_, fun _ => ⟨y, y1, y2, rfl⟩⟩
      · exact ⟨0, fun q => absurd q he⟩
    exact ⟨fun e => (hh e).choose, fun e he => (hh e).choose_spec he⟩
  have hsum : fb_sm F 64 = fb_sm (fun e => if okB (chc st) e then wM (chc st) c e * fb_sm (vN st (mcx st (nI e) 6)) m else 0) 64 := by
    rw [← sum_xor hU F]
    refine fb_sm_cong (fun e he => ?_)
    obtain ⟨y, y1, y2, y3⟩ := hF (unN (chc st) 6 ^^^ e) (xor_64 hU he)
    rw [y3, ok_xor]
    cases z : okB (chc st) e
    · rfl
    · rw [if_pos rfl, if_pos rfl, w_xor z]
      congr 1
      exact fb_sm_cong (fun i hi => vN_st (RC_W H) (fun i _ => rfl) (cls_C H he z y2))
  rw [← hsum]
  unfold f_X1_weightedSum
  have hfr : f_X6_countingFresh R = some (Rows_doneStamps R) := rfl
  rw [T_uncertain H, ob_some, hfr, ob_some]
  refine Eq.trans ?_ (zl4_fold (f := b_X1_weightedSum_16 R) 64 (fun _ => orI (chc st) 6) (fun _ => Rows_doneStamps R) (fun e => lN (fb_sm F e)) _ (by omega) (fun k e he => ?_) (fun k => ?_))
  · rfl
  · have b1 : ¬ 64 ≤ e := by omega
    obtain ⟨y, y1, y2, y3⟩ := hF e he
    have hv := X6_sumSeen H (Rows_doneStamps R ||| y)
    have hok := sub_ok (chc st) he
    have hsm : fb_sm F (e + 1) = fb_sm F e + F e := rfl
    have hbd : fb_sm (vN st (lb (Rows_doneStamps R ||| y))) m < 2 ^ 31 := by
      have := fb_sm_bound (f := vN st (lb (Rows_doneStamps R ||| y))) (c := 999) (n := m) (fun k _ => vN_999 (RC_W H) _ k)
      omega
    unfold b_X1_weightedSum_16
    rw [hsm, y3]
    cases z : okB (chc st) e
    · rw [z] at hok
      simp (disch := omega) only [b1, hok, Nat.add_zero, ↓lm1, ↓lm2, i0, i1, i2, i3, i4, i5, i6, i7, i8, i9, i10, i12, i16, i20, i24, i31, i32, i44, i48, i57, i59, i63, i64, i74, i75, i90, i96, i97, i99, i100, i122, i139, i140, i144, i192, i200, i240, i255, i304, i309, i310, i311, i323, i324, i325, i899, i900, i975, i999, i5200, i4875, i65536, i65537, i15, ob_some, nI_add, nI_clamp, zn_zib, zn_eq, zn_lt, zn_le, m2_lt, m2_le, lt_m2, le_m2, eq_m2, m2_eq, m1_lt, m1_le, lt_m1, le_m1, eq_m1, m1_eq, m1_m2, m2_m1, m2_lt_m1, bI_0, bI_1, bI_t, bI_f, bI_bo, nI0_bo, nI1_bo, if_true, if_false, ite_true, ite_false, Nat.zero_add, Nat.not_lt_zero, Nat.zero_le, not_true_eq_false, not_false_eq_true, or_false, false_or, true_or, or_true, and_true, true_and, Bool.false_eq_true, Bool.true_eq_false, reduceCtorEq, eq_self]
    · rw [z] at hok
      simp (disch := omega) only [b1, hok, y1, hv, T_weightOf H he, nI_l hbd, lN_mul, lN_add, ↓lm1, ↓lm2, i0, i1, i2, i3, i4, i5, i6, i7, i8, i9, i10, i12, i16, i20, i24, i31, i32, i44, i48, i57, i59, i63, i64, i74, i75, i90, i96, i97, i99, i100, i122, i139, i140, i144, i192, i200, i240, i255, i304, i309, i310, i311, i323, i324, i325, i899, i900, i975, i999, i5200, i4875, i65536, i65537, i15, ob_some, nI_add, nI_clamp, zn_zib, zn_eq, zn_lt, zn_le, m2_lt, m2_le, lt_m2, le_m2, eq_m2, m2_eq, m1_lt, m1_le, lt_m1, le_m1, eq_m1, m1_eq, m1_m2, m2_m1, m2_lt_m1, bI_0, bI_1, bI_t, bI_f, bI_bo, nI0_bo, nI1_bo, if_true, if_false, ite_true, ite_false, Nat.zero_add, Nat.not_lt_zero, Nat.zero_le, not_true_eq_false, not_false_eq_true, or_false, false_or, true_or, or_true, and_true, true_and, Bool.false_eq_true, Bool.true_eq_false, reduceCtorEq, eq_self]
  · have b1 : (64 : Int32) ≤ nI 64 := by decide
    unfold b_X1_weightedSum_16
    rw [if_pos b1]
end
