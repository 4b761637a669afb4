/-! odds, means, draws, as calls -/
theorem pM_le {f : Nat → Nat} : ∀ {n : Nat}, (∀ k, k < n → 1 ≤ f k ∧ f k ≤ 100) → 1 ≤ pM f n ∧ pM f n ≤ 100 ^ n
  | 0, _ => ⟨Nat.le_refl 1, Nat.le_refl 1⟩
  | n + 1, h => by
    have h1 := pM_le (n := n) (fun k hk => h k (by omega))
    have h2 := h n (by omega)
    rw [pM_s, Nat.pow_succ]
    exact ⟨Nat.mul_le_mul h1.1 h2.1, Nat.mul_le_mul h1.2 h2.2⟩
def QO (T : SSR) (S : SMo) (a : Option (Int64 × SSR)) (b : Option (Int64 × SMo × (Nat → Int32))) : Prop := ∃ x q S' tr', a = some (x, sSR_troubleNumber T q) ∧ b = some (x, S', tr') ∧ SA S S' q
section
variable {T : SSR} {R : SRows} {S : SMo} {r st tr : Nat → Int32} {n m c b : Nat}
theorem al_bd (st : Nat → Int32) {c : Nat} (hc : c ≤ 100) : fb_sm (fAs st c) 64 = pM (fun w => if chc st w then 100 else 1) 6 ∧ 0 < fb_sm (fAs st c) 64 ∧ fb_sm (fAs st c) 64 ≤ 1000000000000 := by
  have e : fb_sm (fAs st c) 64 = pM (fun w => if chc st w then 100 else 1) 6 := all_w (chc st) hc
  have h := pM_le (f := fun w => if chc st w then 100 else 1) (n := 6) (fun k _ => by
    cases chc st k
    · exact ⟨Nat.le_refl 1, by decide⟩
    · exact ⟨by decide, Nat.le_refl 100⟩)
  have h6 : (100 : Nat) ^ 6 = 1000000000000 := rfl
  rw [h6] at h
  rw [e]
  exact ⟨rfl, by omega, h.2⟩
theorem t_odds (h : QQ R S r st b) (x y z : Int32) : QO T S (f_X9_odds T R x y z) (f_X10_odds S r st tr x y z) := by
  obtain ⟨p, l1, l2, l3⟩ := g_row h x
  obtain ⟨u, u1, u2, u3⟩ := g_val y
  unfold f_X9_odds f_X10_odds
  cases p
  · exact ⟨m1.toInt64, nI 1, sMo_trouble (AN S) (nI 1), tr, by simp (disch := omega) only [l1, M_anew, M_no, X9_ans, X9_ref, M_why0, M_why10, M_why11, ↓lm1, ↓lm2, i0, i1, i2, i3, i4, i5, i6, i7, i8, i9, i10, i12, i16, i20, i24, i31, i32, i44, i48, i57, i59, i63, i64, i74, i75, i90, i96, i97, i99, i100, i122, i139, i140, i144, i192, i200, i240, i255, i304, i309, i310, i311, i323, i324, i325, i899, i900, i975, i999, i5200, i4875, i65536, i65537, i15, ob_some, nI_add, nI_clamp, zn_zib, zn_eq, zn_lt, zn_le, m2_lt, m2_le, lt_m2, le_m2, eq_m2, m2_eq, m1_lt, m1_le, lt_m1, le_m1, eq_m1, m1_eq, m1_m2, m2_m1, m2_lt_m1, bI_0, bI_1, bI_t, bI_f, bI_bo, nI0_bo, nI1_bo, if_true, if_false, ite_true, ite_false, Nat.zero_add, Nat.not_lt_zero, Nat.zero_le, not_true_eq_false, not_false_eq_true, or_false, false_or, true_or, or_true, and_true, true_and, Bool.false_eq_true, Bool.true_eq_false, reduceCtorEq, eq_self], by simp (disch := omega) only [l2, u2, M_anew, M_no, X9_ans, X9_ref, M_why0, M_why10, M_why11, ↓lm1, ↓lm2, i0, i1, i2, i3, i4, i5, i6, i7, i8, i9, i10, i12, i16, i20, i24, i31, i32, i44, i48, i57, i59, i63, i64, i74, i75, i90, i96, i97, i99, i100, i122, i139, i140, i144, i192, i200, i240, i255, i304, i309, i310, i311, i323, i324, i325, i899, i900, i975, i999, i5200, i4875, i65536, i65537, i15, ob_some, nI_add, nI_clamp, zn_zib, zn_eq, zn_lt, zn_le, m2_lt, m2_le, lt_m2, le_m2, eq_m2, m2_eq, m1_lt, m1_le, lt_m1, le_m1, eq_m1, m1_eq, m1_m2, m2_m1, m2_lt_m1, bI_0, bI_1, bI_t, bI_f, bI_bo, nI0_bo, nI1_bo, if_true, if_false, ite_true, ite_false, Nat.zero_add, Nat.not_lt_zero, Nat.zero_le, not_true_eq_false, not_false_eq_true, or_false, false_or, true_or, or_true, and_true, true_and, Bool.false_eq_true, Bool.true_eq_false, reduceCtorEq, eq_self], SA_no S (nI 1)⟩
  · cases u
    · exact ⟨m1.toInt64, nI 2, sMo_trouble (AN S) (nI 2), tr, by simp (disch := omega) only [l1, u1, M_anew, M_no, X9_ans, X9_ref, M_why0, M_why10, M_why11, ↓lm1, ↓lm2, i0, i1, i2, i3, i4, i5, i6, i7, i8, i9, i10, i12, i16, i20, i24, i31, i32, i44, i48, i57, i59, i63, i64, i74, i75, i90, i96, i97, i99, i100, i122, i139, i140, i144, i192, i200, i240, i255, i304, i309, i310, i311, i323, i324, i325, i899, i900, i975, i999, i5200, i4875, i65536, i65537, i15, ob_some, nI_add, nI_clamp, zn_zib, zn_eq, zn_lt, zn_le, m2_lt, m2_le, lt_m2, le_m2, eq_m2, m2_eq, m1_lt, m1_le, lt_m1, le_m1, eq_m1, m1_eq, m1_m2, m2_m1, m2_lt_m1, bI_0, bI_1, bI_t, bI_f, bI_bo, nI0_bo, nI1_bo, if_true, if_false, ite_true, ite_false, Nat.zero_add, Nat.not_lt_zero, Nat.zero_le, not_true_eq_false, not_false_eq_true, or_false, false_or, true_or, or_true, and_true, true_and, Bool.false_eq_true, Bool.true_eq_false, reduceCtorEq, eq_self], by simp (disch := omega) only [l2, u2, M_anew, M_no, X9_ans, X9_ref, M_why0, M_why10, M_why11, ↓lm1, ↓lm2, i0, i1, i2, i3, i4, i5, i6, i7, i8, i9, i10, i12, i16, i20, i24, i31, i32, i44, i48, i57, i59, i63, i64, i74, i75, i90, i96, i97, i99, i100, i122, i139, i140, i144, i192, i200, i240, i255, i304, i309, i310, i311, i323, i324, i325, i899, i900, i975, i999, i5200, i4875, i65536, i65537, i15, ob_some, nI_add, nI_clamp, zn_zib, zn_eq, zn_lt, zn_le, m2_lt, m2_le, lt_m2, le_m2, eq_m2, m2_eq, m1_lt, m1_le, lt_m1, le_m1, eq_m1, m1_eq, m1_m2, m2_m1, m2_lt_m1, bI_0, bI_1, bI_t, bI_f, bI_bo, nI0_bo, nI1_bo, if_true, if_false, ite_true, ite_false, Nat.zero_add, Nat.not_lt_zero, Nat.zero_le, not_true_eq_false, not_false_eq_true, or_false, false_or, true_or, or_true, and_true, true_and, Bool.false_eq_true, Bool.true_eq_false, reduceCtorEq, eq_self], SA_no S (nI 2)⟩
    · obtain ⟨n, m, c, i, hq, hi, rfl⟩ := l3 rfl
      have H := Q1_H hq
      have hc := RC_c H
      obtain ⟨S', tr', k1, k2⟩ := M_try (S := AN S) (tr := tr) (x1 := nI i) (x2 := y) (G := fun e => decide (va st (bst st (sp st (mcx st (nI e) 6) i) 48) = y)) (RC_W H) (Q1_I hq) hq.2.2.2.1 hq.2.2.2.2.1 hc (.inr ⟨i, hi, rfl, fun e => rfl⟩)
      obtain ⟨a1, a2, a3⟩ := al_bd st hc
      have w1 := T_wov H hi y
      have w2 := T_whole_w H
      rw [← a1] at w2
      have hle : fb_sm (fSs st c (fun e => decide (va st (bst st (sp st (mcx st (nI e) 6) i) 48) = y))) 64 ≤ fb_sm (fAs st c) 64 := fb_sm_le (fun e _ => by
        unfold fSs fAs
        cases okB (chc st) e
        · exact Nat.le_refl 0
        · rw [Bool.true_and, if_pos rfl]
          split
          · exact Nat.le_refl _
          · exact Nat.zero_le _)
      have w1' : f_X1_weightOfValue R (nI i) y = some (lN (fb_sm (fSs st c (fun e => decide (va st (bst st (sp st (mcx st (nI e) 6) i) 48) = y))) 64)) := w1
      have k3 := k2.2.2.1
      generalize fb_sm (fSs st c (fun e => decide (va st (bst st (sp st (mcx st (nI e) 6) i) 48) = y))) 64 = A at hle w1' k3
      obtain ⟨v, v1, v2⟩ := low_both (up := A) (dn := fb_sm (fAs st c) 64) (by omega) (by omega) a2 z
      refine ⟨v, nI 0, S', tr', ?_, ?_, SQ_SA k2.1⟩
      · simp (disch := omega) only [l1, u1, w1', w2, v1, M_anew, M_no, X9_ans, X9_ref, M_why0, M_why10, M_why11, ↓lm1, ↓lm2, i0, i1, i2, i3, i4, i5, i6, i7, i8, i9, i10, i12, i16, i20, i24, i31, i32, i44, i48, i57, i59, i63, i64, i74, i75, i90, i96, i97, i99, i100, i122, i139, i140, i144, i192, i200, i240, i255, i304, i309, i310, i311, i323, i324, i325, i899, i900, i975, i999, i5200, i4875, i65536, i65537, i15, ob_some, nI_add, nI_clamp, zn_zib, zn_eq, zn_lt, zn_le, m2_lt, m2_le, lt_m2, le_m2, eq_m2, m2_eq, m1_lt, m1_le, lt_m1, le_m1, eq_m1, m1_eq, m1_m2, m2_m1, m2_lt_m1, bI_0, bI_1, bI_t, bI_f, bI_bo, nI0_bo, nI1_bo, if_true, if_false, ite_true, ite_false, Nat.zero_add, Nat.not_lt_zero, Nat.zero_le, not_true_eq_false, not_false_eq_true, or_false, false_or, true_or, or_true, and_true, true_and, Bool.false_eq_true, Bool.true_eq_false, reduceCtorEq, eq_self]
        rfl
      · simp (disch := omega) only [l2, u2, k1, M_anew, M_no, X9_ans, X9_ref, M_why0, M_why10, M_why11, ↓lm1, ↓lm2, i0, i1, i2, i3, i4, i5, i6, i7, i8, i9, i10, i12, i16, i20, i24, i31, i32, i44, i48, i57, i59, i63, i64, i74, i75, i90, i96, i97, i99, i100, i122, i139, i140, i144, i192, i200, i240, i255, i304, i309, i310, i311, i323, i324, i325, i899, i900, i975, i999, i5200, i4875, i65536, i65537, i15, ob_some, nI_add, nI_clamp, zn_zib, zn_eq, zn_lt, zn_le, m2_lt, m2_le, lt_m2, le_m2, eq_m2, m2_eq, m1_lt, m1_le, lt_m1, le_m1, eq_m1, m1_eq, m1_m2, m2_m1, m2_lt_m1, bI_0, bI_1, bI_t, bI_f, bI_bo, nI0_bo, nI1_bo, if_true, if_false, ite_true, ite_false, Nat.zero_add, Nat.not_lt_zero, Nat.zero_le, not_true_eq_false, not_false_eq_true, or_false, false_or, true_or, or_true, and_true, true_and, Bool.false_eq_true, Bool.true_eq_false, reduceCtorEq, eq_self]
        rw [k3, k2.2.1, v2]
        rfl
theorem t_mean (h : QQ R S r st b) (z : Int32) : QO T S (f_X9_mean T R z) (f_X10_mean S r st tr z) := by
  obtain ⟨hs, g1, g2, g3⟩ := g_has (T := T) h
  have g2' : Mo_hasStore (AN S) = bI hs := g2
  unfold f_X9_mean f_X10_mean
  cases hs
  · exact ⟨m1.toInt64, nI 1, sMo_trouble (AN S) (nI 1), tr, by simp (disch := omega) only [g1, M_anew, M_no, X9_ans, X9_ref, M_why0, M_why10, M_why11, ↓lm1, ↓lm2, i0, i1, i2, i3, i4, i5, i6, i7, i8, i9, i10, i12, i16, i20, i24, i31, i32, i44, i48, i57, i59, i63, i64, i74, i75, i90, i96, i97, i99, i100, i122, i139, i140, i144, i192, i200, i240, i255, i304, i309, i310, i311, i323, i324, i325, i899, i900, i975, i999, i5200, i4875, i65536, i65537, i15, ob_some, nI_add, nI_clamp, zn_zib, zn_eq, zn_lt, zn_le, m2_lt, m2_le, lt_m2, le_m2, eq_m2, m2_eq, m1_lt, m1_le, lt_m1, le_m1, eq_m1, m1_eq, m1_m2, m2_m1, m2_lt_m1, bI_0, bI_1, bI_t, bI_f, bI_bo, nI0_bo, nI1_bo, if_true, if_false, ite_true, ite_false, Nat.zero_add, Nat.not_lt_zero, Nat.zero_le, not_true_eq_false, not_false_eq_true, or_false, false_or, true_or, or_true, and_true, true_and, Bool.false_eq_true, Bool.true_eq_false, reduceCtorEq, eq_self], by simp (disch := omega) only [g2', M_anew, M_no, X9_ans, X9_ref, M_why0, M_why10, M_why11, ↓lm1, ↓lm2, i0, i1, i2, i3, i4, i5, i6, i7, i8, i9, i10, i12, i16, i20, i24, i31, i32, i44, i48, i57, i59, i63, i64, i74, i75, i90, i96, i97, i99, i100, i122, i139, i140, i144, i192, i200, i240, i255, i304, i309, i310, i311, i323, i324, i325, i899, i900, i975, i999, i5200, i4875, i65536, i65537, i15, ob_some, nI_add, nI_clamp, zn_zib, zn_eq, zn_lt, zn_le, m2_lt, m2_le, lt_m2, le_m2, eq_m2, m2_eq, m1_lt, m1_le, lt_m1, le_m1, eq_m1, m1_eq, m1_m2, m2_m1, m2_lt_m1, bI_0, bI_1, bI_t, bI_f, bI_bo, nI0_bo, nI1_bo, if_true, if_false, ite_true, ite_false, Nat.zero_add, Nat.not_lt_zero, Nat.zero_le, not_true_eq_false, not_false_eq_true, or_false, false_or, true_or, or_true, and_true, true_and, Bool.false_eq_true, Bool.true_eq_false, reduceCtorEq, eq_self], SA_no S (nI 1)⟩
  · obtain ⟨n, m, c, hq⟩ := g3 rfl
    have H := Q1_H hq
    have hc := RC_c H
    have hm := WS_m (RC_W H)
    obtain ⟨S', tr', k1, k2⟩ := M_try (S := AN S) (tr := tr) (x1 := m1) (x2 := nI 0) (G := fun _ => false) (RC_W H) (Q1_I hq) hq.2.2.2.1 hq.2.2.2.2.1 hc (.inl ⟨rfl, fun e => rfl⟩)
    obtain ⟨a1, a2, a3⟩ := al_bd st hc
    have w1 : f_X1_weightedSum R = some (lN (fb_sm (fWs st c m) 64)) := T_ws H
    have w2 := T_whole_w H
    rw [← a1] at w2
    have hle : fb_sm (fWs st c m) 64 ≤ fb_sm (fAs st c) 64 * 7992 := by
      rw [← fb_sm_mulr]
      refine fb_sm_le (fun e _ => ?_)
      unfold fWs fAs
      cases okB (chc st) e
      · exact Nat.zero_le _
      · rw [if_pos rfl, if_pos rfl]
        refine Nat.mul_le_mul_left _ ?_
        have := fb_sm_bound (f := vN st (mcx st (nI e) 6)) (c := 999) (n := m) (fun k _ => vN_999 (RC_W H) _ k)
        omega
    have k3 := k2.2.2.2
    generalize fb_sm (fWs st c m) 64 = A at hle w1 k3
    obtain ⟨v, v1, v2⟩ := low_both (up := A) (dn := fb_sm (fAs st c) 64) (by omega) (by omega) a2 z
    refine ⟨v, nI 0, S', tr', ?_, ?_, SQ_SA k2.1⟩
    · simp (disch := omega) only [g1, w1, w2, v1, M_anew, M_no, X9_ans, X9_ref, M_why0, M_why10, M_why11, ↓lm1, ↓lm2, i0, i1, i2, i3, i4, i5, i6, i7, i8, i9, i10, i12, i16, i20, i24, i31, i32, i44, i48, i57, i59, i63, i64, i74, i75, i90, i96, i97, i99, i100, i122, i139, i140, i144, i192, i200, i240, i255, i304, i309, i310, i311, i323, i324, i325, i899, i900, i975, i999, i5200, i4875, i65536, i65537, i15, ob_some, nI_add, nI_clamp, zn_zib, zn_eq, zn_lt, zn_le, m2_lt, m2_le, lt_m2, le_m2, eq_m2, m2_eq, m1_lt, m1_le, lt_m1, le_m1, eq_m1, m1_eq, m1_m2, m2_m1, m2_lt_m1, bI_0, bI_1, bI_t, bI_f, bI_bo, nI0_bo, nI1_bo, if_true, if_false, ite_true, ite_false, Nat.zero_add, Nat.not_lt_zero, Nat.zero_le, not_true_eq_false, not_false_eq_true, or_false, false_or, true_or, or_true, and_true, true_and, Bool.false_eq_true, Bool.true_eq_false, reduceCtorEq, eq_self]
      rfl
    · simp (disch := omega) only [g2', k1, M_anew, M_no, X9_ans, X9_ref, M_why0, M_why10, M_why11, ↓lm1, ↓lm2, i0, i1, i2, i3, i4, i5, i6, i7, i8, i9, i10, i12, i16, i20, i24, i31, i32, i44, i48, i57, i59, i63, i64, i74, i75, i90, i96, i97, i99, i100, i122, i139, i140, i144, i192, i200, i240, i255, i304, i309, i310, i311, i323, i324, i325, i899, i900, i975, i999, i5200, i4875, i65536, i65537, i15, ob_some, nI_add, nI_clamp, zn_zib, zn_eq, zn_lt, zn_le, m2_lt, m2_le, lt_m2, le_m2, eq_m2, m2_eq, m1_lt, m1_le, lt_m1, le_m1, eq_m1, m1_eq, m1_m2, m2_m1, m2_lt_m1, bI_0, bI_1, bI_t, bI_f, bI_bo, nI0_bo, nI1_bo, if_true, if_false, ite_true, ite_false, Nat.zero_add, Nat.not_lt_zero, Nat.zero_le, not_true_eq_false, not_false_eq_true, or_false, false_or, true_or, or_true, and_true, true_and, Bool.false_eq_true, Bool.true_eq_false, reduceCtorEq, eq_self]
      rw [k3, k2.2.1, v2]
      rfl
end
/-- the draws -/
def drw (v : Int32) : Int32 := (nI 75 * v + nI 74) - (nI 75 * v + nI 74) / nI 65537 * nI 65537
def drS (st : Nat → Int32) (x : Int32) : Nat → Int32
  | 0 => x
  | j + 1 => if rn st j then drw (drS st x j) else drS st x j
theorem drS_s (st : Nat → Int32) (x : Int32) (j : Nat) : drS st x (j + 1) = if rn st j then drw (drS st x j) else drS st x j := rfl
def tst (st : Nat → Int32) (x : Int32) (c j : Nat) : Bool := decide (drw (drS st x j) - drw (drS st x j) / nI 100 * nI 100 < nI c)
def crS (st : Nat → Int32) (x : Int32) (c : Nat) (j : Nat) : Int32 := orI (fun w => rn st w && tst st x c w) j
section
variable {T : SSR} {R : SRows} {S : SMo} {r st tr : Nat → Int32} {n m c b : Nat}
theorem T_draws (H : RC R st n m c) (x : Int32) : ∃ y, f_X1_countingByDraws R x = some y ∧ ∀ s, s < n → lb y s = mcx st (crS st x c 6) 6 s := by
  have hn := WS_n (RC_W H)
  have hfr : f_X6_countingFresh R = some (Rows_doneStamps R) := rfl
  unfold f_X1_countingByDraws
  rw [hfr, ob_some]
  refine zl3_ex (f := b_X1_countingByDraws_11 R x) 6 0 (fun j a v => v = drS st x j ∧ ∀ s, s < n → lb a s = (dn st s || an (fun w => chc st w && !tst st x c w && decide (st (304 + w) = nI s)) j)) (fun y => ∀ s, s < n → lb y s = mcx st (crS st x c 6) 6 s) (by omega) (Nat.zero_le _) ⟨rfl, fun s hs => ?_⟩ (fun k j a v hj hI => ?_) (fun k a v hI => ?_)
  · rw [(RC_t H (by omega : s < 64)).2.1]
    exact (Bool.or_false _).symm
  · obtain ⟨rfl, g1⟩ := hI
    have b1 : ¬ 6 ≤ j := by omega
    have h1 := X6_runs H hj
    have h2 := X6_hasLost H hj
    have h3 := X6_stampOf H hj
    have same : chc st j = false ∨ tst st x c j = true → ∀ s, s < n → lb a s = (dn st s || an (fun w => chc st w && !tst st x c w && decide (st (304 + w) = nI s)) (j + 1)) := fun q s hs => by
      rw [an_s, g1 s hs]
      rcases q with q | q
      · rw [q, Bool.false_and, Bool.false_and, Bool.or_false]
      · rw [q, Bool.not_true, Bool.and_false, Bool.false_and, Bool.or_false]
    have hdr : (nI 75 * drS st x j + nI 74) - (nI 75 * drS st x j + nI 74) / nI 65537 * nI 65537 = drw (drS st x j) := rfl
    unfold b_X1_countingByDraws_11
    cases z : rn st j
    · rw [z] at h1
      refine .inr ⟨a, drS st x (j + 1), ⟨rfl, same (.inl (by unfold chc; rw [z]; rfl))⟩, ?_⟩
      rw [drS_s, z]
      simp (disch := omega) only [b1, h1, ↓lm1, ↓lm2, i0, i1, i2, i3, i4, i5, i6, i7, i8, i9, i10, i12, i16, i20, i24, i31, i32, i44, i48, i57, i59, i63, i64, i74, i75, i90, i96, i97, i99, i100, i122, i139, i140, i144, i192, i200, i240, i255, i304, i309, i310, i311, i323, i324, i325, i899, i900, i975, i999, i5200, i4875, i65536, i65537, i15, ob_some, nI_add, nI_clamp, zn_zib, zn_eq, zn_lt, zn_le, m2_lt, m2_le, lt_m2, le_m2, eq_m2, m2_eq, m1_lt, m1_le, lt_m1, le_m1, eq_m1, m1_eq, m1_m2, m2_m1, m2_lt_m1, bI_0, bI_1, bI_t, bI_f, bI_bo, nI0_bo, nI1_bo, if_true, if_false, ite_true, ite_false, Nat.zero_add, Nat.not_lt_zero, Nat.zero_le, not_true_eq_false, not_false_eq_true, or_false, false_or, true_or, or_true, and_true, true_and, Bool.false_eq_true, Bool.true_eq_false, reduceCtorEq, eq_self]
    · rw [z] at h1 h2 h3
      rw [if_pos rfl] at h3
      have ed : drS st x (j + 1) = drw (drS st x j) := by rw [drS_s, z]; rfl
      cases y : tst st x c j
      · have y' : ¬ drw (drS st x j) - drw (drS st x j) / nI 100 * nI 100 < nI c := of_decide_eq_false y
        cases w : bt (st 310) j
        · rw [w] at h2
          obtain ⟨s0, hs0, es⟩ := run_s (RC_W H) hj z
          rw [es] at h3
          refine .inr ⟨a ||| jlshl 1 (nI s0), drS st x (j + 1), ⟨rfl, fun s hs => ?_⟩, ?_⟩
          · rw [lb_or, lb_one (by omega), an_s, g1 s hs, y, es]
            unfold chc
            rw [z, w, Bool.or_assoc]
            congr 2
            by_cases q : s = s0
            · rw [decide_eq_true q, decide_eq_true (by rw [q])]
              rfl
            · rw [decide_eq_false q, decide_eq_false (by rw [zn_eq (by omega) (by omega)]; exact fun x => q x.symm)]
              rfl
          · rw [ed]
            simp (disch := omega) only [b1, h1, hdr, RC_cr H, y', h2, h3, bitOf_nI (by omega : s0 < 64), Bool.and_false, Bool.true_and, ↓lm1, ↓lm2, i0, i1, i2, i3, i4, i5, i6, i7, i8, i9, i10, i12, i16, i20, i24, i31, i32, i44, i48, i57, i59, i63, i64, i74, i75, i90, i96, i97, i99, i100, i122, i139, i140, i144, i192, i200, i240, i255, i304, i309, i310, i311, i323, i324, i325, i899, i900, i975, i999, i5200, i4875, i65536, i65537, i15, ob_some, nI_add, nI_clamp, zn_zib, zn_eq, zn_lt, zn_le, m2_lt, m2_le, lt_m2, le_m2, eq_m2, m2_eq, m1_lt, m1_le, lt_m1, le_m1, eq_m1, m1_eq, m1_m2, m2_m1, m2_lt_m1, bI_0, bI_1, bI_t, bI_f, bI_bo, nI0_bo, nI1_bo, if_true, if_false, ite_true, ite_false, Nat.zero_add, Nat.not_lt_zero, Nat.zero_le, not_true_eq_false, not_false_eq_true, or_false, false_or, true_or, or_true, and_true, true_and, Bool.false_eq_true, Bool.true_eq_false, reduceCtorEq, eq_self]
        · rw [w] at h2
          refine .inr ⟨a, drS st x (j + 1), ⟨rfl, same (.inl (by unfold chc; rw [w, Bool.not_true, Bool.and_false]))⟩, ?_⟩
          rw [ed]
          simp (disch := omega) only [b1, h1, hdr, RC_cr H, y', h2, Bool.and_self, ↓lm1, ↓lm2, i0, i1, i2, i3, i4, i5, i6, i7, i8, i9, i10, i12, i16, i20, i24, i31, i32, i44, i48, i57, i59, i63, i64, i74, i75, i90, i96, i97, i99, i100, i122, i139, i140, i144, i192, i200, i240, i255, i304, i309, i310, i311, i323, i324, i325, i899, i900, i975, i999, i5200, i4875, i65536, i65537, i15, ob_some, nI_add, nI_clamp, zn_zib, zn_eq, zn_lt, zn_le, m2_lt, m2_le, lt_m2, le_m2, eq_m2, m2_eq, m1_lt, m1_le, lt_m1, le_m1, eq_m1, m1_eq, m1_m2, m2_m1, m2_lt_m1, bI_0, bI_1, bI_t, bI_f, bI_bo, nI0_bo, nI1_bo, if_true, if_false, ite_true, ite_false, Nat.zero_add, Nat.not_lt_zero, Nat.zero_le, not_true_eq_false, not_false_eq_true, or_false, false_or, true_or, or_true, and_true, true_and, Bool.false_eq_true, Bool.true_eq_false, reduceCtorEq, eq_self]
      · have y' : drw (drS st x j) - drw (drS st x j) / nI 100 * nI 100 < nI c := of_decide_eq_true y
        refine .inr ⟨a, drS st x (j + 1), ⟨rfl, same (.inr y)⟩, ?_⟩
        rw [ed]
        simp (disch := omega) only [b1, h1, hdr, RC_cr H, y', ↓lm1, ↓lm2, i0, i1, i2, i3, i4, i5, i6, i7, i8, i9, i10, i12, i16, i20, i24, i31, i32, i44, i48, i57, i59, i63, i64, i74, i75, i90, i96, i97, i99, i100, i122, i139, i140, i144, i192, i200, i240, i255, i304, i309, i310, i311, i323, i324, i325, i899, i900, i975, i999, i5200, i4875, i65536, i65537, i15, ob_some, nI_add, nI_clamp, zn_zib, zn_eq, zn_lt, zn_le, m2_lt, m2_le, lt_m2, le_m2, eq_m2, m2_eq, m1_lt, m1_le, lt_m1, le_m1, eq_m1, m1_eq, m1_m2, m2_m1, m2_lt_m1, bI_0, bI_1, bI_t, bI_f, bI_bo, nI0_bo, nI1_bo, if_true, if_false, ite_true, ite_false, Nat.zero_add, Nat.not_lt_zero, Nat.zero_le, not_true_eq_false, not_false_eq_true, or_false, false_or, true_or, or_true, and_true, true_and, Bool.false_eq_true, Bool.true_eq_false, reduceCtorEq, eq_self]
  · obtain ⟨rfl, g1⟩ := hI
    have b1 : (6 : Int32) ≤ nI 6 := by decide
    refine ⟨a, ?_, fun s hs => ?_⟩
    · unfold b_X1_countingByDraws_11
      rw [if_pos b1]
    · rw [g1 s hs]
      unfold mcx
      congr 1
      refine an_cong (fun w hw => ?_)
      have e : bt (crS st x c 6) w = (rn st w && tst st x c w) := by
        unfold crS
        rw [orI_bt _ 6 (Nat.le_refl _) w (by omega), decide_eq_true hw, Bool.true_and]
      rw [e]
      unfold chc
      cases rn st w <;> cases bt (st 310) w <;> cases tst st x c w <;> rfl
theorem t_drawn (h : QQ R S r st b) (x : Int32) : ∃ v q S' tr', f_X9_drawn T R x = some (v, sSR_troubleNumber T q) ∧ f_X10_drawn S r st tr x = some (v, S', tr') ∧ SA S S' q := by
  obtain ⟨hs, g1, g2, g3⟩ := g_has (T := T) h
  have g2' : Mo_hasStore (AN S) = bI hs := g2
  have hin := M_in (x := x) (by omega : 65537 < 2 ^ 30)
  have ez : nI 65537 - nI 1 = nI 65536 := by decide
  rw [ez] at hin
  unfold f_X9_drawn f_X10_drawn
  rcases ix_cases x (by omega : 65537 < 2 ^ 30) with ⟨f0, f1⟩ | ⟨f0, a, ha, rfl⟩
  · rw [f0] at hin
    cases hs
    · exact ⟨m1, nI 1, sMo_trouble (AN S) (nI 1), tr, by simp (disch := omega) only [g1, M_anew, M_no, X9_ans, X9_ref, M_why0, M_why10, M_why11, ↓lm1, ↓lm2, i0, i1, i2, i3, i4, i5, i6, i7, i8, i9, i10, i12, i16, i20, i24, i31, i32, i44, i48, i57, i59, i63, i64, i74, i75, i90, i96, i97, i99, i100, i122, i139, i140, i144, i192, i200, i240, i255, i304, i309, i310, i311, i323, i324, i325, i899, i900, i975, i999, i5200, i4875, i65536, i65537, i15, ob_some, nI_add, nI_clamp, zn_zib, zn_eq, zn_lt, zn_le, m2_lt, m2_le, lt_m2, le_m2, eq_m2, m2_eq, m1_lt, m1_le, lt_m1, le_m1, eq_m1, m1_eq, m1_m2, m2_m1, m2_lt_m1, bI_0, bI_1, bI_t, bI_f, bI_bo, nI0_bo, nI1_bo, if_true, if_false, ite_true, ite_false, Nat.zero_add, Nat.not_lt_zero, Nat.zero_le, not_true_eq_false, not_false_eq_true, or_false, false_or, true_or, or_true, and_true, true_and, Bool.false_eq_true, Bool.true_eq_false, reduceCtorEq, eq_self], by simp (disch := omega) only [g2', hin, M_anew, M_no, X9_ans, X9_ref, M_why0, M_why10, M_why11, ↓lm1, ↓lm2, i0, i1, i2, i3, i4, i5, i6, i7, i8, i9, i10, i12, i16, i20, i24, i31, i32, i44, i48, i57, i59, i63, i64, i74, i75, i90, i96, i97, i99, i100, i122, i139, i140, i144, i192, i200, i240, i255, i304, i309, i310, i311, i323, i324, i325, i899, i900, i975, i999, i5200, i4875, i65536, i65537, i15, ob_some, nI_add, nI_clamp, zn_zib, zn_eq, zn_lt, zn_le, m2_lt, m2_le, lt_m2, le_m2, eq_m2, m2_eq, m1_lt, m1_le, lt_m1, le_m1, eq_m1, m1_eq, m1_m2, m2_m1, m2_lt_m1, bI_0, bI_1, bI_t, bI_f, bI_bo, nI0_bo, nI1_bo, if_true, if_false, ite_true, ite_false, Nat.zero_add, Nat.not_lt_zero, Nat.zero_le, not_true_eq_false, not_false_eq_true, or_false, false_or, true_or, or_true, and_true, true_and, Bool.false_eq_true, Bool.true_eq_false, reduceCtorEq, eq_self], SA_no S (nI 1)⟩
    · refine ⟨m1, nI 2, sMo_trouble (AN S) (nI 2), tr, ?_, by simp (disch := omega) only [g2', hin, M_anew, M_no, X9_ans, X9_ref, M_why0, M_why10, M_why11, ↓lm1, ↓lm2, i0, i1, i2, i3, i4, i5, i6, i7, i8, i9, i10, i12, i16, i20, i24, i31, i32, i44, i48, i57, i59, i63, i64, i74, i75, i90, i96, i97, i99, i100, i122, i139, i140, i144, i192, i200, i240, i255, i304, i309, i310, i311, i323, i324, i325, i899, i900, i975, i999, i5200, i4875, i65536, i65537, i15, ob_some, nI_add, nI_clamp, zn_zib, zn_eq, zn_lt, zn_le, m2_lt, m2_le, lt_m2, le_m2, eq_m2, m2_eq, m1_lt, m1_le, lt_m1, le_m1, eq_m1, m1_eq, m1_m2, m2_m1, m2_lt_m1, bI_0, bI_1, bI_t, bI_f, bI_bo, nI0_bo, nI1_bo, if_true, if_false, ite_true, ite_false, Nat.zero_add, Nat.not_lt_zero, Nat.zero_le, not_true_eq_false, not_false_eq_true, or_false, false_or, true_or, or_true, and_true, true_and, Bool.false_eq_true, Bool.true_eq_false, reduceCtorEq, eq_self], SA_no S (nI 2)⟩
      by_cases y : x < nI 0
      · simp (disch := omega) only [g1, y, M_anew, M_no, X9_ans, X9_ref, M_why0, M_why10, M_why11, ↓lm1, ↓lm2, i0, i1, i2, i3, i4, i5, i6, i7, i8, i9, i10, i12, i16, i20, i24, i31, i32, i44, i48, i57, i59, i63, i64, i74, i75, i90, i96, i97, i99, i100, i122, i139, i140, i144, i192, i200, i240, i255, i304, i309, i310, i311, i323, i324, i325, i899, i900, i975, i999, i5200, i4875, i65536, i65537, i15, ob_some, nI_add, nI_clamp, zn_zib, zn_eq, zn_lt, zn_le, m2_lt, m2_le, lt_m2, le_m2, eq_m2, m2_eq, m1_lt, m1_le, lt_m1, le_m1, eq_m1, m1_eq, m1_m2, m2_m1, m2_lt_m1, bI_0, bI_1, bI_t, bI_f, bI_bo, nI0_bo, nI1_bo, if_true, if_false, ite_true, ite_false, Nat.zero_add, Nat.not_lt_zero, Nat.zero_le, not_true_eq_false, not_false_eq_true, or_false, false_or, true_or, or_true, and_true, true_and, Bool.false_eq_true, Bool.true_eq_false, reduceCtorEq, eq_self]
      · have y2 : ¬ x ≤ nI 65536 := by
          have := f1.resolve_left y
          rw [fa_le, nI_toInt (by omega)] at this ⊢
          omega
        simp (disch := omega) only [g1, y, y2, M_anew, M_no, X9_ans, X9_ref, M_why0, M_why10, M_why11, ↓lm1, ↓lm2, i0, i1, i2, i3, i4, i5, i6, i7, i8, i9, i10, i12, i16, i20, i24, i31, i32, i44, i48, i57, i59, i63, i64, i74, i75, i90, i96, i97, i99, i100, i122, i139, i140, i144, i192, i200, i240, i255, i304, i309, i310, i311, i323, i324, i325, i899, i900, i975, i999, i5200, i4875, i65536, i65537, i15, ob_some, nI_add, nI_clamp, zn_zib, zn_eq, zn_lt, zn_le, m2_lt, m2_le, lt_m2, le_m2, eq_m2, m2_eq, m1_lt, m1_le, lt_m1, le_m1, eq_m1, m1_eq, m1_m2, m2_m1, m2_lt_m1, bI_0, bI_1, bI_t, bI_f, bI_bo, nI0_bo, nI1_bo, if_true, if_false, ite_true, ite_false, Nat.zero_add, Nat.not_lt_zero, Nat.zero_le, not_true_eq_false, not_false_eq_true, or_false, false_or, true_or, or_true, and_true, true_and, Bool.false_eq_true, Bool.true_eq_false, reduceCtorEq, eq_self]
  · rw [f0] at hin
    cases hs
    · exact ⟨m1, nI 1, sMo_trouble (AN S) (nI 1), tr, by simp (disch := omega) only [g1, M_anew, M_no, X9_ans, X9_ref, M_why0, M_why10, M_why11, ↓lm1, ↓lm2, i0, i1, i2, i3, i4, i5, i6, i7, i8, i9, i10, i12, i16, i20, i24, i31, i32, i44, i48, i57, i59, i63, i64, i74, i75, i90, i96, i97, i99, i100, i122, i139, i140, i144, i192, i200, i240, i255, i304, i309, i310, i311, i323, i324, i325, i899, i900, i975, i999, i5200, i4875, i65536, i65537, i15, ob_some, nI_add, nI_clamp, zn_zib, zn_eq, zn_lt, zn_le, m2_lt, m2_le, lt_m2, le_m2, eq_m2, m2_eq, m1_lt, m1_le, lt_m1, le_m1, eq_m1, m1_eq, m1_m2, m2_m1, m2_lt_m1, bI_0, bI_1, bI_t, bI_f, bI_bo, nI0_bo, nI1_bo, if_true, if_false, ite_true, ite_false, Nat.zero_add, Nat.not_lt_zero, Nat.zero_le, not_true_eq_false, not_false_eq_true, or_false, false_or, true_or, or_true, and_true, true_and, Bool.false_eq_true, Bool.true_eq_false, reduceCtorEq, eq_self], by simp (disch := omega) only [g2', hin, M_anew, M_no, X9_ans, X9_ref, M_why0, M_why10, M_why11, ↓lm1, ↓lm2, i0, i1, i2, i3, i4, i5, i6, i7, i8, i9, i10, i12, i16, i20, i24, i31, i32, i44, i48, i57, i59, i63, i64, i74, i75, i90, i96, i97, i99, i100, i122, i139, i140, i144, i192, i200, i240, i255, i304, i309, i310, i311, i323, i324, i325, i899, i900, i975, i999, i5200, i4875, i65536, i65537, i15, ob_some, nI_add, nI_clamp, zn_zib, zn_eq, zn_lt, zn_le, m2_lt, m2_le, lt_m2, le_m2, eq_m2, m2_eq, m1_lt, m1_le, lt_m1, le_m1, eq_m1, m1_eq, m1_m2, m2_m1, m2_lt_m1, bI_0, bI_1, bI_t, bI_f, bI_bo, nI0_bo, nI1_bo, if_true, if_false, ite_true, ite_false, Nat.zero_add, Nat.not_lt_zero, Nat.zero_le, not_true_eq_false, not_false_eq_true, or_false, false_or, true_or, or_true, and_true, true_and, Bool.false_eq_true, Bool.true_eq_false, reduceCtorEq, eq_self], SA_no S (nI 1)⟩
    · obtain ⟨n, m, c, hq⟩ := g3 rfl
      have H := Q1_H hq
      have W := RC_W H
      have hc := RC_c H
      have h1r := hq.2.2.2.1
      have h3r := hq.2.2.2.2.1
      obtain ⟨y, y1, y2⟩ := T_draws H (nI a)
      have hsum := X6_sumSeen H y
      have esum : fb_sm (vN st (lb y)) m = fb_sm (vN st (mcx st (crS st (nI a) c 6) 6)) m := fb_sm_cong (fun i hi => vN_st W (fun i _ => rfl) y2)
      rw [esum] at hsum
      have key := zl5_ex (f := b_X10_drawn_39 r st (nI a)) (c1 := AN S) (c2 := tr) (c3 := nI a) (c4 := nI 0) 6 0 (fun j S' t v u => S' = AN S ∧ t = tr ∧ v = drS st (nI a) j ∧ u = crS st (nI a) c j) (fun q => q.1 = nI (fb_sm (vN st (mcx st (crS st (nI a) c 6) 6)) m) ∧ q.2.1 = AN S) (by omega) (Nat.zero_le _) ⟨rfl, rfl, rfl, rfl⟩ (fun k j S' t v u hj hI => ?_) (fun k S' t v u hI => ?_)
      · obtain ⟨⟨v, S', tr'⟩, k1, k2, k3⟩ := key
        have k2' : v = nI (fb_sm (vN st (mcx st (crS st (nI a) c 6) 6)) m) := k2
        have k3' : S' = AN S := k3
        rw [k2', k3'] at k1
        have z1 : ¬ a < 0 := by omega
        have z2 : a ≤ 65536 := by omega
        refine ⟨_, nI 0, AN S, tr', by simp (disch := omega) only [g1, z1, z2, y1, hsum, M_anew, M_no, X9_ans, X9_ref, M_why0, M_why10, M_why11, ↓lm1, ↓lm2, i0, i1, i2, i3, i4, i5, i6, i7, i8, i9, i10, i12, i16, i20, i24, i31, i32, i44, i48, i57, i59, i63, i64, i74, i75, i90, i96, i97, i99, i100, i122, i139, i140, i144, i192, i200, i240, i255, i304, i309, i310, i311, i323, i324, i325, i899, i900, i975, i999, i5200, i4875, i65536, i65537, i15, ob_some, nI_add, nI_clamp, zn_zib, zn_eq, zn_lt, zn_le, m2_lt, m2_le, lt_m2, le_m2, eq_m2, m2_eq, m1_lt, m1_le, lt_m1, le_m1, eq_m1, m1_eq, m1_m2, m2_m1, m2_lt_m1, bI_0, bI_1, bI_t, bI_f, bI_bo, nI0_bo, nI1_bo, if_true, if_false, ite_true, ite_false, Nat.zero_add, Nat.not_lt_zero, Nat.zero_le, not_true_eq_false, not_false_eq_true, or_false, false_or, true_or, or_true, and_true, true_and, Bool.false_eq_true, Bool.true_eq_false, reduceCtorEq, eq_self]; rfl, ?_, SA_AN S⟩
        simp (disch := omega) only [g2', hin, M_anew, M_no, X9_ans, X9_ref, M_why0, M_why10, M_why11, ↓lm1, ↓lm2, i0, i1, i2, i3, i4, i5, i6, i7, i8, i9, i10, i12, i16, i20, i24, i31, i32, i44, i48, i57, i59, i63, i64, i74, i75, i90, i96, i97, i99, i100, i122, i139, i140, i144, i192, i200, i240, i255, i304, i309, i310, i311, i323, i324, i325, i899, i900, i975, i999, i5200, i4875, i65536, i65537, i15, ob_some, nI_add, nI_clamp, zn_zib, zn_eq, zn_lt, zn_le, m2_lt, m2_le, lt_m2, le_m2, eq_m2, m2_eq, m1_lt, m1_le, lt_m1, le_m1, eq_m1, m1_eq, m1_m2, m2_m1, m2_lt_m1, bI_0, bI_1, bI_t, bI_f, bI_bo, nI0_bo, nI1_bo, if_true, if_false, ite_true, ite_false, Nat.zero_add, Nat.not_lt_zero, Nat.zero_le, not_true_eq_false, not_false_eq_true, or_false, false_or, true_or, or_true, and_true, true_and, Bool.false_eq_true, Bool.true_eq_false, reduceCtorEq, eq_self]
        exact k1
      · obtain ⟨rfl, rfl, rfl, rfl⟩ := hI
        have b1 : ¬ 6 ≤ j := by omega
        have hrun := M_doesRun W hj
        have hdr : (nI 75 * drS st (nI a) j + nI 74) - (nI 75 * drS st (nI a) j + nI 74) / nI 65537 * nI 65537 = drw (drS st (nI a) j) := rfl
        unfold b_X10_drawn_39
        cases z : rn st j
        · rw [z] at hrun
          refine .inr ⟨_, _, drS st (nI a) (j + 1), crS st (nI a) c (j + 1), ⟨rfl, rfl, rfl, rfl⟩, ?_⟩
          unfold crS
          rw [drS_s, orI_s, z]
          simp (disch := omega) only [b1, hrun, Bool.false_and, ↓lm1, ↓lm2, i0, i1, i2, i3, i4, i5, i6, i7, i8, i9, i10, i12, i16, i20, i24, i31, i32, i44, i48, i57, i59, i63, i64, i74, i75, i90, i96, i97, i99, i100, i122, i139, i140, i144, i192, i200, i240, i255, i304, i309, i310, i311, i323, i324, i325, i899, i900, i975, i999, i5200, i4875, i65536, i65537, i15, ob_some, nI_add, nI_clamp, zn_zib, zn_eq, zn_lt, zn_le, m2_lt, m2_le, lt_m2, le_m2, eq_m2, m2_eq, m1_lt, m1_le, lt_m1, le_m1, eq_m1, m1_eq, m1_m2, m2_m1, m2_lt_m1, bI_0, bI_1, bI_t, bI_f, bI_bo, nI0_bo, nI1_bo, if_true, if_false, ite_true, ite_false, Nat.zero_add, Nat.not_lt_zero, Nat.zero_le, not_true_eq_false, not_false_eq_true, or_false, false_or, true_or, or_true, and_true, true_and, Bool.false_eq_true, Bool.true_eq_false, reduceCtorEq, eq_self]
        · rw [z] at hrun
          refine .inr ⟨_, _, drS st (nI a) (j + 1), crS st (nI a) c (j + 1), ⟨rfl, rfl, rfl, rfl⟩, ?_⟩
          have ed : drS st (nI a) (j + 1) = drw (drS st (nI a) j) := by rw [drS_s, z]; rfl
          rw [ed]
          unfold crS
          rw [orI_s, z, Bool.true_and]
          cases y : tst st (nI a) c j
          · have y' : ¬ drw (drS st (nI a) j) - drw (drS st (nI a) j) / nI 100 * nI 100 < nI c := of_decide_eq_false y
            have y3 : nI c ≤ drw (drS st (nI a) j) - drw (drS st (nI a) j) / nI 100 * nI 100 := fa_of_nlt y'
            simp (disch := omega) only [b1, hrun, hdr, h3r, y3, or_n0, ↓lm1, ↓lm2, i0, i1, i2, i3, i4, i5, i6, i7, i8, i9, i10, i12, i16, i20, i24, i31, i32, i44, i48, i57, i59, i63, i64, i74, i75, i90, i96, i97, i99, i100, i122, i139, i140, i144, i192, i200, i240, i255, i304, i309, i310, i311, i323, i324, i325, i899, i900, i975, i999, i5200, i4875, i65536, i65537, i15, ob_some, nI_add, nI_clamp, zn_zib, zn_eq, zn_lt, zn_le, m2_lt, m2_le, lt_m2, le_m2, eq_m2, m2_eq, m1_lt, m1_le, lt_m1, le_m1, eq_m1, m1_eq, m1_m2, m2_m1, m2_lt_m1, bI_0, bI_1, bI_t, bI_f, bI_bo, nI0_bo, nI1_bo, if_true, if_false, ite_true, ite_false, Nat.zero_add, Nat.not_lt_zero, Nat.zero_le, not_true_eq_false, not_false_eq_true, or_false, false_or, true_or, or_true, and_true, true_and, Bool.false_eq_true, Bool.true_eq_false, reduceCtorEq, eq_self]
          · have y' : drw (drS st (nI a) j) - drw (drS st (nI a) j) / nI 100 * nI 100 < nI c := of_decide_eq_true y
            have y3 : ¬ nI c ≤ drw (drS st (nI a) j) - drw (drS st (nI a) j) / nI 100 * nI 100 := (fa_of_lt y').2.1
            simp (disch := omega) only [b1, hrun, hdr, h3r, y3, ↓lm1, ↓lm2, i0, i1, i2, i3, i4, i5, i6, i7, i8, i9, i10, i12, i16, i20, i24, i31, i32, i44, i48, i57, i59, i63, i64, i74, i75, i90, i96, i97, i99, i100, i122, i139, i140, i144, i192, i200, i240, i255, i304, i309, i310, i311, i323, i324, i325, i899, i900, i975, i999, i5200, i4875, i65536, i65537, i15, ob_some, nI_add, nI_clamp, zn_zib, zn_eq, zn_lt, zn_le, m2_lt, m2_le, lt_m2, le_m2, eq_m2, m2_eq, m1_lt, m1_le, lt_m1, le_m1, eq_m1, m1_eq, m1_m2, m2_m1, m2_lt_m1, bI_0, bI_1, bI_t, bI_f, bI_bo, nI0_bo, nI1_bo, if_true, if_false, ite_true, ite_false, Nat.zero_add, Nat.not_lt_zero, Nat.zero_le, not_true_eq_false, not_false_eq_true, or_false, false_or, true_or, or_true, and_true, true_and, Bool.false_eq_true, Bool.true_eq_false, reduceCtorEq, eq_self]
      · obtain ⟨rfl, rfl, rfl, rfl⟩ := hI
        have b1 : (6 : Int32) ≤ nI 6 := by decide
        obtain ⟨t', q1, q2, q3, q4⟩ := M_crashOn (S := AN S) (tr := t) W (Q1_I hq) (crS st (nI a) c 6)
        have e9 : fb_sm (vN t' (dn t')) m = fb_sm (vN st (mcx st (crS st (nI a) c 6) 6)) m := fb_sm_cong (fun i hi => vN_st W q3 q4)
        have hs9 := M_sumOf (S := AN S) (x := m1) (r := r) (who_fresh q2) q2 h1r
        rw [e9] at hs9
        have hs9' : f_X10_sumOf (AN S) r t' (-1 : Int32) = some (nI (fb_sm (vN st (mcx st (crS st (nI a) c 6) 6)) m)) := hs9
        refine ⟨(nI (fb_sm (vN st (mcx st (crS st (nI a) c 6) 6)) m), AN S, t'), ?_, rfl, rfl⟩
        unfold b_X10_drawn_39
        rw [if_pos b1, q1, ob_some, hs9', ob_some]
end
