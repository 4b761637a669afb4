/-! odds, means, draws: the calls -/
def sw3 (S : SMo) (a b c : Int64) : SMo := mkMo (Mo_thrown S) (Mo_taped S) (Mo_size S) (Mo_at S) (Mo_end S) (Mo_token S) (Mo_whole S) (Mo_nameSize S) (Mo_fault S) (Mo_place S) (Mo_trouble S) (Mo_failed S) (Mo_hasStore S) (Mo_undos S) (Mo_images S) (Mo_ring S) (Mo_refused S) (Mo_setMany S) (Mo_someOf S) (Mo_allOf S) (Mo_firstRest S) a b c
section
variable {R : SRows} {S : SMo} {r st tr : Nat → Int32} {n m c : Nat}
theorem M_in6 (W : WS st n m) (h3 : r 3 = nI c) (hc : c ≤ 100) {e : Nat} (he : e < 64) (x1 x2 : Int32) (k17 : SMo → (Nat → Int32) → Int32 → Option (SMo × (Nat → Int32))) (X : Option (SMo × (Nat → Int32))) (hX : ∀ k, b_X10_tryCrash_32 r st x1 x2 k17 k S tr (nI e) (lN (wM (chc st) c e)) (bI (okB (chc st) e)) (nI 6) = X) : zl6 (b_X10_tryCrash_32 r st x1 x2 k17) FU S tr (nI e) (lN 1) (nI 1) (nI 0) = X := by
  refine zl6_up 6 0 (fun j a1 a2 a3 a4 a5 => a1 = S ∧ a2 = tr ∧ a3 = nI e ∧ a4 = lN (pM (fun w => if chc st w then (if e.testBit w then c else 100 - c) else 1) j) ∧ a5 = bI (alB (fun w => !e.testBit w || chc st w) j)) _ (by omega) (Nat.zero_le _) ⟨rfl, rfl, rfl, rfl, rfl⟩ (fun k j a1 a2 a3 a4 a5 hj hI => ?_) (fun k a1 a2 a3 a4 a5 hI => ?_)
  · obtain ⟨rfl, rfl, rfl, rfl, rfl⟩ := hI
    have b1 : ¬ 6 ≤ j := by omega
    have hrun := M_doesRun W hj
    have hbt := M_hasBit (nI e) (by omega : j < 32)
    rw [bt_nat he (by omega)] at hbt
    have hl := M_hasBit (st 310) (by omega : j < 32)
    have ec : nI 100 - nI c = nI (100 - c) := pk_sub hc
    have hch : ∀ q : Bool, q = chc st j → ∀ f : Bool, b_X10_tryCrash_99 r st x1 x2 k17 k a1 a2 (nI e) (lN (pM (fun w => if chc st w then (if e.testBit w then c else 100 - c) else 1) j)) (nI j) (bI q) (bI f) = k a1 a2 (nI e) (lN (pM (fun w => if chc st w then (if e.testBit w then c else 100 - c) else 1) (j + 1))) (bI f) (nI (j + 1)) := fun q hq f => by
      unfold b_X10_tryCrash_99
      rw [pM_s, ← hq]
      cases q
      · simp (disch := omega) only [Nat.mul_one, ↓lm1, ↓lm2, i0, i1, i2, i3, i4, i5, i6, i7, i8, i9, i10, i12, i16, i20, i24, i31, i32, i44, i48, i57, i59, i63, i64, i74, i75, i90, i96, i97, i99, i100, i122, i139, i140, i144, i192, i200, i240, i255, i304, i309, i310, i311, i323, i324, i325, i899, i900, i975, i999, i5200, i4875, i65536, i65537, i15, ob_some, nI_add, nI_clamp, zn_zib, zn_eq, zn_lt, zn_le, m2_lt, m2_le, lt_m2, le_m2, eq_m2, m2_eq, m1_lt, m1_le, lt_m1, le_m1, eq_m1, m1_eq, m1_m2, m2_m1, m2_lt_m1, bI_0, bI_1, bI_t, bI_f, bI_bo, nI0_bo, nI1_bo, if_true, if_false, ite_true, ite_false, Nat.zero_add, Nat.not_lt_zero, Nat.zero_le, not_true_eq_false, not_false_eq_true, or_false, false_or, true_or, or_true, and_true, true_and, Bool.false_eq_true, Bool.true_eq_false, reduceCtorEq, eq_self]
      · cases z : e.testBit j
        · rw [z] at hbt
          simp (disch := omega) only [hbt, h3, ec, nI_l, lN_mul, ↓lm1, ↓lm2, i0, i1, i2, i3, i4, i5, i6, i7, i8, i9, i10, i12, i16, i20, i24, i31, i32, i44, i48, i57, i59, i63, i64, i74, i75, i90, i96, i97, i99, i100, i122, i139, i140, i144, i192, i200, i240, i255, i304, i309, i310, i311, i323, i324, i325, i899, i900, i975, i999, i5200, i4875, i65536, i65537, i15, ob_some, nI_add, nI_clamp, zn_zib, zn_eq, zn_lt, zn_le, m2_lt, m2_le, lt_m2, le_m2, eq_m2, m2_eq, m1_lt, m1_le, lt_m1, le_m1, eq_m1, m1_eq, m1_m2, m2_m1, m2_lt_m1, bI_0, bI_1, bI_t, bI_f, bI_bo, nI0_bo, nI1_bo, if_true, if_false, ite_true, ite_false, Nat.zero_add, Nat.not_lt_zero, Nat.zero_le, not_true_eq_false, not_false_eq_true, or_false, false_or, true_or, or_true, and_true, true_and, Bool.false_eq_true, Bool.true_eq_false, reduceCtorEq, eq_self]
        · rw [z] at hbt
          simp (disch := omega) only [hbt, h3, nI_l, lN_mul, ↓lm1, ↓lm2, i0, i1, i2, i3, i4, i5, i6, i7, i8, i9, i10, i12, i16, i20, i24, i31, i32, i44, i48, i57, i59, i63, i64, i74, i75, i90, i96, i97, i99, i100, i122, i139, i140, i144, i192, i200, i240, i255, i304, i309, i310, i311, i323, i324, i325, i899, i900, i975, i999, i5200, i4875, i65536, i65537, i15, ob_some, nI_add, nI_clamp, zn_zib, zn_eq, zn_lt, zn_le, m2_lt, m2_le, lt_m2, le_m2, eq_m2, m2_eq, m1_lt, m1_le, lt_m1, le_m1, eq_m1, m1_eq, m1_m2, m2_m1, m2_lt_m1, bI_0, bI_1, bI_t, bI_f, bI_bo, nI0_bo, nI1_bo, if_true, if_false, ite_true, ite_false, Nat.zero_add, Nat.not_lt_zero, Nat.zero_le, not_true_eq_false, not_false_eq_true, or_false, false_or, true_or, or_true, and_true, true_and, Bool.false_eq_true, Bool.true_eq_false, reduceCtorEq, eq_self]
    have h73 : ∀ q : Bool, q = chc st j → b_X10_tryCrash_73 r st x1 x2 k17 k a1 a2 (nI e) (lN (pM (fun w => if chc st w then (if e.testBit w then c else 100 - c) else 1) j)) (bI (alB (fun w => !e.testBit w || chc st w) j)) (nI j) (bI q) = k a1 a2 (nI e) (lN (pM (fun w => if chc st w then (if e.testBit w then c else 100 - c) else 1) (j + 1))) (bI (alB (fun w => !e.testBit w || chc st w) (j + 1))) (nI (j + 1)) := fun q hq => by
      unfold b_X10_tryCrash_73
      rw [alB_s, ← hq]
      cases z : alB (fun w => !e.testBit w || chc st w) j
      · rw [Bool.false_and]
        have := hch q hq false
        rw [if_pos (by decide)]
        exact this
      · rw [Bool.true_and, if_neg (by decide)]
        cases q
        · rw [if_pos (by decide), hbt, ob_some]
          cases y : e.testBit j
          · rw [if_pos (by decide)]
            exact hch false hq true
          · rw [if_neg (by decide)]
            exact hch false hq false
        · rw [if_neg (by decide), Bool.or_true]
          exact hch true hq true
    refine .inr ⟨a1, a2, nI e, _, _, ⟨rfl, rfl, rfl, rfl, rfl⟩, ?_⟩
    unfold b_X10_tryCrash_32
    cases z : rn st j
    · rw [z] at hrun
      have h0 := h73 false (by unfold chc; rw [z]; rfl)
      rw [bI_f] at h0
      simp (disch := omega) only [b1, hrun, h0, ↓lm1, ↓lm2, i0, i1, i2, i3, i4, i5, i6, i7, i8, i9, i10, i12, i16, i20, i24, i31, i32, i44, i48, i57, i59, i63, i64, i74, i75, i90, i96, i97, i99, i100, i122, i139, i140, i144, i192, i200, i240, i255, i304, i309, i310, i311, i323, i324, i325, i899, i900, i975, i999, i5200, i4875, i65536, i65537, i15, ob_some, nI_add, nI_clamp, zn_zib, zn_eq, zn_lt, zn_le, m2_lt, m2_le, lt_m2, le_m2, eq_m2, m2_eq, m1_lt, m1_le, lt_m1, le_m1, eq_m1, m1_eq, m1_m2, m2_m1, m2_lt_m1, bI_0, bI_1, bI_t, bI_f, bI_bo, nI0_bo, nI1_bo, if_true, if_false, ite_true, ite_false, Nat.zero_add, Nat.not_lt_zero, Nat.zero_le, not_true_eq_false, not_false_eq_true, or_false, false_or, true_or, or_true, and_true, true_and, Bool.false_eq_true, Bool.true_eq_false, reduceCtorEq, eq_self]
    · rw [z] at hrun
      cases y : bt (st 310) j
      · rw [y] at hl
        have h0 := h73 true (by unfold chc; rw [z, y]; rfl)
        rw [bI_t] at h0
        simp (disch := omega) only [b1, hrun, hl, h0, ↓lm1, ↓lm2, i0, i1, i2, i3, i4, i5, i6, i7, i8, i9, i10, i12, i16, i20, i24, i31, i32, i44, i48, i57, i59, i63, i64, i74, i75, i90, i96, i97, i99, i100, i122, i139, i140, i144, i192, i200, i240, i255, i304, i309, i310, i311, i323, i324, i325, i899, i900, i975, i999, i5200, i4875, i65536, i65537, i15, ob_some, nI_add, nI_clamp, zn_zib, zn_eq, zn_lt, zn_le, m2_lt, m2_le, lt_m2, le_m2, eq_m2, m2_eq, m1_lt, m1_le, lt_m1, le_m1, eq_m1, m1_eq, m1_m2, m2_m1, m2_lt_m1, bI_0, bI_1, bI_t, bI_f, bI_bo, nI0_bo, nI1_bo, if_true, if_false, ite_true, ite_false, Nat.zero_add, Nat.not_lt_zero, Nat.zero_le, not_true_eq_false, not_false_eq_true, or_false, false_or, true_or, or_true, and_true, true_and, Bool.false_eq_true, Bool.true_eq_false, reduceCtorEq, eq_self]
      · rw [y] at hl
        have h0 := h73 false (by unfold chc; rw [z, y]; rfl)
        rw [bI_f] at h0
        simp (disch := omega) only [b1, hrun, hl, h0, ↓lm1, ↓lm2, i0, i1, i2, i3, i4, i5, i6, i7, i8, i9, i10, i12, i16, i20, i24, i31, i32, i44, i48, i57, i59, i63, i64, i74, i75, i90, i96, i97, i99, i100, i122, i139, i140, i144, i192, i200, i240, i255, i304, i309, i310, i311, i323, i324, i325, i899, i900, i975, i999, i5200, i4875, i65536, i65537, i15, ob_some, nI_add, nI_clamp, zn_zib, zn_eq, zn_lt, zn_le, m2_lt, m2_le, lt_m2, le_m2, eq_m2, m2_eq, m1_lt, m1_le, lt_m1, le_m1, eq_m1, m1_eq, m1_m2, m2_m1, m2_lt_m1, bI_0, bI_1, bI_t, bI_f, bI_bo, nI0_bo, nI1_bo, if_true, if_false, ite_true, ite_false, Nat.zero_add, Nat.not_lt_zero, Nat.zero_le, not_true_eq_false, not_false_eq_true, or_false, false_or, true_or, or_true, and_true, true_and, Bool.false_eq_true, Bool.true_eq_false, reduceCtorEq, eq_self]
  · obtain ⟨rfl, rfl, rfl, rfl, rfl⟩ := hI
    exact hX k
def fSs (st : Nat → Int32) (c : Nat) (G : Nat → Bool) (e : Nat) : Nat := if okB (chc st) e && G e then wM (chc st) c e else 0
def fAs (st : Nat → Int32) (c : Nat) (e : Nat) : Nat := if okB (chc st) e then wM (chc st) c e else 0
def fWs (st : Nat → Int32) (c m : Nat) (e : Nat) : Nat := if okB (chc st) e then wM (chc st) c e * fb_sm (vN st (mcx st (nI e) 6)) m else 0
def TCI (S S' : SMo) (st : Nat → Int32) (c m : Nat) (G : Nat → Bool) (e : Nat) : Prop := SQ S S' ∧ Mo_allWeight S' = lN (fb_sm (fAs st c) e) ∧ Mo_seenWeight S' = lN (fb_sm (fSs st c G) e) ∧ Mo_sumWeight S' = lN (fb_sm (fWs st c m) e)
theorem M_try (W : WS st n m) (I : IS st n) (h1 : r 1 = nI m) (h3 : r 3 = nI c) (hc : c ≤ 100) {x1 x2 : Int32} {G : Nat → Bool} (hG : (x1 = m1 ∧ ∀ e, G e = false) ∨ ∃ i, i < m ∧ x1 = nI i ∧ ∀ e, G e = decide (va st (bst st (sp st (mcx st (nI e) 6) i) 48) = x2)) : ∃ S' tr', f_X10_tryCrash S r st tr x1 x2 = some (S', tr') ∧ TCI S S' st c m G 64 := by
  have hm := WS_m W
  unfold f_X10_tryCrash
  have key := zl3_ex (f := b_X10_tryCrash_17 r st x1 x2) (c1 := sw3 S 0 0 0) (c2 := tr) 64 0 (fun e S' t => TCI S S' st c m G e) (fun q => TCI S q.1 st c m G 64) (by omega) (Nat.zero_le _) ⟨⟨rfl, rfl, rfl, rfl, rfl, rfl, rfl, rfl⟩, rfl, rfl, rfl⟩ (fun k e S' t he hI => ?_) (fun k S' t hI => ?_)
  · obtain ⟨⟨S', tr'⟩, k1, k2⟩ := key
    exact ⟨S', tr', k1, k2⟩
  · obtain ⟨g1, g2, g3, g4⟩ := hI
    have b1 : ¬ (64 : Int32) ≤ nI e := by
      show ¬ nI 64 ≤ nI e
      rw [zn_le (by omega) (by omega)]
      omega
    have sA : fb_sm (fAs st c) (e + 1) = fb_sm (fAs st c) e + fAs st c e := rfl
    have sS : fb_sm (fSs st c G) (e + 1) = fb_sm (fSs st c G) e + fSs st c G e := rfl
    have sW : fb_sm (fWs st c m) (e + 1) = fb_sm (fWs st c m) e + fWs st c m e := rfl
    have stp1 : b_X10_tryCrash_17 r st x1 x2 k S' t (nI e) = zl6 (b_X10_tryCrash_32 r st x1 x2 k) FU S' t (nI e) (lN 1) (nI 1) (nI 0) := by
      unfold b_X10_tryCrash_17
      rw [if_neg b1]
      rfl
    rw [stp1]
    cases z : okB (chc st) e
    · refine .inr ⟨S', t, ⟨g1, ?_, ?_, ?_⟩, M_in6 W h3 hc he x1 x2 k _ (fun kk => ?_)⟩
      · rw [sA]
        unfold fAs
        rw [z]
        exact g2
      · rw [sS]
        unfold fSs
        rw [z]
        exact g3
      · rw [sW]
        unfold fWs
        rw [z]
        exact g4
      · have c6 : (6 : Int32) ≤ nI 6 := by decide
        unfold b_X10_tryCrash_32
        rw [z, if_pos c6, if_pos (by decide), nI_1]
    · obtain ⟨t', q1, q2, q3, q4⟩ := M_crashOn (S := S') (tr := t) W I (nI e)
      have hsum : ∀ S9 : SMo, f_X10_sumOf S9 r t' m1 = some (nI (fb_sm (vN st (mcx st (nI e) 6)) m)) := fun S9 => by
        have e9 : fb_sm (vN t' (dn t')) m = fb_sm (vN st (mcx st (nI e) 6)) m := fb_sm_cong (fun i hi => vN_st W q3 q4)
        rw [M_sumOf (S := S9) (x := m1) (who_fresh q2) q2 h1, e9]
      have hbd : fb_sm (vN st (mcx st (nI e) 6)) m < 2 ^ 31 := by
        have := fb_sm_bound (f := vN st (mcx st (nI e) 6)) (c := 999) (n := m) (fun k _ => vN_999 W _ k)
        omega
      have h199 : ∀ (u2 : Nat), b_X10_tryCrash_199 r st x1 x2 k (sMo_allWeight S' (Mo_allWeight S' + lN (wM (chc st) c e))) t' (nI e) (lN (wM (chc st) c e)) (Mo_seenWeight S') (lN u2) = k (sw3 S' (lN (fb_sm (fAs st c) e + wM (chc st) c e)) (lN (fb_sm (fSs st c G) e + u2)) (lN (fb_sm (fWs st c m) e + wM (chc st) c e * fb_sm (vN st (mcx st (nI e) 6)) m))) t' (nI (e + 1)) := fun u2 => by
        have ei : (-1 : Int32) = m1 := rfl
        unfold b_X10_tryCrash_199
        rw [ei, hsum, ob_some, nI_l hbd, nI_1, lN_mul, g3, lN_add]
        have e1 : Mo_allWeight (sMo_allWeight S' (Mo_allWeight S' + lN (wM (chc st) c e))) = lN (fb_sm (fAs st c) e + wM (chc st) c e) := by
          show Mo_allWeight S' + lN (wM (chc st) c e) = _
          rw [g2, lN_add]
        have e2 : Mo_sumWeight (sMo_allWeight S' (Mo_allWeight S' + lN (wM (chc st) c e))) = lN (fb_sm (fWs st c m) e) := g4
        rw [e1, e2, lN_add]
        rfl
      have fin : ∀ u2, (u2 = fSs st c G e) → TCI S (sw3 S' (lN (fb_sm (fAs st c) e + wM (chc st) c e)) (lN (fb_sm (fSs st c G) e + u2)) (lN (fb_sm (fWs st c m) e + wM (chc st) c e * fb_sm (vN st (mcx st (nI e) 6)) m))) st c m G (e + 1) := fun u2 hu => by
        refine ⟨g1, ?_, ?_, ?_⟩
        · show lN (fb_sm (fAs st c) e + wM (chc st) c e) = _
          rw [sA]
          unfold fAs
          rw [z]
          rfl
        · show lN (fb_sm (fSs st c G) e + u2) = _
          rw [sS, hu]
        · show lN (fb_sm (fWs st c m) e + wM (chc st) c e * fb_sm (vN st (mcx st (nI e) 6)) m) = _
          rw [sW]
          have : fWs st c m e = wM (chc st) c e * fb_sm (vN st (mcx st (nI e) 6)) m := by
            unfold fWs
            rw [z]
            rfl
          rw [this]
      have c6 : (6 : Int32) ≤ nI 6 := by decide
      rcases hG with ⟨hx, hG⟩ | ⟨i, hi, hx, hG⟩
      · refine .inr ⟨_, t', fin 0 (by unfold fSs; rw [z, hG e]; rfl), M_in6 W h3 hc he x1 x2 k _ (fun kk => ?_)⟩
        have hx0 : x1 < 0 := by
          rw [hx]
          show m1 < nI 0
          rw [m1_lt (by omega)]
          trivial
        unfold b_X10_tryCrash_32
        rw [z, if_pos c6, if_neg (by decide), q1, ob_some, if_pos hx0]
        exact h199 0
      · have hx0 : ¬ x1 < 0 := by
          rw [hx]
          show ¬ nI i < nI 0
          rw [zn_lt (by omega) (by omega)]
          omega
        have ei : (-1 : Int32) = m1 := rfl
        have hval : ∀ S9 : SMo, f_X10_valueOf S9 t' m1 (nI i) = some (va st (bst st (sp st (mcx st (nI e) 6) i) 48)) := fun S9 => by
          rw [M_valueOf (S := S9) (x := m1) (who_fresh q2) q2 hi, va_st W q3 q4]
        by_cases y : va st (bst st (sp st (mcx st (nI e) 6) i) 48) = x2
        · refine .inr ⟨_, t', fin (wM (chc st) c e) (by unfold fSs; rw [z, hG e, decide_eq_true y]; rfl), M_in6 W h3 hc he x1 x2 k _ (fun kk => ?_)⟩
          unfold b_X10_tryCrash_32
          rw [z, if_pos c6, if_neg (by decide), q1, ob_some, if_neg hx0, ei, hx, hval, ob_some, if_pos y]
          rw [hx] at h199
          exact h199 (wM (chc st) c e)
        · refine .inr ⟨_, t', fin 0 (by unfold fSs; rw [z, hG e, decide_eq_false y]; rfl), M_in6 W h3 hc he x1 x2 k _ (fun kk => ?_)⟩
          unfold b_X10_tryCrash_32
          rw [z, if_pos c6, if_neg (by decide), q1, ob_some, if_neg hx0, ei, hx, hval, ob_some, if_neg y]
          rw [hx] at h199
          exact h199 0
  · have b1 : (64 : Int32) ≤ nI 64 := by decide
    refine ⟨(S', t), ?_, hI⟩
    unfold b_X10_tryCrash_17
    rw [if_pos b1]
end
