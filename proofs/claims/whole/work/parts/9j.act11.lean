def UB (T : SSR) (P : SPool) (S : SMo) (r und kpt : Nat → Int32) (b : Nat) (x : Option (Int32 × SSR × SRows × SHi)) (y : Option (Int32 × SMo × (Nat → Int32))) : Prop := ∃ a q R' Hi' S' st', x = some (a, sSR_troubleNumber T q, R', Hi') ∧ y = some (a, S', st') ∧ Mo_trouble S' = q ∧ SK S S' ∧ TA R' Hi' P S' r st' und kpt b
section
variable {T : SSR} {R : SRows} {Hi : SHi} {P : SPool} {S S' : SMo} {r st und kpt : Nat → Int32} {n m c b : Nat}
theorem M_isNot (S : SMo) (x : Int32) : f_X10_isNot S x = some (nI 0, sMo_trouble S x) := rfl
theorem undo_no (h : TA R Hi P S r st und kpt b) (hb : b < 2 ^ 29) (e1 : Hi_actCount Hi = nI 0) (e2 : Mo_undos S = nI 0) : UB T P S r und kpt b (f_X9_undo T R Hi P) (f_X10_undo S st und) := by
  refine ⟨nI 0, nI 6, R, Hi, sMo_trouble (AN S) (nI 6), st, ?_, ?_, rfl, ⟨rfl, rfl, rfl⟩, TA_S (Nat.le_refl _) hb (S' := sMo_trouble (AN S) (nI 6)) rfl rfl rfl rfl h⟩
  · unfold f_X9_undo f_X4_takeBack
    simp (disch := omega) only [e1, M_anew, M_no, X9_ans, X9_ref, M_why0, M_why10, M_why11, ↓lm1, ↓lm2, i0, i1, i2, i3, i4, i5, i6, i7, i8, i9, i10, i12, i16, i20, i24, i31, i32, i44, i48, i57, i59, i63, i64, i74, i75, i90, i96, i97, i99, i100, i122, i139, i140, i144, i192, i200, i240, i255, i304, i309, i310, i311, i323, i324, i325, i899, i900, i975, i999, i5200, i4875, i65536, i65537, i15, ob_some, nI_add, nI_clamp, zn_zib, zn_eq, zn_lt, zn_le, m2_lt, m2_le, lt_m2, le_m2, eq_m2, m2_eq, m1_lt, m1_le, lt_m1, le_m1, eq_m1, m1_eq, m1_m2, m2_m1, m2_lt_m1, bI_0, bI_1, bI_t, bI_f, bI_bo, nI0_bo, nI1_bo, if_true, if_false, ite_true, ite_false, Nat.zero_add, Nat.not_lt_zero, Nat.zero_le, not_true_eq_false, not_false_eq_true, or_false, false_or, true_or, or_true, and_true, true_and, Bool.false_eq_true, Bool.true_eq_false, reduceCtorEq, eq_self]
    rfl
  · unfold f_X10_undo
    have e3 : Mo_undos (AN S) = nI 0 := e2
    simp (disch := omega) only [e3, M_isNot, M_anew, M_no, X9_ans, X9_ref, M_why0, M_why10, M_why11, ↓lm1, ↓lm2, i0, i1, i2, i3, i4, i5, i6, i7, i8, i9, i10, i12, i16, i20, i24, i31, i32, i44, i48, i57, i59, i63, i64, i74, i75, i90, i96, i97, i99, i100, i122, i139, i140, i144, i192, i200, i240, i255, i304, i309, i310, i311, i323, i324, i325, i899, i900, i975, i999, i5200, i4875, i65536, i65537, i15, ob_some, nI_add, nI_clamp, zn_zib, zn_eq, zn_lt, zn_le, m2_lt, m2_le, lt_m2, le_m2, eq_m2, m2_eq, m1_lt, m1_le, lt_m1, le_m1, eq_m1, m1_eq, m1_m2, m2_m1, m2_lt_m1, bI_0, bI_1, bI_t, bI_f, bI_bo, nI0_bo, nI1_bo, if_true, if_false, ite_true, ite_false, Nat.zero_add, Nat.not_lt_zero, Nat.zero_le, not_true_eq_false, not_false_eq_true, or_false, false_or, true_or, or_true, and_true, true_and, Bool.false_eq_true, Bool.true_eq_false, reduceCtorEq, eq_self]
theorem t_undo (hb : b < 2 ^ 29) (h : TA R Hi P S r st und kpt b) : UB T P S r und kpt b (f_X9_undo T R Hi P) (f_X10_undo S st und) := by
  rcases id h with ⟨h0, g⟩ | ⟨n, m, c, hq, hh⟩
  · exact undo_no h hb g.1 g.2.2.2.1
  · obtain ⟨a, i, nw, ha, hi, hnw, e1, e2, e3, e4, e5, h1, h2⟩ := hh
    by_cases q : a = 0
    · subst q
      exact undo_no h hb e1 e4
    · have hF := h1 0 (by omega)
      have enw : (nw + 16 - 0) % 16 = nw := by omega
      rw [enw, Nat.sub_zero] at hF
      obtain ⟨R', t1, t2⟩ := X6_takeOverF R hF
      have e4' : Mo_undos (AN S) = nI a := e4
      have hcp : f_X10_copy 5200 325 und st (nI (325 * (a - 1))) (nI 0) (nI 325) = some (fb_put st (fun j => und (325 * (a - 1) + j)) 0 325) := M_copy (p := 5200) (q := 325) (a := 325 * (a - 1)) (d := 0) (k := 325) und st (by omega) (by omega) (by omega) (by omega)
      obtain ⟨nw', hnw', enw'⟩ : ∃ nw', nw' < 16 ∧ nw' = (nw + 15) % 16 := ⟨_, Nat.mod_lt _ (by omega), rfl⟩
      have hF2 : FR R' (fb_put st (fun j => und (325 * (a - 1) + j)) 0 325) n m c b := FR_congr (fun k hk => put_in hk) t2
      have q0 : ¬ a = 0 := q
      refine ⟨nI 1, nI 0, R', mkHi (nI (a - 1)) (nI i) (nI nw'), sMo_undos (AN S) (nI (a - 1)), fb_put st (fun j => und (325 * (a - 1) + j)) 0 325, ?_, ?_, rfl, ⟨rfl, rfl, rfl⟩, .inr ⟨n, m, c, ⟨hq.1, hq.2.1, hq.2.2.1, hq.2.2.2.1, hq.2.2.2.2.1, hF2.1, hF2.2.1, hF2.2.2⟩, ⟨a - 1, i, nw', by omega, hi, hnw', rfl, rfl, rfl, rfl, e5, fun j hj => ?_, h2⟩⟩⟩
      · unfold f_X9_undo f_X4_takeBack
        by_cases z : nw ≤ 0
        · simp (disch := omega) only [e1, e2, e3, q0, t1, z, pk_sub, M_anew, M_no, X9_ans, X9_ref, M_why0, M_why10, M_why11, ↓lm1, ↓lm2, i0, i1, i2, i3, i4, i5, i6, i7, i8, i9, i10, i12, i16, i20, i24, i31, i32, i44, i48, i57, i59, i63, i64, i74, i75, i90, i96, i97, i99, i100, i122, i139, i140, i144, i192, i200, i240, i255, i304, i309, i310, i311, i323, i324, i325, i899, i900, i975, i999, i5200, i4875, i65536, i65537, i15, ob_some, nI_add, nI_clamp, zn_zib, zn_eq, zn_lt, zn_le, m2_lt, m2_le, lt_m2, le_m2, eq_m2, m2_eq, m1_lt, m1_le, lt_m1, le_m1, eq_m1, m1_eq, m1_m2, m2_m1, m2_lt_m1, bI_0, bI_1, bI_t, bI_f, bI_bo, nI0_bo, nI1_bo, if_true, if_false, ite_true, ite_false, Nat.zero_add, Nat.not_lt_zero, Nat.zero_le, not_true_eq_false, not_false_eq_true, or_false, false_or, true_or, or_true, and_true, true_and, Bool.false_eq_true, Bool.true_eq_false, reduceCtorEq, eq_self]
          rw [show nw' = 15 by omega]
          rfl
        · simp (disch := omega) only [e1, e2, e3, q0, t1, z, pk_sub, M_anew, M_no, X9_ans, X9_ref, M_why0, M_why10, M_why11, ↓lm1, ↓lm2, i0, i1, i2, i3, i4, i5, i6, i7, i8, i9, i10, i12, i16, i20, i24, i31, i32, i44, i48, i57, i59, i63, i64, i74, i75, i90, i96, i97, i99, i100, i122, i139, i140, i144, i192, i200, i240, i255, i304, i309, i310, i311, i323, i324, i325, i899, i900, i975, i999, i5200, i4875, i65536, i65537, i15, ob_some, nI_add, nI_clamp, zn_zib, zn_eq, zn_lt, zn_le, m2_lt, m2_le, lt_m2, le_m2, eq_m2, m2_eq, m1_lt, m1_le, lt_m1, le_m1, eq_m1, m1_eq, m1_m2, m2_m1, m2_lt_m1, bI_0, bI_1, bI_t, bI_f, bI_bo, nI0_bo, nI1_bo, if_true, if_false, ite_true, ite_false, Nat.zero_add, Nat.not_lt_zero, Nat.zero_le, not_true_eq_false, not_false_eq_true, or_false, false_or, true_or, or_true, and_true, true_and, Bool.false_eq_true, Bool.true_eq_false, reduceCtorEq, eq_self]
          rw [show nw' = nw - 1 by omega]
          rfl
      · unfold f_X10_undo
        simp (disch := omega) only [e4', q0, pk_sub, pk_mul, hcp, M_anew, M_no, X9_ans, X9_ref, M_why0, M_why10, M_why11, ↓lm1, ↓lm2, i0, i1, i2, i3, i4, i5, i6, i7, i8, i9, i10, i12, i16, i20, i24, i31, i32, i44, i48, i57, i59, i63, i64, i74, i75, i90, i96, i97, i99, i100, i122, i139, i140, i144, i192, i200, i240, i255, i304, i309, i310, i311, i323, i324, i325, i899, i900, i975, i999, i5200, i4875, i65536, i65537, i15, ob_some, nI_add, nI_clamp, zn_zib, zn_eq, zn_lt, zn_le, m2_lt, m2_le, lt_m2, le_m2, eq_m2, m2_eq, m1_lt, m1_le, lt_m1, le_m1, eq_m1, m1_eq, m1_m2, m2_m1, m2_lt_m1, bI_0, bI_1, bI_t, bI_f, bI_bo, nI0_bo, nI1_bo, if_true, if_false, ite_true, ite_false, Nat.zero_add, Nat.not_lt_zero, Nat.zero_le, not_true_eq_false, not_false_eq_true, or_false, false_or, true_or, or_true, and_true, true_and, Bool.false_eq_true, Bool.true_eq_false, reduceCtorEq, eq_self]
        rfl
      · have e6 := h1 (j + 1) (by omega)
        rw [show (nw + 16 - (j + 1)) % 16 = (nw' + 16 - j) % 16 by omega, show a - 1 - (j + 1) = a - 1 - 1 - j by omega] at e6
        exact e6
theorem t_back (hb : b < 2 ^ 29) (h : TA R Hi P S r st und kpt b) (x : Int32) : UB T P S r und kpt b (f_X9_back T R Hi P x) (f_X10_back S kpt st x) := by
  obtain ⟨i, hi, e2, e5⟩ : ∃ i : Nat, i ≤ 3 ∧ Hi_imageCount Hi = nI i ∧ Mo_images S = nI i := by
    rcases h with ⟨h0, g⟩ | ⟨n, m, c, hq, a, i, nw, ha, hi, hnw, e1, e2, e3, e4, e5, h1, h2⟩
    · exact ⟨0, by omega, g.2.1, g.2.2.2.2⟩
    · exact ⟨i, hi, e2, e5⟩
  have e5' : Mo_images (AN S) = nI i := e5
  have hin := M_in (x := x) (by omega : i < 2 ^ 30)
  rcases ix_cases x (by omega : i < 2 ^ 30) with ⟨f0, f1⟩ | ⟨f0, j, hj, rfl⟩
  · rw [f0] at hin
    refine ⟨nI 0, nI 1, R, Hi, sMo_trouble (AN S) (nI 1), st, ?_, ?_, rfl, ⟨rfl, rfl, rfl⟩, TA_S (Nat.le_refl _) hb (S' := sMo_trouble (AN S) (nI 1)) rfl rfl rfl rfl h⟩
    · unfold f_X9_back f_X4_returnTo
      by_cases z : x < nI 0
      · simp (disch := omega) only [z, M_anew, M_no, X9_ans, X9_ref, M_why0, M_why10, M_why11, ↓lm1, ↓lm2, i0, i1, i2, i3, i4, i5, i6, i7, i8, i9, i10, i12, i16, i20, i24, i31, i32, i44, i48, i57, i59, i63, i64, i74, i75, i90, i96, i97, i99, i100, i122, i139, i140, i144, i192, i200, i240, i255, i304, i309, i310, i311, i323, i324, i325, i899, i900, i975, i999, i5200, i4875, i65536, i65537, i15, ob_some, nI_add, nI_clamp, zn_zib, zn_eq, zn_lt, zn_le, m2_lt, m2_le, lt_m2, le_m2, eq_m2, m2_eq, m1_lt, m1_le, lt_m1, le_m1, eq_m1, m1_eq, m1_m2, m2_m1, m2_lt_m1, bI_0, bI_1, bI_t, bI_f, bI_bo, nI0_bo, nI1_bo, if_true, if_false, ite_true, ite_false, Nat.zero_add, Nat.not_lt_zero, Nat.zero_le, not_true_eq_false, not_false_eq_true, or_false, false_or, true_or, or_true, and_true, true_and, Bool.false_eq_true, Bool.true_eq_false, reduceCtorEq, eq_self]
        rfl
      · simp (disch := omega) only [z, e2, f1.resolve_left z, M_anew, M_no, X9_ans, X9_ref, M_why0, M_why10, M_why11, ↓lm1, ↓lm2, i0, i1, i2, i3, i4, i5, i6, i7, i8, i9, i10, i12, i16, i20, i24, i31, i32, i44, i48, i57, i59, i63, i64, i74, i75, i90, i96, i97, i99, i100, i122, i139, i140, i144, i192, i200, i240, i255, i304, i309, i310, i311, i323, i324, i325, i899, i900, i975, i999, i5200, i4875, i65536, i65537, i15, ob_some, nI_add, nI_clamp, zn_zib, zn_eq, zn_lt, zn_le, m2_lt, m2_le, lt_m2, le_m2, eq_m2, m2_eq, m1_lt, m1_le, lt_m1, le_m1, eq_m1, m1_eq, m1_m2, m2_m1, m2_lt_m1, bI_0, bI_1, bI_t, bI_f, bI_bo, nI0_bo, nI1_bo, if_true, if_false, ite_true, ite_false, Nat.zero_add, Nat.not_lt_zero, Nat.zero_le, not_true_eq_false, not_false_eq_true, or_false, false_or, true_or, or_true, and_true, true_and, Bool.false_eq_true, Bool.true_eq_false, reduceCtorEq, eq_self]
        rfl
    · unfold f_X10_back
      simp (disch := omega) only [e5', hin, M_isNot, M_anew, M_no, X9_ans, X9_ref, M_why0, M_why10, M_why11, ↓lm1, ↓lm2, i0, i1, i2, i3, i4, i5, i6, i7, i8, i9, i10, i12, i16, i20, i24, i31, i32, i44, i48, i57, i59, i63, i64, i74, i75, i90, i96, i97, i99, i100, i122, i139, i140, i144, i192, i200, i240, i255, i304, i309, i310, i311, i323, i324, i325, i899, i900, i975, i999, i5200, i4875, i65536, i65537, i15, ob_some, nI_add, nI_clamp, zn_zib, zn_eq, zn_lt, zn_le, m2_lt, m2_le, lt_m2, le_m2, eq_m2, m2_eq, m1_lt, m1_le, lt_m1, le_m1, eq_m1, m1_eq, m1_m2, m2_m1, m2_lt_m1, bI_0, bI_1, bI_t, bI_f, bI_bo, nI0_bo, nI1_bo, if_true, if_false, ite_true, ite_false, Nat.zero_add, Nat.not_lt_zero, Nat.zero_le, not_true_eq_false, not_false_eq_true, or_false, false_or, true_or, or_true, and_true, true_and, Bool.false_eq_true, Bool.true_eq_false, reduceCtorEq, eq_self]
  · rw [f0] at hin
    rcases id h with ⟨h0, g⟩ | ⟨n, m, c, hq, a, i', nw, ha, hi', hnw, e1, e2', e3, e4, e5', h1, h2⟩
    · rw [g.2.1, zn_eq (by omega) (by omega)] at e2
      omega
    · rw [e2', zn_eq (by omega) (by omega)] at e2
      subst e2
      obtain ⟨R', t1, t2⟩ := X6_takeOverF R (h2 j hj)
      have hcp : f_X10_copy 975 325 kpt st (nI (325 * j)) (nI 0) (nI 325) = some (fb_put st (fun k => kpt (325 * j + k)) 0 325) := M_copy (p := 975) (q := 325) (a := 325 * j) (d := 0) (k := 325) kpt st (by omega) (by omega) (by omega) (by omega)
      have hF2 : FR R' (fb_put st (fun k => kpt (325 * j + k)) 0 325) n m c b := FR_congr (fun k hk => put_in hk) t2
      have q1 : ¬ i' ≤ j := by omega
      have q2 : j < 3 := by omega
      have e6 : Mo_images (AN S) = nI i' := e5
      refine ⟨nI 1, nI 0, R', mkHi (nI 0) (nI i') (nI nw), sMo_undos (AN S) (nI 0), fb_put st (fun k => kpt (325 * j + k)) 0 325, ?_, ?_, rfl, ⟨rfl, rfl, rfl⟩, .inr ⟨n, m, c, ⟨hq.1, hq.2.1, hq.2.2.1, hq.2.2.2.1, hq.2.2.2.2.1, hF2.1, hF2.2.1, hF2.2.2⟩, ⟨0, i', nw, by omega, hi, hnw, rfl, rfl, rfl, rfl, e5, fun j hj => absurd hj (Nat.not_lt_zero j), h2⟩⟩⟩
      · unfold f_X9_back f_X4_returnTo
        simp (disch := omega) only [e2', e3, q1, q2, t1, M_anew, M_no, X9_ans, X9_ref, M_why0, M_why10, M_why11, ↓lm1, ↓lm2, i0, i1, i2, i3, i4, i5, i6, i7, i8, i9, i10, i12, i16, i20, i24, i31, i32, i44, i48, i57, i59, i63, i64, i74, i75, i90, i96, i97, i99, i100, i122, i139, i140, i144, i192, i200, i240, i255, i304, i309, i310, i311, i323, i324, i325, i899, i900, i975, i999, i5200, i4875, i65536, i65537, i15, ob_some, nI_add, nI_clamp, zn_zib, zn_eq, zn_lt, zn_le, m2_lt, m2_le, lt_m2, le_m2, eq_m2, m2_eq, m1_lt, m1_le, lt_m1, le_m1, eq_m1, m1_eq, m1_m2, m2_m1, m2_lt_m1, bI_0, bI_1, bI_t, bI_f, bI_bo, nI0_bo, nI1_bo, if_true, if_false, ite_true, ite_false, Nat.zero_add, Nat.not_lt_zero, Nat.zero_le, not_true_eq_false, not_false_eq_true, or_false, false_or, true_or, or_true, and_true, true_and, Bool.false_eq_true, Bool.true_eq_false, reduceCtorEq, eq_self]
        rfl
      · unfold f_X10_back
        simp (disch := omega) only [e6, hin, pk_mul, hcp, M_anew, M_no, X9_ans, X9_ref, M_why0, M_why10, M_why11, ↓lm1, ↓lm2, i0, i1, i2, i3, i4, i5, i6, i7, i8, i9, i10, i12, i16, i20, i24, i31, i32, i44, i48, i57, i59, i63, i64, i74, i75, i90, i96, i97, i99, i100, i122, i139, i140, i144, i192, i200, i240, i255, i304, i309, i310, i311, i323, i324, i325, i899, i900, i975, i999, i5200, i4875, i65536, i65537, i15, ob_some, nI_add, nI_clamp, zn_zib, zn_eq, zn_lt, zn_le, m2_lt, m2_le, lt_m2, le_m2, eq_m2, m2_eq, m1_lt, m1_le, lt_m1, le_m1, eq_m1, m1_eq, m1_m2, m2_m1, m2_lt_m1, bI_0, bI_1, bI_t, bI_f, bI_bo, nI0_bo, nI1_bo, if_true, if_false, ite_true, ite_false, Nat.zero_add, Nat.not_lt_zero, Nat.zero_le, not_true_eq_false, not_false_eq_true, or_false, false_or, true_or, or_true, and_true, true_and, Bool.false_eq_true, Bool.true_eq_false, reduceCtorEq, eq_self]
        unfold sMo_undos
        rw [e6]
theorem t_image (hb : b < 2 ^ 29) (h : TA R Hi P S r st und kpt b) : ∃ a q Hi' P' S' kpt', f_X9_image T R Hi P = some (a, sSR_troubleNumber T q, Hi', P') ∧ f_X10_image S kpt st = some (a, S', kpt') ∧ Mo_trouble S' = q ∧ SK S S' ∧ TA R Hi' P' S' r st und kpt' b := by
  obtain ⟨hs, g1, g2, g3⟩ := g_has (T := T) (TA_QQ h)
  have g2' : Mo_hasStore (AN S) = bI hs := g2
  unfold f_X9_image f_X10_image
  cases hs
  · exact ⟨m1, nI 1, Hi, P, sMo_trouble (AN S) (nI 1), kpt, by simp (disch := omega) only [g1, M_anew, M_no, X9_ans, X9_ref, M_why0, M_why10, M_why11, ↓lm1, ↓lm2, i0, i1, i2, i3, i4, i5, i6, i7, i8, i9, i10, i12, i16, i20, i24, i31, i32, i44, i48, i57, i59, i63, i64, i74, i75, i90, i96, i97, i99, i100, i122, i139, i140, i144, i192, i200, i240, i255, i304, i309, i310, i311, i323, i324, i325, i899, i900, i975, i999, i5200, i4875, i65536, i65537, i15, ob_some, nI_add, nI_clamp, zn_zib, zn_eq, zn_lt, zn_le, m2_lt, m2_le, lt_m2, le_m2, eq_m2, m2_eq, m1_lt, m1_le, lt_m1, le_m1, eq_m1, m1_eq, m1_m2, m2_m1, m2_lt_m1, bI_0, bI_1, bI_t, bI_f, bI_bo, nI0_bo, nI1_bo, if_true, if_false, ite_true, ite_false, Nat.zero_add, Nat.not_lt_zero, Nat.zero_le, not_true_eq_false, not_false_eq_true, or_false, false_or, true_or, or_true, and_true, true_and, Bool.false_eq_true, Bool.true_eq_false, reduceCtorEq, eq_self], by simp (disch := omega) only [g2', M_anew, M_no, X9_ans, X9_ref, M_why0, M_why10, M_why11, ↓lm1, ↓lm2, i0, i1, i2, i3, i4, i5, i6, i7, i8, i9, i10, i12, i16, i20, i24, i31, i32, i44, i48, i57, i59, i63, i64, i74, i75, i90, i96, i97, i99, i100, i122, i139, i140, i144, i192, i200, i240, i255, i304, i309, i310, i311, i323, i324, i325, i899, i900, i975, i999, i5200, i4875, i65536, i65537, i15, ob_some, nI_add, nI_clamp, zn_zib, zn_eq, zn_lt, zn_le, m2_lt, m2_le, lt_m2, le_m2, eq_m2, m2_eq, m1_lt, m1_le, lt_m1, le_m1, eq_m1, m1_eq, m1_m2, m2_m1, m2_lt_m1, bI_0, bI_1, bI_t, bI_f, bI_bo, nI0_bo, nI1_bo, if_true, if_false, ite_true, ite_false, Nat.zero_add, Nat.not_lt_zero, Nat.zero_le, not_true_eq_false, not_false_eq_true, or_false, false_or, true_or, or_true, and_true, true_and, Bool.false_eq_true, Bool.true_eq_false, reduceCtorEq, eq_self], rfl, ⟨rfl, rfl, rfl⟩, TA_S (Nat.le_refl _) hb (S' := sMo_trouble (AN S) (nI 1)) rfl rfl rfl rfl h⟩
  · obtain ⟨n, m, c, hq⟩ := g3 rfl
    obtain ⟨a, i, nw, ha, hi, hnw, e1, e2, e3, e4, e5, h1, h2⟩ := TA_Q1 h hq
    have e6 : Mo_images (AN S) = nI i := e5
    have F : FR R st n m c b := ⟨Q1_H hq, Q1_I hq, Q1_K hq⟩
    unfold f_X4_takeImage
    by_cases q : i = 3
    · have q3 : ¬ i < 3 := by omega
      exact ⟨m1, nI 3, Hi, P, sMo_trouble (AN S) (nI 3), kpt, by simp (disch := omega) only [g1, e2, q3, M_anew, M_no, X9_ans, X9_ref, M_why0, M_why10, M_why11, ↓lm1, ↓lm2, i0, i1, i2, i3, i4, i5, i6, i7, i8, i9, i10, i12, i16, i20, i24, i31, i32, i44, i48, i57, i59, i63, i64, i74, i75, i90, i96, i97, i99, i100, i122, i139, i140, i144, i192, i200, i240, i255, i304, i309, i310, i311, i323, i324, i325, i899, i900, i975, i999, i5200, i4875, i65536, i65537, i15, ob_some, nI_add, nI_clamp, zn_zib, zn_eq, zn_lt, zn_le, m2_lt, m2_le, lt_m2, le_m2, eq_m2, m2_eq, m1_lt, m1_le, lt_m1, le_m1, eq_m1, m1_eq, m1_m2, m2_m1, m2_lt_m1, bI_0, bI_1, bI_t, bI_f, bI_bo, nI0_bo, nI1_bo, if_true, if_false, ite_true, ite_false, Nat.zero_add, Nat.not_lt_zero, Nat.zero_le, not_true_eq_false, not_false_eq_true, or_false, false_or, true_or, or_true, and_true, true_and, Bool.false_eq_true, Bool.true_eq_false, reduceCtorEq, eq_self], by simp (disch := omega) only [g2', e6, q, M_anew, M_no, X9_ans, X9_ref, M_why0, M_why10, M_why11, ↓lm1, ↓lm2, i0, i1, i2, i3, i4, i5, i6, i7, i8, i9, i10, i12, i16, i20, i24, i31, i32, i44, i48, i57, i59, i63, i64, i74, i75, i90, i96, i97, i99, i100, i122, i139, i140, i144, i192, i200, i240, i255, i304, i309, i310, i311, i323, i324, i325, i899, i900, i975, i999, i5200, i4875, i65536, i65537, i15, ob_some, nI_add, nI_clamp, zn_zib, zn_eq, zn_lt, zn_le, m2_lt, m2_le, lt_m2, le_m2, eq_m2, m2_eq, m1_lt, m1_le, lt_m1, le_m1, eq_m1, m1_eq, m1_m2, m2_m1, m2_lt_m1, bI_0, bI_1, bI_t, bI_f, bI_bo, nI0_bo, nI1_bo, if_true, if_false, ite_true, ite_false, Nat.zero_add, Nat.not_lt_zero, Nat.zero_le, not_true_eq_false, not_false_eq_true, or_false, false_or, true_or, or_true, and_true, true_and, Bool.false_eq_true, Bool.true_eq_false, reduceCtorEq, eq_self], rfl, ⟨rfl, rfl, rfl⟩, TA_S (Nat.le_refl _) hb (S' := sMo_trouble (AN S) (nI 3)) rfl rfl rfl rfl h⟩
    · have q3 : i < 3 := by omega
      obtain ⟨R', t1, t2⟩ := X6_takeOverF (P.2 i) F
      have hcp : f_X10_copy 325 975 st kpt (nI 0) (nI (325 * i)) (nI 325) = some (fb_put kpt (fun k => st (0 + k)) (325 * i) 325) := M_copy (p := 325) (q := 975) (a := 0) (d := 325 * i) (k := 325) st kpt (by omega) (by omega) (by omega) (by omega)
      have ei : nI (i + 1) - nI 1 = nI i := by rw [pk_sub (by omega), Nat.add_sub_cancel]
      refine ⟨nI i, nI 0, mkHi (nI a) (nI (i + 1)) (nI nw), (P.1, va_up P.2 i R'), sMo_images (AN S) (nI (i + 1)), fb_put kpt (fun k => st (0 + k)) (325 * i) 325, ?_, ?_, rfl, ⟨rfl, rfl, rfl⟩, .inr ⟨n, m, c, ⟨hq.1, hq.2.1, hq.2.2.1, hq.2.2.2.1, hq.2.2.2.2.1, F.1, F.2.1, F.2.2⟩, ⟨a, i + 1, nw, ha, by omega, hnw, rfl, rfl, rfl, e4, rfl, h1, fun j hj => ?_⟩⟩⟩
      · simp (disch := omega) only [g1, e1, e2, e3, q3, t1, ei, M_anew, M_no, X9_ans, X9_ref, M_why0, M_why10, M_why11, ↓lm1, ↓lm2, i0, i1, i2, i3, i4, i5, i6, i7, i8, i9, i10, i12, i16, i20, i24, i31, i32, i44, i48, i57, i59, i63, i64, i74, i75, i90, i96, i97, i99, i100, i122, i139, i140, i144, i192, i200, i240, i255, i304, i309, i310, i311, i323, i324, i325, i899, i900, i975, i999, i5200, i4875, i65536, i65537, i15, ob_some, nI_add, nI_clamp, zn_zib, zn_eq, zn_lt, zn_le, m2_lt, m2_le, lt_m2, le_m2, eq_m2, m2_eq, m1_lt, m1_le, lt_m1, le_m1, eq_m1, m1_eq, m1_m2, m2_m1, m2_lt_m1, bI_0, bI_1, bI_t, bI_f, bI_bo, nI0_bo, nI1_bo, if_true, if_false, ite_true, ite_false, Nat.zero_add, Nat.not_lt_zero, Nat.zero_le, not_true_eq_false, not_false_eq_true, or_false, false_or, true_or, or_true, and_true, true_and, Bool.false_eq_true, Bool.true_eq_false, reduceCtorEq, eq_self]
      · simp (disch := omega) only [g2', e6, q, pk_mul, hcp, ei, M_anew, M_no, X9_ans, X9_ref, M_why0, M_why10, M_why11, ↓lm1, ↓lm2, i0, i1, i2, i3, i4, i5, i6, i7, i8, i9, i10, i12, i16, i20, i24, i31, i32, i44, i48, i57, i59, i63, i64, i74, i75, i90, i96, i97, i99, i100, i122, i139, i140, i144, i192, i200, i240, i255, i304, i309, i310, i311, i323, i324, i325, i899, i900, i975, i999, i5200, i4875, i65536, i65537, i15, ob_some, nI_add, nI_clamp, zn_zib, zn_eq, zn_lt, zn_le, m2_lt, m2_le, lt_m2, le_m2, eq_m2, m2_eq, m1_lt, m1_le, lt_m1, le_m1, eq_m1, m1_eq, m1_m2, m2_m1, m2_lt_m1, bI_0, bI_1, bI_t, bI_f, bI_bo, nI0_bo, nI1_bo, if_true, if_false, ite_true, ite_false, Nat.zero_add, Nat.not_lt_zero, Nat.zero_le, not_true_eq_false, not_false_eq_true, or_false, false_or, true_or, or_true, and_true, true_and, Bool.false_eq_true, Bool.true_eq_false, reduceCtorEq, eq_self]
        unfold sMo_images
        rw [g2']
        rfl
      · show FR (va_up P.2 i R' j) _ n m c b
        unfold va_up
        by_cases z : j = i
        · rw [if_pos z]
          subst z
          refine FR_congr (fun k hk => ?_) t2
          have e : 0 + (325 * j + k - 325 * j) = k := by omega
          exact (fb_put_in (by omega) (by omega)).trans (congrArg st e)
        · rw [if_neg z]
          refine FR_congr (fun k hk => ?_) (h2 j (by omega))
          exact fb_put_out (by omega)
end
