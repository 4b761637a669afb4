/-! the acts as calls -/
def H0 (Hi : SHi) (S : SMo) : Prop := Hi_actCount Hi = nI 0 ∧ Hi_imageCount Hi = nI 0 ∧ (∃ nw, nw < 16 ∧ Hi_newest Hi = nI nw) ∧ Mo_undos S = nI 0 ∧ Mo_images S = nI 0
def TA (R : SRows) (Hi : SHi) (P : SPool) (S : SMo) (r st und kpt : Nat → Int32) (b : Nat) : Prop := (Q0 R S ∧ H0 Hi S) ∨ ∃ n m c, Q1 R S r st n m c b ∧ HR Hi P S und kpt n m c b
def SK (S S' : SMo) : Prop := Mo_taped S' = Mo_taped S ∧ Mo_fault S' = Mo_fault S ∧ Mo_place S' = Mo_place S
def AB (T : SSR) (S : SMo) (r kpt : Nat → Int32) (b : Nat) (x : Option (Int32 × SSR × SRows × SHi × SPool)) (y : Option (Int32 × SMo × (Nat → Int32) × (Nat → Int32) × (Nat → Int32))) : Prop := ∃ a q R' Hi' P' S' st' tr' und', x = some (a, sSR_troubleNumber T q, R', Hi', P') ∧ y = some (a, S', st', tr', und') ∧ Mo_trouble S' = q ∧ SK S S' ∧ TA R' Hi' P' S' r st' und' kpt (b + 1)
section
variable {T : SSR} {R : SRows} {Hi : SHi} {P : SPool} {S S' : SMo} {r st und kpt : Nat → Int32} {n m c b : Nat}
theorem TA_QQ (h : TA R Hi P S r st und kpt b) : QQ R S r st b := by
  rcases h with ⟨h, -⟩ | ⟨n, m, c, h, -⟩
  · exact .inl h
  · exact .inr ⟨n, m, c, h⟩
theorem HR_mono {b' : Nat} (hb : b ≤ b') (hb2 : b' < 2 ^ 29) (e1 : Mo_undos S' = Mo_undos S) (e2 : Mo_images S' = Mo_images S) (h : HR Hi P S und kpt n m c b) : HR Hi P S' und kpt n m c b' := by
  obtain ⟨a, i, nw, h1, h2, h3, h4, h5, h6, h7, h8, h9, h10⟩ := h
  exact ⟨a, i, nw, h1, h2, h3, h4, h5, h6, e1.trans h7, e2.trans h8, fun j hj => FR_mono hb hb2 (h9 j hj), fun j hj => FR_mono hb hb2 (h10 j hj)⟩
theorem TA_S {b' : Nat} (hb : b ≤ b') (hb2 : b' < 2 ^ 29) (e1 : Mo_undos S' = Mo_undos S) (e2 : Mo_images S' = Mo_images S) (e3 : Mo_hasStore S' = Mo_hasStore S) (e4 : Mo_ring S' = Mo_ring S) (h : TA R Hi P S r st und kpt b) : TA R Hi P S' r st und kpt b' := by
  rcases h with ⟨h, g⟩ | ⟨n, m, c, h, g⟩
  · exact .inl ⟨⟨e3.trans h.1, e4.trans h.2.1, h.2.2⟩, g.1, g.2.1, g.2.2.1, e1.trans g.2.2.2.1, e2.trans g.2.2.2.2⟩
  · exact .inr ⟨n, m, c, ⟨e3.trans h.1, e4.trans h.2.1, h.2.2.1, h.2.2.2.1, h.2.2.2.2.1, h.2.2.2.2.2.1, h.2.2.2.2.2.2.1, MK_mono hb hb2 h.2.2.2.2.2.2.2⟩, HR_mono hb hb2 e1 e2 g⟩
theorem AB_no (hb : b + 1 < 2 ^ 29) (h : TA R Hi P S r st und kpt b) {tr : Nat → Int32} (q : Int32) {x : Option (Int32 × SSR × SRows × SHi × SPool)} {y : Option (Int32 × SMo × (Nat → Int32) × (Nat → Int32) × (Nat → Int32))} (hx : x = some (m1, sSR_troubleNumber T q, R, Hi, P)) (S2 : SMo) (hy : y = some (m1, sMo_trouble S2 q, st, tr, und)) (hk : SK S S2) (e1 : Mo_undos S2 = Mo_undos S) (e2 : Mo_images S2 = Mo_images S) (e3 : Mo_hasStore S2 = Mo_hasStore S) (e4 : Mo_ring S2 = Mo_ring S) : AB T S r kpt b x y := ⟨m1, q, R, Hi, P, sMo_trouble S2 q, st, tr, und, hx, hy, rfl, hk, TA_S (by omega) hb (S' := sMo_trouble S2 q) e1 e2 e3 e4 h⟩
theorem AB_yes (hb : b + 1 < 2 ^ 29) (hq : Q1 R S r st n m c b) (hh : HR Hi P S und kpt n m c b) {R' : SRows} {S2 : SMo} {tr : Nat → Int32} (a : Int32) (hF : FR R' tr n m c (b + 1)) (hk : SK S S2) (e0 : Mo_trouble S2 = nI 0) (e1 : Mo_undos S2 = Mo_undos S) (e2 : Mo_images S2 = Mo_images S) (e3 : Mo_hasStore S2 = Mo_hasStore S) (e4 : Mo_ring S2 = Mo_ring S) {x : Option (Int32 × SSR × SRows × SHi × SPool)} {y : Option (Int32 × SMo × (Nat → Int32) × (Nat → Int32) × (Nat → Int32))} (hx : ∀ Hi' P', f_X4_keep R Hi P = some (Hi', P') → x = some (a, sSR_troubleNumber T (nI 0), R', Hi', P')) (hy : ∀ S3 st1 und', f_X10_become S2 st tr und = some (S3, st1, und') → y = some (a, S3, st1, tr, und')) : AB T S r kpt b x y := by
  have F : FR R st n m c b := ⟨Q1_H hq, Q1_I hq, Q1_K hq⟩
  have hh2 : HR Hi P S2 und kpt n m c b := HR_mono (Nat.le_refl _) (by omega) e1 e2 hh
  obtain ⟨Hi', P', S3, st1, und', k1, k2, k3, k4, k5⟩ := keep_become F hh2 tr
  have hF2 := FR_congr k3 hF
  refine ⟨a, nI 0, R', Hi', P', S3, st1, tr, und', hx _ _ k1, hy _ _ _ k2, k5.1.trans e0, ⟨k5.2.1.trans hk.1, k5.2.2.1.trans hk.2.1, k5.2.2.2.1.trans hk.2.2⟩, .inr ⟨n, m, c, ⟨k5.2.2.2.2.1.trans (e3.trans hq.1), k5.2.2.2.2.2.2.trans (e4.trans hq.2.1), hq.2.2.1, hq.2.2.2.1, hq.2.2.2.2.1, hF2.1, hF2.2.1, hF2.2.2⟩, HR_mono (by omega) hb rfl rfl k4⟩⟩
theorem tryOn_eq (tr : Nat → Int32) : ∃ t0, f_X10_tryOn S st tr = some t0 ∧ ∀ i, i < 325 → t0 i = st i := by
  have hcp : f_X10_copy 325 325 st tr (nI 0) (nI 0) (nI 325) = some (fb_put tr (fun j => st (0 + j)) 0 325) := M_copy (p := 325) (q := 325) (a := 0) (d := 0) (k := 325) st tr (by omega) (by omega) (by omega) (by omega)
  refine ⟨fb_put tr (fun j => st (0 + j)) 0 325, ?_, fun i hi => by rw [put_in hi, Nat.zero_add]⟩
  unfold f_X10_tryOn
  simp (disch := omega) only [hcp, ↓lm1, ↓lm2, i0, i1, i2, i3, i4, i5, i6, i7, i8, i9, i10, i12, i16, i20, i24, i31, i32, i44, i48, i57, i59, i63, i64, i74, i75, i90, i96, i97, i99, i100, i122, i139, i140, i144, i192, i200, i240, i255, i304, i309, i310, i311, i323, i324, i325, i899, i900, i975, i999, i5200, i4875, i65536, i65537, i15, ob_some, nI_add, nI_clamp, zn_zib, zn_eq, zn_lt, zn_le, m2_lt, m2_le, lt_m2, le_m2, eq_m2, m2_eq, m1_lt, m1_le, lt_m1, le_m1, eq_m1, m1_eq, m1_m2, m2_m1, m2_lt_m1, bI_0, bI_1, bI_t, bI_f, bI_bo, nI0_bo, nI1_bo, if_true, if_false, ite_true, ite_false, Nat.zero_add, Nat.not_lt_zero, Nat.zero_le, not_true_eq_false, not_false_eq_true, or_false, false_or, true_or, or_true, and_true, true_and, Bool.false_eq_true, Bool.true_eq_false, reduceCtorEq, eq_self]
theorem t_begin (hb : b + 1 < 2 ^ 29) (h : TA R Hi P S r st und kpt b) (tr : Nat → Int32) : AB T S r kpt b (f_X9_begin T R Hi P) (f_X10_begin S st tr und) := by
  obtain ⟨hs, g1, g2, g3⟩ := g_has (T := T) (TA_QQ h)
  have g2' : Mo_hasStore (AN S) = bI hs := g2
  unfold f_X9_begin f_X10_begin
  cases hs
  · exact AB_no hb h (tr := tr) (nI 1) (by simp (disch := omega) only [g1, M_anew, M_no, X9_ans, X9_ref, M_why0, M_why10, M_why11, ↓lm1, ↓lm2, i0, i1, i2, i3, i4, i5, i6, i7, i8, i9, i10, i12, i16, i20, i24, i31, i32, i44, i48, i57, i59, i63, i64, i74, i75, i90, i96, i97, i99, i100, i122, i139, i140, i144, i192, i200, i240, i255, i304, i309, i310, i311, i323, i324, i325, i899, i900, i975, i999, i5200, i4875, i65536, i65537, i15, ob_some, nI_add, nI_clamp, zn_zib, zn_eq, zn_lt, zn_le, m2_lt, m2_le, lt_m2, le_m2, eq_m2, m2_eq, m1_lt, m1_le, lt_m1, le_m1, eq_m1, m1_eq, m1_m2, m2_m1, m2_lt_m1, bI_0, bI_1, bI_t, bI_f, bI_bo, nI0_bo, nI1_bo, if_true, if_false, ite_true, ite_false, Nat.zero_add, Nat.not_lt_zero, Nat.zero_le, not_true_eq_false, not_false_eq_true, or_false, false_or, true_or, or_true, and_true, true_and, Bool.false_eq_true, Bool.true_eq_false, reduceCtorEq, eq_self]) (AN S) (by simp (disch := omega) only [g2', M_anew, M_no, X9_ans, X9_ref, M_why0, M_why10, M_why11, ↓lm1, ↓lm2, i0, i1, i2, i3, i4, i5, i6, i7, i8, i9, i10, i12, i16, i20, i24, i31, i32, i44, i48, i57, i59, i63, i64, i74, i75, i90, i96, i97, i99, i100, i122, i139, i140, i144, i192, i200, i240, i255, i304, i309, i310, i311, i323, i324, i325, i899, i900, i975, i999, i5200, i4875, i65536, i65537, i15, ob_some, nI_add, nI_clamp, zn_zib, zn_eq, zn_lt, zn_le, m2_lt, m2_le, lt_m2, le_m2, eq_m2, m2_eq, m1_lt, m1_le, lt_m1, le_m1, eq_m1, m1_eq, m1_m2, m2_m1, m2_lt_m1, bI_0, bI_1, bI_t, bI_f, bI_bo, nI0_bo, nI1_bo, if_true, if_false, ite_true, ite_false, Nat.zero_add, Nat.not_lt_zero, Nat.zero_le, not_true_eq_false, not_false_eq_true, or_false, false_or, true_or, or_true, and_true, true_and, Bool.false_eq_true, Bool.true_eq_false, reduceCtorEq, eq_self]) ⟨rfl, rfl, rfl⟩ rfl rfl rfl rfl
  · rcases h with ⟨h0, -⟩ | ⟨n, m, c, hq, hh⟩
    · have h0 := h0.1
      rw [g2] at h0
      exact absurd h0 (by decide)
    · have hc1 := X6_canBegin (Q1_H hq)
      have hc2 := M_canBegin (S := AN S) (Q1_g hq) (Q1_W hq)
      have hn := WS_n (Q1_W hq)
      cases hcb : cbB st n
      · rw [hcb] at hc1 hc2
        exact AB_no hb (.inr ⟨n, m, c, hq, hh⟩) (tr := tr) (nI 3) (by simp (disch := omega) only [g1, hc1, M_anew, M_no, X9_ans, X9_ref, M_why0, M_why10, M_why11, ↓lm1, ↓lm2, i0, i1, i2, i3, i4, i5, i6, i7, i8, i9, i10, i12, i16, i20, i24, i31, i32, i44, i48, i57, i59, i63, i64, i74, i75, i90, i96, i97, i99, i100, i122, i139, i140, i144, i192, i200, i240, i255, i304, i309, i310, i311, i323, i324, i325, i899, i900, i975, i999, i5200, i4875, i65536, i65537, i15, ob_some, nI_add, nI_clamp, zn_zib, zn_eq, zn_lt, zn_le, m2_lt, m2_le, lt_m2, le_m2, eq_m2, m2_eq, m1_lt, m1_le, lt_m1, le_m1, eq_m1, m1_eq, m1_m2, m2_m1, m2_lt_m1, bI_0, bI_1, bI_t, bI_f, bI_bo, nI0_bo, nI1_bo, if_true, if_false, ite_true, ite_false, Nat.zero_add, Nat.not_lt_zero, Nat.zero_le, not_true_eq_false, not_false_eq_true, or_false, false_or, true_or, or_true, and_true, true_and, Bool.false_eq_true, Bool.true_eq_false, reduceCtorEq, eq_self]) (AN S) (by simp (disch := omega) only [g2', hc2, M_anew, M_no, X9_ans, X9_ref, M_why0, M_why10, M_why11, ↓lm1, ↓lm2, i0, i1, i2, i3, i4, i5, i6, i7, i8, i9, i10, i12, i16, i20, i24, i31, i32, i44, i48, i57, i59, i63, i64, i74, i75, i90, i96, i97, i99, i100, i122, i139, i140, i144, i192, i200, i240, i255, i304, i309, i310, i311, i323, i324, i325, i899, i900, i975, i999, i5200, i4875, i65536, i65537, i15, ob_some, nI_add, nI_clamp, zn_zib, zn_eq, zn_lt, zn_le, m2_lt, m2_le, lt_m2, le_m2, eq_m2, m2_eq, m1_lt, m1_le, lt_m1, le_m1, eq_m1, m1_eq, m1_m2, m2_m1, m2_lt_m1, bI_0, bI_1, bI_t, bI_f, bI_bo, nI0_bo, nI1_bo, if_true, if_false, ite_true, ite_false, Nat.zero_add, Nat.not_lt_zero, Nat.zero_le, not_true_eq_false, not_false_eq_true, or_false, false_or, true_or, or_true, and_true, true_and, Bool.false_eq_true, Bool.true_eq_false, reduceCtorEq, eq_self]) ⟨rfl, rfl, rfl⟩ rfl rfl rfl rfl
      · rw [hcb] at hc1 hc2
        obtain ⟨t0, ht0, hag⟩ := tryOn_eq (S := AN S) (st := st) tr
        have HH := RC_congr hag (Q1_H hq)
        have W0 := RC_W HH
        have I0 := IS_congr hag (by omega) (Q1_I hq)
        have K0 := MK_congr hag (Q1_K hq)
        have hcb0 : cbB t0 n = true := bI_inj (Option.some.inj ((M_canBegin (S := AN S) (Q1_g hq) W0).symm.trans ((M_canBegin (S := AN S) (Q1_g hq) W0).trans (by
          have := X6_canBegin HH
          rw [hc1] at this
          rw [← Option.some.inj this]))))
        obtain ⟨w, hw⟩ : ∃ w, fi (fun w => !rn t0 w) 6 = some w := by
          unfold cbB at hcb0
          rw [Bool.and_eq_true] at hcb0
          exact Option.isSome_iff_exists.mp hcb0.1
        obtain ⟨st2, hb1, hb2⟩ := M_beginOn (S := AN S) (Q1_g hq) W0 I0 hw
        obtain ⟨R', hr1, hr2⟩ := X6_beginWriter HH I0 hw
        have hwl := fi_some hw
        have hfree : t0 (304 + w) = m1 := by
          rcases WS_w W0 hwl.1 with e | ⟨s, hs, e⟩
          · exact e
          · rw [rn_t e (by omega)] at hwl
            exact absurd hwl.2.1 (by decide)
        have hKK : MK st2 (b + 1) := by
          obtain ⟨kb, k, h1, h2, h3⟩ := K0
          have hx := WS_nx W0
          refine ⟨hb, k, by rw [hb2.1 324 (by omega) (by omega) (by omega) (by omega) (by omega)]; exact h1, by omega, fun v hv hl => ?_⟩
          rw [hb2.1 v (by omega) (by omega) (by omega) (by omega) (by omega)] at hl
          have : od st2 v = od t0 v := by
            unfold od
            rw [hb2.1 (192 + v) (by omega) (by omega) (by omega) (by omega) (by omega)]
          rw [this]
          exact h3 v hv hl
        exact AB_yes hb hq hh (nI w) (R' := R') (S2 := AN S) (tr := st2) ⟨hr2 st2 hb2, BG_IS W0 I0 hcb0 hwl.1 hfree hb2, hKK⟩ ⟨rfl, rfl, rfl⟩ rfl rfl rfl rfl rfl (fun Hi' P' hk => by simp (disch := omega) only [g1, hc1, hk, hr1, M_anew, M_no, X9_ans, X9_ref, M_why0, M_why10, M_why11, ↓lm1, ↓lm2, i0, i1, i2, i3, i4, i5, i6, i7, i8, i9, i10, i12, i16, i20, i24, i31, i32, i44, i48, i57, i59, i63, i64, i74, i75, i90, i96, i97, i99, i100, i122, i139, i140, i144, i192, i200, i240, i255, i304, i309, i310, i311, i323, i324, i325, i899, i900, i975, i999, i5200, i4875, i65536, i65537, i15, ob_some, nI_add, nI_clamp, zn_zib, zn_eq, zn_lt, zn_le, m2_lt, m2_le, lt_m2, le_m2, eq_m2, m2_eq, m1_lt, m1_le, lt_m1, le_m1, eq_m1, m1_eq, m1_m2, m2_m1, m2_lt_m1, bI_0, bI_1, bI_t, bI_f, bI_bo, nI0_bo, nI1_bo, if_true, if_false, ite_true, ite_false, Nat.zero_add, Nat.not_lt_zero, Nat.zero_le, not_true_eq_false, not_false_eq_true, or_false, false_or, true_or, or_true, and_true, true_and, Bool.false_eq_true, Bool.true_eq_false, reduceCtorEq, eq_self]) (fun S3 st1 und' hk => by simp (disch := omega) only [g2', hc2, ht0, hb1, hk, M_anew, M_no, X9_ans, X9_ref, M_why0, M_why10, M_why11, ↓lm1, ↓lm2, i0, i1, i2, i3, i4, i5, i6, i7, i8, i9, i10, i12, i16, i20, i24, i31, i32, i44, i48, i57, i59, i63, i64, i74, i75, i90, i96, i97, i99, i100, i122, i139, i140, i144, i192, i200, i240, i255, i304, i309, i310, i311, i323, i324, i325, i899, i900, i975, i999, i5200, i4875, i65536, i65537, i15, ob_some, nI_add, nI_clamp, zn_zib, zn_eq, zn_lt, zn_le, m2_lt, m2_le, lt_m2, le_m2, eq_m2, m2_eq, m1_lt, m1_le, lt_m1, le_m1, eq_m1, m1_eq, m1_m2, m2_m1, m2_lt_m1, bI_0, bI_1, bI_t, bI_f, bI_bo, nI0_bo, nI1_bo, if_true, if_false, ite_true, ite_false, Nat.zero_add, Nat.not_lt_zero, Nat.zero_le, not_true_eq_false, not_false_eq_true, or_false, false_or, true_or, or_true, and_true, true_and, Bool.false_eq_true, Bool.true_eq_false, reduceCtorEq, eq_self])
end
