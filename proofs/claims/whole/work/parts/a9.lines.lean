/-! the lines of a text: clear, freeze, done, gone, put, drop -/
section
variable {T : STape} {S S' : SMo} {D : SRd} {E : SEv} {R : SRows} {lt tp fr mk oq ow rd rd' sl : Nat → Int32} {kf : Nat → Nat} {L p p0 e n m c b kn : Nat} {mr : Option MXt}
theorem M_may1 (hf : Mo_failed S = nI 0) : f_X10_mayRefuse S (nI 1) = some (wrS S (nI 8) (Mo_at S)) := by
  unfold f_X10_mayRefuse
  simp (disch := omega) only [M_wrong hf, ↓lm1, ↓lm2, i0, i1, i2, i3, i4, i5, i6, i7, i8, i9, i10, i12, i16, i20, i24, i31, i32, i44, i48, i57, i59, i63, i64, i74, i75, i90, i96, i97, i99, i100, i122, i139, i140, i144, i192, i200, i240, i255, i304, i309, i310, i311, i323, i324, i325, i899, i900, i975, i999, i5200, i4875, i65536, i65537, i15, ob_some, nI_add, nI_clamp, zn_zib, zn_eq, zn_lt, zn_le, m2_lt, m2_le, lt_m2, le_m2, eq_m2, m2_eq, m1_lt, m1_le, lt_m1, le_m1, eq_m1, m1_eq, m1_m2, m2_m1, m2_lt_m1, bI_0, bI_1, bI_t, bI_f, bI_bo, nI0_bo, nI1_bo, if_true, if_false, ite_true, ite_false, Nat.zero_add, Nat.not_lt_zero, Nat.zero_le, not_true_eq_false, not_false_eq_true, or_false, false_or, true_or, or_true, and_true, true_and, Bool.false_eq_true, Bool.true_eq_false, reduceCtorEq, eq_self]
theorem M_may0 : f_X10_mayRefuse S (nI 0) = some S := by
  unfold f_X10_mayRefuse
  simp (disch := omega) only [↓lm1, ↓lm2, i0, i1, i2, i3, i4, i5, i6, i7, i8, i9, i10, i12, i16, i20, i24, i31, i32, i44, i48, i57, i59, i63, i64, i74, i75, i90, i96, i97, i99, i100, i122, i139, i140, i144, i192, i200, i240, i255, i304, i309, i310, i311, i323, i324, i325, i899, i900, i975, i999, i5200, i4875, i65536, i65537, i15, ob_some, nI_add, nI_clamp, zn_zib, zn_eq, zn_lt, zn_le, m2_lt, m2_le, lt_m2, le_m2, eq_m2, m2_eq, m1_lt, m1_le, lt_m1, le_m1, eq_m1, m1_eq, m1_m2, m2_m1, m2_lt_m1, bI_0, bI_1, bI_t, bI_f, bI_bo, nI0_bo, nI1_bo, if_true, if_false, ite_true, ite_false, Nat.zero_add, Nat.not_lt_zero, Nat.zero_le, not_true_eq_false, not_false_eq_true, or_false, false_or, true_or, or_true, and_true, true_and, Bool.false_eq_true, Bool.true_eq_false, reduceCtorEq, eq_self]
theorem cI_le0 {q : Nat → Bool} : (cI q 48 ≤ nI 0) = (fb_ct q 48 = 0) := by
  have := fb_ct_le q 48
  rw [cI_ct, zn_le (by omega) (by omega)]
  exact propext ⟨fun h => by omega, fun h => by omega⟩
theorem SLQ_cong {ns : Nat → Int32} (h : SLQ ns rd kn) (g : ∀ w, w < 6 → rn rd' w = rn rd w) : SLQ ns rd' kn := ⟨fun i hi w hw e => (g w hw).trans (h.1 i hi w hw e), h.2⟩
theorem PS_ring (P : PS D E R S fr oq ow rd sl kf n m c b) : ¬ Rows_ring R = nI 0 := by
  obtain ⟨kn, u, ev, po, le, rw', f1, f2, hd, rg, F, -⟩ := P
  have hn := WS_n (RC_W F.1)
  rw [RC_ring F.1, zn_eq (by omega) (by omega)]
  omega
theorem LO_bad {D' : SRd} {E' : SEv} {R' : SRows} {T' : STape} (X : MXt) (h : f_X5_readLine D E R T = some (nI 0, D', E', R', T')) (hm : mr = some X) (f : FB D' T T' S X.1) : LO D E R T S mr kf L p b := .inr ⟨D', T', X, ⟨E', R', .inl h⟩, hm, .inl f⟩
theorem FB_end {D0 : SRd} {T1 T' : STape} {S1 : SMo} (te : TE T T1) (se : SE S S1) (te2 : TE T1 T') : FB (flD D0 (nI 1) (Mo_at S1)) T T' S (wrS S1 (nI 1) (Mo_at S1)) := ⟨TE_trans te te2, FM_trans (SE_FM se) (FM_wr _ _ _), rfl, rfl, rfl⟩
theorem FB_act {D0 : SRd} {T1 : STape} {S1 : SMo} {p' : Nat} (te : TE T T1) (se : FM S S1) (h : LE T1 S1 lt kf L p') : FB (flD D0 (nI 8) (Tape_start T1)) T T1 S (wrS S1 (nI 8) (Mo_at S1)) := ⟨te, FM_trans se (FM_wr _ _ _), rfl, rfl, h.1.1.trans h.1.2.1.symm⟩
theorem line_6 (C : CX T S tp kf L) (hw : TKw T S lt kf L p e) (hr : f_X7_reserved T = some (some 6)) (hj : f_X10_isWord S lt 6 = some (nI 1)) (g : ∀ x, x < 11 → x ≠ 6 → f_X10_isWord S lt x = some (nI 0)) (P : PS D E R S fr oq ow rd sl kf n m c b) (hb : b + 1 < 2 ^ 29) : LO D E R T S (f_X10_readLine S fr lt mk oq ow rd sl tp) kf L p b := by
  obtain ⟨S1, lt1, s1, s2, s3⟩ := go_w C hw
  have C1 := CX_TE C (TE_rfl T) s3
  obtain ⟨kn, u, ev, po, le, rw', f1, f2, hd, rg, F, nc, n6, hN, ho, hs, hq, uc, hu, hsn⟩ := id P
  have hring := PS_ring P
  have hf1 := C1.2.2.2.2.2
  have rg1 : Mo_ring S1 = nI n := (SE_ring s3).trans rg
  rw [M_rl_6 C.2.2.2.2.2 hj g hd.2.2.2]
  rcases b_end (D := dHd D (some 6)) s2 with ⟨T1, p1, e1, e2, e3, e4⟩ | ⟨T1, e1, e2, e3⟩
  · have hen := M_ends_y hf1 e4
    obtain ⟨y, hy⟩ := T_slotNamed (D := dHd D (some 6)) (Rd_name (dHd D (some 6)))
    have hda := T_da_6 (R := R) (D := dHd D (some 6)) rfl hy
    have hcl := M_clearOn (S := S1) rg1 (RC_W F.1) mk
    obtain ⟨R', k1, k2, k3, k4⟩ := X6_clearDead F.1 F.2.1 F.2.2
    have hrl : f_X5_readLine D E R T = some (nI 1, dHd D (some 6), E, R, T1) := by
      rw [T_rl_6 hr hring, e1]
      simp (disch := omega) only [↓lm1, ↓lm2, i0, i1, i2, i3, i4, i5, i6, i7, i8, i9, i10, i12, i16, i20, i24, i31, i32, i44, i48, i57, i59, i63, i64, i74, i75, i90, i96, i97, i99, i100, i122, i139, i140, i144, i192, i200, i240, i255, i304, i309, i310, i311, i323, i324, i325, i899, i900, i975, i999, i5200, i4875, i65536, i65537, i15, ob_some, nI_add, nI_clamp, zn_zib, zn_eq, zn_lt, zn_le, m2_lt, m2_le, lt_m2, le_m2, eq_m2, m2_eq, m1_lt, m1_le, lt_m1, le_m1, eq_m1, m1_eq, m1_m2, m2_m1, m2_lt_m1, bI_0, bI_1, bI_t, bI_f, bI_bo, nI0_bo, nI1_bo, if_true, if_false, ite_true, ite_false, Nat.zero_add, Nat.not_lt_zero, Nat.zero_le, not_true_eq_false, not_false_eq_true, or_false, false_or, true_or, or_true, and_true, true_and, Bool.false_eq_true, Bool.true_eq_false, reduceCtorEq, eq_self]
    by_cases z : fb_ct (dp rd n) 48 = 0
    · refine .inr ⟨flD (dHd D (some 6)) (nI 8) (Tape_start T1), T1, (wrS S1 (nI 8) (Mo_at S1), fr, lt1, fun v => if v < 48 then bI (dp rd n v) else mk v, oq, ow, clS rd n, sl), ⟨E, R', .inr ⟨_, _, _, hrl, ?_, rfl⟩⟩, ?_, .inl (FB_act e2 (SE_FM s3) e4)⟩
      · rw [hda]
        simp (disch := omega) only [k1, cI_le0, z, ↓lm1, ↓lm2, i0, i1, i2, i3, i4, i5, i6, i7, i8, i9, i10, i12, i16, i20, i24, i31, i32, i44, i48, i57, i59, i63, i64, i74, i75, i90, i96, i97, i99, i100, i122, i139, i140, i144, i192, i200, i240, i255, i304, i309, i310, i311, i323, i324, i325, i899, i900, i975, i999, i5200, i4875, i65536, i65537, i15, ob_some, nI_add, nI_clamp, zn_zib, zn_eq, zn_lt, zn_le, m2_lt, m2_le, lt_m2, le_m2, eq_m2, m2_eq, m1_lt, m1_le, lt_m1, le_m1, eq_m1, m1_eq, m1_m2, m2_m1, m2_lt_m1, bI_0, bI_1, bI_t, bI_f, bI_bo, nI0_bo, nI1_bo, if_true, if_false, ite_true, ite_false, Nat.zero_add, Nat.not_lt_zero, Nat.zero_le, not_true_eq_false, not_false_eq_true, or_false, false_or, true_or, or_true, and_true, true_and, Bool.false_eq_true, Bool.true_eq_false, reduceCtorEq, eq_self]
      · unfold f_X10_allLine
        simp (disch := omega) only [s1, hen, hcl, cI_ne0, z, M_may1 hf1, ↓lm1, ↓lm2, i0, i1, i2, i3, i4, i5, i6, i7, i8, i9, i10, i12, i16, i20, i24, i31, i32, i44, i48, i57, i59, i63, i64, i74, i75, i90, i96, i97, i99, i100, i122, i139, i140, i144, i192, i200, i240, i255, i304, i309, i310, i311, i323, i324, i325, i899, i900, i975, i999, i5200, i4875, i65536, i65537, i15, ob_some, nI_add, nI_clamp, zn_zib, zn_eq, zn_lt, zn_le, m2_lt, m2_le, lt_m2, le_m2, eq_m2, m2_eq, m1_lt, m1_le, lt_m1, le_m1, eq_m1, m1_eq, m1_m2, m2_m1, m2_lt_m1, bI_0, bI_1, bI_t, bI_f, bI_bo, nI0_bo, nI1_bo, if_true, if_false, ite_true, ite_false, Nat.zero_add, Nat.not_lt_zero, Nat.zero_le, not_true_eq_false, not_false_eq_true, or_false, false_or, true_or, or_true, and_true, true_and, Bool.false_eq_true, Bool.true_eq_false, reduceCtorEq, eq_self]
    · refine .inl ⟨dHd D (some 6), E, R, T1, dHd D (some 6), R', p1, n, m, c, (S1, fr, lt1, fun v => if v < 48 then bI (dp rd n v) else mk v, oq, ow, clS rd n, sl), hrl, ?_, ?_, e2, SE_FM s3, hf1, SE_size s3, e3, e4, ⟨kn, u, ev, po, le, rw', f1, (SE_fault s3).trans f2, hd, rg1, ⟨k2, k3, MK_mono (by omega) hb k4⟩, nc, n6, hN, ho, hs, SLQ_cong hq (fun w hw => ?_), uc, hu, hsn⟩⟩
      · rw [hda]
        simp (disch := omega) only [k1, cI_le0, z, ↓lm1, ↓lm2, i0, i1, i2, i3, i4, i5, i6, i7, i8, i9, i10, i12, i16, i20, i24, i31, i32, i44, i48, i57, i59, i63, i64, i74, i75, i90, i96, i97, i99, i100, i122, i139, i140, i144, i192, i200, i240, i255, i304, i309, i310, i311, i323, i324, i325, i899, i900, i975, i999, i5200, i4875, i65536, i65537, i15, ob_some, nI_add, nI_clamp, zn_zib, zn_eq, zn_lt, zn_le, m2_lt, m2_le, lt_m2, le_m2, eq_m2, m2_eq, m1_lt, m1_le, lt_m1, le_m1, eq_m1, m1_eq, m1_m2, m2_m1, m2_lt_m1, bI_0, bI_1, bI_t, bI_f, bI_bo, nI0_bo, nI1_bo, if_true, if_false, ite_true, ite_false, Nat.zero_add, Nat.not_lt_zero, Nat.zero_le, not_true_eq_false, not_false_eq_true, or_false, false_or, true_or, or_true, and_true, true_and, Bool.false_eq_true, Bool.true_eq_false, reduceCtorEq, eq_self]
      · unfold f_X10_allLine
        simp (disch := omega) only [s1, hen, hcl, cI_ne0, z, M_may0, ↓lm1, ↓lm2, i0, i1, i2, i3, i4, i5, i6, i7, i8, i9, i10, i12, i16, i20, i24, i31, i32, i44, i48, i57, i59, i63, i64, i74, i75, i90, i96, i97, i99, i100, i122, i139, i140, i144, i192, i200, i240, i255, i304, i309, i310, i311, i323, i324, i325, i899, i900, i975, i999, i5200, i4875, i65536, i65537, i15, ob_some, nI_add, nI_clamp, zn_zib, zn_eq, zn_lt, zn_le, m2_lt, m2_le, lt_m2, le_m2, eq_m2, m2_eq, m1_lt, m1_le, lt_m1, le_m1, eq_m1, m1_eq, m1_m2, m2_m1, m2_lt_m1, bI_0, bI_1, bI_t, bI_f, bI_bo, nI0_bo, nI1_bo, if_true, if_false, ite_true, ite_false, Nat.zero_add, Nat.not_lt_zero, Nat.zero_le, not_true_eq_false, not_false_eq_true, or_false, false_or, true_or, or_true, and_true, true_and, Bool.false_eq_true, Bool.true_eq_false, reduceCtorEq, eq_self]
      · show rn (clS rd n) w = rn rd w
        unfold rn
        rw [clS_out (by omega)]
  · have hen := M_ends_n hf1 e3
    refine LO_bad (wrS S1 (nI 1) (Mo_at S1), fr, lt1, mk, oq, ow, rd, sl) (E' := E) (R' := R) (T' := T1) (D' := flD (dHd D (some 6)) (nI 1) (Mo_at S1)) ?_ ?_ (FB_end (TE_rfl T) s3 e2)
    · rw [T_rl_6 hr hring, e1]
      simp (disch := omega) only [↓lm1, ↓lm2, i0, i1, i2, i3, i4, i5, i6, i7, i8, i9, i10, i12, i16, i20, i24, i31, i32, i44, i48, i57, i59, i63, i64, i74, i75, i90, i96, i97, i99, i100, i122, i139, i140, i144, i192, i200, i240, i255, i304, i309, i310, i311, i323, i324, i325, i899, i900, i975, i999, i5200, i4875, i65536, i65537, i15, ob_some, nI_add, nI_clamp, zn_zib, zn_eq, zn_lt, zn_le, m2_lt, m2_le, lt_m2, le_m2, eq_m2, m2_eq, m1_lt, m1_le, lt_m1, le_m1, eq_m1, m1_eq, m1_m2, m2_m1, m2_lt_m1, bI_0, bI_1, bI_t, bI_f, bI_bo, nI0_bo, nI1_bo, if_true, if_false, ite_true, ite_false, Nat.zero_add, Nat.not_lt_zero, Nat.zero_le, not_true_eq_false, not_false_eq_true, or_false, false_or, true_or, or_true, and_true, true_and, Bool.false_eq_true, Bool.true_eq_false, reduceCtorEq, eq_self]
    · unfold f_X10_allLine
      simp (disch := omega) only [s1, hen, ↓lm1, ↓lm2, i0, i1, i2, i3, i4, i5, i6, i7, i8, i9, i10, i12, i16, i20, i24, i31, i32, i44, i48, i57, i59, i63, i64, i74, i75, i90, i96, i97, i99, i100, i122, i139, i140, i144, i192, i200, i240, i255, i304, i309, i310, i311, i323, i324, i325, i899, i900, i975, i999, i5200, i4875, i65536, i65537, i15, ob_some, nI_add, nI_clamp, zn_zib, zn_eq, zn_lt, zn_le, m2_lt, m2_le, lt_m2, le_m2, eq_m2, m2_eq, m1_lt, m1_le, lt_m1, le_m1, eq_m1, m1_eq, m1_m2, m2_m1, m2_lt_m1, bI_0, bI_1, bI_t, bI_f, bI_bo, nI0_bo, nI1_bo, if_true, if_false, ite_true, ite_false, Nat.zero_add, Nat.not_lt_zero, Nat.zero_le, not_true_eq_false, not_false_eq_true, or_false, false_or, true_or, or_true, and_true, true_and, Bool.false_eq_true, Bool.true_eq_false, reduceCtorEq, eq_self]
theorem line_7 (C : CX T S tp kf L) (hw : TKw T S lt kf L p e) (hr : f_X7_reserved T = some (some 7)) (hj : f_X10_isWord S lt 7 = some (nI 1)) (g : ∀ x, x < 11 → x ≠ 7 → f_X10_isWord S lt x = some (nI 0)) (P : PS D E R S fr oq ow rd sl kf n m c b) (hb : b + 1 < 2 ^ 29) : LO D E R T S (f_X10_readLine S fr lt mk oq ow rd sl tp) kf L p b := by
  obtain ⟨S1, lt1, s1, s2, s3⟩ := go_w C hw
  have C1 := CX_TE C (TE_rfl T) s3
  obtain ⟨kn, u, ev, po, le, rw', f1, f2, hd, rg, F, nc, n6, hN, ho, hs, hq, uc, hu, hsn⟩ := id P
  have hring := PS_ring P
  have hf1 := C1.2.2.2.2.2
  have rg1 : Mo_ring S1 = nI n := (SE_ring s3).trans rg
  rw [M_rl_7 C.2.2.2.2.2 hj g hd.2.2.2]
  rcases b_end (D := dHd D (some 7)) s2 with ⟨T1, p1, e1, e2, e3, e4⟩ | ⟨T1, e1, e2, e3⟩
  · have hen := M_ends_y hf1 e4
    obtain ⟨y, hy⟩ := T_slotNamed (D := dHd D (some 7)) (Rd_name (dHd D (some 7)))
    have hda := T_da_7 (R := R) (D := dHd D (some 7)) rfl hy
    have hcl := M_freezeOn (S := S1) rg1 (RC_W F.1) mk
    obtain ⟨R', k1, k2, k3, k4⟩ := X6_freezeAll F.1 F.2.1 F.2.2
    have hrl : f_X5_readLine D E R T = some (nI 1, dHd D (some 7), E, R, T1) := by
      rw [T_rl_7 hr hring, e1]
      simp (disch := omega) only [↓lm1, ↓lm2, i0, i1, i2, i3, i4, i5, i6, i7, i8, i9, i10, i12, i16, i20, i24, i31, i32, i44, i48, i57, i59, i63, i64, i74, i75, i90, i96, i97, i99, i100, i122, i139, i140, i144, i192, i200, i240, i255, i304, i309, i310, i311, i323, i324, i325, i899, i900, i975, i999, i5200, i4875, i65536, i65537, i15, ob_some, nI_add, nI_clamp, zn_zib, zn_eq, zn_lt, zn_le, m2_lt, m2_le, lt_m2, le_m2, eq_m2, m2_eq, m1_lt, m1_le, lt_m1, le_m1, eq_m1, m1_eq, m1_m2, m2_m1, m2_lt_m1, bI_0, bI_1, bI_t, bI_f, bI_bo, nI0_bo, nI1_bo, if_true, if_false, ite_true, ite_false, Nat.zero_add, Nat.not_lt_zero, Nat.zero_le, not_true_eq_false, not_false_eq_true, or_false, false_or, true_or, or_true, and_true, true_and, Bool.false_eq_true, Bool.true_eq_false, reduceCtorEq, eq_self]
    by_cases z : fb_ct (fun v => fz rd n v || lg rd v) 48 = 0
    · refine .inr ⟨flD (dHd D (some 7)) (nI 8) (Tape_start T1), T1, (wrS S1 (nI 8) (Mo_at S1), fr, lt1, fun v => if v < 48 then fmk rd n v else mk v, oq, ow, frS rd n 48, sl), ⟨E, R', .inr ⟨_, _, _, hrl, ?_, rfl⟩⟩, ?_, .inl (FB_act e2 (SE_FM s3) e4)⟩
      · rw [hda]
        simp (disch := omega) only [k1, cI_le0, z, ↓lm1, ↓lm2, i0, i1, i2, i3, i4, i5, i6, i7, i8, i9, i10, i12, i16, i20, i24, i31, i32, i44, i48, i57, i59, i63, i64, i74, i75, i90, i96, i97, i99, i100, i122, i139, i140, i144, i192, i200, i240, i255, i304, i309, i310, i311, i323, i324, i325, i899, i900, i975, i999, i5200, i4875, i65536, i65537, i15, ob_some, nI_add, nI_clamp, zn_zib, zn_eq, zn_lt, zn_le, m2_lt, m2_le, lt_m2, le_m2, eq_m2, m2_eq, m1_lt, m1_le, lt_m1, le_m1, eq_m1, m1_eq, m1_m2, m2_m1, m2_lt_m1, bI_0, bI_1, bI_t, bI_f, bI_bo, nI0_bo, nI1_bo, if_true, if_false, ite_true, ite_false, Nat.zero_add, Nat.not_lt_zero, Nat.zero_le, not_true_eq_false, not_false_eq_true, or_false, false_or, true_or, or_true, and_true, true_and, Bool.false_eq_true, Bool.true_eq_false, reduceCtorEq, eq_self]
      · unfold f_X10_allLine
        simp (disch := omega) only [s1, hen, hcl, cI_ne0, z, M_may1 hf1, ↓lm1, ↓lm2, i0, i1, i2, i3, i4, i5, i6, i7, i8, i9, i10, i12, i16, i20, i24, i31, i32, i44, i48, i57, i59, i63, i64, i74, i75, i90, i96, i97, i99, i100, i122, i139, i140, i144, i192, i200, i240, i255, i304, i309, i310, i311, i323, i324, i325, i899, i900, i975, i999, i5200, i4875, i65536, i65537, i15, ob_some, nI_add, nI_clamp, zn_zib, zn_eq, zn_lt, zn_le, m2_lt, m2_le, lt_m2, le_m2, eq_m2, m2_eq, m1_lt, m1_le, lt_m1, le_m1, eq_m1, m1_eq, m1_m2, m2_m1, m2_lt_m1, bI_0, bI_1, bI_t, bI_f, bI_bo, nI0_bo, nI1_bo, if_true, if_false, ite_true, ite_false, Nat.zero_add, Nat.not_lt_zero, Nat.zero_le, not_true_eq_false, not_false_eq_true, or_false, false_or, true_or, or_true, and_true, true_and, Bool.false_eq_true, Bool.true_eq_false, reduceCtorEq, eq_self]
    · refine .inl ⟨dHd D (some 7), E, R, T1, dHd D (some 7), R', p1, n, m, c, (S1, fr, lt1, fun v => if v < 48 then fmk rd n v else mk v, oq, ow, frS rd n 48, sl), hrl, ?_, ?_, e2, SE_FM s3, hf1, SE_size s3, e3, e4, ⟨kn, u, ev, po, le, rw', f1, (SE_fault s3).trans f2, hd, rg1, ⟨k2, k3, MK_mono (by omega) hb k4⟩, nc, n6, hN, ho, hs, SLQ_cong hq (fun w hw => ?_), uc, hu, hsn⟩⟩
      · rw [hda]
        simp (disch := omega) only [k1, cI_le0, z, ↓lm1, ↓lm2, i0, i1, i2, i3, i4, i5, i6, i7, i8, i9, i10, i12, i16, i20, i24, i31, i32, i44, i48, i57, i59, i63, i64, i74, i75, i90, i96, i97, i99, i100, i122, i139, i140, i144, i192, i200, i240, i255, i304, i309, i310, i311, i323, i324, i325, i899, i900, i975, i999, i5200, i4875, i65536, i65537, i15, ob_some, nI_add, nI_clamp, zn_zib, zn_eq, zn_lt, zn_le, m2_lt, m2_le, lt_m2, le_m2, eq_m2, m2_eq, m1_lt, m1_le, lt_m1, le_m1, eq_m1, m1_eq, m1_m2, m2_m1, m2_lt_m1, bI_0, bI_1, bI_t, bI_f, bI_bo, nI0_bo, nI1_bo, if_true, if_false, ite_true, ite_false, Nat.zero_add, Nat.not_lt_zero, Nat.zero_le, not_true_eq_false, not_false_eq_true, or_false, false_or, true_or, or_true, and_true, true_and, Bool.false_eq_true, Bool.true_eq_false, reduceCtorEq, eq_self]
      · unfold f_X10_allLine
        simp (disch := omega) only [s1, hen, hcl, cI_ne0, z, M_may0, ↓lm1, ↓lm2, i0, i1, i2, i3, i4, i5, i6, i7, i8, i9, i10, i12, i16, i20, i24, i31, i32, i44, i48, i57, i59, i63, i64, i74, i75, i90, i96, i97, i99, i100, i122, i139, i140, i144, i192, i200, i240, i255, i304, i309, i310, i311, i323, i324, i325, i899, i900, i975, i999, i5200, i4875, i65536, i65537, i15, ob_some, nI_add, nI_clamp, zn_zib, zn_eq, zn_lt, zn_le, m2_lt, m2_le, lt_m2, le_m2, eq_m2, m2_eq, m1_lt, m1_le, lt_m1, le_m1, eq_m1, m1_eq, m1_m2, m2_m1, m2_lt_m1, bI_0, bI_1, bI_t, bI_f, bI_bo, nI0_bo, nI1_bo, if_true, if_false, ite_true, ite_false, Nat.zero_add, Nat.not_lt_zero, Nat.zero_le, not_true_eq_false, not_false_eq_true, or_false, false_or, true_or, or_true, and_true, true_and, Bool.false_eq_true, Bool.true_eq_false, reduceCtorEq, eq_self]
      · show rn (frS rd n 48) w = rn rd w
        unfold rn
        rw [frS_out (by omega) (by omega)]
  · have hen := M_ends_n hf1 e3
    refine LO_bad (wrS S1 (nI 1) (Mo_at S1), fr, lt1, mk, oq, ow, rd, sl) (E' := E) (R' := R) (T' := T1) (D' := flD (dHd D (some 7)) (nI 1) (Mo_at S1)) ?_ ?_ (FB_end (TE_rfl T) s3 e2)
    · rw [T_rl_7 hr hring, e1]
      simp (disch := omega) only [↓lm1, ↓lm2, i0, i1, i2, i3, i4, i5, i6, i7, i8, i9, i10, i12, i16, i20, i24, i31, i32, i44, i48, i57, i59, i63, i64, i74, i75, i90, i96, i97, i99, i100, i122, i139, i140, i144, i192, i200, i240, i255, i304, i309, i310, i311, i323, i324, i325, i899, i900, i975, i999, i5200, i4875, i65536, i65537, i15, ob_some, nI_add, nI_clamp, zn_zib, zn_eq, zn_lt, zn_le, m2_lt, m2_le, lt_m2, le_m2, eq_m2, m2_eq, m1_lt, m1_le, lt_m1, le_m1, eq_m1, m1_eq, m1_m2, m2_m1, m2_lt_m1, bI_0, bI_1, bI_t, bI_f, bI_bo, nI0_bo, nI1_bo, if_true, if_false, ite_true, ite_false, Nat.zero_add, Nat.not_lt_zero, Nat.zero_le, not_true_eq_false, not_false_eq_true, or_false, false_or, true_or, or_true, and_true, true_and, Bool.false_eq_true, Bool.true_eq_false, reduceCtorEq, eq_self]
    · unfold f_X10_allLine
      simp (disch := omega) only [s1, hen, ↓lm1, ↓lm2, i0, i1, i2, i3, i4, i5, i6, i7, i8, i9, i10, i12, i16, i20, i24, i31, i32, i44, i48, i57, i59, i63, i64, i74, i75, i90, i96, i97, i99, i100, i122, i139, i140, i144, i192, i200, i240, i255, i304, i309, i310, i311, i323, i324, i325, i899, i900, i975, i999, i5200, i4875, i65536, i65537, i15, ob_some, nI_add, nI_clamp, zn_zib, zn_eq, zn_lt, zn_le, m2_lt, m2_le, lt_m2, le_m2, eq_m2, m2_eq, m1_lt, m1_le, lt_m1, le_m1, eq_m1, m1_eq, m1_m2, m2_m1, m2_lt_m1, bI_0, bI_1, bI_t, bI_f, bI_bo, nI0_bo, nI1_bo, if_true, if_false, ite_true, ite_false, Nat.zero_add, Nat.not_lt_zero, Nat.zero_le, not_true_eq_false, not_false_eq_true, or_false, false_or, true_or, or_true, and_true, true_and, Bool.false_eq_true, Bool.true_eq_false, reduceCtorEq, eq_self]
def dSl (D : SRd) (i : Nat) : SRd := mkRd (Rd_fault D) (Rd_place D) (Rd_nameCount D) (Rd_names D) (Rd_nameStamps D) (upd (Rd_nameSlots D) i m2) (Rd_unsureNames D) (Rd_unsureCount D) (Rd_head D) (Rd_name D) (Rd_row D) (Rd_whole D)
theorem line_45 (dB : Bool) (C : CX T S tp kf L) (hw : TKw T S lt kf L p e) (P : PS D E R S fr oq ow rd sl kf n m c b) (hb : b + 1 < 2 ^ 29) {j : Nat} (hrl : f_X5_readLine D E R T = b_X5_readLine_202 (dHd D (some j)) E R T) (hda : ∀ y (D1 : SRd), Rd_head D1 = some j → f_X5_slotNamed D1 (Rd_name D1) = some y → f_X5_doAct D1 R = (f_X5_endNamed D1 R (bI dB)).bind (fun q2 => if zbo q2.1 then some (q2.1, q2.2.1, q2.2.2) else none)) (hml : mr = (f_X10_endLine S fr lt rd sl tp (nI (if dB then 2 else 3))).bind (fun q15 => some (q15.1, fr, q15.2.1, mk, oq, ow, q15.2.2.1, q15.2.2.2))) : LO D E R T S mr kf L p b := by
  obtain ⟨S1, lt1, s1, s2, s3⟩ := go_w C hw
  have C1 := CX_TE C (TE_rfl T) s3
  obtain ⟨kn, u, ev, po, le, rw', f1, f2, hd, rg, F, nc, n6, hN, ho, hs, hq, uc, hu, hsn⟩ := id P
  rw [hml]
  unfold b_X5_readLine_202 at hrl
  unfold f_X10_endLine
  rcases b_running (D := dHd D (some j)) C1 s2 hN nc hs hu.2.1 with ⟨i, w, T1, S2, lt2, hi, hw6, w1, w2, r1, r2, t1, t2, A2⟩ | ⟨D', T1, S2, r1, r2, fb⟩
  · have C2 := CX_TE C1 t1 t2
    have hf2 := C2.2.2.2.2.2
    have hi12 : i < 12 := by have := hN.1; omega
    have s4 := SE_trans s3 t2
    rcases b_end (D := dNm (dHd D (some j)) (nI i)) A2 with ⟨T2, p2, e1, e2, e3, e4⟩ | ⟨T2, e1, e2, e3⟩
    · have hen := M_ends_y hf2 e4
      have w1' : Rd_nameSlots D i = nI w := w1
      have hrn := hq.1 i hi w hw6 w1'
      obtain ⟨s, hs', es⟩ := run_s (RC_W F.1) hw6 hrn
      obtain ⟨R', k1, k2⟩ := end_FR hb F.1 F.2.1 F.2.2 hw6 hs' es dB
      have k3 := M_endOn (d := if dB then 2 else 3) (RC_W F.1) hw6 hs' es
      have ew : nI (w + 1) - nI 1 = nI w := by rw [pk_sub (by omega), Nat.add_sub_cancel]
      have hE := enS_EN (st := rd) (n := n) (w := w) (s := s) (d := if dB then 2 else 3) hw6 (by have := WS_n (RC_W F.1); omega)
      have hsn' : s < 64 := by have := WS_n (RC_W F.1); omega
      refine .inl ⟨dNm (dHd D (some j)) (nI i), E, R, T2, dSl (dNm (dHd D (some j)) (nI i)) i, R', p2, n, m, c, (S2, fr, lt2, mk, oq, ow, enS rd w s (if dB then 2 else 3), upd sl i (nI 0)), ?_, ?_, ?_, TE_trans t1 e2, SE_FM s4, hf2, SE_size s4, by omega, e4, ⟨kn, u, ev, po, le, rw', f1, (SE_fault s4).trans f2, hd, (SE_ring s4).trans rg, k2, nc, n6, hN, ho, fun i' hi' => ?_, ⟨fun i' hi' w' hw' e' => ?_, fun i' j' hi' hj' hne w' hw' e' => ?_⟩, uc, hu, hsn⟩⟩
      · rw [hrl]
        simp (disch := omega) only [r1, e1, ↓lm1, ↓lm2, i0, i1, i2, i3, i4, i5, i6, i7, i8, i9, i10, i12, i16, i20, i24, i31, i32, i44, i48, i57, i59, i63, i64, i74, i75, i90, i96, i97, i99, i100, i122, i139, i140, i144, i192, i200, i240, i255, i304, i309, i310, i311, i323, i324, i325, i899, i900, i975, i999, i5200, i4875, i65536, i65537, i15, ob_some, nI_add, nI_clamp, zn_zib, zn_eq, zn_lt, zn_le, m2_lt, m2_le, lt_m2, le_m2, eq_m2, m2_eq, m1_lt, m1_le, lt_m1, le_m1, eq_m1, m1_eq, m1_m2, m2_m1, m2_lt_m1, bI_0, bI_1, bI_t, bI_f, bI_bo, nI0_bo, nI1_bo, if_true, if_false, ite_true, ite_false, Nat.zero_add, Nat.not_lt_zero, Nat.zero_le, not_true_eq_false, not_false_eq_true, or_false, false_or, true_or, or_true, and_true, true_and, Bool.false_eq_true, Bool.true_eq_false, reduceCtorEq, eq_self]
      · rw [hda (nI w) _ rfl ((T_slotNamed_at (D := dNm (dHd D (some j)) (nI i)) hi12).trans (congrArg some w1))]
        unfold f_X5_endNamed
        have en : Rd_name (dNm (dHd D (some j)) (nI i)) = nI i := rfl
        have b0 : i < 12 := hi12
        have w1'' : Rd_nameSlots (dNm (dHd D (some j)) (nI i)) i = nI w := w1
        simp (disch := omega) only [en, b0, w1'', k1, ↓lm1, ↓lm2, i0, i1, i2, i3, i4, i5, i6, i7, i8, i9, i10, i12, i16, i20, i24, i31, i32, i44, i48, i57, i59, i63, i64, i74, i75, i90, i96, i97, i99, i100, i122, i139, i140, i144, i192, i200, i240, i255, i304, i309, i310, i311, i323, i324, i325, i899, i900, i975, i999, i5200, i4875, i65536, i65537, i15, ob_some, nI_add, nI_clamp, zn_zib, zn_eq, zn_lt, zn_le, m2_lt, m2_le, lt_m2, le_m2, eq_m2, m2_eq, m1_lt, m1_le, lt_m1, le_m1, eq_m1, m1_eq, m1_m2, m2_m1, m2_lt_m1, bI_0, bI_1, bI_t, bI_f, bI_bo, nI0_bo, nI1_bo, if_true, if_false, ite_true, ite_false, Nat.zero_add, Nat.not_lt_zero, Nat.zero_le, not_true_eq_false, not_false_eq_true, or_false, false_or, true_or, or_true, and_true, true_and, Bool.false_eq_true, Bool.true_eq_false, reduceCtorEq, eq_self]
        rfl
      · simp (disch := omega) only [s1, r2, hen, w2, ew, k3, ↓lm1, ↓lm2, i0, i1, i2, i3, i4, i5, i6, i7, i8, i9, i10, i12, i16, i20, i24, i31, i32, i44, i48, i57, i59, i63, i64, i74, i75, i90, i96, i97, i99, i100, i122, i139, i140, i144, i192, i200, i240, i255, i304, i309, i310, i311, i323, i324, i325, i899, i900, i975, i999, i5200, i4875, i65536, i65537, i15, ob_some, nI_add, nI_clamp, zn_zib, zn_eq, zn_lt, zn_le, m2_lt, m2_le, lt_m2, le_m2, eq_m2, m2_eq, m1_lt, m1_le, lt_m1, le_m1, eq_m1, m1_eq, m1_m2, m2_m1, m2_lt_m1, bI_0, bI_1, bI_t, bI_f, bI_bo, nI0_bo, nI1_bo, if_true, if_false, ite_true, ite_false, Nat.zero_add, Nat.not_lt_zero, Nat.zero_le, not_true_eq_false, not_false_eq_true, or_false, false_or, true_or, or_true, and_true, true_and, Bool.false_eq_true, Bool.true_eq_false, reduceCtorEq, eq_self]
      · show (upd (Rd_nameSlots D) i m2 i' = m2 ∧ upd sl i (nI 0) i' = nI 0) ∨ ∃ w, w < 6 ∧ upd (Rd_nameSlots D) i m2 i' = nI w ∧ upd sl i (nI 0) i' = nI (w + 1)
        by_cases z : i' = i
        · rw [z, upd_eq, upd_eq]
          exact .inl ⟨rfl, rfl⟩
        · rw [upd_ne z, upd_ne z]
          exact hs i' hi'
      · have e' : upd (Rd_nameSlots D) i m2 i' = nI w' := e'
        by_cases z : i' = i
        · rw [z, upd_eq, m2_eq (by omega)] at e'
          exact e'.elim
        · rw [upd_ne z] at e'
          have hne : w' ≠ w := fun y => by
            rw [y] at e'
            exact hq.2 i i' hi hi' (fun x => z x.symm) w hw6 w1' e'
          have h1 := hq.1 i' hi' w' hw' e'
          show rn (enS rd w s (if dB then 2 else 3)) w' = true
          unfold rn at h1 ⊢
          rw [hE.1 (304 + w') (by omega) (by omega) (by omega) (by omega) (by omega)]
          exact h1
      · have e' : upd (Rd_nameSlots D) i m2 i' = nI w' := e'
        show upd (Rd_nameSlots D) i m2 j' ≠ nI w'
        by_cases z : i' = i
        · rw [z, upd_eq, m2_eq (by omega)] at e'
          exact e'.elim
        · rw [upd_ne z] at e'
          by_cases y : j' = i
          · rw [y, upd_eq, ne_eq, m2_eq (by omega)]
            exact not_false
          · rw [upd_ne y]
            exact hq.2 i' j' hi' hj' hne w' hw' e'
    · have hen := M_ends_n hf2 e3
      refine LO_bad (wrS S2 (nI 1) (Mo_at S2), fr, lt2, mk, oq, ow, rd, sl) (E' := E) (R' := R) (T' := T2) (D' := flD (dNm (dHd D (some j)) (nI i)) (nI 1) (Mo_at S2)) ?_ ?_ (FB_end t1 s4 e2)
      · rw [hrl]
        simp (disch := omega) only [r1, e1, ↓lm1, ↓lm2, i0, i1, i2, i3, i4, i5, i6, i7, i8, i9, i10, i12, i16, i20, i24, i31, i32, i44, i48, i57, i59, i63, i64, i74, i75, i90, i96, i97, i99, i100, i122, i139, i140, i144, i192, i200, i240, i255, i304, i309, i310, i311, i323, i324, i325, i899, i900, i975, i999, i5200, i4875, i65536, i65537, i15, ob_some, nI_add, nI_clamp, zn_zib, zn_eq, zn_lt, zn_le, m2_lt, m2_le, lt_m2, le_m2, eq_m2, m2_eq, m1_lt, m1_le, lt_m1, le_m1, eq_m1, m1_eq, m1_m2, m2_m1, m2_lt_m1, bI_0, bI_1, bI_t, bI_f, bI_bo, nI0_bo, nI1_bo, if_true, if_false, ite_true, ite_false, Nat.zero_add, Nat.not_lt_zero, Nat.zero_le, not_true_eq_false, not_false_eq_true, or_false, false_or, true_or, or_true, and_true, true_and, Bool.false_eq_true, Bool.true_eq_false, reduceCtorEq, eq_self]
      · simp (disch := omega) only [s1, r2, hen, ↓lm1, ↓lm2, i0, i1, i2, i3, i4, i5, i6, i7, i8, i9, i10, i12, i16, i20, i24, i31, i32, i44, i48, i57, i59, i63, i64, i74, i75, i90, i96, i97, i99, i100, i122, i139, i140, i144, i192, i200, i240, i255, i304, i309, i310, i311, i323, i324, i325, i899, i900, i975, i999, i5200, i4875, i65536, i65537, i15, ob_some, nI_add, nI_clamp, zn_zib, zn_eq, zn_lt, zn_le, m2_lt, m2_le, lt_m2, le_m2, eq_m2, m2_eq, m1_lt, m1_le, lt_m1, le_m1, eq_m1, m1_eq, m1_m2, m2_m1, m2_lt_m1, bI_0, bI_1, bI_t, bI_f, bI_bo, nI0_bo, nI1_bo, if_true, if_false, ite_true, ite_false, Nat.zero_add, Nat.not_lt_zero, Nat.zero_le, not_true_eq_false, not_false_eq_true, or_false, false_or, true_or, or_true, and_true, true_and, Bool.false_eq_true, Bool.true_eq_false, reduceCtorEq, eq_self]
  · have hff := fb.2.2.1
    refine LO_bad (S2, fr, lt1, mk, oq, ow, rd, sl) (E' := E) (R' := R) (T' := T1) (D' := D') ?_ ?_ (FB_pre (TE_rfl T) s3 fb)
    · rw [hrl]
      simp (disch := omega) only [r1, ↓lm1, ↓lm2, i0, i1, i2, i3, i4, i5, i6, i7, i8, i9, i10, i12, i16, i20, i24, i31, i32, i44, i48, i57, i59, i63, i64, i74, i75, i90, i96, i97, i99, i100, i122, i139, i140, i144, i192, i200, i240, i255, i304, i309, i310, i311, i323, i324, i325, i899, i900, i975, i999, i5200, i4875, i65536, i65537, i15, ob_some, nI_add, nI_clamp, zn_zib, zn_eq, zn_lt, zn_le, m2_lt, m2_le, lt_m2, le_m2, eq_m2, m2_eq, m1_lt, m1_le, lt_m1, le_m1, eq_m1, m1_eq, m1_m2, m2_m1, m2_lt_m1, bI_0, bI_1, bI_t, bI_f, bI_bo, nI0_bo, nI1_bo, if_true, if_false, ite_true, ite_false, Nat.zero_add, Nat.not_lt_zero, Nat.zero_le, not_true_eq_false, not_false_eq_true, or_false, false_or, true_or, or_true, and_true, true_and, Bool.false_eq_true, Bool.true_eq_false, reduceCtorEq, eq_self]
    · simp (disch := omega) only [s1, r2, M_ends_f hff, ↓lm1, ↓lm2, i0, i1, i2, i3, i4, i5, i6, i7, i8, i9, i10, i12, i16, i20, i24, i31, i32, i44, i48, i57, i59, i63, i64, i74, i75, i90, i96, i97, i99, i100, i122, i139, i140, i144, i192, i200, i240, i255, i304, i309, i310, i311, i323, i324, i325, i899, i900, i975, i999, i5200, i4875, i65536, i65537, i15, ob_some, nI_add, nI_clamp, zn_zib, zn_eq, zn_lt, zn_le, m2_lt, m2_le, lt_m2, le_m2, eq_m2, m2_eq, m1_lt, m1_le, lt_m1, le_m1, eq_m1, m1_eq, m1_m2, m2_m1, m2_lt_m1, bI_0, bI_1, bI_t, bI_f, bI_bo, nI0_bo, nI1_bo, if_true, if_false, ite_true, ite_false, Nat.zero_add, Nat.not_lt_zero, Nat.zero_le, not_true_eq_false, not_false_eq_true, or_false, false_or, true_or, or_true, and_true, true_and, Bool.false_eq_true, Bool.true_eq_false, reduceCtorEq, eq_self]
theorem b_row (C : CX T S tp kf L) (A : AH T S lt kf L p0) (h1 : Rows_rowCount R = nI m) (hm : 1 ≤ m ∧ m ≤ 8) : (∃ r T' S' lt', r < m ∧ f_X5_takeRow D R T = some (nI 1, dRw D (nI r), T') ∧ f_X10_number S lt tp (nI 0) (nI m - nI 1) = some (nI r, S', lt') ∧ TE T T' ∧ SE S S' ∧ AH T' S' lt' kf L (p0 + 1)) ∨ (∃ D' T' S', f_X5_takeRow D R T = some (nI 0, D', T') ∧ f_X10_number S lt tp (nI 0) (nI m - nI 1) = some (nI 0, S', lt) ∧ FB D' T T' S S') := by
  have ew : nI m - nI 1 = nI (m - 1) := pk_sub (by omega)
  rw [ew]
  unfold f_X5_takeRow
  rcases b_whole (D := D) C A (lo := 0) (hg := m - 1) (by omega) (by omega) with ⟨v, T', S', lt', v1, v2, v3, v4, v5, v6, v7, v8, -⟩ | ⟨D', T', S', v4, v5, v6, -⟩
  · refine .inl ⟨v, T', S', lt', by omega, ?_, v5, v6, v7, v8⟩
    simp (disch := omega) only [h1, ew, v4, ↓lm1, ↓lm2, i0, i1, i2, i3, i4, i5, i6, i7, i8, i9, i10, i12, i16, i20, i24, i31, i32, i44, i48, i57, i59, i63, i64, i74, i75, i90, i96, i97, i99, i100, i122, i139, i140, i144, i192, i200, i240, i255, i304, i309, i310, i311, i323, i324, i325, i899, i900, i975, i999, i5200, i4875, i65536, i65537, i15, ob_some, nI_add, nI_clamp, zn_zib, zn_eq, zn_lt, zn_le, m2_lt, m2_le, lt_m2, le_m2, eq_m2, m2_eq, m1_lt, m1_le, lt_m1, le_m1, eq_m1, m1_eq, m1_m2, m2_m1, m2_lt_m1, bI_0, bI_1, bI_t, bI_f, bI_bo, nI0_bo, nI1_bo, if_true, if_false, ite_true, ite_false, Nat.zero_add, Nat.not_lt_zero, Nat.zero_le, not_true_eq_false, not_false_eq_true, or_false, false_or, true_or, or_true, and_true, true_and, Bool.false_eq_true, Bool.true_eq_false, reduceCtorEq, eq_self]
    rfl
  · refine .inr ⟨mkRd (Rd_fault D') (Rd_place D') (Rd_nameCount D') (Rd_names D') (Rd_nameStamps D') (Rd_nameSlots D') (Rd_unsureNames D') (Rd_unsureCount D') (Rd_head D') (Rd_name D') (Rd_whole D') (Rd_whole D'), T', S', ?_, v5, v6⟩
    simp (disch := omega) only [h1, ew, v4, ↓lm1, ↓lm2, i0, i1, i2, i3, i4, i5, i6, i7, i8, i9, i10, i12, i16, i20, i24, i31, i32, i44, i48, i57, i59, i63, i64, i74, i75, i90, i96, i97, i99, i100, i122, i139, i140, i144, i192, i200, i240, i255, i304, i309, i310, i311, i323, i324, i325, i899, i900, i975, i999, i5200, i4875, i65536, i65537, i15, ob_some, nI_add, nI_clamp, zn_zib, zn_eq, zn_lt, zn_le, m2_lt, m2_le, lt_m2, le_m2, eq_m2, m2_eq, m1_lt, m1_le, lt_m1, le_m1, eq_m1, m1_eq, m1_m2, m2_m1, m2_lt_m1, bI_0, bI_1, bI_t, bI_f, bI_bo, nI0_bo, nI1_bo, if_true, if_false, ite_true, ite_false, Nat.zero_add, Nat.not_lt_zero, Nat.zero_le, not_true_eq_false, not_false_eq_true, or_false, false_or, true_or, or_true, and_true, true_and, Bool.false_eq_true, Bool.true_eq_false, reduceCtorEq, eq_self]
theorem line_2 (C : CX T S tp kf L) (hw : TKw T S lt kf L p e) (hr : f_X7_reserved T = some (some 2)) (hj : f_X10_isWord S lt 2 = some (nI 1)) (g : ∀ x, x < 11 → x ≠ 2 → f_X10_isWord S lt x = some (nI 0)) (P : PS D E R S fr oq ow rd sl kf n m c b) (hb : b + 1 < 2 ^ 29) : LO D E R T S (f_X10_readLine S fr lt mk oq ow rd sl tp) kf L p b := by
  obtain ⟨S1, lt1, s1, s2, s3⟩ := go_w C hw
  have C1 := CX_TE C (TE_rfl T) s3
  obtain ⟨kn, u, ev, po, le, rw', f1, f2, hd, rg, F, nc, n6, hN, ho, hs, hq, uc, hu, hsn⟩ := id P
  have hring := PS_ring P
  have hrl := T_rl_2 (D := D) (E := E) hr hring
  have hm := WS_m (RC_W F.1)
  have h1 := hd.2.1
  rw [M_rl_2 C.2.2.2.2.2 hj g hd.2.2.2]
  unfold f_X10_putLine
  rcases b_running (D := dHd D (some 2)) C1 s2 hN nc hs hu.2.1 with ⟨i, w, T1, S2, lt2, hi, hw6, w1, w2, r1, r2, t1, t2, A2⟩ | ⟨D', T1, S2, r1, r2, fb⟩
  · have C2 := CX_TE C1 t1 t2
    have hi12 : i < 12 := by have := hN.1; omega
    have s4 := SE_trans s3 t2
    rcases b_row (D := dNm (dHd D (some 2)) (nI i)) (R := R) C2 A2 (RC_rc F.1) hm with ⟨r, T2, S3, lt3, hrm, r3, r4, t3, t4, A3⟩ | ⟨D', T2, S3, r3, r4, fb⟩
    · have C3 := CX_TE C2 t3 t4
      have s5 := SE_trans s4 t4
      have te3 := TE_trans t1 t3
      rcases b_whole (D := dRw (dNm (dHd D (some 2)) (nI i)) (nI r)) C3 A3 (lo := 0) (hg := 999) (by omega) (by omega) with ⟨v, T3, S4, lt4, v1, v2, v3, v4, v5, v6, v7, A4, -⟩ | ⟨D', T3, S4, v4, v5, fb, -⟩
      · have C4 := CX_TE C3 v6 v7
        have s6 := SE_trans s5 v7
        have te4 := TE_trans te3 v6
        have hf4 := C4.2.2.2.2.2
        rcases b_end (D := dWh (dRw (dNm (dHd D (some 2)) (nI i)) (nI r)) (nI v)) A4 with ⟨T4, p4, e1, e2, e3, e4⟩ | ⟨T4, e1, e2, e3⟩
        · have hen := M_ends_y hf4 e4
          have w1' : Rd_nameSlots D i = nI w := w1
          have hrn := hq.1 i hi w hw6 w1'
          have rg4 : Mo_ring S4 = nI n := (SE_ring s6).trans rg
          have ew : nI (w + 1) - nI 1 = nI w := by rw [pk_sub (by omega), Nat.add_sub_cancel]
          have te5 := TE_trans te4 e2
          have hrl2 : f_X5_readLine D E R T = some (nI 1, dWh (dRw (dNm (dHd D (some 2)) (nI i)) (nI r)) (nI v), E, R, T4) := by
            rw [hrl]
            simp (disch := omega) only [r1, r3, v4, e1, ↓lm1, ↓lm2, i0, i1, i2, i3, i4, i5, i6, i7, i8, i9, i10, i12, i16, i20, i24, i31, i32, i44, i48, i57, i59, i63, i64, i74, i75, i90, i96, i97, i99, i100, i122, i139, i140, i144, i192, i200, i240, i255, i304, i309, i310, i311, i323, i324, i325, i899, i900, i975, i999, i5200, i4875, i65536, i65537, i15, ob_some, nI_add, nI_clamp, zn_zib, zn_eq, zn_lt, zn_le, m2_lt, m2_le, lt_m2, le_m2, eq_m2, m2_eq, m1_lt, m1_le, lt_m1, le_m1, eq_m1, m1_eq, m1_m2, m2_m1, m2_lt_m1, bI_0, bI_1, bI_t, bI_f, bI_bo, nI0_bo, nI1_bo, if_true, if_false, ite_true, ite_false, Nat.zero_add, Nat.not_lt_zero, Nat.zero_le, not_true_eq_false, not_false_eq_true, or_false, false_or, true_or, or_true, and_true, true_and, Bool.false_eq_true, Bool.true_eq_false, reduceCtorEq, eq_self]
          have hda := T_da_2 (R := R) (D := dWh (dRw (dNm (dHd D (some 2)) (nI i)) (nI r)) (nI v)) rfl ((T_slotNamed_at (D := dWh (dRw (dNm (dHd D (some 2)) (nI i)) (nI r)) (nI v)) hi12).trans (congrArg some w1))
          have er : Rd_row (dWh (dRw (dNm (dHd D (some 2)) (nI i)) (nI r)) (nI v)) = nI r := rfl
          have ev' : Rd_whole (dWh (dRw (dNm (dHd D (some 2)) (nI i)) (nI r)) (nI v)) = nI v := rfl
          rw [er, ev'] at hda
          rcases put_both (S := S4) rg4 F.1 F.2.1 F.2.2 hb hw6 hrn hrm v3 with ⟨d, d0, d8, k1, k2⟩ | ⟨x, R', rd', k1, k2, k3, k4, k5, k6, hx⟩
          · have d1 : ¬ d = 0 := by omega
            have hff : Mo_failed (sMo_refused S4 (nI d)) = nI 0 := hf4
            refine .inr ⟨flD (dWh (dRw (dNm (dHd D (some 2)) (nI i)) (nI r)) (nI v)) (nI 8) (Tape_start T4), T4, (wrS (sMo_refused S4 (nI d)) (nI 8) (Mo_at S4), fr, lt4, mk, oq, ow, rd, sl), ⟨E, R, .inr ⟨_, _, _, hrl2, ?_, rfl⟩⟩, ?_, .inl ⟨te5, FM_trans (SE_FM s6) ⟨rfl, rfl, rfl, rfl, rfl⟩, rfl, rfl, e4.1.1.trans e4.1.2.1.symm⟩⟩
            · rw [hda]
              simp (disch := omega) only [k1, d1, ↓lm1, ↓lm2, i0, i1, i2, i3, i4, i5, i6, i7, i8, i9, i10, i12, i16, i20, i24, i31, i32, i44, i48, i57, i59, i63, i64, i74, i75, i90, i96, i97, i99, i100, i122, i139, i140, i144, i192, i200, i240, i255, i304, i309, i310, i311, i323, i324, i325, i899, i900, i975, i999, i5200, i4875, i65536, i65537, i15, ob_some, nI_add, nI_clamp, zn_zib, zn_eq, zn_lt, zn_le, m2_lt, m2_le, lt_m2, le_m2, eq_m2, m2_eq, m1_lt, m1_le, lt_m1, le_m1, eq_m1, m1_eq, m1_m2, m2_m1, m2_lt_m1, bI_0, bI_1, bI_t, bI_f, bI_bo, nI0_bo, nI1_bo, if_true, if_false, ite_true, ite_false, Nat.zero_add, Nat.not_lt_zero, Nat.zero_le, not_true_eq_false, not_false_eq_true, or_false, false_or, true_or, or_true, and_true, true_and, Bool.false_eq_true, Bool.true_eq_false, reduceCtorEq, eq_self]
            · unfold b_X10_putLine_40 b_X10_putLine_91
              have hmy := M_may1 hff
              simp (disch := omega) only [s1, r2, h1, r4, v5, hen, w2, ew, k2, hmy, ↓lm1, ↓lm2, i0, i1, i2, i3, i4, i5, i6, i7, i8, i9, i10, i12, i16, i20, i24, i31, i32, i44, i48, i57, i59, i63, i64, i74, i75, i90, i96, i97, i99, i100, i122, i139, i140, i144, i192, i200, i240, i255, i304, i309, i310, i311, i323, i324, i325, i899, i900, i975, i999, i5200, i4875, i65536, i65537, i15, ob_some, nI_add, nI_clamp, zn_zib, zn_eq, zn_lt, zn_le, m2_lt, m2_le, lt_m2, le_m2, eq_m2, m2_eq, m1_lt, m1_le, lt_m1, le_m1, eq_m1, m1_eq, m1_m2, m2_m1, m2_lt_m1, bI_0, bI_1, bI_t, bI_f, bI_bo, nI0_bo, nI1_bo, if_true, if_false, ite_true, ite_false, Nat.zero_add, Nat.not_lt_zero, Nat.zero_le, not_true_eq_false, not_false_eq_true, or_false, false_or, true_or, or_true, and_true, true_and, Bool.false_eq_true, Bool.true_eq_false, reduceCtorEq, eq_self]
              rfl
          · rcases hx with rfl | ⟨vv, hvv, rfl⟩
            · have hff : Mo_failed (sMo_refused S4 (nI 0)) = nI 0 := hf4
              refine .inr ⟨flD (dWh (dRw (dNm (dHd D (some 2)) (nI i)) (nI r)) (nI v)) (nI 8) (Tape_start T4), T4, (wrS (sMo_refused S4 (nI 0)) (nI 8) (Mo_at S4), fr, lt4, mk, oq, ow, rd', sl), ⟨E, R', .inr ⟨_, _, _, hrl2, ?_, rfl⟩⟩, ?_, .inl ⟨te5, FM_trans (SE_FM s6) ⟨rfl, rfl, rfl, rfl, rfl⟩, rfl, rfl, e4.1.1.trans e4.1.2.1.symm⟩⟩
              · rw [hda]
                simp (disch := omega) only [k1, k2, ↓lm1, ↓lm2, i0, i1, i2, i3, i4, i5, i6, i7, i8, i9, i10, i12, i16, i20, i24, i31, i32, i44, i48, i57, i59, i63, i64, i74, i75, i90, i96, i97, i99, i100, i122, i139, i140, i144, i192, i200, i240, i255, i304, i309, i310, i311, i323, i324, i325, i899, i900, i975, i999, i5200, i4875, i65536, i65537, i15, ob_some, nI_add, nI_clamp, zn_zib, zn_eq, zn_lt, zn_le, m2_lt, m2_le, lt_m2, le_m2, eq_m2, m2_eq, m1_lt, m1_le, lt_m1, le_m1, eq_m1, m1_eq, m1_m2, m2_m1, m2_lt_m1, bI_0, bI_1, bI_t, bI_f, bI_bo, nI0_bo, nI1_bo, if_true, if_false, ite_true, ite_false, Nat.zero_add, Nat.not_lt_zero, Nat.zero_le, not_true_eq_false, not_false_eq_true, or_false, false_or, true_or, or_true, and_true, true_and, Bool.false_eq_true, Bool.true_eq_false, reduceCtorEq, eq_self]
              · unfold b_X10_putLine_40 b_X10_putLine_91
                have hmy := M_may1 hff
                simp (disch := omega) only [s1, r2, h1, r4, v5, hen, w2, ew, k3, hmy, ↓lm1, ↓lm2, i0, i1, i2, i3, i4, i5, i6, i7, i8, i9, i10, i12, i16, i20, i24, i31, i32, i44, i48, i57, i59, i63, i64, i74, i75, i90, i96, i97, i99, i100, i122, i139, i140, i144, i192, i200, i240, i255, i304, i309, i310, i311, i323, i324, i325, i899, i900, i975, i999, i5200, i4875, i65536, i65537, i15, ob_some, nI_add, nI_clamp, zn_zib, zn_eq, zn_lt, zn_le, m2_lt, m2_le, lt_m2, le_m2, eq_m2, m2_eq, m1_lt, m1_le, lt_m1, le_m1, eq_m1, m1_eq, m1_m2, m2_m1, m2_lt_m1, bI_0, bI_1, bI_t, bI_f, bI_bo, nI0_bo, nI1_bo, if_true, if_false, ite_true, ite_false, Nat.zero_add, Nat.not_lt_zero, Nat.zero_le, not_true_eq_false, not_false_eq_true, or_false, false_or, true_or, or_true, and_true, true_and, Bool.false_eq_true, Bool.true_eq_false, reduceCtorEq, eq_self]
                rfl
            · refine .inl ⟨dWh (dRw (dNm (dHd D (some 2)) (nI i)) (nI r)) (nI v), E, R, T4, dWh (dRw (dNm (dHd D (some 2)) (nI i)) (nI r)) (nI v), R', p4, n, m, c, (sMo_refused S4 (nI 0), fr, lt4, mk, oq, ow, rd', sl), hrl2, ?_, ?_, te5, SE_FM s6, hf4, SE_size s6, by omega, e4, ⟨kn, u, ev, po, le, rw', f1, (SE_fault s6).trans f2, hd, rg4, ⟨k4, k5, k6⟩, nc, n6, hN, ho, hs, SLQ_cong hq (fun w hw => rn_same F.1 k4 (put_st k2) hw), uc, hu, hsn⟩⟩
              · rw [hda]
                simp (disch := omega) only [k1, k2, ↓lm1, ↓lm2, i0, i1, i2, i3, i4, i5, i6, i7, i8, i9, i10, i12, i16, i20, i24, i31, i32, i44, i48, i57, i59, i63, i64, i74, i75, i90, i96, i97, i99, i100, i122, i139, i140, i144, i192, i200, i240, i255, i304, i309, i310, i311, i323, i324, i325, i899, i900, i975, i999, i5200, i4875, i65536, i65537, i15, ob_some, nI_add, nI_clamp, zn_zib, zn_eq, zn_lt, zn_le, m2_lt, m2_le, lt_m2, le_m2, eq_m2, m2_eq, m1_lt, m1_le, lt_m1, le_m1, eq_m1, m1_eq, m1_m2, m2_m1, m2_lt_m1, bI_0, bI_1, bI_t, bI_f, bI_bo, nI0_bo, nI1_bo, if_true, if_false, ite_true, ite_false, Nat.zero_add, Nat.not_lt_zero, Nat.zero_le, not_true_eq_false, not_false_eq_true, or_false, false_or, true_or, or_true, and_true, true_and, Bool.false_eq_true, Bool.true_eq_false, reduceCtorEq, eq_self]
              · unfold b_X10_putLine_40 b_X10_putLine_91
                have b0 : 0 ≤ vv := Nat.zero_le _
                simp (disch := omega) only [s1, r2, h1, r4, v5, hen, w2, ew, k3, b0, M_may0, ↓lm1, ↓lm2, i0, i1, i2, i3, i4, i5, i6, i7, i8, i9, i10, i12, i16, i20, i24, i31, i32, i44, i48, i57, i59, i63, i64, i74, i75, i90, i96, i97, i99, i100, i122, i139, i140, i144, i192, i200, i240, i255, i304, i309, i310, i311, i323, i324, i325, i899, i900, i975, i999, i5200, i4875, i65536, i65537, i15, ob_some, nI_add, nI_clamp, zn_zib, zn_eq, zn_lt, zn_le, m2_lt, m2_le, lt_m2, le_m2, eq_m2, m2_eq, m1_lt, m1_le, lt_m1, le_m1, eq_m1, m1_eq, m1_m2, m2_m1, m2_lt_m1, bI_0, bI_1, bI_t, bI_f, bI_bo, nI0_bo, nI1_bo, if_true, if_false, ite_true, ite_false, Nat.zero_add, Nat.not_lt_zero, Nat.zero_le, not_true_eq_false, not_false_eq_true, or_false, false_or, true_or, or_true, and_true, true_and, Bool.false_eq_true, Bool.true_eq_false, reduceCtorEq, eq_self]
        · have hen := M_ends_n hf4 e3
          refine LO_bad (wrS S4 (nI 1) (Mo_at S4), fr, lt4, mk, oq, ow, rd, sl) (E' := E) (R' := R) (T' := T4) (D' := flD (dWh (dRw (dNm (dHd D (some 2)) (nI i)) (nI r)) (nI v)) (nI 1) (Mo_at S4)) ?_ ?_ (FB_end te4 s6 e2)
          · rw [hrl]
            simp (disch := omega) only [r1, r3, v4, e1, ↓lm1, ↓lm2, i0, i1, i2, i3, i4, i5, i6, i7, i8, i9, i10, i12, i16, i20, i24, i31, i32, i44, i48, i57, i59, i63, i64, i74, i75, i90, i96, i97, i99, i100, i122, i139, i140, i144, i192, i200, i240, i255, i304, i309, i310, i311, i323, i324, i325, i899, i900, i975, i999, i5200, i4875, i65536, i65537, i15, ob_some, nI_add, nI_clamp, zn_zib, zn_eq, zn_lt, zn_le, m2_lt, m2_le, lt_m2, le_m2, eq_m2, m2_eq, m1_lt, m1_le, lt_m1, le_m1, eq_m1, m1_eq, m1_m2, m2_m1, m2_lt_m1, bI_0, bI_1, bI_t, bI_f, bI_bo, nI0_bo, nI1_bo, if_true, if_false, ite_true, ite_false, Nat.zero_add, Nat.not_lt_zero, Nat.zero_le, not_true_eq_false, not_false_eq_true, or_false, false_or, true_or, or_true, and_true, true_and, Bool.false_eq_true, Bool.true_eq_false, reduceCtorEq, eq_self]
          · unfold b_X10_putLine_40
            simp (disch := omega) only [s1, r2, h1, r4, v5, hen, ↓lm1, ↓lm2, i0, i1, i2, i3, i4, i5, i6, i7, i8, i9, i10, i12, i16, i20, i24, i31, i32, i44, i48, i57, i59, i63, i64, i74, i75, i90, i96, i97, i99, i100, i122, i139, i140, i144, i192, i200, i240, i255, i304, i309, i310, i311, i323, i324, i325, i899, i900, i975, i999, i5200, i4875, i65536, i65537, i15, ob_some, nI_add, nI_clamp, zn_zib, zn_eq, zn_lt, zn_le, m2_lt, m2_le, lt_m2, le_m2, eq_m2, m2_eq, m1_lt, m1_le, lt_m1, le_m1, eq_m1, m1_eq, m1_m2, m2_m1, m2_lt_m1, bI_0, bI_1, bI_t, bI_f, bI_bo, nI0_bo, nI1_bo, if_true, if_false, ite_true, ite_false, Nat.zero_add, Nat.not_lt_zero, Nat.zero_le, not_true_eq_false, not_false_eq_true, or_false, false_or, true_or, or_true, and_true, true_and, Bool.false_eq_true, Bool.true_eq_false, reduceCtorEq, eq_self]
      · have hff := fb.2.2.1
        refine LO_bad (S4, fr, lt3, mk, oq, ow, rd, sl) (E' := E) (R' := R) (T' := T3) (D' := D') ?_ ?_ (FB_pre te3 s5 fb)
        · rw [hrl]
          simp (disch := omega) only [r1, r3, v4, ↓lm1, ↓lm2, i0, i1, i2, i3, i4, i5, i6, i7, i8, i9, i10, i12, i16, i20, i24, i31, i32, i44, i48, i57, i59, i63, i64, i74, i75, i90, i96, i97, i99, i100, i122, i139, i140, i144, i192, i200, i240, i255, i304, i309, i310, i311, i323, i324, i325, i899, i900, i975, i999, i5200, i4875, i65536, i65537, i15, ob_some, nI_add, nI_clamp, zn_zib, zn_eq, zn_lt, zn_le, m2_lt, m2_le, lt_m2, le_m2, eq_m2, m2_eq, m1_lt, m1_le, lt_m1, le_m1, eq_m1, m1_eq, m1_m2, m2_m1, m2_lt_m1, bI_0, bI_1, bI_t, bI_f, bI_bo, nI0_bo, nI1_bo, if_true, if_false, ite_true, ite_false, Nat.zero_add, Nat.not_lt_zero, Nat.zero_le, not_true_eq_false, not_false_eq_true, or_false, false_or, true_or, or_true, and_true, true_and, Bool.false_eq_true, Bool.true_eq_false, reduceCtorEq, eq_self]
        · unfold b_X10_putLine_40
          simp (disch := omega) only [s1, r2, h1, r4, v5, M_ends_f hff, ↓lm1, ↓lm2, i0, i1, i2, i3, i4, i5, i6, i7, i8, i9, i10, i12, i16, i20, i24, i31, i32, i44, i48, i57, i59, i63, i64, i74, i75, i90, i96, i97, i99, i100, i122, i139, i140, i144, i192, i200, i240, i255, i304, i309, i310, i311, i323, i324, i325, i899, i900, i975, i999, i5200, i4875, i65536, i65537, i15, ob_some, nI_add, nI_clamp, zn_zib, zn_eq, zn_lt, zn_le, m2_lt, m2_le, lt_m2, le_m2, eq_m2, m2_eq, m1_lt, m1_le, lt_m1, le_m1, eq_m1, m1_eq, m1_m2, m2_m1, m2_lt_m1, bI_0, bI_1, bI_t, bI_f, bI_bo, nI0_bo, nI1_bo, if_true, if_false, ite_true, ite_false, Nat.zero_add, Nat.not_lt_zero, Nat.zero_le, not_true_eq_false, not_false_eq_true, or_false, false_or, true_or, or_true, and_true, true_and, Bool.false_eq_true, Bool.true_eq_false, reduceCtorEq, eq_self]
    · have hff := fb.2.2.1
      refine LO_bad (S3, fr, lt2, mk, oq, ow, rd, sl) (E' := E) (R' := R) (T' := T2) (D' := D') ?_ ?_ (FB_pre t1 s4 fb)
      · rw [hrl]
        simp (disch := omega) only [r1, r3, ↓lm1, ↓lm2, i0, i1, i2, i3, i4, i5, i6, i7, i8, i9, i10, i12, i16, i20, i24, i31, i32, i44, i48, i57, i59, i63, i64, i74, i75, i90, i96, i97, i99, i100, i122, i139, i140, i144, i192, i200, i240, i255, i304, i309, i310, i311, i323, i324, i325, i899, i900, i975, i999, i5200, i4875, i65536, i65537, i15, ob_some, nI_add, nI_clamp, zn_zib, zn_eq, zn_lt, zn_le, m2_lt, m2_le, lt_m2, le_m2, eq_m2, m2_eq, m1_lt, m1_le, lt_m1, le_m1, eq_m1, m1_eq, m1_m2, m2_m1, m2_lt_m1, bI_0, bI_1, bI_t, bI_f, bI_bo, nI0_bo, nI1_bo, if_true, if_false, ite_true, ite_false, Nat.zero_add, Nat.not_lt_zero, Nat.zero_le, not_true_eq_false, not_false_eq_true, or_false, false_or, true_or, or_true, and_true, true_and, Bool.false_eq_true, Bool.true_eq_false, reduceCtorEq, eq_self]
      · unfold b_X10_putLine_40
        simp (disch := omega) only [s1, r2, h1, r4, M_number_f hff, M_ends_f hff, ↓lm1, ↓lm2, i0, i1, i2, i3, i4, i5, i6, i7, i8, i9, i10, i12, i16, i20, i24, i31, i32, i44, i48, i57, i59, i63, i64, i74, i75, i90, i96, i97, i99, i100, i122, i139, i140, i144, i192, i200, i240, i255, i304, i309, i310, i311, i323, i324, i325, i899, i900, i975, i999, i5200, i4875, i65536, i65537, i15, ob_some, nI_add, nI_clamp, zn_zib, zn_eq, zn_lt, zn_le, m2_lt, m2_le, lt_m2, le_m2, eq_m2, m2_eq, m1_lt, m1_le, lt_m1, le_m1, eq_m1, m1_eq, m1_m2, m2_m1, m2_lt_m1, bI_0, bI_1, bI_t, bI_f, bI_bo, nI0_bo, nI1_bo, if_true, if_false, ite_true, ite_false, Nat.zero_add, Nat.not_lt_zero, Nat.zero_le, not_true_eq_false, not_false_eq_true, or_false, false_or, true_or, or_true, and_true, true_and, Bool.false_eq_true, Bool.true_eq_false, reduceCtorEq, eq_self]
  · have hff := fb.2.2.1
    refine LO_bad (S2, fr, lt1, mk, oq, ow, rd, sl) (E' := E) (R' := R) (T' := T1) (D' := D') ?_ ?_ (FB_pre (TE_rfl T) s3 fb)
    · rw [hrl]
      simp (disch := omega) only [r1, ↓lm1, ↓lm2, i0, i1, i2, i3, i4, i5, i6, i7, i8, i9, i10, i12, i16, i20, i24, i31, i32, i44, i48, i57, i59, i63, i64, i74, i75, i90, i96, i97, i99, i100, i122, i139, i140, i144, i192, i200, i240, i255, i304, i309, i310, i311, i323, i324, i325, i899, i900, i975, i999, i5200, i4875, i65536, i65537, i15, ob_some, nI_add, nI_clamp, zn_zib, zn_eq, zn_lt, zn_le, m2_lt, m2_le, lt_m2, le_m2, eq_m2, m2_eq, m1_lt, m1_le, lt_m1, le_m1, eq_m1, m1_eq, m1_m2, m2_m1, m2_lt_m1, bI_0, bI_1, bI_t, bI_f, bI_bo, nI0_bo, nI1_bo, if_true, if_false, ite_true, ite_false, Nat.zero_add, Nat.not_lt_zero, Nat.zero_le, not_true_eq_false, not_false_eq_true, or_false, false_or, true_or, or_true, and_true, true_and, Bool.false_eq_true, Bool.true_eq_false, reduceCtorEq, eq_self]
    · unfold b_X10_putLine_40
      simp (disch := omega) only [s1, r2, h1, M_number_f hff, M_ends_f hff, ↓lm1, ↓lm2, i0, i1, i2, i3, i4, i5, i6, i7, i8, i9, i10, i12, i16, i20, i24, i31, i32, i44, i48, i57, i59, i63, i64, i74, i75, i90, i96, i97, i99, i100, i122, i139, i140, i144, i192, i200, i240, i255, i304, i309, i310, i311, i323, i324, i325, i899, i900, i975, i999, i5200, i4875, i65536, i65537, i15, ob_some, nI_add, nI_clamp, zn_zib, zn_eq, zn_lt, zn_le, m2_lt, m2_le, lt_m2, le_m2, eq_m2, m2_eq, m1_lt, m1_le, lt_m1, le_m1, eq_m1, m1_eq, m1_m2, m2_m1, m2_lt_m1, bI_0, bI_1, bI_t, bI_f, bI_bo, nI0_bo, nI1_bo, if_true, if_false, ite_true, ite_false, Nat.zero_add, Nat.not_lt_zero, Nat.zero_le, not_true_eq_false, not_false_eq_true, or_false, false_or, true_or, or_true, and_true, true_and, Bool.false_eq_true, Bool.true_eq_false, reduceCtorEq, eq_self]
theorem line_3 (C : CX T S tp kf L) (hw : TKw T S lt kf L p e) (hr : f_X7_reserved T = some (some 3)) (hj : f_X10_isWord S lt 3 = some (nI 1)) (g : ∀ x, x < 11 → x ≠ 3 → f_X10_isWord S lt x = some (nI 0)) (P : PS D E R S fr oq ow rd sl kf n m c b) (hb : b + 1 < 2 ^ 29) : LO D E R T S (f_X10_readLine S fr lt mk oq ow rd sl tp) kf L p b := by
  obtain ⟨S1, lt1, s1, s2, s3⟩ := go_w C hw
  have C1 := CX_TE C (TE_rfl T) s3
  obtain ⟨kn, u, ev, po, le, rw', f1, f2, hd, rg, F, nc, n6, hN, ho, hs, hq, uc, hu, hsn⟩ := id P
  have hring := PS_ring P
  have hrl := T_rl_3 (D := D) (E := E) hr hring
  have hm := WS_m (RC_W F.1)
  have h1 := hd.2.1
  rw [M_rl_3 C.2.2.2.2.2 hj g hd.2.2.2]
  unfold f_X10_putLine
  rcases b_running (D := dHd D (some 3)) C1 s2 hN nc hs hu.2.1 with ⟨i, w, T1, S2, lt2, hi, hw6, w1, w2, r1, r2, t1, t2, A2⟩ | ⟨D', T1, S2, r1, r2, fb⟩
  · have C2 := CX_TE C1 t1 t2
    have hi12 : i < 12 := by have := hN.1; omega
    have s4 := SE_trans s3 t2
    rcases b_row (D := dNm (dHd D (some 3)) (nI i)) (R := R) C2 A2 (RC_rc F.1) hm with ⟨r, T2, S3, lt3, hrm, r3, r4, t3, t4, A3⟩ | ⟨D', T2, S3, r3, r4, fb⟩
    · have C3 := CX_TE C2 t3 t4
      have s5 := SE_trans s4 t4
      have te3 := TE_trans t1 t3
      have hf3 := C3.2.2.2.2.2
      rcases b_end (D := dRw (dNm (dHd D (some 3)) (nI i)) (nI r)) A3 with ⟨T4, p4, e1, e2, e3, e4⟩ | ⟨T4, e1, e2, e3⟩
      · have hen := M_ends_y hf3 e4
        have w1' : Rd_nameSlots D i = nI w := w1
        have hrn := hq.1 i hi w hw6 w1'
        have rg4 : Mo_ring S3 = nI n := (SE_ring s5).trans rg
        have ew : nI (w + 1) - nI 1 = nI w := by rw [pk_sub (by omega), Nat.add_sub_cancel]
        have te5 := TE_trans te3 e2
        have hrl2 : f_X5_readLine D E R T = some (nI 1, dRw (dNm (dHd D (some 3)) (nI i)) (nI r), E, R, T4) := by
          rw [hrl]
          simp (disch := omega) only [r1, r3, e1, ↓lm1, ↓lm2, i0, i1, i2, i3, i4, i5, i6, i7, i8, i9, i10, i12, i16, i20, i24, i31, i32, i44, i48, i57, i59, i63, i64, i74, i75, i90, i96, i97, i99, i100, i122, i139, i140, i144, i192, i200, i240, i255, i304, i309, i310, i311, i323, i324, i325, i899, i900, i975, i999, i5200, i4875, i65536, i65537, i15, ob_some, nI_add, nI_clamp, zn_zib, zn_eq, zn_lt, zn_le, m2_lt, m2_le, lt_m2, le_m2, eq_m2, m2_eq, m1_lt, m1_le, lt_m1, le_m1, eq_m1, m1_eq, m1_m2, m2_m1, m2_lt_m1, bI_0, bI_1, bI_t, bI_f, bI_bo, nI0_bo, nI1_bo, if_true, if_false, ite_true, ite_false, Nat.zero_add, Nat.not_lt_zero, Nat.zero_le, not_true_eq_false, not_false_eq_true, or_false, false_or, true_or, or_true, and_true, true_and, Bool.false_eq_true, Bool.true_eq_false, reduceCtorEq, eq_self]
        have hda := T_da_3 (R := R) (D := dRw (dNm (dHd D (some 3)) (nI i)) (nI r)) rfl ((T_slotNamed_at (D := dRw (dNm (dHd D (some 3)) (nI i)) (nI r)) hi12).trans (congrArg some w1))
        have er : Rd_row (dRw (dNm (dHd D (some 3)) (nI i)) (nI r)) = nI r := rfl
        rw [er] at hda
        rcases drop_both (S := S3) rg4 F.1 F.2.1 F.2.2 hw6 hrn hrm with ⟨d, d0, d8, k1, k2⟩ | ⟨x, R', rd', k1, k2, k3, k4, k5, k6, hx⟩
        · have d1 : ¬ d = 0 := by omega
          have hff : Mo_failed (sMo_refused S3 (nI d)) = nI 0 := hf3
          refine .inr ⟨flD (dRw (dNm (dHd D (some 3)) (nI i)) (nI r)) (nI 8) (Tape_start T4), T4, (wrS (sMo_refused S3 (nI d)) (nI 8) (Mo_at S3), fr, lt3, mk, oq, ow, rd, sl), ⟨E, R, .inr ⟨_, _, _, hrl2, ?_, rfl⟩⟩, ?_, .inl ⟨te5, FM_trans (SE_FM s5) ⟨rfl, rfl, rfl, rfl, rfl⟩, rfl, rfl, e4.1.1.trans e4.1.2.1.symm⟩⟩
          · rw [hda]
            simp (disch := omega) only [k1, d1, ↓lm1, ↓lm2, i0, i1, i2, i3, i4, i5, i6, i7, i8, i9, i10, i12, i16, i20, i24, i31, i32, i44, i48, i57, i59, i63, i64, i74, i75, i90, i96, i97, i99, i100, i122, i139, i140, i144, i192, i200, i240, i255, i304, i309, i310, i311, i323, i324, i325, i899, i900, i975, i999, i5200, i4875, i65536, i65537, i15, ob_some, nI_add, nI_clamp, zn_zib, zn_eq, zn_lt, zn_le, m2_lt, m2_le, lt_m2, le_m2, eq_m2, m2_eq, m1_lt, m1_le, lt_m1, le_m1, eq_m1, m1_eq, m1_m2, m2_m1, m2_lt_m1, bI_0, bI_1, bI_t, bI_f, bI_bo, nI0_bo, nI1_bo, if_true, if_false, ite_true, ite_false, Nat.zero_add, Nat.not_lt_zero, Nat.zero_le, not_true_eq_false, not_false_eq_true, or_false, false_or, true_or, or_true, and_true, true_and, Bool.false_eq_true, Bool.true_eq_false, reduceCtorEq, eq_self]
          · unfold b_X10_putLine_40 b_X10_putLine_91
            have hmy := M_may1 hff
            simp (disch := omega) only [s1, r2, h1, r4, hen, w2, ew, k2, hmy, ↓lm1, ↓lm2, i0, i1, i2, i3, i4, i5, i6, i7, i8, i9, i10, i12, i16, i20, i24, i31, i32, i44, i48, i57, i59, i63, i64, i74, i75, i90, i96, i97, i99, i100, i122, i139, i140, i144, i192, i200, i240, i255, i304, i309, i310, i311, i323, i324, i325, i899, i900, i975, i999, i5200, i4875, i65536, i65537, i15, ob_some, nI_add, nI_clamp, zn_zib, zn_eq, zn_lt, zn_le, m2_lt, m2_le, lt_m2, le_m2, eq_m2, m2_eq, m1_lt, m1_le, lt_m1, le_m1, eq_m1, m1_eq, m1_m2, m2_m1, m2_lt_m1, bI_0, bI_1, bI_t, bI_f, bI_bo, nI0_bo, nI1_bo, if_true, if_false, ite_true, ite_false, Nat.zero_add, Nat.not_lt_zero, Nat.zero_le, not_true_eq_false, not_false_eq_true, or_false, false_or, true_or, or_true, and_true, true_and, Bool.false_eq_true, Bool.true_eq_false, reduceCtorEq, eq_self]
            rfl
        · rcases hx with rfl | ⟨vv, hvv, rfl⟩
          · have hff : Mo_failed (sMo_refused S3 (nI 0)) = nI 0 := hf3
            refine .inr ⟨flD (dRw (dNm (dHd D (some 3)) (nI i)) (nI r)) (nI 8) (Tape_start T4), T4, (wrS (sMo_refused S3 (nI 0)) (nI 8) (Mo_at S3), fr, lt3, mk, oq, ow, rd', sl), ⟨E, R', .inr ⟨_, _, _, hrl2, ?_, rfl⟩⟩, ?_, .inl ⟨te5, FM_trans (SE_FM s5) ⟨rfl, rfl, rfl, rfl, rfl⟩, rfl, rfl, e4.1.1.trans e4.1.2.1.symm⟩⟩
            · rw [hda]
              simp (disch := omega) only [k1, k2, ↓lm1, ↓lm2, i0, i1, i2, i3, i4, i5, i6, i7, i8, i9, i10, i12, i16, i20, i24, i31, i32, i44, i48, i57, i59, i63, i64, i74, i75, i90, i96, i97, i99, i100, i122, i139, i140, i144, i192, i200, i240, i255, i304, i309, i310, i311, i323, i324, i325, i899, i900, i975, i999, i5200, i4875, i65536, i65537, i15, ob_some, nI_add, nI_clamp, zn_zib, zn_eq, zn_lt, zn_le, m2_lt, m2_le, lt_m2, le_m2, eq_m2, m2_eq, m1_lt, m1_le, lt_m1, le_m1, eq_m1, m1_eq, m1_m2, m2_m1, m2_lt_m1, bI_0, bI_1, bI_t, bI_f, bI_bo, nI0_bo, nI1_bo, if_true, if_false, ite_true, ite_false, Nat.zero_add, Nat.not_lt_zero, Nat.zero_le, not_true_eq_false, not_false_eq_true, or_false, false_or, true_or, or_true, and_true, true_and, Bool.false_eq_true, Bool.true_eq_false, reduceCtorEq, eq_self]
            · unfold b_X10_putLine_40 b_X10_putLine_91
              have hmy := M_may1 hff
              simp (disch := omega) only [s1, r2, h1, r4, hen, w2, ew, k3, hmy, ↓lm1, ↓lm2, i0, i1, i2, i3, i4, i5, i6, i7, i8, i9, i10, i12, i16, i20, i24, i31, i32, i44, i48, i57, i59, i63, i64, i74, i75, i90, i96, i97, i99, i100, i122, i139, i140, i144, i192, i200, i240, i255, i304, i309, i310, i311, i323, i324, i325, i899, i900, i975, i999, i5200, i4875, i65536, i65537, i15, ob_some, nI_add, nI_clamp, zn_zib, zn_eq, zn_lt, zn_le, m2_lt, m2_le, lt_m2, le_m2, eq_m2, m2_eq, m1_lt, m1_le, lt_m1, le_m1, eq_m1, m1_eq, m1_m2, m2_m1, m2_lt_m1, bI_0, bI_1, bI_t, bI_f, bI_bo, nI0_bo, nI1_bo, if_true, if_false, ite_true, ite_false, Nat.zero_add, Nat.not_lt_zero, Nat.zero_le, not_true_eq_false, not_false_eq_true, or_false, false_or, true_or, or_true, and_true, true_and, Bool.false_eq_true, Bool.true_eq_false, reduceCtorEq, eq_self]
              rfl
          · refine .inl ⟨dRw (dNm (dHd D (some 3)) (nI i)) (nI r), E, R, T4, dRw (dNm (dHd D (some 3)) (nI i)) (nI r), R', p4, n, m, c, (sMo_refused S3 (nI 0), fr, lt3, mk, oq, ow, rd', sl), hrl2, ?_, ?_, te5, SE_FM s5, hf3, SE_size s5, by omega, e4, ⟨kn, u, ev, po, le, rw', f1, (SE_fault s5).trans f2, hd, rg4, ⟨k4, k5, MK_mono (by omega) hb k6⟩, nc, n6, hN, ho, hs, SLQ_cong hq (fun w hw => rn_same F.1 k4 (drop_st k2) hw), uc, hu, hsn⟩⟩
            · rw [hda]
              simp (disch := omega) only [k1, k2, ↓lm1, ↓lm2, i0, i1, i2, i3, i4, i5, i6, i7, i8, i9, i10, i12, i16, i20, i24, i31, i32, i44, i48, i57, i59, i63, i64, i74, i75, i90, i96, i97, i99, i100, i122, i139, i140, i144, i192, i200, i240, i255, i304, i309, i310, i311, i323, i324, i325, i899, i900, i975, i999, i5200, i4875, i65536, i65537, i15, ob_some, nI_add, nI_clamp, zn_zib, zn_eq, zn_lt, zn_le, m2_lt, m2_le, lt_m2, le_m2, eq_m2, m2_eq, m1_lt, m1_le, lt_m1, le_m1, eq_m1, m1_eq, m1_m2, m2_m1, m2_lt_m1, bI_0, bI_1, bI_t, bI_f, bI_bo, nI0_bo, nI1_bo, if_true, if_false, ite_true, ite_false, Nat.zero_add, Nat.not_lt_zero, Nat.zero_le, not_true_eq_false, not_false_eq_true, or_false, false_or, true_or, or_true, and_true, true_and, Bool.false_eq_true, Bool.true_eq_false, reduceCtorEq, eq_self]
            · unfold b_X10_putLine_40 b_X10_putLine_91
              have b0 : 0 ≤ vv := Nat.zero_le _
              simp (disch := omega) only [s1, r2, h1, r4, hen, w2, ew, k3, b0, M_may0, ↓lm1, ↓lm2, i0, i1, i2, i3, i4, i5, i6, i7, i8, i9, i10, i12, i16, i20, i24, i31, i32, i44, i48, i57, i59, i63, i64, i74, i75, i90, i96, i97, i99, i100, i122, i139, i140, i144, i192, i200, i240, i255, i304, i309, i310, i311, i323, i324, i325, i899, i900, i975, i999, i5200, i4875, i65536, i65537, i15, ob_some, nI_add, nI_clamp, zn_zib, zn_eq, zn_lt, zn_le, m2_lt, m2_le, lt_m2, le_m2, eq_m2, m2_eq, m1_lt, m1_le, lt_m1, le_m1, eq_m1, m1_eq, m1_m2, m2_m1, m2_lt_m1, bI_0, bI_1, bI_t, bI_f, bI_bo, nI0_bo, nI1_bo, if_true, if_false, ite_true, ite_false, Nat.zero_add, Nat.not_lt_zero, Nat.zero_le, not_true_eq_false, not_false_eq_true, or_false, false_or, true_or, or_true, and_true, true_and, Bool.false_eq_true, Bool.true_eq_false, reduceCtorEq, eq_self]
      · have hen := M_ends_n hf3 e3
        refine LO_bad (wrS S3 (nI 1) (Mo_at S3), fr, lt3, mk, oq, ow, rd, sl) (E' := E) (R' := R) (T' := T4) (D' := flD (dRw (dNm (dHd D (some 3)) (nI i)) (nI r)) (nI 1) (Mo_at S3)) ?_ ?_ (FB_end te3 s5 e2)
        · rw [hrl]
          simp (disch := omega) only [r1, r3, e1, ↓lm1, ↓lm2, i0, i1, i2, i3, i4, i5, i6, i7, i8, i9, i10, i12, i16, i20, i24, i31, i32, i44, i48, i57, i59, i63, i64, i74, i75, i90, i96, i97, i99, i100, i122, i139, i140, i144, i192, i200, i240, i255, i304, i309, i310, i311, i323, i324, i325, i899, i900, i975, i999, i5200, i4875, i65536, i65537, i15, ob_some, nI_add, nI_clamp, zn_zib, zn_eq, zn_lt, zn_le, m2_lt, m2_le, lt_m2, le_m2, eq_m2, m2_eq, m1_lt, m1_le, lt_m1, le_m1, eq_m1, m1_eq, m1_m2, m2_m1, m2_lt_m1, bI_0, bI_1, bI_t, bI_f, bI_bo, nI0_bo, nI1_bo, if_true, if_false, ite_true, ite_false, Nat.zero_add, Nat.not_lt_zero, Nat.zero_le, not_true_eq_false, not_false_eq_true, or_false, false_or, true_or, or_true, and_true, true_and, Bool.false_eq_true, Bool.true_eq_false, reduceCtorEq, eq_self]
        · unfold b_X10_putLine_40
          simp (disch := omega) only [s1, r2, h1, r4, hen, ↓lm1, ↓lm2, i0, i1, i2, i3, i4, i5, i6, i7, i8, i9, i10, i12, i16, i20, i24, i31, i32, i44, i48, i57, i59, i63, i64, i74, i75, i90, i96, i97, i99, i100, i122, i139, i140, i144, i192, i200, i240, i255, i304, i309, i310, i311, i323, i324, i325, i899, i900, i975, i999, i5200, i4875, i65536, i65537, i15, ob_some, nI_add, nI_clamp, zn_zib, zn_eq, zn_lt, zn_le, m2_lt, m2_le, lt_m2, le_m2, eq_m2, m2_eq, m1_lt, m1_le, lt_m1, le_m1, eq_m1, m1_eq, m1_m2, m2_m1, m2_lt_m1, bI_0, bI_1, bI_t, bI_f, bI_bo, nI0_bo, nI1_bo, if_true, if_false, ite_true, ite_false, Nat.zero_add, Nat.not_lt_zero, Nat.zero_le, not_true_eq_false, not_false_eq_true, or_false, false_or, true_or, or_true, and_true, true_and, Bool.false_eq_true, Bool.true_eq_false, reduceCtorEq, eq_self]
    · have hff := fb.2.2.1
      refine LO_bad (S3, fr, lt2, mk, oq, ow, rd, sl) (E' := E) (R' := R) (T' := T2) (D' := D') ?_ ?_ (FB_pre t1 s4 fb)
      · rw [hrl]
        simp (disch := omega) only [r1, r3, ↓lm1, ↓lm2, i0, i1, i2, i3, i4, i5, i6, i7, i8, i9, i10, i12, i16, i20, i24, i31, i32, i44, i48, i57, i59, i63, i64, i74, i75, i90, i96, i97, i99, i100, i122, i139, i140, i144, i192, i200, i240, i255, i304, i309, i310, i311, i323, i324, i325, i899, i900, i975, i999, i5200, i4875, i65536, i65537, i15, ob_some, nI_add, nI_clamp, zn_zib, zn_eq, zn_lt, zn_le, m2_lt, m2_le, lt_m2, le_m2, eq_m2, m2_eq, m1_lt, m1_le, lt_m1, le_m1, eq_m1, m1_eq, m1_m2, m2_m1, m2_lt_m1, bI_0, bI_1, bI_t, bI_f, bI_bo, nI0_bo, nI1_bo, if_true, if_false, ite_true, ite_false, Nat.zero_add, Nat.not_lt_zero, Nat.zero_le, not_true_eq_false, not_false_eq_true, or_false, false_or, true_or, or_true, and_true, true_and, Bool.false_eq_true, Bool.true_eq_false, reduceCtorEq, eq_self]
      · unfold b_X10_putLine_40
        simp (disch := omega) only [s1, r2, h1, r4, M_ends_f hff, ↓lm1, ↓lm2, i0, i1, i2, i3, i4, i5, i6, i7, i8, i9, i10, i12, i16, i20, i24, i31, i32, i44, i48, i57, i59, i63, i64, i74, i75, i90, i96, i97, i99, i100, i122, i139, i140, i144, i192, i200, i240, i255, i304, i309, i310, i311, i323, i324, i325, i899, i900, i975, i999, i5200, i4875, i65536, i65537, i15, ob_some, nI_add, nI_clamp, zn_zib, zn_eq, zn_lt, zn_le, m2_lt, m2_le, lt_m2, le_m2, eq_m2, m2_eq, m1_lt, m1_le, lt_m1, le_m1, eq_m1, m1_eq, m1_m2, m2_m1, m2_lt_m1, bI_0, bI_1, bI_t, bI_f, bI_bo, nI0_bo, nI1_bo, if_true, if_false, ite_true, ite_false, Nat.zero_add, Nat.not_lt_zero, Nat.zero_le, not_true_eq_false, not_false_eq_true, or_false, false_or, true_or, or_true, and_true, true_and, Bool.false_eq_true, Bool.true_eq_false, reduceCtorEq, eq_self]
  · have hff := fb.2.2.1
    refine LO_bad (S2, fr, lt1, mk, oq, ow, rd, sl) (E' := E) (R' := R) (T' := T1) (D' := D') ?_ ?_ (FB_pre (TE_rfl T) s3 fb)
    · rw [hrl]
      simp (disch := omega) only [r1, ↓lm1, ↓lm2, i0, i1, i2, i3, i4, i5, i6, i7, i8, i9, i10, i12, i16, i20, i24, i31, i32, i44, i48, i57, i59, i63, i64, i74, i75, i90, i96, i97, i99, i100, i122, i139, i140, i144, i192, i200, i240, i255, i304, i309, i310, i311, i323, i324, i325, i899, i900, i975, i999, i5200, i4875, i65536, i65537, i15, ob_some, nI_add, nI_clamp, zn_zib, zn_eq, zn_lt, zn_le, m2_lt, m2_le, lt_m2, le_m2, eq_m2, m2_eq, m1_lt, m1_le, lt_m1, le_m1, eq_m1, m1_eq, m1_m2, m2_m1, m2_lt_m1, bI_0, bI_1, bI_t, bI_f, bI_bo, nI0_bo, nI1_bo, if_true, if_false, ite_true, ite_false, Nat.zero_add, Nat.not_lt_zero, Nat.zero_le, not_true_eq_false, not_false_eq_true, or_false, false_or, true_or, or_true, and_true, true_and, Bool.false_eq_true, Bool.true_eq_false, reduceCtorEq, eq_self]
    · unfold b_X10_putLine_40
      simp (disch := omega) only [s1, r2, h1, M_number_f hff, M_ends_f hff, ↓lm1, ↓lm2, i0, i1, i2, i3, i4, i5, i6, i7, i8, i9, i10, i12, i16, i20, i24, i31, i32, i44, i48, i57, i59, i63, i64, i74, i75, i90, i96, i97, i99, i100, i122, i139, i140, i144, i192, i200, i240, i255, i304, i309, i310, i311, i323, i324, i325, i899, i900, i975, i999, i5200, i4875, i65536, i65537, i15, ob_some, nI_add, nI_clamp, zn_zib, zn_eq, zn_lt, zn_le, m2_lt, m2_le, lt_m2, le_m2, eq_m2, m2_eq, m1_lt, m1_le, lt_m1, le_m1, eq_m1, m1_eq, m1_m2, m2_m1, m2_lt_m1, bI_0, bI_1, bI_t, bI_f, bI_bo, nI0_bo, nI1_bo, if_true, if_false, ite_true, ite_false, Nat.zero_add, Nat.not_lt_zero, Nat.zero_le, not_true_eq_false, not_false_eq_true, or_false, false_or, true_or, or_true, and_true, true_and, Bool.false_eq_true, Bool.true_eq_false, reduceCtorEq, eq_self]
end
