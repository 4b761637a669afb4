/-! the lines of a text: begin -/
section
variable {T : STape} {S S' : SMo} {D : SRd} {E : SEv} {R : SRows} {lt tp fr mk oq ow rd rd' sl : Nat → Int32} {kf po le rw' : Nat → Nat} {L p p0 e n m c b kn u ev : Nat} {mr : Option MXt}
theorem M_bl49 {nl : Nat} (hl : nl ≤ 8) (hk : kn < 12) (hn : Mo_nameSize S = nI nl) : ∀ (j i fu : Nat), i + j = nl → j < fu → ∃ k, zl8 (b_X10_beginLine_49 tp) fu S (fb_put fr lt (44 + 8 * kn) i) lt ow rd sl (nI kn) (nI i) = b_X10_beginLine_49 tp k S (fb_put fr lt (44 + 8 * kn) nl) lt ow rd sl (nI kn) (nI nl) := by
  intro j
  induction j with
  | zero =>
    intro i fu hi hf
    obtain ⟨fu, rfl⟩ : ∃ m, fu = m + 1 := ⟨fu - 1, by omega⟩
    have e : i = nl := by omega
    rw [e]
    exact ⟨_, rfl⟩
  | succ j ih =>
    intro i fu hi hf
    obtain ⟨fu, rfl⟩ : ∃ m, fu = m + 1 := ⟨fu - 1, by omega⟩
    obtain ⟨k, hk2⟩ := ih (i + 1) fu (by omega) (by omega)
    refine ⟨k, ?_⟩
    rw [← hk2, ← fb_put_succ fr lt (44 + 8 * kn) i]
    have eF : zl8 (b_X10_beginLine_49 tp) (fu + 1) S (fb_put fr lt (44 + 8 * kn) i) lt ow rd sl (nI kn) (nI i) = b_X10_beginLine_49 tp (zl8 (b_X10_beginLine_49 tp) fu) S (fb_put fr lt (44 + 8 * kn) i) lt ow rd sl (nI kn) (nI i) := rfl
    rw [eF]
    have b1 : ¬ nl ≤ i := by omega
    generalize hG : zl8 (b_X10_beginLine_49 tp) fu = G
    unfold b_X10_beginLine_49
    simp (disch := omega) only [hn, b1, pk_mul, ↓lm1, ↓lm2, i0, i1, i2, i3, i4, i5, i6, i7, i8, i9, i10, i12, i16, i20, i24, i31, i32, i44, i48, i57, i59, i63, i64, i74, i75, i90, i96, i97, i99, i100, i122, i139, i140, i144, i192, i200, i240, i255, i304, i309, i310, i311, i323, i324, i325, i899, i900, i975, i999, i5200, i4875, i65536, i65537, i15, ob_some, nI_add, nI_clamp, zn_zib, zn_eq, zn_lt, zn_le, m2_lt, m2_le, lt_m2, le_m2, eq_m2, m2_eq, m1_lt, m1_le, lt_m1, le_m1, eq_m1, m1_eq, m1_m2, m2_m1, m2_lt_m1, bI_0, bI_1, bI_t, bI_f, bI_bo, nI0_bo, nI1_bo, if_true, if_false, ite_true, ite_false, Nat.zero_add, Nat.not_lt_zero, Nat.zero_le, not_true_eq_false, not_false_eq_true, or_false, false_or, true_or, or_true, and_true, true_and, Bool.false_eq_true, Bool.true_eq_false, reduceCtorEq, eq_self]
def dBg (D : SRd) (kn : Nat) (x : Int64) : SRd := mkRd (Rd_fault D) (Rd_place D) (Rd_nameCount D) (vp_updL (Rd_names D) kn x) (Rd_nameStamps D) (Rd_nameSlots D) (Rd_unsureNames D) (Rd_unsureCount D) (Rd_head D) (Rd_name D) (Rd_row D) (Rd_whole D)
def dBh (D : SRd) (kn : Nat) (s w : Int32) : SRd := mkRd (Rd_fault D) (Rd_place D) (nI (kn + 1)) (Rd_names D) (upd (Rd_nameStamps D) kn s) (upd (Rd_nameSlots D) kn w) (Rd_unsureNames D) (Rd_unsureCount D) (Rd_head D) (Rd_name D) (Rd_row D) (Rd_whole D)
theorem begin_FR (hr : Mo_ring S = nI n) (F : FR R rd n m c b) (hb : b + 1 < 2 ^ 29) (hcb : cbB rd n = true) : ∃ w R' rd', w < 6 ∧ rd (304 + w) = m1 ∧ f_X6_beginWriter R = some (nI w, R') ∧ f_X10_beginOn S rd = some (nI w, rd') ∧ FR R' rd' n m c (b + 1) ∧ BG rd rd' n w := by
  obtain ⟨H, I0, K0⟩ := F
  have W0 := RC_W H
  have hn := WS_n W0
  obtain ⟨w, hw⟩ : ∃ w, fi (fun w => !rn rd w) 6 = some w := by
    have hcb0 := hcb
    unfold cbB at hcb0
    rw [Bool.and_eq_true] at hcb0
    exact Option.isSome_iff_exists.mp hcb0.1
  obtain ⟨st2, hb1, hb2⟩ := M_beginOn (S := S) hr W0 I0 hw
  obtain ⟨R', hr1, hr2⟩ := X6_beginWriter H I0 hw
  have hwl := fi_some hw
  have hfree : rd (304 + w) = m1 := by
    rcases WS_w W0 hwl.1 with e | ⟨s, hs, e⟩
    · exact e
    · rw [rn_t e (by omega)] at hwl
      exact absurd hwl.2.1 (by decide)
  have hKK : MK st2 (b + 1) := by
    obtain ⟨kb, k, h1, h2, h3⟩ := K0
    have hx := WS_nx W0
    refine ⟨hb, k, by rw [hb2.1 324 (by omega) (by omega) (by omega) (by omega) (by omega)]; exact h1, by omega, fun v hv hl => ?_⟩
    rw [hb2.1 v (by omega) (by omega) (by omega) (by omega) (by omega)] at hl
    have : od st2 v = od rd v := by
      unfold od
      rw [hb2.1 (192 + v) (by omega) (by omega) (by omega) (by omega) (by omega)]
    rw [this]
    exact h3 v hv hl
  exact ⟨w, R', st2, hwl.1, hfree, hr1, hb1, ⟨hr2 st2 hb2, BG_IS W0 I0 hcb hwl.1 hfree hb2, hKK⟩, hb2⟩
theorem line_1 (C : CX T S tp kf L) (hk : TK T S lt kf L p) (hw : TKw T S lt kf L p e) (hr : f_X7_reserved T = some (some 1)) (hj : f_X10_isWord S lt 1 = some (nI 1)) (g : ∀ x, x < 11 → x ≠ 1 → f_X10_isWord S lt x = some (nI 0)) (P : PS D E R S fr oq ow rd sl kf n m c b) (hb : b + 1 < 2 ^ 29) : LO D E R T S (f_X10_readLine S fr lt mk oq ow rd sl tp) kf L p b := by
  obtain ⟨S1, lt1, s1, s2, s3⟩ := go_w C hw
  have C1 := CX_TE C (TE_rfl T) s3
  obtain ⟨kn, u, ev, po, le, rw', f1, f2, hd, rg, F, nc, n6, hN, ho, hs, hq, uc, hu, hsn⟩ := id P
  have hring := PS_ring P
  have hrl := T_rl_1 (D := D) (E := E) hr hring
  have hf := C.2.2.2.2.2
  have hf1 := C1.2.2.2.2.2
  have hkn := hN.1
  have hm := WS_m (RC_W F.1)
  have hn := WS_n (RC_W F.1)
  have nc' : Rd_nameCount (dHd D (some 1)) = nI kn := nc
  unfold f_X5_readBegin at hrl
  by_cases q : kn < 12
  · rw [M_rl_1 hf hj g hd.2.2.2 n6 q]
    unfold f_X10_beginLine
    rcases b_name (D := dHd D (some 1)) C1 s2 hN nc with ⟨T1, p1, e1, n1, n2, n3, n4, n5, n6', n7⟩ | ⟨D', T1, n1, n2, n3⟩
    · have hst := n6'.1.trans n6'.2.1.symm
      have C1' : CX T1 S1 tp kf L := CX_TE C1 n4 (SE_rfl S1)
      cases z : fi (nmP kf po le kn p1 (e1 - p1)) 12 with
      | some i =>
        rw [z] at n1 n3
        have n1' : f_X5_takeName (dHd D (some 1)) T = some (nI 1, dNm (dHd D (some 1)) (nI i), T1) := n1
        have n3' : f_X10_find S1 fr lt1 = some (nI i) := n3
        have hi := nmP_lt (fi_some z).2.1
        have en : Rd_name (dNm (dHd D (some 1)) (nI i)) = nI i := rfl
        have hff : Mo_failed (wrS S1 (nI 3) (Mo_at S1)) = nI 1 := rfl
        refine LO_bad (wrS S1 (nI 3) (Mo_at S1), fr, lt1, mk, oq, ow, rd, sl) (E' := E) (R' := R) (T' := T1) (D' := flD (dNm (dHd D (some 1)) (nI i)) (nI 3) (Tape_start T1)) ?_ ?_ ⟨n4, FM_trans (SE_FM s3) (FM_wr _ _ _), rfl, rfl, hst⟩
        · rw [hrl]
          simp (disch := omega) only [nc', q, n1', en, T_fail, ↓lm1, ↓lm2, i0, i1, i2, i3, i4, i5, i6, i7, i8, i9, i10, i12, i16, i20, i24, i31, i32, i44, i48, i57, i59, i63, i64, i74, i75, i90, i96, i97, i99, i100, i122, i139, i140, i144, i192, i200, i240, i255, i304, i309, i310, i311, i323, i324, i325, i899, i900, i975, i999, i5200, i4875, i65536, i65537, i15, ob_some, nI_add, nI_clamp, zn_zib, zn_eq, zn_lt, zn_le, m2_lt, m2_le, lt_m2, le_m2, eq_m2, m2_eq, m1_lt, m1_le, lt_m1, le_m1, eq_m1, m1_eq, m1_m2, m2_m1, m2_lt_m1, bI_0, bI_1, bI_t, bI_f, bI_bo, nI0_bo, nI1_bo, if_true, if_false, ite_true, ite_false, Nat.zero_add, Nat.not_lt_zero, Nat.zero_le, not_true_eq_false, not_false_eq_true, or_false, false_or, true_or, or_true, and_true, true_and, Bool.false_eq_true, Bool.true_eq_false, reduceCtorEq, eq_self]
        · have l0 : ¬ i < 0 := by omega
          simp (disch := omega) only [s1, n6, hf1, n2, n3', l0, M_wrong hf1, hff, ↓lm1, ↓lm2, i0, i1, i2, i3, i4, i5, i6, i7, i8, i9, i10, i12, i16, i20, i24, i31, i32, i44, i48, i57, i59, i63, i64, i74, i75, i90, i96, i97, i99, i100, i122, i139, i140, i144, i192, i200, i240, i255, i304, i309, i310, i311, i323, i324, i325, i899, i900, i975, i999, i5200, i4875, i65536, i65537, i15, ob_some, nI_add, nI_clamp, zn_zib, zn_eq, zn_lt, zn_le, m2_lt, m2_le, lt_m2, le_m2, eq_m2, m2_eq, m1_lt, m1_le, lt_m1, le_m1, eq_m1, m1_eq, m1_m2, m2_m1, m2_lt_m1, bI_0, bI_1, bI_t, bI_f, bI_bo, nI0_bo, nI1_bo, if_true, if_false, ite_true, ite_false, Nat.zero_add, Nat.not_lt_zero, Nat.zero_le, not_true_eq_false, not_false_eq_true, or_false, false_or, true_or, or_true, and_true, true_and, Bool.false_eq_true, Bool.true_eq_false, reduceCtorEq, eq_self]
      | none =>
        rw [z] at n1 n3
        have n1' : f_X5_takeName (dHd D (some 1)) T = some (nI 1, dNm (dHd D (some 1)) m2, T1) := n1
        have n3' : f_X10_find S1 fr lt1 = some m1 := n3
        have en : Rd_name (dNm (dHd D (some 1)) m2) = m2 := rfl
        have nc2 : Rd_nameCount (dNm (dHd D (some 1)) m2) = nI kn := nc
        have hnl := n7.2.2.2.2.2.2.1
        have hns := n7.2.2.2.2.2.2.2.2.1
        have hlt := n7.2.2.2.2.2.2.2.2.2.1
        have hvl := n7.2.2.2.2.2.2.2.2.2.2
        have hp1 := n7.2.2.2.2.1
        have hlet := TKw_lets n7
        obtain ⟨S2, lt2, g1, g2, g3⟩ := go_w C1' n7
        have C2 := CX_TE C1' (TE_rfl T1) g3
        have hf2 := C2.2.2.2.2.2
        have s4 := SE_trans s3 g3
        obtain ⟨k, hz⟩ := M_bl49 (tp := tp) (fr := fr) (lt := lt1) (ow := ow) (rd := rd) (sl := sl) (S := S1) hnl q hns (e1 - p1) 0 FU (by omega) (by unfold FU; omega)
        rw [fb_put_0] at hz
        have hz0 : zl8 (b_X10_beginLine_49 tp) FU S1 fr lt1 ow rd sl (nI kn) (nI 0) = b_X10_beginLine_49 tp k S1 (fb_put fr lt1 (44 + 8 * kn) (e1 - p1)) lt1 ow rd sl (nI kn) (nI (e1 - p1)) := hz
        obtain ⟨fr1, hfr1⟩ : ∃ fr1, fr1 = upd (fb_put fr lt1 (44 + 8 * kn) (e1 - p1)) (32 + kn) (nI (e1 - p1)) := ⟨_, rfl⟩
        have hfo : ∀ x, x ≠ 32 + kn → (x < 44 + 8 * kn ∨ 44 + 8 * kn + (e1 - p1) ≤ x) → fr1 x = fr x := fun x h1 h2 => by rw [hfr1, upd_ne h1, fb_put_out h2]
        have hfs : fr1 (32 + kn) = nI (e1 - p1) := by rw [hfr1, upd_eq]
        have hfl : ∀ x, x < e1 - p1 → fr1 (44 + 8 * kn + x) = nI (kf (p1 + x)) := fun x hx => by
          rw [hfr1, upd_ne (by omega), fb_put_in (by omega) (by omega), show 44 + 8 * kn + x - (44 + 8 * kn) = x by omega]
          exact hlt x hx
        rcases b_end (D := dBg (dNm (dHd D (some 1)) m2) kn (Tape_value T1)) g2 with ⟨T2, p2, e1', e2, e3, e4⟩ | ⟨T2, e1', e2, e3⟩
        · have hen := M_ends_y hf2 e4
          unfold dBg at e1'
          rw [nc2] at e1'
          have hrl2 : f_X5_readLine D E R T = some (nI 1, dBg (dNm (dHd D (some 1)) m2) kn (Tape_value T1), E, R, T2) := by
            rw [hrl]
            simp (disch := omega) only [nc', nc2, q, n1', en, ↓lm1, ↓lm2, i0, i1, i2, i3, i4, i5, i6, i7, i8, i9, i10, i12, i16, i20, i24, i31, i32, i44, i48, i57, i59, i63, i64, i74, i75, i90, i96, i97, i99, i100, i122, i139, i140, i144, i192, i200, i240, i255, i304, i309, i310, i311, i323, i324, i325, i899, i900, i975, i999, i5200, i4875, i65536, i65537, i15, ob_some, nI_add, nI_clamp, zn_zib, zn_eq, zn_lt, zn_le, m2_lt, m2_le, lt_m2, le_m2, eq_m2, m2_eq, m1_lt, m1_le, lt_m1, le_m1, eq_m1, m1_eq, m1_m2, m2_m1, m2_lt_m1, bI_0, bI_1, bI_t, bI_f, bI_bo, nI0_bo, nI1_bo, if_true, if_false, ite_true, ite_false, Nat.zero_add, Nat.not_lt_zero, Nat.zero_le, not_true_eq_false, not_false_eq_true, or_false, false_or, true_or, or_true, and_true, true_and, Bool.false_eq_true, Bool.true_eq_false, reduceCtorEq, eq_self]
            rw [en] at e1'
            rw [e1', ob_some]
            simp (disch := omega) only [↓lm1, ↓lm2, i0, i1, i2, i3, i4, i5, i6, i7, i8, i9, i10, i12, i16, i20, i24, i31, i32, i44, i48, i57, i59, i63, i64, i74, i75, i90, i96, i97, i99, i100, i122, i139, i140, i144, i192, i200, i240, i255, i304, i309, i310, i311, i323, i324, i325, i899, i900, i975, i999, i5200, i4875, i65536, i65537, i15, ob_some, nI_add, nI_clamp, zn_zib, zn_eq, zn_lt, zn_le, m2_lt, m2_le, lt_m2, le_m2, eq_m2, m2_eq, m1_lt, m1_le, lt_m1, le_m1, eq_m1, m1_eq, m1_m2, m2_m1, m2_lt_m1, bI_0, bI_1, bI_t, bI_f, bI_bo, nI0_bo, nI1_bo, if_true, if_false, ite_true, ite_false, Nat.zero_add, Nat.not_lt_zero, Nat.zero_le, not_true_eq_false, not_false_eq_true, or_false, false_or, true_or, or_true, and_true, true_and, Bool.false_eq_true, Bool.true_eq_false, reduceCtorEq, eq_self]
            unfold dBg
            rw [nc2, en]
          obtain ⟨y, hy⟩ := T_slotNamed (D := dBg (dNm (dHd D (some 1)) m2) kn (Tape_value T1)) (Rd_name (dBg (dNm (dHd D (some 1)) m2) kn (Tape_value T1)))
          have hda := T_da_1 (R := R) (D := dBg (dNm (dHd D (some 1)) m2) kn (Tape_value T1)) rfl hy
          have hc1 := X6_canBegin F.1
          have rg2 : Mo_ring S2 = nI n := (SE_ring s4).trans rg
          have hc2 := M_canBegin (S := S2) rg2 (RC_W F.1)
          have tee := TE_trans n4 e2
          have l1 : e1 - p1 ≤ e1 - p1 := Nat.le_refl _
          cases hcb : cbB rd n
          · rw [hcb] at hc1 hc2
            have hff : Mo_failed (wrS S2 (nI 8) (Mo_at S2)) = nI 1 := rfl
            have h125 : b_X10_beginLine_125 tp S2 fr1 lt2 ow rd sl (nI kn) (nI 1) = some (wrS S2 (nI 8) (Mo_at S2), fr1, lt2, ow, rd, sl) := by
              unfold b_X10_beginLine_125
              simp (disch := omega) only [M_may1 hf2, hff, ↓lm1, ↓lm2, i0, i1, i2, i3, i4, i5, i6, i7, i8, i9, i10, i12, i16, i20, i24, i31, i32, i44, i48, i57, i59, i63, i64, i74, i75, i90, i96, i97, i99, i100, i122, i139, i140, i144, i192, i200, i240, i255, i304, i309, i310, i311, i323, i324, i325, i899, i900, i975, i999, i5200, i4875, i65536, i65537, i15, ob_some, nI_add, nI_clamp, zn_zib, zn_eq, zn_lt, zn_le, m2_lt, m2_le, lt_m2, le_m2, eq_m2, m2_eq, m1_lt, m1_le, lt_m1, le_m1, eq_m1, m1_eq, m1_m2, m2_m1, m2_lt_m1, bI_0, bI_1, bI_t, bI_f, bI_bo, nI0_bo, nI1_bo, if_true, if_false, ite_true, ite_false, Nat.zero_add, Nat.not_lt_zero, Nat.zero_le, not_true_eq_false, not_false_eq_true, or_false, false_or, true_or, or_true, and_true, true_and, Bool.false_eq_true, Bool.true_eq_false, reduceCtorEq, eq_self]
            have h49 : b_X10_beginLine_49 tp k S1 (fb_put fr lt1 (44 + 8 * kn) (e1 - p1)) lt1 ow rd sl (nI kn) (nI (e1 - p1)) = some (wrS S2 (nI 8) (Mo_at S2), fr1, lt2, ow, rd, sl) := by
              unfold b_X10_beginLine_49
              rw [hfr1] at h125 ⊢
              simp (disch := omega) only [hns, l1, g1, hen, hc2, h125, ↓lm1, ↓lm2, i0, i1, i2, i3, i4, i5, i6, i7, i8, i9, i10, i12, i16, i20, i24, i31, i32, i44, i48, i57, i59, i63, i64, i74, i75, i90, i96, i97, i99, i100, i122, i139, i140, i144, i192, i200, i240, i255, i304, i309, i310, i311, i323, i324, i325, i899, i900, i975, i999, i5200, i4875, i65536, i65537, i15, ob_some, nI_add, nI_clamp, zn_zib, zn_eq, zn_lt, zn_le, m2_lt, m2_le, lt_m2, le_m2, eq_m2, m2_eq, m1_lt, m1_le, lt_m1, le_m1, eq_m1, m1_eq, m1_m2, m2_m1, m2_lt_m1, bI_0, bI_1, bI_t, bI_f, bI_bo, nI0_bo, nI1_bo, if_true, if_false, ite_true, ite_false, Nat.zero_add, Nat.not_lt_zero, Nat.zero_le, not_true_eq_false, not_false_eq_true, or_false, false_or, true_or, or_true, and_true, true_and, Bool.false_eq_true, Bool.true_eq_false, reduceCtorEq, eq_self]
            refine .inr ⟨flD (dBg (dNm (dHd D (some 1)) m2) kn (Tape_value T1)) (nI 8) (Tape_start T2), T2, (wrS S2 (nI 8) (Mo_at S2), fr1, lt2, mk, oq, ow, rd, sl), ⟨E, R, .inr ⟨_, _, _, hrl2, ?_, rfl⟩⟩, ?_, .inl (FB_act tee (SE_FM s4) e4)⟩
            · rw [hda]
              simp (disch := omega) only [hc1, ↓lm1, ↓lm2, i0, i1, i2, i3, i4, i5, i6, i7, i8, i9, i10, i12, i16, i20, i24, i31, i32, i44, i48, i57, i59, i63, i64, i74, i75, i90, i96, i97, i99, i100, i122, i139, i140, i144, i192, i200, i240, i255, i304, i309, i310, i311, i323, i324, i325, i899, i900, i975, i999, i5200, i4875, i65536, i65537, i15, ob_some, nI_add, nI_clamp, zn_zib, zn_eq, zn_lt, zn_le, m2_lt, m2_le, lt_m2, le_m2, eq_m2, m2_eq, m1_lt, m1_le, lt_m1, le_m1, eq_m1, m1_eq, m1_m2, m2_m1, m2_lt_m1, bI_0, bI_1, bI_t, bI_f, bI_bo, nI0_bo, nI1_bo, if_true, if_false, ite_true, ite_false, Nat.zero_add, Nat.not_lt_zero, Nat.zero_le, not_true_eq_false, not_false_eq_true, or_false, false_or, true_or, or_true, and_true, true_and, Bool.false_eq_true, Bool.true_eq_false, reduceCtorEq, eq_self]
            · simp (disch := omega) only [s1, n6, hf1, n2, n3', hz0, h49, ↓lm1, ↓lm2, i0, i1, i2, i3, i4, i5, i6, i7, i8, i9, i10, i12, i16, i20, i24, i31, i32, i44, i48, i57, i59, i63, i64, i74, i75, i90, i96, i97, i99, i100, i122, i139, i140, i144, i192, i200, i240, i255, i304, i309, i310, i311, i323, i324, i325, i899, i900, i975, i999, i5200, i4875, i65536, i65537, i15, ob_some, nI_add, nI_clamp, zn_zib, zn_eq, zn_lt, zn_le, m2_lt, m2_le, lt_m2, le_m2, eq_m2, m2_eq, m1_lt, m1_le, lt_m1, le_m1, eq_m1, m1_eq, m1_m2, m2_m1, m2_lt_m1, bI_0, bI_1, bI_t, bI_f, bI_bo, nI0_bo, nI1_bo, if_true, if_false, ite_true, ite_false, Nat.zero_add, Nat.not_lt_zero, Nat.zero_le, not_true_eq_false, not_false_eq_true, or_false, false_or, true_or, or_true, and_true, true_and, Bool.false_eq_true, Bool.true_eq_false, reduceCtorEq, eq_self]
          · rw [hcb] at hc1 hc2
            obtain ⟨w, R', rd', hw6, hfree, hbw, hbo, FR', hBG⟩ := begin_FR (S := S2) rg2 F hb hcb
            obtain ⟨sx, hsx, esx⟩ := WS_x (RC_W F.1)
            have esR : Rows_nextStamp R = nI sx := (RC_nx F.1).trans esx
            have enx : nx rd = sx := by
              unfold nx
              rw [esx, nI_clamp (by omega)]
            obtain ⟨fr2, hfr2⟩ : ∃ fr2, fr2 = upd (upd fr1 (20 + kn) (nI sx)) 6 (nI (kn + 1)) := ⟨_, rfl⟩
            have h125 : b_X10_beginLine_125 tp S2 fr1 lt2 ow rd sl (nI kn) (nI 0) = some (S2, fr2, lt2, upd ow sx (nI (kn + 1)), rd', upd sl kn (nI (w + 1))) := by
              have h6' : upd fr1 (20 + kn) (nI sx) 6 = nI kn := by rw [upd_ne (by omega), hfo 6 (by omega) (by omega)]; exact n6
              unfold b_X10_beginLine_125
              rw [hfr2]
              simp (disch := omega) only [M_may0, hf2, esx, hbo, h6', ↓lm1, ↓lm2, i0, i1, i2, i3, i4, i5, i6, i7, i8, i9, i10, i12, i16, i20, i24, i31, i32, i44, i48, i57, i59, i63, i64, i74, i75, i90, i96, i97, i99, i100, i122, i139, i140, i144, i192, i200, i240, i255, i304, i309, i310, i311, i323, i324, i325, i899, i900, i975, i999, i5200, i4875, i65536, i65537, i15, ob_some, nI_add, nI_clamp, zn_zib, zn_eq, zn_lt, zn_le, m2_lt, m2_le, lt_m2, le_m2, eq_m2, m2_eq, m1_lt, m1_le, lt_m1, le_m1, eq_m1, m1_eq, m1_m2, m2_m1, m2_lt_m1, bI_0, bI_1, bI_t, bI_f, bI_bo, nI0_bo, nI1_bo, if_true, if_false, ite_true, ite_false, Nat.zero_add, Nat.not_lt_zero, Nat.zero_le, not_true_eq_false, not_false_eq_true, or_false, false_or, true_or, or_true, and_true, true_and, Bool.false_eq_true, Bool.true_eq_false, reduceCtorEq, eq_self]
            have h49 : b_X10_beginLine_49 tp k S1 (fb_put fr lt1 (44 + 8 * kn) (e1 - p1)) lt1 ow rd sl (nI kn) (nI (e1 - p1)) = some (S2, fr2, lt2, upd ow sx (nI (kn + 1)), rd', upd sl kn (nI (w + 1))) := by
              unfold b_X10_beginLine_49
              rw [hfr1] at h125
              simp (disch := omega) only [hns, l1, g1, hen, hc2, h125, ↓lm1, ↓lm2, i0, i1, i2, i3, i4, i5, i6, i7, i8, i9, i10, i12, i16, i20, i24, i31, i32, i44, i48, i57, i59, i63, i64, i74, i75, i90, i96, i97, i99, i100, i122, i139, i140, i144, i192, i200, i240, i255, i304, i309, i310, i311, i323, i324, i325, i899, i900, i975, i999, i5200, i4875, i65536, i65537, i15, ob_some, nI_add, nI_clamp, zn_zib, zn_eq, zn_lt, zn_le, m2_lt, m2_le, lt_m2, le_m2, eq_m2, m2_eq, m1_lt, m1_le, lt_m1, le_m1, eq_m1, m1_eq, m1_m2, m2_m1, m2_lt_m1, bI_0, bI_1, bI_t, bI_f, bI_bo, nI0_bo, nI1_bo, if_true, if_false, ite_true, ite_false, Nat.zero_add, Nat.not_lt_zero, Nat.zero_le, not_true_eq_false, not_false_eq_true, or_false, false_or, true_or, or_true, and_true, true_and, Bool.false_eq_true, Bool.true_eq_false, reduceCtorEq, eq_self]
            have hne : ∀ x, x ≠ 6 → x ≠ 20 + kn → x ≠ 32 + kn → (x < 44 + 8 * kn ∨ 44 + 8 * kn + (e1 - p1) ≤ x) → fr2 x = fr x := fun x h1 h2 h3 h4 => by rw [hfr2, upd_ne h1, upd_ne h2, hfo x h3 h4]
            have hne1 : ∀ x, x ≠ 6 → x ≠ 20 + kn → fr2 x = fr1 x := fun x h1 h2 => by rw [hfr2, upd_ne h1, upd_ne h2]
            have hf20 : fr2 (20 + kn) = nI sx := by rw [hfr2, upd_ne (by omega), upd_eq]
            have hf6 : fr2 6 = nI (kn + 1) := by rw [hfr2, upd_eq]
            have hno := fi_none z
            refine .inl ⟨dBg (dNm (dHd D (some 1)) m2) kn (Tape_value T1), E, R, T2, dBh (dBg (dNm (dHd D (some 1)) m2) kn (Tape_value T1)) kn (nI sx) (nI w), R', p2, n, m, c, (S2, fr2, lt2, mk, oq, upd ow sx (nI (kn + 1)), rd', upd sl kn (nI (w + 1))), hrl2, ?_, ?_, tee, SE_FM s4, hf2, SE_size s4, by omega, e4, ⟨kn + 1, u, ev, fun i => if i = kn then p1 else po i, fun i => if i = kn then e1 - p1 else le i, rw', f1, (SE_fault s4).trans f2, HD_cong hd (hne 0 (by omega) (by omega) (by omega) (by omega)) (hne 1 (by omega) (by omega) (by omega) (by omega)) (hne 3 (by omega) (by omega) (by omega) (by omega)) (hne 7 (by omega) (by omega) (by omega) (by omega)), rg2, FR', rfl, hf6, ⟨by omega, fun i hi => ?_, fun i j hij hj' => ?_, fun i hi hi2 => ?_⟩, fun i hi => ?_, fun i hi => ?_, ⟨fun i hi w' hw' e' => ?_, fun i j hi hj' hij w' hw' e' => ?_⟩, uc, ⟨hu.1, (hne 4 (by omega) (by omega) (by omega) (by omega)).trans hu.2.1, fun x hx => ?_⟩, SN_cong hm.2 hsn (hne 5 (by omega) (by omega) (by omega) (by omega)) (fun x h1 h2 => hne x (by omega) (by omega) (by omega) (by omega))⟩⟩
            · rw [hda]
              have ncx : Rd_nameCount (dBg (dNm (dHd D (some 1)) m2) kn (Tape_value T1)) = nI kn := nc
              unfold f_X5_addWriter
              simp (disch := omega) only [hc1, ncx, q, hbw, esR, ↓lm1, ↓lm2, i0, i1, i2, i3, i4, i5, i6, i7, i8, i9, i10, i12, i16, i20, i24, i31, i32, i44, i48, i57, i59, i63, i64, i74, i75, i90, i96, i97, i99, i100, i122, i139, i140, i144, i192, i200, i240, i255, i304, i309, i310, i311, i323, i324, i325, i899, i900, i975, i999, i5200, i4875, i65536, i65537, i15, ob_some, nI_add, nI_clamp, zn_zib, zn_eq, zn_lt, zn_le, m2_lt, m2_le, lt_m2, le_m2, eq_m2, m2_eq, m1_lt, m1_le, lt_m1, le_m1, eq_m1, m1_eq, m1_m2, m2_m1, m2_lt_m1, bI_0, bI_1, bI_t, bI_f, bI_bo, nI0_bo, nI1_bo, if_true, if_false, ite_true, ite_false, Nat.zero_add, Nat.not_lt_zero, Nat.zero_le, not_true_eq_false, not_false_eq_true, or_false, false_or, true_or, or_true, and_true, true_and, Bool.false_eq_true, Bool.true_eq_false, reduceCtorEq, eq_self]
              rfl
            · simp (disch := omega) only [s1, n6, hf1, n2, n3', hz0, h49, ↓lm1, ↓lm2, i0, i1, i2, i3, i4, i5, i6, i7, i8, i9, i10, i12, i16, i20, i24, i31, i32, i44, i48, i57, i59, i63, i64, i74, i75, i90, i96, i97, i99, i100, i122, i139, i140, i144, i192, i200, i240, i255, i304, i309, i310, i311, i323, i324, i325, i899, i900, i975, i999, i5200, i4875, i65536, i65537, i15, ob_some, nI_add, nI_clamp, zn_zib, zn_eq, zn_lt, zn_le, m2_lt, m2_le, lt_m2, le_m2, eq_m2, m2_eq, m1_lt, m1_le, lt_m1, le_m1, eq_m1, m1_eq, m1_m2, m2_m1, m2_lt_m1, bI_0, bI_1, bI_t, bI_f, bI_bo, nI0_bo, nI1_bo, if_true, if_false, ite_true, ite_false, Nat.zero_add, Nat.not_lt_zero, Nat.zero_le, not_true_eq_false, not_false_eq_true, or_false, false_or, true_or, or_true, and_true, true_and, Bool.false_eq_true, Bool.true_eq_false, reduceCtorEq, eq_self]
            · show 1 ≤ (if i = kn then e1 - p1 else le i) ∧ (if i = kn then e1 - p1 else le i) ≤ 8 ∧ lets kf (if i = kn then p1 else po i) (if i = kn then e1 - p1 else le i) ∧ vp_updL (Rd_names D) kn (Tape_value T1) i = lN (enc kf (if i = kn then p1 else po i) (if i = kn then e1 - p1 else le i)) ∧ fr2 (32 + i) = nI (if i = kn then e1 - p1 else le i) ∧ ∀ k, k < (if i = kn then e1 - p1 else le i) → fr2 (44 + 8 * i + k) = nI (kf ((if i = kn then p1 else po i) + k))
              by_cases y : i = kn
              · rw [if_pos y, if_pos y, y, updL_eq, hvl]
                exact ⟨by omega, hnl, hlet, rfl, (hne1 _ (by omega) (by omega)).trans hfs, fun k hk => (hne1 _ (by omega) (by omega)).trans (hfl k hk)⟩
              · obtain ⟨x1, x2, x3, x4, x5, x6⟩ := hN.2.1 i (by omega)
                rw [if_neg y, if_neg y, updL_ne y]
                exact ⟨x1, x2, x3, x4, (hne _ (by omega) (by omega) (by omega) (by omega)).trans x5, fun k hk => (hne _ (by omega) (by omega) (by omega) (by omega)).trans (x6 k hk)⟩
            · show smW kf (if i = kn then p1 else po i) (if i = kn then e1 - p1 else le i) (if j = kn then p1 else po j) (if j = kn then e1 - p1 else le j) = false
              rw [if_neg (by omega : ¬ i = kn), if_neg (by omega : ¬ i = kn)]
              by_cases y : j = kn
              · rw [if_pos y, if_pos y]
                have h1 := hno i (by omega)
                unfold nmP at h1
                rw [decide_eq_true (by omega : i < kn), Bool.true_and] at h1
                exact h1
              · rw [if_neg y, if_neg y]
                exact hN.2.2.1 i j hij (by omega)
            · exact (hne _ (by omega) (by omega) (by omega) (by omega)).trans (hN.2.2.2 i (by omega) hi2)
            · show ∃ s, s < n ∧ upd (Rd_nameStamps D) kn (nI sx) i = nI s ∧ fr2 (20 + i) = nI s ∧ (upd ow sx (nI (kn + 1)) s = nI (i + 1) ↔ ∀ j, i < j → j < kn + 1 → fr2 (20 + j) ≠ nI s)
              by_cases y : i = kn
              · refine ⟨sx, hsx, by rw [y, upd_eq], by rw [y]; exact hf20, ⟨fun _ j h1 h2 => by omega, fun _ => by rw [upd_eq, y]⟩⟩
              · obtain ⟨s, x1, x2, x3, x4⟩ := ho i (by omega)
                refine ⟨s, x1, by rw [upd_ne y]; exact x2, (hne _ (by omega) (by omega) (by omega) (by omega)).trans x3, ?_⟩
                by_cases v : s = sx
                · rw [v, upd_eq, zn_eq (by omega) (by omega)]
                  exact ⟨fun h => by omega, fun h => absurd hf20 (h kn (by omega) (by omega))⟩
                · rw [upd_ne v, x4]
                  refine ⟨fun h j h1 h2 => ?_, fun h j h1 h2 => ?_⟩
                  · by_cases t : j = kn
                    · rw [t, hf20, ne_eq, zn_eq (by omega) (by omega)]
                      omega
                    · rw [hne _ (by omega) (by omega) (by omega) (by omega)]
                      exact h j h1 (by omega)
                  · have := h j h1 (by omega)
                    rw [hne _ (by omega) (by omega) (by omega) (by omega)] at this
                    exact this
            · show (upd (Rd_nameSlots D) kn (nI w) i = m2 ∧ upd sl kn (nI (w + 1)) i = nI 0) ∨ ∃ w', w' < 6 ∧ upd (Rd_nameSlots D) kn (nI w) i = nI w' ∧ upd sl kn (nI (w + 1)) i = nI (w' + 1)
              by_cases y : i = kn
              · rw [y, upd_eq, upd_eq]
                exact .inr ⟨w, hw6, rfl, rfl⟩
              · rw [upd_ne y, upd_ne y]
                exact hs i (by omega)
            · have e' : upd (Rd_nameSlots D) kn (nI w) i = nI w' := e'
              show rn rd' w' = true
              unfold rn
              by_cases y : w' = w
              · rw [y, hBG.2.1, enx]
                exact decide_eq_true (by rw [zn_lt (by omega) (by omega)]; omega)
              · by_cases v : i = kn
                · rw [v, upd_eq, zn_eq (by omega) (by omega)] at e'
                  omega
                · rw [upd_ne v] at e'
                  have h1 := hq.1 i (by omega) w' hw' e'
                  unfold rn at h1
                  rw [hBG.1 (304 + w') (by omega) (by omega) (by omega) (by omega) (by omega)]
                  exact h1
            · have e' : upd (Rd_nameSlots D) kn (nI w) i = nI w' := e'
              show upd (Rd_nameSlots D) kn (nI w) j ≠ nI w'
              have nofree : ∀ i, i < kn → Rd_nameSlots D i ≠ nI w := fun i hi x => by
                have h1 := hq.1 i hi w hw6 x
                unfold rn at h1
                rw [hfree] at h1
                exact absurd h1 (by decide)
              by_cases v : i = kn
              · rw [v, upd_eq] at e'
                rw [upd_ne (by omega), ← e']
                exact nofree j (by omega)
              · rw [upd_ne v] at e'
                by_cases v2 : j = kn
                · rw [v2, upd_eq]
                  intro x
                  rw [← x] at e'
                  exact nofree i (by omega) e'
                · rw [upd_ne v2]
                  exact hq.2 i j (by omega) (by omega) hij w' hw' e'
            · obtain ⟨i, x1, x2, x3⟩ := hu.2.2 x hx
              have := hu.1
              exact ⟨i, by omega, x2, (hne _ (by omega) (by omega) (by omega) (by omega)).trans x3⟩
        · have hen := M_ends_n hf2 e3
          unfold dBg at e1'
          rw [nc2] at e1'
          have l1 : e1 - p1 ≤ e1 - p1 := Nat.le_refl _
          have h49 : b_X10_beginLine_49 tp k S1 (fb_put fr lt1 (44 + 8 * kn) (e1 - p1)) lt1 ow rd sl (nI kn) (nI (e1 - p1)) = some (wrS S2 (nI 1) (Mo_at S2), fr1, lt2, ow, rd, sl) := by
            unfold b_X10_beginLine_49
            rw [hfr1]
            simp (disch := omega) only [hns, l1, g1, hen, ↓lm1, ↓lm2, i0, i1, i2, i3, i4, i5, i6, i7, i8, i9, i10, i12, i16, i20, i24, i31, i32, i44, i48, i57, i59, i63, i64, i74, i75, i90, i96, i97, i99, i100, i122, i139, i140, i144, i192, i200, i240, i255, i304, i309, i310, i311, i323, i324, i325, i899, i900, i975, i999, i5200, i4875, i65536, i65537, i15, ob_some, nI_add, nI_clamp, zn_zib, zn_eq, zn_lt, zn_le, m2_lt, m2_le, lt_m2, le_m2, eq_m2, m2_eq, m1_lt, m1_le, lt_m1, le_m1, eq_m1, m1_eq, m1_m2, m2_m1, m2_lt_m1, bI_0, bI_1, bI_t, bI_f, bI_bo, nI0_bo, nI1_bo, if_true, if_false, ite_true, ite_false, Nat.zero_add, Nat.not_lt_zero, Nat.zero_le, not_true_eq_false, not_false_eq_true, or_false, false_or, true_or, or_true, and_true, true_and, Bool.false_eq_true, Bool.true_eq_false, reduceCtorEq, eq_self]
          refine LO_bad (wrS S2 (nI 1) (Mo_at S2), fr1, lt2, mk, oq, ow, rd, sl) (E' := E) (R' := R) (T' := T2) (D' := flD (dBg (dNm (dHd D (some 1)) m2) kn (Tape_value T1)) (nI 1) (Mo_at S2)) ?_ ?_ (FB_end n4 s4 e2)
          · rw [hrl]
            simp (disch := omega) only [nc', nc2, q, n1', en, ↓lm1, ↓lm2, i0, i1, i2, i3, i4, i5, i6, i7, i8, i9, i10, i12, i16, i20, i24, i31, i32, i44, i48, i57, i59, i63, i64, i74, i75, i90, i96, i97, i99, i100, i122, i139, i140, i144, i192, i200, i240, i255, i304, i309, i310, i311, i323, i324, i325, i899, i900, i975, i999, i5200, i4875, i65536, i65537, i15, ob_some, nI_add, nI_clamp, zn_zib, zn_eq, zn_lt, zn_le, m2_lt, m2_le, lt_m2, le_m2, eq_m2, m2_eq, m1_lt, m1_le, lt_m1, le_m1, eq_m1, m1_eq, m1_m2, m2_m1, m2_lt_m1, bI_0, bI_1, bI_t, bI_f, bI_bo, nI0_bo, nI1_bo, if_true, if_false, ite_true, ite_false, Nat.zero_add, Nat.not_lt_zero, Nat.zero_le, not_true_eq_false, not_false_eq_true, or_false, false_or, true_or, or_true, and_true, true_and, Bool.false_eq_true, Bool.true_eq_false, reduceCtorEq, eq_self]
            rw [en] at e1'
            rw [e1', ob_some]
            simp (disch := omega) only [↓lm1, ↓lm2, i0, i1, i2, i3, i4, i5, i6, i7, i8, i9, i10, i12, i16, i20, i24, i31, i32, i44, i48, i57, i59, i63, i64, i74, i75, i90, i96, i97, i99, i100, i122, i139, i140, i144, i192, i200, i240, i255, i304, i309, i310, i311, i323, i324, i325, i899, i900, i975, i999, i5200, i4875, i65536, i65537, i15, ob_some, nI_add, nI_clamp, zn_zib, zn_eq, zn_lt, zn_le, m2_lt, m2_le, lt_m2, le_m2, eq_m2, m2_eq, m1_lt, m1_le, lt_m1, le_m1, eq_m1, m1_eq, m1_m2, m2_m1, m2_lt_m1, bI_0, bI_1, bI_t, bI_f, bI_bo, nI0_bo, nI1_bo, if_true, if_false, ite_true, ite_false, Nat.zero_add, Nat.not_lt_zero, Nat.zero_le, not_true_eq_false, not_false_eq_true, or_false, false_or, true_or, or_true, and_true, true_and, Bool.false_eq_true, Bool.true_eq_false, reduceCtorEq, eq_self]
            unfold dBg
            rw [nc2, en]
          · simp (disch := omega) only [s1, n6, hf1, n2, n3', hz0, h49, ↓lm1, ↓lm2, i0, i1, i2, i3, i4, i5, i6, i7, i8, i9, i10, i12, i16, i20, i24, i31, i32, i44, i48, i57, i59, i63, i64, i74, i75, i90, i96, i97, i99, i100, i122, i139, i140, i144, i192, i200, i240, i255, i304, i309, i310, i311, i323, i324, i325, i899, i900, i975, i999, i5200, i4875, i65536, i65537, i15, ob_some, nI_add, nI_clamp, zn_zib, zn_eq, zn_lt, zn_le, m2_lt, m2_le, lt_m2, le_m2, eq_m2, m2_eq, m1_lt, m1_le, lt_m1, le_m1, eq_m1, m1_eq, m1_m2, m2_m1, m2_lt_m1, bI_0, bI_1, bI_t, bI_f, bI_bo, nI0_bo, nI1_bo, if_true, if_false, ite_true, ite_false, Nat.zero_add, Nat.not_lt_zero, Nat.zero_le, not_true_eq_false, not_false_eq_true, or_false, false_or, true_or, or_true, and_true, true_and, Bool.false_eq_true, Bool.true_eq_false, reduceCtorEq, eq_self]
    · have hff : Mo_failed (wrS S1 (nI 1) (Mo_at S1)) = nI 1 := rfl
      refine LO_bad (wrS S1 (nI 1) (Mo_at S1), fr, lt1, mk, oq, ow, rd, sl) (E' := E) (R' := R) (T' := T1) (D' := D') ?_ ?_ (FB_pre (TE_rfl T) s3 n3)
      · rw [hrl]
        simp (disch := omega) only [nc', q, n1, ↓lm1, ↓lm2, i0, i1, i2, i3, i4, i5, i6, i7, i8, i9, i10, i12, i16, i20, i24, i31, i32, i44, i48, i57, i59, i63, i64, i74, i75, i90, i96, i97, i99, i100, i122, i139, i140, i144, i192, i200, i240, i255, i304, i309, i310, i311, i323, i324, i325, i899, i900, i975, i999, i5200, i4875, i65536, i65537, i15, ob_some, nI_add, nI_clamp, zn_zib, zn_eq, zn_lt, zn_le, m2_lt, m2_le, lt_m2, le_m2, eq_m2, m2_eq, m1_lt, m1_le, lt_m1, le_m1, eq_m1, m1_eq, m1_m2, m2_m1, m2_lt_m1, bI_0, bI_1, bI_t, bI_f, bI_bo, nI0_bo, nI1_bo, if_true, if_false, ite_true, ite_false, Nat.zero_add, Nat.not_lt_zero, Nat.zero_le, not_true_eq_false, not_false_eq_true, or_false, false_or, true_or, or_true, and_true, true_and, Bool.false_eq_true, Bool.true_eq_false, reduceCtorEq, eq_self]
      · simp (disch := omega) only [s1, n6, hf1, n2, hff, ↓lm1, ↓lm2, i0, i1, i2, i3, i4, i5, i6, i7, i8, i9, i10, i12, i16, i20, i24, i31, i32, i44, i48, i57, i59, i63, i64, i74, i75, i90, i96, i97, i99, i100, i122, i139, i140, i144, i192, i200, i240, i255, i304, i309, i310, i311, i323, i324, i325, i899, i900, i975, i999, i5200, i4875, i65536, i65537, i15, ob_some, nI_add, nI_clamp, zn_zib, zn_eq, zn_lt, zn_le, m2_lt, m2_le, lt_m2, le_m2, eq_m2, m2_eq, m1_lt, m1_le, lt_m1, le_m1, eq_m1, m1_eq, m1_m2, m2_m1, m2_lt_m1, bI_0, bI_1, bI_t, bI_f, bI_bo, nI0_bo, nI1_bo, if_true, if_false, ite_true, ite_false, Nat.zero_add, Nat.not_lt_zero, Nat.zero_le, not_true_eq_false, not_false_eq_true, or_false, false_or, true_or, or_true, and_true, true_and, Bool.false_eq_true, Bool.true_eq_false, reduceCtorEq, eq_self]
  · have hu5 : kn = 12 := by omega
    rw [hu5] at n6 nc'
    rw [M_rlfull_1 hf hj g hd.2.2.2 n6]
    refine LO_bad (wrS S (nI 5) (Mo_at S), fr, lt, mk, oq, ow, rd, sl) (E' := E) (R' := R) (T' := T) (D' := flD (dHd D (some 1)) (nI 5) (Tape_start T)) ?_ rfl ⟨TE_rfl T, FM_wr _ _ _, rfl, rfl, hk.1.trans hk.2.1.symm⟩
    rw [hrl]
    have b1 : ¬ 12 < 12 := by omega
    simp (disch := omega) only [nc', b1, T_fail, ↓lm1, ↓lm2, i0, i1, i2, i3, i4, i5, i6, i7, i8, i9, i10, i12, i16, i20, i24, i31, i32, i44, i48, i57, i59, i63, i64, i74, i75, i90, i96, i97, i99, i100, i122, i139, i140, i144, i192, i200, i240, i255, i304, i309, i310, i311, i323, i324, i325, i899, i900, i975, i999, i5200, i4875, i65536, i65537, i15, ob_some, nI_add, nI_clamp, zn_zib, zn_eq, zn_lt, zn_le, m2_lt, m2_le, lt_m2, le_m2, eq_m2, m2_eq, m1_lt, m1_le, lt_m1, le_m1, eq_m1, m1_eq, m1_m2, m2_m1, m2_lt_m1, bI_0, bI_1, bI_t, bI_f, bI_bo, nI0_bo, nI1_bo, if_true, if_false, ite_true, ite_false, Nat.zero_add, Nat.not_lt_zero, Nat.zero_le, not_true_eq_false, not_false_eq_true, or_false, false_or, true_or, or_true, and_true, true_and, Bool.false_eq_true, Bool.true_eq_false, reduceCtorEq, eq_self]
end
