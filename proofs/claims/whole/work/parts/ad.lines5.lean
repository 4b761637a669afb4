/-! the lines of a text: store; any other one ahead of it -/
def NSt (D : SRd) (E : SEv) (R : SRows) (S : SMo) (fr rd : Nat → Int32) : Prop := Rd_fault D = nI 0 ∧ Mo_fault S = nI 0 ∧ Rows_ring R = nI 0 ∧ Rd_nameCount D = nI 0 ∧ Rd_unsureCount D = nI 0 ∧ Ev_seenCount E = nI 0 ∧ Ev_unsureCount E = nI 0 ∧ (∀ i, i < 140 → fr i = nI 0) ∧ rd0 rd 0
def frH (fr : Nat → Int32) (a b c d : Nat) : Nat → Int32 := upd (upd (upd (upd fr 0 (nI a)) 1 (nI b)) 2 (nI c)) 3 (nI d)
section
variable {T : STape} {S S' : SMo} {D : SRd} {E : SEv} {R : SRows} {lt tp fr mk oq ow rd rd' sl : Nat → Int32} {kf : Nat → Nat} {L p p0 e n m c b : Nat} {mr : Option MXt}
theorem M_must_f (h : Mo_failed S = nI 1) (x : Nat) : f_X10_must S lt tp x = some (S, lt) := by
  unfold f_X10_must
  simp (disch := omega) only [h, ↓lm1, ↓lm2, i0, i1, i2, i3, i4, i5, i6, i7, i8, i9, i10, i12, i16, i20, i24, i31, i32, i44, i48, i57, i59, i63, i64, i74, i75, i90, i96, i97, i99, i100, i122, i139, i140, i144, i192, i200, i240, i255, i304, i309, i310, i311, i323, i324, i325, i899, i900, i975, i999, i5200, i4875, i65536, i65537, i15, ob_some, nI_add, nI_clamp, zn_zib, zn_eq, zn_lt, zn_le, m2_lt, m2_le, lt_m2, le_m2, eq_m2, m2_eq, m1_lt, m1_le, lt_m1, le_m1, eq_m1, m1_eq, m1_m2, m2_m1, m2_lt_m1, bI_0, bI_1, bI_t, bI_f, bI_bo, nI0_bo, nI1_bo, if_true, if_false, ite_true, ite_false, Nat.zero_add, Nat.not_lt_zero, Nat.zero_le, not_true_eq_false, not_false_eq_true, or_false, false_or, true_or, or_true, and_true, true_and, Bool.false_eq_true, Bool.true_eq_false, reduceCtorEq, eq_self]
theorem M_after_f (h : Mo_failed S = nI 1) (x : Nat) (y z : Int32) : f_X10_after S lt tp x y z = some (y, S, lt) := by
  unfold f_X10_after
  simp (disch := omega) only [M_must_f h, M_number_f h, ↓lm1, ↓lm2, i0, i1, i2, i3, i4, i5, i6, i7, i8, i9, i10, i12, i16, i20, i24, i31, i32, i44, i48, i57, i59, i63, i64, i74, i75, i90, i96, i97, i99, i100, i122, i139, i140, i144, i192, i200, i240, i255, i304, i309, i310, i311, i323, i324, i325, i899, i900, i975, i999, i5200, i4875, i65536, i65537, i15, ob_some, nI_add, nI_clamp, zn_zib, zn_eq, zn_lt, zn_le, m2_lt, m2_le, lt_m2, le_m2, eq_m2, m2_eq, m1_lt, m1_le, lt_m1, le_m1, eq_m1, m1_eq, m1_m2, m2_m1, m2_lt_m1, bI_0, bI_1, bI_t, bI_f, bI_bo, nI0_bo, nI1_bo, if_true, if_false, ite_true, ite_false, Nat.zero_add, Nat.not_lt_zero, Nat.zero_le, not_true_eq_false, not_false_eq_true, or_false, false_or, true_or, or_true, and_true, true_and, Bool.false_eq_true, Bool.true_eq_false, reduceCtorEq, eq_self]
theorem M_72f (h : Mo_failed S = nI 1) : b_X10_storeLine_72 tp S fr lt rd = some (S, frH fr 8 1 0 0, lt, rd) := by
  have hf' : ¬ Mo_failed S = 0 := by rw [h]; decide
  unfold b_X10_storeLine_72
  rw [M_number_f h, ob_some, if_pos (by decide), M_after_f h, ob_some, if_pos (by decide), if_pos (by decide), M_after_f h, ob_some, if_pos (by decide), M_after_f h, ob_some, if_pos (by decide), if_neg hf']
  rfl
theorem b_after (C : CX T S tp kf L) (A : AH T S lt kf L p0) {x : Nat} (hx : x < 15) {lo hg : Nat} (hlo : lo < 2 ^ 30) (hhg : hg < 2 ^ 30) : (∃ v T0 T' S' lt', lo ≤ v ∧ v ≤ hg ∧ f_X5_takeText D T x = some (nI 1, D, T0) ∧ f_X5_takeWhole D T0 (nI lo) (nI hg) = some (nI 1, dWh D (nI v), T') ∧ f_X10_after S lt tp x (nI lo) (nI hg) = some (nI v, S', lt') ∧ TE T T' ∧ SE S S' ∧ AH T' S' lt' kf L (p0 + 1)) ∨ (∃ D' T' S' lt', (f_X5_takeText D T x = some (nI 0, D', T') ∨ ∃ T0, f_X5_takeText D T x = some (nI 1, D, T0) ∧ f_X5_takeWhole D T0 (nI lo) (nI hg) = some (nI 0, D', T')) ∧ f_X10_after S lt tp x (nI lo) (nI hg) = some (nI lo, S', lt') ∧ FB D' T T' S S') := by
  unfold f_X10_after
  rcases b_text (D := D) C A hx with ⟨T0, S1, lt1, x1, x2, x3, x4, x5⟩ | ⟨D', T', S1, x1, x2, x3⟩
  · have C1 := CX_TE C x3 x4
    rcases b_whole (D := D) C1 x5 (lo := lo) (hg := hg) hlo hhg with ⟨v, T1, S2, lt2, v1, v2, v3, v4, v5, v6, v7, v8, -⟩ | ⟨D', T1, S2, v4, v5, v6, -⟩
    · refine .inl ⟨v, T0, T1, S2, lt2, v1, v2, x1, v4, ?_, TE_trans x3 v6, SE_trans x4 v7, AH_mono v8 (by omega)⟩
      simp only [x2, v5, ob_some]
    · refine .inr ⟨D', T1, S2, lt1, .inr ⟨T0, x1, v4⟩, ?_, FB_pre x3 x4 v6⟩
      simp only [x2, v5, ob_some]
  · refine .inr ⟨D', T', S1, lt, .inl x1, ?_, x3⟩
    simp only [x2, M_number_f x3.2.2.1, ob_some]
theorem odd_bit (v : Nat) (hv : v ≤ 999) : (nI v &&& nI 1 = nI 1) = (v % 2 = 1) := by
  rw [fa_and, Nat.and_one_is_mod, zn_eq (by omega) (by omega)]
def sl2 (tp fr rd : Nat → Int32) (S : SMo) (lt : Nat → Int32) : Option (SMo × (Nat → Int32) × (Nat → Int32) × (Nat → Int32)) :=
  (f_X10_must S lt tp 11).bind (fun q6 =>
        (if (Mo_failed q6.1) = 0 then
          (if (Mo_token q6.1) = (3 : Int32) then
            (if ((Mo_whole q6.1) &&& (1 : Int32)) = (1 : Int32) then
              (f_X10_wrong q6.1 (4 : Int32) (Mo_at q6.1)).bind (fun q7 =>
                (b_X10_storeLine_72 tp q7 fr q6.2 rd))
              else
              (b_X10_storeLine_72 tp q6.1 fr q6.2 rd))
            else
            (b_X10_storeLine_72 tp q6.1 fr q6.2 rd))
          else
          (b_X10_storeLine_72 tp q6.1 fr q6.2 rd)))
theorem M_sl (hf : Mo_failed S = nI 0) (h7 : fr 7 = nI 0) : f_X10_storeLine S fr lt rd tp = (f_X10_step S lt tp).bind (fun q5 => sl2 tp fr rd q5.1 q5.2) := by
  have hf' : Mo_failed S = 0 := hf
  unfold f_X10_storeLine b_X10_storeLine_19
  rw [if_pos (by decide), z7, h7, if_pos (by decide), if_pos hf']
  unfold sl2
  rfl
theorem sl2_n {S2 : SMo} {lt2 : Nat → Int32} (h : f_X10_must S lt tp 11 = some (S2, lt2)) (hf : Mo_failed S2 = nI 1) : sl2 tp fr rd S lt = b_X10_storeLine_72 tp S2 fr lt2 rd := by
  have hf' : ¬ Mo_failed S2 = 0 := by rw [hf]; decide
  unfold sl2
  rw [h, ob_some, if_neg hf']
theorem sl2_t {S2 : SMo} {lt2 : Nat → Int32} (h : f_X10_must S lt tp 11 = some (S2, lt2)) (hf : Mo_failed S2 = nI 0) (ht : ¬ Mo_token S2 = nI 3) : sl2 tp fr rd S lt = b_X10_storeLine_72 tp S2 fr lt2 rd := by
  have hf' : Mo_failed S2 = 0 := hf
  have ht' : ¬ Mo_token S2 = 3 := ht
  unfold sl2
  rw [h, ob_some, if_pos hf', if_neg ht']
theorem sl2_e {S2 : SMo} {lt2 : Nat → Int32} (h : f_X10_must S lt tp 11 = some (S2, lt2)) (hf : Mo_failed S2 = nI 0) (ht : Mo_token S2 = nI 3) {v : Nat} (hv : Mo_whole S2 = nI v) (h9 : v ≤ 999) (ho : ¬ v % 2 = 1) : sl2 tp fr rd S lt = b_X10_storeLine_72 tp S2 fr lt2 rd := by
  have hf' : Mo_failed S2 = 0 := hf
  have ht' : Mo_token S2 = 3 := ht
  have hw' : ¬ (Mo_whole S2 &&& 1) = 1 := by
    rw [hv]
    show ¬ (nI v &&& nI 1) = nI 1
    rw [odd_bit v h9]
    exact ho
  unfold sl2
  rw [h, ob_some, if_pos hf', if_pos ht', if_neg hw']
theorem sl2_o {S2 : SMo} {lt2 : Nat → Int32} (h : f_X10_must S lt tp 11 = some (S2, lt2)) (hf : Mo_failed S2 = nI 0) (ht : Mo_token S2 = nI 3) {v : Nat} (hv : Mo_whole S2 = nI v) (h9 : v ≤ 999) (ho : v % 2 = 1) : sl2 tp fr rd S lt = b_X10_storeLine_72 tp (wrS S2 (nI 4) (Mo_at S2)) fr lt2 rd := by
  have hf' : Mo_failed S2 = 0 := hf
  have ht' : Mo_token S2 = 3 := ht
  have hw' : (Mo_whole S2 &&& 1) = 1 := by
    rw [hv]
    show (nI v &&& nI 1) = nI 1
    rw [odd_bit v h9]
    exact ho
  unfold sl2
  rw [h, ob_some, if_pos hf', if_pos ht', if_pos hw', M_wrong hf, ob_some]
  rfl
theorem line_0 (C : CX T S tp kf L) (hw : TKw T S lt kf L p e) (hr : f_X7_reserved T = some (some 0)) (hj : f_X10_isWord S lt 0 = some (nI 1)) (P : NSt D E R S fr rd) (hb : b + 1 < 2 ^ 29) : LO D E R T S (f_X10_readLine S fr lt mk oq ow rd sl tp) kf L p b := by
  obtain ⟨S1, lt1, s1, s2, s3⟩ := go_w C hw
  have C1 := CX_TE C (TE_rfl T) s3
  obtain ⟨f1, f2, hring, nc, uc, sc, ec, hfr, hrd⟩ := id P
  have hrl := T_rl_0 (D := D) (E := E) hr hring
  have hf := C.2.2.2.2.2
  have hf1 := C1.2.2.2.2.2
  have h7 := hfr 7 (by omega)
  rw [M_rl_0 hf hj, M_sl hf h7, s1, ob_some]
  unfold f_X5_readHead at hrl
  have bad1 : ∀ {D' : SRd} {T' : STape} {S2 : SMo} {lt2 : Nat → Int32}, Mo_failed S2 = nI 1 → f_X5_readLine D E R T = some (nI 0, D', E, R, T') → FB D' T T' S S2 → sl2 tp fr rd S1 lt1 = b_X10_storeLine_72 tp S2 fr lt2 rd → LO D E R T S ((sl2 tp fr rd S1 lt1).bind (fun q27 => some (q27.1, q27.2.1, q27.2.2.1, mk, oq, ow, q27.2.2.2, sl))) kf L p b := fun {D' T' S2 lt2} hff hcl hfb hmo => by
    refine LO_bad (S2, frH fr 8 1 0 0, lt2, mk, oq, ow, rd, sl) hcl ?_ hfb
    rw [hmo, M_72f hff, ob_some]
  rcases b_text (D := dHd D (some 0)) C1 s2 (x := 11) (by omega) with ⟨T1, S2, lt2, x1, x2, x3, x4, x5⟩ | ⟨D', T1, S2, x1, x2, fb⟩
  · have C2 := CX_TE C1 x3 x4
    have hf2 := C2.2.2.2.2.2
    have s4 := SE_trans s3 x4
    rcases b_whole (D := dHd D (some 0)) C2 x5 (lo := 8) (hg := 64) (by omega) (by omega) with ⟨n, T2, S3, lt3, v1, v2, v3, v4, v5, v6, v7, A3, v9, v10, v11⟩ | ⟨D', T2, S3, v4, v5, fb, -, v8, v9⟩
    · have te2 := TE_trans x3 v6
      by_cases y : n % 2 = 1
      · have erw : nI n - nI n / nI 2 * nI 2 = nI (n % 2) := rem_nI (by omega) (by omega) (by omega)
        have e1 : Rd_whole (dWh (dHd D (some 0)) (nI n)) = nI n := rfl
        have y0 : ¬ n % 2 = 0 := by omega
        refine bad1 (S2 := wrS S2 (nI 4) (Mo_at S2)) (lt2 := lt2) (D' := flD (dWh (dHd D (some 0)) (nI n)) (nI 4) (Tape_start T2)) (T' := T2) rfl ?_ ⟨te2, FM_trans (SE_FM s4) (FM_wr _ _ _), rfl, rfl, v11⟩ ?_
        · rw [hrl]
          simp (disch := omega) only [x1, v4, e1, erw, y0, T_fail, ↓lm1, ↓lm2, i0, i1, i2, i3, i4, i5, i6, i7, i8, i9, i10, i12, i16, i20, i24, i31, i32, i44, i48, i57, i59, i63, i64, i74, i75, i90, i96, i97, i99, i100, i122, i139, i140, i144, i192, i200, i240, i255, i304, i309, i310, i311, i323, i324, i325, i899, i900, i975, i999, i5200, i4875, i65536, i65537, i15, ob_some, nI_add, nI_clamp, zn_zib, zn_eq, zn_lt, zn_le, m2_lt, m2_le, lt_m2, le_m2, eq_m2, m2_eq, m1_lt, m1_le, lt_m1, le_m1, eq_m1, m1_eq, m1_m2, m2_m1, m2_lt_m1, bI_0, bI_1, bI_t, bI_f, bI_bo, nI0_bo, nI1_bo, if_true, if_false, ite_true, ite_false, Nat.zero_add, Nat.not_lt_zero, Nat.zero_le, not_true_eq_false, not_false_eq_true, or_false, false_or, true_or, or_true, and_true, true_and, Bool.false_eq_true, Bool.true_eq_false, reduceCtorEq, eq_self]
        · exact sl2_o x2 hf2 v9 v10 v3 y
      · have erw : nI n - nI n / nI 2 * nI 2 = nI (n % 2) := rem_nI (by omega) (by omega) (by omega)
        have e1 : Rd_whole (dWh (dHd D (some 0)) (nI n)) = nI n := rfl
        have y0 : n % 2 = 0 := by omega
        have C3 := CX_TE C2 v6 v7
        have s5 := SE_trans s4 v7
        rw [sl2_e x2 hf2 v9 v10 v3 y]
        rcases b_after (D := dWh (dHd D (some 0)) (nI n)) C3 A3 (x := 12) (by omega) (lo := 1) (hg := 8) (by omega) (by omega) with ⟨m, T3, T4, S4, lt4, m1', m2', a1, a2, a3, a4, a5, A4⟩ | ⟨D', T4, S4, lt4, a1, a3, fb⟩
        · have C4 := CX_TE C3 a4 a5
          have s6 := SE_trans s5 a5
          have te4 := TE_trans te2 a4
          have hx1 : upd (upd fr 0 (nI n)) 1 (nI m) 0 = nI n := by rw [upd_ne (by omega), upd_eq]
          have ew : nI n - nI 1 = nI (n - 1) := pk_sub (by omega)
          rcases b_after (D := dWh (dWh (dHd D (some 0)) (nI n)) (nI m)) C4 A4 (x := 13) (by omega) (lo := 0) (hg := n - 1) (by omega) (by omega) with ⟨s, T5, T6, S5, lt5, r1, r2, b1, b2, b3, b4, b5, A5⟩ | ⟨D', T6, S5, lt5, b1, b3, fb⟩
          · have C5 := CX_TE C4 b4 b5
            have s7 := SE_trans s6 b5
            have te5 := TE_trans te4 b4
            rcases b_after (D := dWh (dWh (dWh (dHd D (some 0)) (nI n)) (nI m)) (nI s)) C5 A5 (x := 14) (by omega) (lo := 0) (hg := 100) (by omega) (by omega) with ⟨c, T7, T8, S6, lt6, r3, r4, c1, c2, c3, c4, c5, A6⟩ | ⟨D', T8, S6, lt6, c1, c3, fb⟩
            · have C6 := CX_TE C5 c4 c5
              have s8 := SE_trans s7 c5
              have te6 := TE_trans te5 c4
              have hf6 := C6.2.2.2.2.2
              have h70 : upd (upd (upd (upd (upd fr 0 (nI n)) 1 (nI m)) 2 (nI s)) 3 (nI c)) 7 (nI 1) 0 = nI n := by rw [upd_ne (by omega), upd_ne (by omega), upd_ne (by omega), upd_ne (by omega), upd_eq]
              have h72 : upd (upd (upd (upd (upd fr 0 (nI n)) 1 (nI m)) 2 (nI s)) 3 (nI c)) 7 (nI 1) 2 = nI s := by rw [upd_ne (by omega), upd_ne (by omega), upd_eq]
              have hm72 : b_X10_storeLine_72 tp S2 fr lt2 rd = some (sMo_ring S6 (nI n), upd (frH fr n m s c) 7 (nI 1), lt6, upd rd 323 (nI s)) := by
                unfold b_X10_storeLine_72 frH
                simp (disch := omega) only [v5, a3, hx1, ew, b3, c3, hf6, h70, h72, ↓lm1, ↓lm2, i0, i1, i2, i3, i4, i5, i6, i7, i8, i9, i10, i12, i16, i20, i24, i31, i32, i44, i48, i57, i59, i63, i64, i74, i75, i90, i96, i97, i99, i100, i122, i139, i140, i144, i192, i200, i240, i255, i304, i309, i310, i311, i323, i324, i325, i899, i900, i975, i999, i5200, i4875, i65536, i65537, i15, ob_some, nI_add, nI_clamp, zn_zib, zn_eq, zn_lt, zn_le, m2_lt, m2_le, lt_m2, le_m2, eq_m2, m2_eq, m1_lt, m1_le, lt_m1, le_m1, eq_m1, m1_eq, m1_m2, m2_m1, m2_lt_m1, bI_0, bI_1, bI_t, bI_f, bI_bo, nI0_bo, nI1_bo, if_true, if_false, ite_true, ite_false, Nat.zero_add, Nat.not_lt_zero, Nat.zero_le, not_true_eq_false, not_false_eq_true, or_false, false_or, true_or, or_true, and_true, true_and, Bool.false_eq_true, Bool.true_eq_false, reduceCtorEq, eq_self]
                unfold sMo_ring
                rw [hf6]
              rw [hm72, ob_some]
              have hFH : ∀ x, x ≠ 0 → x ≠ 1 → x ≠ 2 → x ≠ 3 → x ≠ 7 → x < 140 → upd (frH fr n m s c) 7 (nI 1) x = nI 0 := fun x y0 y1 y2 y3 y7 h => by
                unfold frH
                rw [upd_ne y7, upd_ne y3, upd_ne y2, upd_ne y1, upd_ne y0]
                exact hfr x h
              have e2 : Rd_whole (dWh (dWh (dHd D (some 0)) (nI n)) (nI m)) = nI m := rfl
              have e3 : Rd_whole (dWh (dWh (dWh (dHd D (some 0)) (nI n)) (nI m)) (nI s)) = nI s := rfl
              have e4 : Rd_whole (dWh (dWh (dWh (dWh (dHd D (some 0)) (nI n)) (nI m)) (nI s)) (nI c)) = nI c := rfl
              obtain ⟨R', k1, k2⟩ := init_FR (R := R) (rd := upd rd 323 (nI s)) (n := n) (m := m) (c := c) (s := s) (b := b + 1) ⟨v1, v2, y0, m1', m2'⟩ (by omega) r4 hb (fun i hi => by
                by_cases w : i = 323
                · rw [w, upd_eq, if_neg (by omega), if_pos rfl]
                · rw [upd_ne w, hrd i hi, if_neg w]
                  split
                  · rfl
                  · rfl)
              have h77 : upd (frH fr n m s c) 7 (nI 1) 7 = nI 1 := upd_eq
              have fm8 : FM S (sMo_ring S6 (nI n)) := FM_trans (S' := S6) (SE_FM s8) ⟨rfl, rfl, rfl, rfl, rfl⟩
              have sz8 : Mo_size (sMo_ring S6 (nI n)) = Mo_size S := SE_size (S' := S6) s8
              have fa8 : Mo_fault (sMo_ring S6 (nI n)) = nI 0 := (SE_fault (S' := S6) s8).trans f2
              rcases b_end (D := dWh (dWh (dWh (dWh (dHd D (some 0)) (nI n)) (nI m)) (nI s)) (nI c)) A6 with ⟨T9, p9, d1, d2, d3, d4⟩ | ⟨T9, d1, d2, d3⟩
              · have hrl2 : f_X5_readLine D E R T = some (nI 1, dWh (dWh (dWh (dWh (dHd D (some 0)) (nI n)) (nI m)) (nI s)) (nI c), E, R', T9) := by
                  rw [hrl]
                  simp (disch := omega) only [x1, v4, e1, erw, y0, a1, a2, e2, b1, ew, b2, e3, c1, c2, e4, d1, k1, ↓lm1, ↓lm2, i0, i1, i2, i3, i4, i5, i6, i7, i8, i9, i10, i12, i16, i20, i24, i31, i32, i44, i48, i57, i59, i63, i64, i74, i75, i90, i96, i97, i99, i100, i122, i139, i140, i144, i192, i200, i240, i255, i304, i309, i310, i311, i323, i324, i325, i899, i900, i975, i999, i5200, i4875, i65536, i65537, i15, ob_some, nI_add, nI_clamp, zn_zib, zn_eq, zn_lt, zn_le, m2_lt, m2_le, lt_m2, le_m2, eq_m2, m2_eq, m1_lt, m1_le, lt_m1, le_m1, eq_m1, m1_eq, m1_m2, m2_m1, m2_lt_m1, bI_0, bI_1, bI_t, bI_f, bI_bo, nI0_bo, nI1_bo, if_true, if_false, ite_true, ite_false, Nat.zero_add, Nat.not_lt_zero, Nat.zero_le, not_true_eq_false, not_false_eq_true, or_false, false_or, true_or, or_true, and_true, true_and, Bool.false_eq_true, Bool.true_eq_false, reduceCtorEq, eq_self]
                obtain ⟨yy, hyy⟩ := T_slotNamed (D := dWh (dWh (dWh (dWh (dHd D (some 0)) (nI n)) (nI m)) (nI s)) (nI c)) (Rd_name (dWh (dWh (dWh (dWh (dHd D (some 0)) (nI n)) (nI m)) (nI s)) (nI c)))
                have hda := T_da_0 (R := R') (D := dWh (dWh (dWh (dWh (dHd D (some 0)) (nI n)) (nI m)) (nI s)) (nI c)) rfl hyy
                refine .inl ⟨_, E, R', T9, _, R', p9, n, m, c, (sMo_ring S6 (nI n), upd (frH fr n m s c) 7 (nI 1), lt6, mk, oq, ow, upd rd 323 (nI s), sl), hrl2, hda, rfl, TE_trans te6 d2, fm8, hf6, sz8, by omega, d4, ⟨0, 0, 0, fun _ => 0, fun _ => 0, fun _ => 0, f1, fa8, ⟨h70, ?_, ?_, h77⟩, rfl, k2, nc, hFH 6 (by omega) (by omega) (by omega) (by omega) (by omega) (by omega), ⟨by omega, fun i hi => absurd hi (Nat.not_lt_zero i), fun i j _ hj => absurd hj (Nat.not_lt_zero j), fun i _ hi => hFH _ (by omega) (by omega) (by omega) (by omega) (by omega) (by omega)⟩, fun i hi => absurd hi (Nat.not_lt_zero i), fun i hi => absurd hi (Nat.not_lt_zero i), ⟨fun i hi => absurd hi (Nat.not_lt_zero i), fun i j hi => absurd hi (Nat.not_lt_zero i)⟩, uc, ⟨by omega, hFH 4 (by omega) (by omega) (by omega) (by omega) (by omega) (by omega), fun k hk => absurd hk (Nat.not_lt_zero k)⟩, ⟨by omega, sc, ec, hFH 5 (by omega) (by omega) (by omega) (by omega) (by omega) (by omega), fun k hk => absurd hk (Nat.not_lt_zero k), fun i j _ hj => absurd hj (Nat.not_lt_zero j), fun r hr _ => hFH _ (by omega) (by omega) (by omega) (by omega) (by omega) (by omega)⟩⟩⟩
                · show upd (frH fr n m s c) 7 (nI 1) 1 = nI m
                  unfold frH
                  rw [upd_ne (by omega), upd_ne (by omega), upd_ne (by omega), upd_eq]
                · show upd (frH fr n m s c) 7 (nI 1) 3 = nI c
                  unfold frH
                  rw [upd_ne (by omega), upd_eq]
              · refine LO_tr (sMo_ring S6 (nI n), upd (frH fr n m s c) 7 (nI 1), lt6, mk, oq, ow, upd rd 323 (nI s), sl) (E' := E) (R' := R) (T' := T9) (D' := flD (dWh (dWh (dWh (dWh (dHd D (some 0)) (nI n)) (nI m)) (nI s)) (nI c)) (nI 1) (Mo_at S6)) ?_ rfl ⟨TE_trans te6 d2, fm8, hf6, d3, rfl, rfl⟩
                rw [hrl]
                simp (disch := omega) only [x1, v4, e1, erw, y0, a1, a2, b1, ew, b2, c1, c2, d1, ↓lm1, ↓lm2, i0, i1, i2, i3, i4, i5, i6, i7, i8, i9, i10, i12, i16, i20, i24, i31, i32, i44, i48, i57, i59, i63, i64, i74, i75, i90, i96, i97, i99, i100, i122, i139, i140, i144, i192, i200, i240, i255, i304, i309, i310, i311, i323, i324, i325, i899, i900, i975, i999, i5200, i4875, i65536, i65537, i15, ob_some, nI_add, nI_clamp, zn_zib, zn_eq, zn_lt, zn_le, m2_lt, m2_le, lt_m2, le_m2, eq_m2, m2_eq, m1_lt, m1_le, lt_m1, le_m1, eq_m1, m1_eq, m1_m2, m2_m1, m2_lt_m1, bI_0, bI_1, bI_t, bI_f, bI_bo, nI0_bo, nI1_bo, if_true, if_false, ite_true, ite_false, Nat.zero_add, Nat.not_lt_zero, Nat.zero_le, not_true_eq_false, not_false_eq_true, or_false, false_or, true_or, or_true, and_true, true_and, Bool.false_eq_true, Bool.true_eq_false, reduceCtorEq, eq_self]
            · have hff := fb.2.2.1
              have hm72 : b_X10_storeLine_72 tp S2 fr lt2 rd = some (S6, frH fr n m s 0, lt6, rd) := by
                unfold b_X10_storeLine_72 frH
                simp (disch := omega) only [v5, a3, hx1, ew, b3, c3, hff, ↓lm1, ↓lm2, i0, i1, i2, i3, i4, i5, i6, i7, i8, i9, i10, i12, i16, i20, i24, i31, i32, i44, i48, i57, i59, i63, i64, i74, i75, i90, i96, i97, i99, i100, i122, i139, i140, i144, i192, i200, i240, i255, i304, i309, i310, i311, i323, i324, i325, i899, i900, i975, i999, i5200, i4875, i65536, i65537, i15, ob_some, nI_add, nI_clamp, zn_zib, zn_eq, zn_lt, zn_le, m2_lt, m2_le, lt_m2, le_m2, eq_m2, m2_eq, m1_lt, m1_le, lt_m1, le_m1, eq_m1, m1_eq, m1_m2, m2_m1, m2_lt_m1, bI_0, bI_1, bI_t, bI_f, bI_bo, nI0_bo, nI1_bo, if_true, if_false, ite_true, ite_false, Nat.zero_add, Nat.not_lt_zero, Nat.zero_le, not_true_eq_false, not_false_eq_true, or_false, false_or, true_or, or_true, and_true, true_and, Bool.false_eq_true, Bool.true_eq_false, reduceCtorEq, eq_self]
              refine LO_bad (S6, frH fr n m s 0, lt6, mk, oq, ow, rd, sl) (E' := E) (R' := R) (T' := T8) (D' := D') ?_ (by rw [hm72, ob_some]) (FB_pre te5 s7 fb)
              rw [hrl]
              rcases c1 with c1 | ⟨T7, c1, c2⟩
              · simp (disch := omega) only [x1, v4, e1, erw, y0, a1, a2, b1, ew, b2, c1, ↓lm1, ↓lm2, i0, i1, i2, i3, i4, i5, i6, i7, i8, i9, i10, i12, i16, i20, i24, i31, i32, i44, i48, i57, i59, i63, i64, i74, i75, i90, i96, i97, i99, i100, i122, i139, i140, i144, i192, i200, i240, i255, i304, i309, i310, i311, i323, i324, i325, i899, i900, i975, i999, i5200, i4875, i65536, i65537, i15, ob_some, nI_add, nI_clamp, zn_zib, zn_eq, zn_lt, zn_le, m2_lt, m2_le, lt_m2, le_m2, eq_m2, m2_eq, m1_lt, m1_le, lt_m1, le_m1, eq_m1, m1_eq, m1_m2, m2_m1, m2_lt_m1, bI_0, bI_1, bI_t, bI_f, bI_bo, nI0_bo, nI1_bo, if_true, if_false, ite_true, ite_false, Nat.zero_add, Nat.not_lt_zero, Nat.zero_le, not_true_eq_false, not_false_eq_true, or_false, false_or, true_or, or_true, and_true, true_and, Bool.false_eq_true, Bool.true_eq_false, reduceCtorEq, eq_self]
              · simp (disch := omega) only [x1, v4, e1, erw, y0, a1, a2, b1, ew, b2, c1, c2, ↓lm1, ↓lm2, i0, i1, i2, i3, i4, i5, i6, i7, i8, i9, i10, i12, i16, i20, i24, i31, i32, i44, i48, i57, i59, i63, i64, i74, i75, i90, i96, i97, i99, i100, i122, i139, i140, i144, i192, i200, i240, i255, i304, i309, i310, i311, i323, i324, i325, i899, i900, i975, i999, i5200, i4875, i65536, i65537, i15, ob_some, nI_add, nI_clamp, zn_zib, zn_eq, zn_lt, zn_le, m2_lt, m2_le, lt_m2, le_m2, eq_m2, m2_eq, m1_lt, m1_le, lt_m1, le_m1, eq_m1, m1_eq, m1_m2, m2_m1, m2_lt_m1, bI_0, bI_1, bI_t, bI_f, bI_bo, nI0_bo, nI1_bo, if_true, if_false, ite_true, ite_false, Nat.zero_add, Nat.not_lt_zero, Nat.zero_le, not_true_eq_false, not_false_eq_true, or_false, false_or, true_or, or_true, and_true, true_and, Bool.false_eq_true, Bool.true_eq_false, reduceCtorEq, eq_self]
          · have hff := fb.2.2.1
            have hm72 : b_X10_storeLine_72 tp S2 fr lt2 rd = some (S5, frH fr n m 0 0, lt5, rd) := by
              unfold b_X10_storeLine_72 frH
              simp (disch := omega) only [v5, a3, hx1, ew, b3, M_after_f hff, hff, ↓lm1, ↓lm2, i0, i1, i2, i3, i4, i5, i6, i7, i8, i9, i10, i12, i16, i20, i24, i31, i32, i44, i48, i57, i59, i63, i64, i74, i75, i90, i96, i97, i99, i100, i122, i139, i140, i144, i192, i200, i240, i255, i304, i309, i310, i311, i323, i324, i325, i899, i900, i975, i999, i5200, i4875, i65536, i65537, i15, ob_some, nI_add, nI_clamp, zn_zib, zn_eq, zn_lt, zn_le, m2_lt, m2_le, lt_m2, le_m2, eq_m2, m2_eq, m1_lt, m1_le, lt_m1, le_m1, eq_m1, m1_eq, m1_m2, m2_m1, m2_lt_m1, bI_0, bI_1, bI_t, bI_f, bI_bo, nI0_bo, nI1_bo, if_true, if_false, ite_true, ite_false, Nat.zero_add, Nat.not_lt_zero, Nat.zero_le, not_true_eq_false, not_false_eq_true, or_false, false_or, true_or, or_true, and_true, true_and, Bool.false_eq_true, Bool.true_eq_false, reduceCtorEq, eq_self]
            refine LO_bad (S5, frH fr n m 0 0, lt5, mk, oq, ow, rd, sl) (E' := E) (R' := R) (T' := T6) (D' := D') ?_ (by rw [hm72, ob_some]) (FB_pre te4 s6 fb)
            rw [hrl]
            rcases b1 with b1 | ⟨T5, b1, b2⟩
            · simp (disch := omega) only [x1, v4, e1, erw, y0, a1, a2, b1, ↓lm1, ↓lm2, i0, i1, i2, i3, i4, i5, i6, i7, i8, i9, i10, i12, i16, i20, i24, i31, i32, i44, i48, i57, i59, i63, i64, i74, i75, i90, i96, i97, i99, i100, i122, i139, i140, i144, i192, i200, i240, i255, i304, i309, i310, i311, i323, i324, i325, i899, i900, i975, i999, i5200, i4875, i65536, i65537, i15, ob_some, nI_add, nI_clamp, zn_zib, zn_eq, zn_lt, zn_le, m2_lt, m2_le, lt_m2, le_m2, eq_m2, m2_eq, m1_lt, m1_le, lt_m1, le_m1, eq_m1, m1_eq, m1_m2, m2_m1, m2_lt_m1, bI_0, bI_1, bI_t, bI_f, bI_bo, nI0_bo, nI1_bo, if_true, if_false, ite_true, ite_false, Nat.zero_add, Nat.not_lt_zero, Nat.zero_le, not_true_eq_false, not_false_eq_true, or_false, false_or, true_or, or_true, and_true, true_and, Bool.false_eq_true, Bool.true_eq_false, reduceCtorEq, eq_self]
            · simp (disch := omega) only [x1, v4, e1, erw, y0, a1, a2, b1, ew, b2, ↓lm1, ↓lm2, i0, i1, i2, i3, i4, i5, i6, i7, i8, i9, i10, i12, i16, i20, i24, i31, i32, i44, i48, i57, i59, i63, i64, i74, i75, i90, i96, i97, i99, i100, i122, i139, i140, i144, i192, i200, i240, i255, i304, i309, i310, i311, i323, i324, i325, i899, i900, i975, i999, i5200, i4875, i65536, i65537, i15, ob_some, nI_add, nI_clamp, zn_zib, zn_eq, zn_lt, zn_le, m2_lt, m2_le, lt_m2, le_m2, eq_m2, m2_eq, m1_lt, m1_le, lt_m1, le_m1, eq_m1, m1_eq, m1_m2, m2_m1, m2_lt_m1, bI_0, bI_1, bI_t, bI_f, bI_bo, nI0_bo, nI1_bo, if_true, if_false, ite_true, ite_false, Nat.zero_add, Nat.not_lt_zero, Nat.zero_le, not_true_eq_false, not_false_eq_true, or_false, false_or, true_or, or_true, and_true, true_and, Bool.false_eq_true, Bool.true_eq_false, reduceCtorEq, eq_self]
        · have hff := fb.2.2.1
          have hm72 : b_X10_storeLine_72 tp S2 fr lt2 rd = some (S4, frH fr n 1 0 0, lt4, rd) := by
            unfold b_X10_storeLine_72 frH
            simp (disch := omega) only [v5, a3, M_after_f hff, hff, ↓lm1, ↓lm2, i0, i1, i2, i3, i4, i5, i6, i7, i8, i9, i10, i12, i16, i20, i24, i31, i32, i44, i48, i57, i59, i63, i64, i74, i75, i90, i96, i97, i99, i100, i122, i139, i140, i144, i192, i200, i240, i255, i304, i309, i310, i311, i323, i324, i325, i899, i900, i975, i999, i5200, i4875, i65536, i65537, i15, ob_some, nI_add, nI_clamp, zn_zib, zn_eq, zn_lt, zn_le, m2_lt, m2_le, lt_m2, le_m2, eq_m2, m2_eq, m1_lt, m1_le, lt_m1, le_m1, eq_m1, m1_eq, m1_m2, m2_m1, m2_lt_m1, bI_0, bI_1, bI_t, bI_f, bI_bo, nI0_bo, nI1_bo, if_true, if_false, ite_true, ite_false, Nat.zero_add, Nat.not_lt_zero, Nat.zero_le, not_true_eq_false, not_false_eq_true, or_false, false_or, true_or, or_true, and_true, true_and, Bool.false_eq_true, Bool.true_eq_false, reduceCtorEq, eq_self]
          refine LO_bad (S4, frH fr n 1 0 0, lt4, mk, oq, ow, rd, sl) (E' := E) (R' := R) (T' := T4) (D' := D') ?_ (by rw [hm72, ob_some]) (FB_pre te2 s5 fb)
          rw [hrl]
          rcases a1 with a1 | ⟨T3, a1, a2⟩
          · simp (disch := omega) only [x1, v4, e1, erw, y0, a1, ↓lm1, ↓lm2, i0, i1, i2, i3, i4, i5, i6, i7, i8, i9, i10, i12, i16, i20, i24, i31, i32, i44, i48, i57, i59, i63, i64, i74, i75, i90, i96, i97, i99, i100, i122, i139, i140, i144, i192, i200, i240, i255, i304, i309, i310, i311, i323, i324, i325, i899, i900, i975, i999, i5200, i4875, i65536, i65537, i15, ob_some, nI_add, nI_clamp, zn_zib, zn_eq, zn_lt, zn_le, m2_lt, m2_le, lt_m2, le_m2, eq_m2, m2_eq, m1_lt, m1_le, lt_m1, le_m1, eq_m1, m1_eq, m1_m2, m2_m1, m2_lt_m1, bI_0, bI_1, bI_t, bI_f, bI_bo, nI0_bo, nI1_bo, if_true, if_false, ite_true, ite_false, Nat.zero_add, Nat.not_lt_zero, Nat.zero_le, not_true_eq_false, not_false_eq_true, or_false, false_or, true_or, or_true, and_true, true_and, Bool.false_eq_true, Bool.true_eq_false, reduceCtorEq, eq_self]
          · simp (disch := omega) only [x1, v4, e1, erw, y0, a1, a2, ↓lm1, ↓lm2, i0, i1, i2, i3, i4, i5, i6, i7, i8, i9, i10, i12, i16, i20, i24, i31, i32, i44, i48, i57, i59, i63, i64, i74, i75, i90, i96, i97, i99, i100, i122, i139, i140, i144, i192, i200, i240, i255, i304, i309, i310, i311, i323, i324, i325, i899, i900, i975, i999, i5200, i4875, i65536, i65537, i15, ob_some, nI_add, nI_clamp, zn_zib, zn_eq, zn_lt, zn_le, m2_lt, m2_le, lt_m2, le_m2, eq_m2, m2_eq, m1_lt, m1_le, lt_m1, le_m1, eq_m1, m1_eq, m1_m2, m2_m1, m2_lt_m1, bI_0, bI_1, bI_t, bI_f, bI_bo, nI0_bo, nI1_bo, if_true, if_false, ite_true, ite_false, Nat.zero_add, Nat.not_lt_zero, Nat.zero_le, not_true_eq_false, not_false_eq_true, or_false, false_or, true_or, or_true, and_true, true_and, Bool.false_eq_true, Bool.true_eq_false, reduceCtorEq, eq_self]
    · have hcl : f_X5_readLine D E R T = some (nI 0, D', E, R, T2) := by
        rw [hrl]
        simp (disch := omega) only [x1, v4, ↓lm1, ↓lm2, i0, i1, i2, i3, i4, i5, i6, i7, i8, i9, i10, i12, i16, i20, i24, i31, i32, i44, i48, i57, i59, i63, i64, i74, i75, i90, i96, i97, i99, i100, i122, i139, i140, i144, i192, i200, i240, i255, i304, i309, i310, i311, i323, i324, i325, i899, i900, i975, i999, i5200, i4875, i65536, i65537, i15, ob_some, nI_add, nI_clamp, zn_zib, zn_eq, zn_lt, zn_le, m2_lt, m2_le, lt_m2, le_m2, eq_m2, m2_eq, m1_lt, m1_le, lt_m1, le_m1, eq_m1, m1_eq, m1_m2, m2_m1, m2_lt_m1, bI_0, bI_1, bI_t, bI_f, bI_bo, nI0_bo, nI1_bo, if_true, if_false, ite_true, ite_false, Nat.zero_add, Nat.not_lt_zero, Nat.zero_le, not_true_eq_false, not_false_eq_true, or_false, false_or, true_or, or_true, and_true, true_and, Bool.false_eq_true, Bool.true_eq_false, reduceCtorEq, eq_self]
      have hff := fb.2.2.1
      have fb2 := FB_pre x3 s4 fb
      have num72 : b_X10_storeLine_72 tp S2 fr lt2 rd = some (S3, frH fr 8 1 0 0, lt2, rd) := by
        unfold b_X10_storeLine_72 frH
        simp (disch := omega) only [v5, M_after_f hff, hff, ↓lm1, ↓lm2, i0, i1, i2, i3, i4, i5, i6, i7, i8, i9, i10, i12, i16, i20, i24, i31, i32, i44, i48, i57, i59, i63, i64, i74, i75, i90, i96, i97, i99, i100, i122, i139, i140, i144, i192, i200, i240, i255, i304, i309, i310, i311, i323, i324, i325, i899, i900, i975, i999, i5200, i4875, i65536, i65537, i15, ob_some, nI_add, nI_clamp, zn_zib, zn_eq, zn_lt, zn_le, m2_lt, m2_le, lt_m2, le_m2, eq_m2, m2_eq, m1_lt, m1_le, lt_m1, le_m1, eq_m1, m1_eq, m1_m2, m2_m1, m2_lt_m1, bI_0, bI_1, bI_t, bI_f, bI_bo, nI0_bo, nI1_bo, if_true, if_false, ite_true, ite_false, Nat.zero_add, Nat.not_lt_zero, Nat.zero_le, not_true_eq_false, not_false_eq_true, or_false, false_or, true_or, or_true, and_true, true_and, Bool.false_eq_true, Bool.true_eq_false, reduceCtorEq, eq_self]
      have good : sl2 tp fr rd S1 lt1 = b_X10_storeLine_72 tp S2 fr lt2 rd → LO D E R T S ((sl2 tp fr rd S1 lt1).bind (fun q27 => some (q27.1, q27.2.1, q27.2.2.1, mk, oq, ow, q27.2.2.2, sl))) kf L p b := fun hmo => by
        refine LO_bad (S3, frH fr 8 1 0 0, lt2, mk, oq, ow, rd, sl) hcl ?_ fb2
        rw [hmo, num72, ob_some]
      rcases v8 with ⟨w1, w2⟩ | ⟨v, w1, w2, w3, w4, w5⟩
      · exact good (sl2_t x2 hf2 w1)
      · by_cases y : v % 2 = 1
        · exact bad1 (S2 := wrS S2 (nI 4) (Mo_at S2)) (lt2 := lt2) rfl hcl ⟨fb2.1, FM_trans (SE_FM s4) (FM_wr _ _ _), rfl, fb2.2.2.2.1.trans w5, fb2.2.2.2.2.trans v9⟩ (sl2_o x2 hf2 w1 w2 w3 y)
        · exact good (sl2_e x2 hf2 w1 w2 w3 y)
  · have hff := fb.2.2.1
    refine bad1 (S2 := S2) (lt2 := lt1) hff (D' := D') (T' := T1) ?_ (FB_pre (TE_rfl T) s3 fb) (sl2_n x2 hff)
    rw [hrl]
    simp (disch := omega) only [x1, ↓lm1, ↓lm2, i0, i1, i2, i3, i4, i5, i6, i7, i8, i9, i10, i12, i16, i20, i24, i31, i32, i44, i48, i57, i59, i63, i64, i74, i75, i90, i96, i97, i99, i100, i122, i139, i140, i144, i192, i200, i240, i255, i304, i309, i310, i311, i323, i324, i325, i899, i900, i975, i999, i5200, i4875, i65536, i65537, i15, ob_some, nI_add, nI_clamp, zn_zib, zn_eq, zn_lt, zn_le, m2_lt, m2_le, lt_m2, le_m2, eq_m2, m2_eq, m1_lt, m1_le, lt_m1, le_m1, eq_m1, m1_eq, m1_m2, m2_m1, m2_lt_m1, bI_0, bI_1, bI_t, bI_f, bI_bo, nI0_bo, nI1_bo, if_true, if_false, ite_true, ite_false, Nat.zero_add, Nat.not_lt_zero, Nat.zero_le, not_true_eq_false, not_false_eq_true, or_false, false_or, true_or, or_true, and_true, true_and, Bool.false_eq_true, Bool.true_eq_false, reduceCtorEq, eq_self]
end
