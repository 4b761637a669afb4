/-! what both sides hold between calls; a store keeps it -/
def TT (Tp : STape) (S : SMo) (tp : Nat → Int32) : Prop := ∃ (z : Nat) (kf : Nat → Nat), z ≤ 900 ∧ Tape_size Tp = nI z ∧ Mo_taped S = nI z ∧ TB (Tape_bytes Tp) tp kf z
def IV (T : SSR) (E : SEv) (Hi : SHi) (P : SPool) (R : SRows) (Tp : STape) (S : SMo) (r on og tl st und kpt tp : Nat → Int32) (b : Nat) : Prop := TA R Hi P S r st und kpt b ∧ ER E S r on og tl ∧ SR_troubleNumber T = Mo_trouble S ∧ SR_faultNumber T = Mo_fault S ∧ (Mo_trouble S = nI 4 → SR_faultPlace T = Mo_place S) ∧ TT Tp S tp ∧ (Mo_hasStore S = nI 0 → r 0 = nI 0)
theorem TA_nw {R : SRows} {Hi : SHi} {P : SPool} {S : SMo} {r st und kpt : Nat → Int32} {b : Nat} (h : TA R Hi P S r st und kpt b) : ∃ nw, nw < 16 ∧ Hi_newest Hi = nI nw := by
  rcases h with ⟨-, g⟩ | ⟨n, m, c, -, a, i, nw, -, -, h3, -, -, h6, -⟩
  · exact g.2.2.1
  · exact ⟨nw, h3, h6⟩
theorem TA_hs {R : SRows} {Hi : SHi} {P : SPool} {S : SMo} {r st und kpt : Nat → Int32} {b : Nat} (h : TA R Hi P S r st und kpt b) : (Mo_hasStore S = nI 0 ∧ Mo_ring S = nI 0) ∨ (Mo_hasStore S = nI 1 ∧ Mo_ring S = r 0) := by
  rcases h with ⟨h, -⟩ | ⟨n, m, c, h, -⟩
  · exact .inl ⟨h.1, h.2.1⟩
  · exact .inr ⟨h.1, h.2.1.trans h.2.2.1.symm⟩
theorem ER_S {E : SEv} {S S' : SMo} {r on og told : Nat → Int32} (h : ER E S r on og told) (e : Mo_hasStore S' = Mo_hasStore S) : ER E S' r on og told := by
  rcases h with ⟨h, g⟩ | ⟨h, g⟩
  · exact .inl ⟨e.trans h, g⟩
  · exact .inr ⟨e.trans h, g⟩
section
variable {T : SSR} {E E2 : SEv} {Hi : SHi} {P : SPool} {D : SRd} {R R2 : SRows} {Tp : STape} {S : SMo} {fr lt mk og oq on ow r rd sl st tl tp und kpt : Nat → Int32} {b : Nat}
def stT (Tp : STape) (L : Nat) : STape := mkTape (nI 0) (Tape_kind Tp) (Tape_start Tp) (Tape_value Tp) (nI 0) (nI L) (Tape_bytes Tp)
def stS (S : SMo) : SMo := mkMo (nI 0) (nI 0) (Mo_size S) (Mo_at S) (Mo_end S) (Mo_token S) (Mo_whole S) (Mo_nameSize S) (nI 0) (Mo_place S) (nI 0) (nI 0) (Mo_hasStore S) (Mo_undos S) (Mo_images S) (Mo_ring S) (Mo_refused S) (Mo_setMany S) (Mo_someOf S) (Mo_allOf S) (Mo_firstRest S) (Mo_allWeight S) (Mo_seenWeight S) (Mo_sumWeight S)
def stL (S : SMo) (L : Nat) : SMo := mkMo (nI 0) (nI 0) (nI L) (Mo_at S) (nI 0) (Mo_token S) (Mo_whole S) (Mo_nameSize S) (nI 0) (Mo_place S) (nI 0) (nI 0) (Mo_hasStore S) (Mo_undos S) (Mo_images S) (Mo_ring S) (Mo_refused S) (Mo_setMany S) (Mo_someOf S) (Mo_allOf S) (Mo_firstRest S) (Mo_allWeight S) (Mo_seenWeight S) (Mo_sumWeight S)
theorem stL_eq (S : SMo) (L : Nat) : sMo_end (sMo_size (stS S) (nI L)) (nI 0) = stL S L := rfl
theorem M_store_in {L : Nat} (hL : L ≤ 900) (hin : f_X10_in (nI L) (0 : Int32) (Mo_taped (AN S)) = some (nI 1)) : ∃ fr' rd' ow' sl', f_X10_store S fr lt mk og oq on ow r rd sl st tp tl (nI L) = (f_X10_step (stL S L) lt tp).bind (fun q12 => (f_X10_readLine q12.1 fr' q12.2 mk oq ow' rd' sl' tp).bind (fun q13 => MRun tp (nI L) FU q13 og on r st tl)) ∧ (∀ i, i < 140 → fr' i = nI 0) ∧ rd0 rd' 0 := by
  obtain ⟨fr', a1, -, a2⟩ := M_i39 (tp := tp) (x := nI L) (S := stS S) (lt := lt) (mk := mk) (og := og) (oq := oq) (on := on) (ow := ow) (r := r) (rd := rd) (sl := sl) (st := st) (tl := tl) 140 0 FU fr (by omega) (by unfold FU; omega)
  obtain ⟨rd', b1, -, b2⟩ := M_i61 (tp := tp) (x := nI L) (S := stS S) (fr := fr') (lt := lt) (mk := mk) (og := og) (oq := oq) (on := on) (ow := ow) (r := r) (sl := sl) (st := st) (tl := tl) 325 0 FU rd (by omega) (by unfold FU; omega)
  obtain ⟨ow', c1⟩ := M_i100 (tp := tp) (x := nI L) (S := stS S) (fr := fr') (lt := lt) (mk := mk) (og := og) (oq := oq) (on := on) (r := r) (rd := rd') (sl := sl) (st := st) (tl := tl) 64 0 FU ow (by omega) (by unfold FU; omega)
  obtain ⟨sl', d1⟩ := M_i121 (tp := tp) (x := nI L) (S := stS S) (fr := fr') (lt := lt) (mk := mk) (og := og) (oq := oq) (on := on) (ow := ow') (r := r) (rd := rd') (st := st) (tl := tl) 12 0 FU sl (by omega) (by unfold FU; omega)
  refine ⟨fr', rd', ow', sl', ?_, fun i hi => a2 i (by omega) hi, fun i hi => ?_⟩
  · rw [stL_eq] at d1
    rw [← d1, ← c1, ← b1, ← a1]
    unfold f_X10_store
    rw [M_anew, ob_some, hin, ob_some, if_neg z1e]
    rfl
  · rw [b2 i (by omega) hi]
    by_cases z : 304 ≤ i ∧ i ≤ 309
    · rw [if_pos z, if_pos z]
    · rw [if_neg z, if_neg z]
      by_cases y : i = 323
      · rw [if_pos y]
      · rw [if_neg y]
theorem X2_takeOver (E E3 : SEv) : ∃ E4, f_X2_takeOver E E3 = some E4 ∧ Ev_unsureCount E4 = Ev_unsureCount E3 ∧ Ev_seenCount E4 = Ev_seenCount E3 ∧ (∀ k, k < 4 → Ev_flips E4 k = Ev_flips E3 k) ∧ (∀ k, k < 8 → Ev_seenRows E4 k = Ev_seenRows E3 k) ∧ ∀ k, k < 8 → Ev_seenValues E4 k = Ev_seenValues E3 k := by
  have e0 : (0 : Int32).toNatClampNeg = 0 := by decide
  have e4 : (4 : Int32).toNatClampNeg = 4 := by decide
  have e8 : (8 : Int32).toNatClampNeg = 8 := by decide
  refine ⟨_, rfl, rfl, rfl, fun k hk => ?_, fun k hk => ?_, fun k hk => ?_⟩
  · show va_cpy (Ev_flips E3) (Ev_flips E) (0 : Int32).toNatClampNeg (0 : Int32).toNatClampNeg (4 : Int32).toNatClampNeg k = Ev_flips E3 k
    rw [e0, e4, pk_cpy_in (by omega) (by omega)]
    congr 1
    omega
  · show va_cpy (Ev_seenRows E3) (Ev_seenRows E) (0 : Int32).toNatClampNeg (0 : Int32).toNatClampNeg (8 : Int32).toNatClampNeg k = Ev_seenRows E3 k
    rw [e0, e8, pk_cpy_in (by omega) (by omega)]
    congr 1
    omega
  · show va_cpy (Ev_seenValues E3) (Ev_seenValues E) (0 : Int32).toNatClampNeg (0 : Int32).toNatClampNeg (8 : Int32).toNatClampNeg k = Ev_seenValues E3 k
    rw [e0, e8, pk_cpy_in (by omega) (by omega)]
    congr 1
    omega
def SO (P : SPool) (und kpt tp : Nat → Int32) (b : Nat) (x : Option (Int32 × SSR × SEv × SHi × SRd × SRows × SEv × SRows × STape)) (y : Option (Int32 × SMo × (Nat → Int32) × (Nat → Int32) × (Nat → Int32) × (Nat → Int32) × (Nat → Int32) × (Nat → Int32) × (Nat → Int32) × (Nat → Int32) × (Nat → Int32) × (Nat → Int32) × (Nat → Int32) × (Nat → Int32))) : Prop := ∃ a T' E' Hi' D' R' E2' R2' Tp' S' fr' lt' mk' og' oq' on' ow' r' rd' sl' st' tl', x = some (a, T', E', Hi', D', R', E2', R2', Tp') ∧ y = some (a, S', fr', lt', mk', og', oq', on', ow', r', rd', sl', st', tl') ∧ IV T' E' Hi' P R' Tp' S' r' on' og' tl' st' und kpt tp b
theorem st_refuse (hb : b < 2 ^ 29) (h : IV T E Hi P R Tp S r on og tl st und kpt tp b) {z : Nat} (hz : z ≤ 900) (t1 : Tape_size Tp = nI z) (t2 : Mo_taped S = nI z) {x : Int32} (hx : x < nI 0 ∨ nI (z + 1) ≤ x) (hin : f_X10_in x (nI 0) (nI z) = some (nI 0)) : SO P und kpt tp b (f_X9_store T E Hi D R E2 R2 Tp x) (f_X10_store S fr lt mk og oq on ow r rd sl st tp tl x) := by
  obtain ⟨hTA, hER, h1, h2, h3, hTT, h7⟩ := id h
  have t2' : Mo_taped (AN S) = nI z := t2
  refine ⟨m1, sSR_troubleNumber T (nI 2), E, Hi, D, R, E2, R2, Tp, sMo_trouble (AN S) (nI 2), fr, lt, mk, og, oq, on, ow, r, rd, sl, st, tl, ?_, ?_, TA_S (Nat.le_refl _) hb rfl rfl rfl rfl hTA, ER_S hER rfl, rfl, h2, fun q => absurd q (by decide : ¬ nI 2 = nI 4), hTT, h7⟩
  · unfold f_X9_store
    by_cases y : x < nI 0
    · simp (disch := omega) only [y, M_anew, M_no, X9_ans, X9_ref, M_why0, M_why10, M_why11, ↓lm1, ↓lm2, i0, i1, i2, i3, i4, i5, i6, i7, i8, i9, i10, i12, i16, i20, i24, i31, i32, i44, i48, i57, i59, i63, i64, i74, i75, i90, i96, i97, i99, i100, i122, i139, i140, i144, i192, i200, i240, i255, i304, i309, i310, i311, i323, i324, i325, i899, i900, i975, i999, i5200, i4875, i65536, i65537, i15, ob_some, nI_add, nI_clamp, zn_zib, zn_eq, zn_lt, zn_le, m2_lt, m2_le, lt_m2, le_m2, eq_m2, m2_eq, m1_lt, m1_le, lt_m1, le_m1, eq_m1, m1_eq, m1_m2, m2_m1, m2_lt_m1, bI_0, bI_1, bI_t, bI_f, bI_bo, nI0_bo, nI1_bo, if_true, if_false, ite_true, ite_false, Nat.zero_add, Nat.not_lt_zero, Nat.zero_le, not_true_eq_false, not_false_eq_true, or_false, false_or, true_or, or_true, and_true, true_and, Bool.false_eq_true, Bool.true_eq_false, reduceCtorEq, eq_self]
    · have y2 : ¬ x ≤ nI z := by
        have := hx.resolve_left y
        rw [fa_le, nI_toInt (by omega)] at this ⊢
        omega
      simp (disch := omega) only [y, t1, y2, M_anew, M_no, X9_ans, X9_ref, M_why0, M_why10, M_why11, ↓lm1, ↓lm2, i0, i1, i2, i3, i4, i5, i6, i7, i8, i9, i10, i12, i16, i20, i24, i31, i32, i44, i48, i57, i59, i63, i64, i74, i75, i90, i96, i97, i99, i100, i122, i139, i140, i144, i192, i200, i240, i255, i304, i309, i310, i311, i323, i324, i325, i899, i900, i975, i999, i5200, i4875, i65536, i65537, i15, ob_some, nI_add, nI_clamp, zn_zib, zn_eq, zn_lt, zn_le, m2_lt, m2_le, lt_m2, le_m2, eq_m2, m2_eq, m1_lt, m1_le, lt_m1, le_m1, eq_m1, m1_eq, m1_m2, m2_m1, m2_lt_m1, bI_0, bI_1, bI_t, bI_f, bI_bo, nI0_bo, nI1_bo, if_true, if_false, ite_true, ite_false, Nat.zero_add, Nat.not_lt_zero, Nat.zero_le, not_true_eq_false, not_false_eq_true, or_false, false_or, true_or, or_true, and_true, true_and, Bool.false_eq_true, Bool.true_eq_false, reduceCtorEq, eq_self]
  · unfold f_X10_store
    simp (disch := omega) only [t2', hin, M_anew, M_no, X9_ans, X9_ref, M_why0, M_why10, M_why11, ↓lm1, ↓lm2, i0, i1, i2, i3, i4, i5, i6, i7, i8, i9, i10, i12, i16, i20, i24, i31, i32, i44, i48, i57, i59, i63, i64, i74, i75, i90, i96, i97, i99, i100, i122, i139, i140, i144, i192, i200, i240, i255, i304, i309, i310, i311, i323, i324, i325, i899, i900, i975, i999, i5200, i4875, i65536, i65537, i15, ob_some, nI_add, nI_clamp, zn_zib, zn_eq, zn_lt, zn_le, m2_lt, m2_le, lt_m2, le_m2, eq_m2, m2_eq, m1_lt, m1_le, lt_m1, le_m1, eq_m1, m1_eq, m1_m2, m2_m1, m2_lt_m1, bI_0, bI_1, bI_t, bI_f, bI_bo, nI0_bo, nI1_bo, if_true, if_false, ite_true, ite_false, Nat.zero_add, Nat.not_lt_zero, Nat.zero_le, not_true_eq_false, not_false_eq_true, or_false, false_or, true_or, or_true, and_true, true_and, Bool.false_eq_true, Bool.true_eq_false, reduceCtorEq, eq_self]
theorem st_bad (hb : b < 2 ^ 29) (h : IV T E Hi P R Tp S r on og tl st und kpt tp b) {L z : Nat} (hx0 : ¬ nI L < nI 0) (t1 : Tape_size Tp = nI z) (hxz : nI L ≤ nI z) {D' : SRd} {E' : SEv} {R' : SRows} {T' : STape} {Y : MXt} {S9 : SMo} (k1 : f_X5_readStore D E2 R2 Tp (nI L) = some (nI 0, D', E', R', T')) (k2 : f_X10_store S fr lt mk og oq on ow r rd sl st tp tl (nI L) = some (m1, sMo_trouble (sMo_ring S9 (r 0)) (nI 4), Y.2.1, Y.2.2.1, Y.2.2.2.1, og, Y.2.2.2.2.1, on, Y.2.2.2.2.2.1, r, Y.2.2.2.2.2.2.1, Y.2.2.2.2.2.2.2, st, tl)) (hT : Tape_size T' = nI 0) (fm : FM (stS S) S9) (k5 : Rd_fault D' = Mo_fault S9) (k6 : Rd_place D' = Mo_place S9) : SO P und kpt tp b (f_X9_store T E Hi D R E2 R2 Tp (nI L)) (f_X10_store S fr lt mk og oq on ow r rd sl st tp tl (nI L)) := by
  obtain ⟨hTA, hER, h1, h2, h3, hTT, h7⟩ := id h
  have e1 : Mo_undos (sMo_trouble (sMo_ring S9 (r 0)) (nI 4)) = Mo_undos S := fm.2.2.2.1
  have e2 : Mo_images (sMo_trouble (sMo_ring S9 (r 0)) (nI 4)) = Mo_images S := fm.2.2.2.2
  have e3 : Mo_hasStore (sMo_trouble (sMo_ring S9 (r 0)) (nI 4)) = Mo_hasStore S := fm.2.2.1
  have e4 : Mo_taped (sMo_trouble (sMo_ring S9 (r 0)) (nI 4)) = nI 0 := fm.1
  have ering : Mo_ring (sMo_trouble (sMo_ring S9 (r 0)) (nI 4)) = Mo_ring S := by
    show r 0 = Mo_ring S
    rcases TA_hs hTA with ⟨q1, q2⟩ | ⟨q1, q2⟩
    · rw [h7 q1, q2]
    · exact q2.symm
  have hc : f_X9_store T E Hi D R E2 R2 Tp (nI L) = some (m1, mkSR (nI 4) (Rd_fault D') (Rd_place D'), E, Hi, D', R, E', R', T') := by
    unfold f_X9_store
    simp (disch := omega) only [hx0, t1, hxz, k1, M_anew, M_no, X9_ans, X9_ref, M_why0, M_why10, M_why11, ↓lm1, ↓lm2, i0, i1, i2, i3, i4, i5, i6, i7, i8, i9, i10, i12, i16, i20, i24, i31, i32, i44, i48, i57, i59, i63, i64, i74, i75, i90, i96, i97, i99, i100, i122, i139, i140, i144, i192, i200, i240, i255, i304, i309, i310, i311, i323, i324, i325, i899, i900, i975, i999, i5200, i4875, i65536, i65537, i15, ob_some, nI_add, nI_clamp, zn_zib, zn_eq, zn_lt, zn_le, m2_lt, m2_le, lt_m2, le_m2, eq_m2, m2_eq, m1_lt, m1_le, lt_m1, le_m1, eq_m1, m1_eq, m1_m2, m2_m1, m2_lt_m1, bI_0, bI_1, bI_t, bI_f, bI_bo, nI0_bo, nI1_bo, if_true, if_false, ite_true, ite_false, Nat.zero_add, Nat.not_lt_zero, Nat.zero_le, not_true_eq_false, not_false_eq_true, or_false, false_or, true_or, or_true, and_true, true_and, Bool.false_eq_true, Bool.true_eq_false, reduceCtorEq, eq_self]
    rfl
  exact ⟨m1, mkSR (nI 4) (Rd_fault D') (Rd_place D'), E, Hi, D', R, E', R', T', sMo_trouble (sMo_ring S9 (r 0)) (nI 4), Y.2.1, Y.2.2.1, Y.2.2.2.1, og, Y.2.2.2.2.1, on, Y.2.2.2.2.2.1, r, Y.2.2.2.2.2.2.1, Y.2.2.2.2.2.2.2, st, tl, hc, k2, TA_S (Nat.le_refl _) hb e1 e2 e3 ering hTA, ER_S hER e3, rfl, k5, fun _ => k6, ⟨0, fun _ => 0, by omega, hT, e4, fun i hi => absurd hi (Nat.not_lt_zero i)⟩, fun q => h7 (e3.symm.trans q)⟩
theorem st_data {Y1 Yo : Nat → Int32} {E5 : SEv} {n u : Nat} (hn : n ≤ 64) (v : ∀ k, k < u → ∃ i s, i < 12 ∧ s < n ∧ Y1 (8 + k) = nI i ∧ Y1 (20 + i) = nI s ∧ ∀ t, t < 64 → lb (Ev_flips E5 k) t = (decide (Yo s = nI (i + 1)) && decide (t = s))) : ∃ (sv : Nat → Nat) (fk : Nat → Bool), (∀ k, k < u → ∃ i, i < 12 ∧ sv k < n ∧ Y1 (8 + k) = nI i ∧ Y1 (20 + i) = nI (sv k) ∧ fk k = decide (Yo (sv k) = nI (i + 1))) ∧ ∀ k, k < u → ∀ t, t < 64 → lb (Ev_flips E5 k) t = (fk k && decide (t = sv k)) := by
  have hh : ∀ k, ∃ s, k < u → ∃ i, i < 12 ∧ s < n ∧ Y1 (8 + k) = nI i ∧ Y1 (20 + i) = nI s ∧ ∀ t, t < 64 → lb (Ev_flips E5 k) t = (decide (Yo s = nI (i + 1)) && decide (t = s)) := fun k => by
    by_cases hk : k < u
    · obtain ⟨i, s, y1, y2, y3, y4, y5⟩ := v k hk
      exact ⟨s, fun _ => ⟨i, y1, y2, y3, y4, y5⟩⟩
    · exact ⟨0, fun z => absurd z hk⟩
  refine ⟨fun k => (hh k).choose, fun k => lb (Ev_flips E5 k) ((hh k).choose), fun k hk => ?_, fun k hk t ht => ?_⟩
  · obtain ⟨i, y1, y2, y3, y4, y5⟩ := (hh k).choose_spec hk
    refine ⟨i, y1, y2, y3, y4, ?_⟩
    have e := y5 ((hh k).choose) (by omega)
    rw [decide_eq_true rfl, Bool.and_true] at e
    exact e
  · obtain ⟨i, y1, y2, y3, y4, y5⟩ := (hh k).choose_spec hk
    have e := y5 ((hh k).choose) (by omega)
    rw [decide_eq_true rfl, Bool.and_true] at e
    have e2 := y5 t ht
    rw [← e] at e2
    exact e2
theorem WQ_told {told told' : Nat → Int32} {n m u ev : Nat} {sv rw' : Nat → Nat} {fk : Nat → Bool} {vals : Nat → Int32} {E7 : SEv} (W : WS told n m) (h : ∀ i, i < 325 → told' i = told i) (q : WQ E7 told u ev sv fk rw' vals) : WQ E7 told' u ev sv fk rw' vals := by
  have hn := WS_n W
  have hwv : ∀ C : Nat → Bool, wv told' rw' vals ev C = wv told rw' vals ev C := fun C => by
    unfold wv
    refine fi_cong (fun k hk => ?_)
    rw [va_st W (fun i hi => h i (by omega)) (fun s _ => rfl)]
  have hcx : ∀ y, wv told' rw' vals ev (cx told' sv fk u y) = wv told rw' vals ev (cx told sv fk u y) := fun y => by
    rw [hwv]
    refine wv_cong W (fun s hs => ?_)
    unfold cx dn
    rw [h _ (by omega)]
  have hfe : ftB told' rw' vals ev sv fk u = ftB told rw' vals ev sv fk u := funext (fun s => by
    unfold ftB
    rw [hcx])
  obtain ⟨a1, a2, a3, a4, a5⟩ := q
  refine ⟨a1, a2, ?_, ?_, ?_⟩
  · rw [hcx]
    exact a3
  · rw [hfe]
    exact a4
  · rw [hfe]
    exact a5
theorem st_good (hb0 : 1000 ≤ b) (hb : b < 2 ^ 29) (h : IV T E Hi P R Tp S r on og tl st und kpt tp b) {L z : Nat} (hx0 : ¬ nI L < nI 0) (t1 : Tape_size Tp = nI z) (hxz : nI L ≤ nI z) {D3 : SRd} {E3 : SEv} {R3 : SRows} {T3 : STape} {Y : MXt} {kf : Nat → Nat} {n m c b3 : Nat} (k1 : f_X5_readStore D E2 R2 Tp (nI L) = (f_X5_tellUnsure D3 E3).bind (fun q5 => some (nI 1, D3, q5, R3, T3))) (k2 : f_X10_store S fr lt mk og oq on ow r rd sl st tp tl (nI L) = M185 tp (nI L) Y og on r st tl) (hT : Tape_size T3 = nI 0) (fm : FM (stS S) Y.1) (k5 : Mo_failed Y.1 = nI 0) (k6 : Mo_token Y.1 = nI 0) (k7 : PS D3 E3 R3 Y.1 Y.2.1 Y.2.2.2.2.1 Y.2.2.2.2.2.1 Y.2.2.2.2.2.2.1 Y.2.2.2.2.2.2.2 kf n m c b3) (k8 : b3 ≤ 1000) : SO P und kpt tp b (f_X9_store T E Hi D R E2 R2 Tp (nI L)) (f_X10_store S fr lt mk og oq on ow r rd sl st tp tl (nI L)) := by
  obtain ⟨Y0, Y1, Y2, Y3, Yq, Yo, Yr, Ys⟩ := Y
  obtain ⟨hTA, hER, h1, h2, h3, hTT, h7⟩ := id h
  obtain ⟨nw, hnw, enw⟩ := TA_nw hTA
  obtain ⟨kn, u, ev, po, le, rw', q1, q2, hd, rg, F, nc, n6, hN, ho, hs, hq, uc, hu, hsn⟩ := id k7
  have hn := WS_n (RC_W F.1)
  have hm := WS_m (RC_W F.1)
  obtain ⟨E5, v1, v2⟩ := T_tell hn.2.1 hN.1 nc ho uc hu hsn.2.2.1
  rw [v1, ob_some] at k1
  obtain ⟨R4, w1, w2⟩ := X6_takeOver R R3
  have H4 := w2 _ _ _ _ F.1
  obtain ⟨E6, x1, x2, x3, x4, x5, x6⟩ := X2_takeOver E E5
  have hev := hsn.1
  have hu4 := hu.1
  obtain ⟨sv, fk, hsv, hfl5⟩ := st_data hn.2.1 v2.2.2.2.2
  have hfl : ∀ k, k < u → ∀ t, t < 64 → lb (Ev_flips E6 k) t = (fk k && decide (t = sv k)) := fun k hk t ht => by
    rw [x4 k (by omega)]
    exact hfl5 k hk t ht
  have hrr : ∀ k, k < ev → rw' k < m ∧ Ev_seenRows E6 k = nI (rw' k) ∧ Ev_seenValues E6 k = Ev_seenValues E3 k := fun k hk => by
    obtain ⟨y1, y2, y3, y4⟩ := hsn.2.2.2.2.1 k hk
    refine ⟨y1, ?_, ?_⟩
    · rw [x5 k (by omega), v2.2.2.1]
      exact y2
    · rw [x6 k (by omega), v2.2.2.2.1]
  obtain ⟨E7, z1, z2⟩ := T_weigh (R := R4) (E := E6) (u := u) (ev := ev) (sv := sv) (fk := fk) (rw' := rw') (vals := Ev_seenValues E3) H4 hu4 hev (x2.trans v2.1) (x3.trans (v2.2.1.trans hsn.2.1)) hrr hfl
  have hk2 := k2.trans (M185_ok (tp := tp) (x := nI L) (og := og) (on := on) (r := r) (st := st) (tl := tl) k5 k6 hd.2.2.2 (RC_W F.1))
  have hct := RO_ct2 H4
  obtain ⟨st', hst'⟩ : ∃ st', st' = fb_put st (fun j => Yr (0 + j)) 0 325 := ⟨_, rfl⟩
  have hsteq : ∀ i, i < 325 → st' i = Yr i := fun i hi => by rw [hst']; exact cp_in hi
  obtain ⟨tl', htl'⟩ : ∃ tl', tl' = fb_put tl (fun j => Yr (0 + j)) 0 325 := ⟨_, rfl⟩
  have htleq : ∀ i, i < 325 → tl' i = Yr i := fun i hi => by rw [htl']; exact cp_in hi
  obtain ⟨r', hr'⟩ : ∃ r', r' = fb_put r (fun j => Y1 (0 + j)) 0 140 := ⟨_, rfl⟩
  have hreq : ∀ i, i < 140 → r' i = Y1 i := fun i hi => by rw [hr']; exact cp_in hi
  obtain ⟨on', hon'⟩ : ∃ on', on' = fb_put on (fun j => Yo (0 + j)) 0 64 := ⟨_, rfl⟩
  have honeq : ∀ i, i < 64 → on' i = Yo i := fun i hi => by rw [hon']; exact cp_in hi
  obtain ⟨og', hog'⟩ : ∃ og', og' = fb_put og (fun j => Yq (0 + j)) 0 8 := ⟨_, rfl⟩
  have hogeq : ∀ i, i < 8 → og' i = Yq i := fun i hi => by rw [hog']; exact cp_in hi
  have hk3 : f_X10_store S fr lt mk og oq on ow r rd sl st tp tl (nI L) = some (nI (fb_ct (lv Yr) 48), sMo_images (sMo_undos (sMo_hasStore Y0 (nI 1)) (nI 0)) (nI 0), Y1, Y2, Y3, og', Yq, on', Yo, r', Yr, Ys, st', tl') := by
    rw [hk2, hst', htl', hr', hon', hog']
  have FF : FR R4 st' n m c b := ⟨RC_congr hsteq H4, IS_congr hsteq hn.2.1 F.2.1, MK_mono (by omega) hb (MK_congr hsteq F.2.2)⟩
  have Wt : WS tl' n m := WS_congr htleq (RC_W F.1)
  have z2' := WQ_told (RC_W F.1) htleq z2
  have hEM : EM r' on' og' tl' n m u ev sv fk rw' (Ev_seenValues E3) := by
    refine ⟨Wt, hu4, hev, (hreq 4 (by omega)).trans hu.2.1, (hreq 5 (by omega)).trans hsn.2.2.2.1, fun k hk => ?_, fun k hk => ?_⟩
    · obtain ⟨i', y1, y2, y3, y4, y5⟩ := hsv k hk
      refine ⟨i', y1, y2, (hreq _ (by omega)).trans y3, (hreq _ (by omega)).trans y4, ?_⟩
      rw [honeq _ (by omega)]
      exact y5
    · obtain ⟨y1, y2, y3, y4⟩ := hsn.2.2.2.2.1 k hk
      refine ⟨y1, (hogeq _ (by omega)).trans y3, ?_⟩
      rw [hreq _ (by omega)]
      exact y4
  have e4 : Mo_trouble (sMo_images (sMo_undos (sMo_hasStore Y0 (nI 1)) (nI 0)) (nI 0)) = nI 0 := fm.2.1
  have e5 : Mo_taped (sMo_images (sMo_undos (sMo_hasStore Y0 (nI 1)) (nI 0)) (nI 0)) = nI 0 := fm.1
  have e6 : Mo_hasStore (sMo_images (sMo_undos (sMo_hasStore Y0 (nI 1)) (nI 0)) (nI 0)) = nI 1 := rfl
  have e7 : Mo_ring (sMo_images (sMo_undos (sMo_hasStore Y0 (nI 1)) (nI 0)) (nI 0)) = nI n := rg
  have e8 : Rd_fault D3 = Mo_fault (sMo_images (sMo_undos (sMo_hasStore Y0 (nI 1)) (nI 0)) (nI 0)) := q1.trans q2.symm
  have hfo : f_X4_forgetAll Hi = some (mkHi (nI 0) (nI 0) (Hi_newest Hi)) := rfl
  have hc : f_X9_store T E Hi D R E2 R2 Tp (nI L) = some (nI (fb_ct (lv Yr) 48), mkSR (nI 0) (Rd_fault D3) (Rd_place D3), E7, mkHi (nI 0) (nI 0) (Hi_newest Hi), D3, R4, E5, R3, T3) := by
    unfold f_X9_store
    simp (disch := omega) only [hx0, t1, hxz, k1, w1, x1, z1, hfo, hct, M_anew, M_no, X9_ans, X9_ref, M_why0, M_why10, M_why11, ↓lm1, ↓lm2, i0, i1, i2, i3, i4, i5, i6, i7, i8, i9, i10, i12, i16, i20, i24, i31, i32, i44, i48, i57, i59, i63, i64, i74, i75, i90, i96, i97, i99, i100, i122, i139, i140, i144, i192, i200, i240, i255, i304, i309, i310, i311, i323, i324, i325, i899, i900, i975, i999, i5200, i4875, i65536, i65537, i15, ob_some, nI_add, nI_clamp, zn_zib, zn_eq, zn_lt, zn_le, m2_lt, m2_le, lt_m2, le_m2, eq_m2, m2_eq, m1_lt, m1_le, lt_m1, le_m1, eq_m1, m1_eq, m1_m2, m2_m1, m2_lt_m1, bI_0, bI_1, bI_t, bI_f, bI_bo, nI0_bo, nI1_bo, if_true, if_false, ite_true, ite_false, Nat.zero_add, Nat.not_lt_zero, Nat.zero_le, not_true_eq_false, not_false_eq_true, or_false, false_or, true_or, or_true, and_true, true_and, Bool.false_eq_true, Bool.true_eq_false, reduceCtorEq, eq_self]
    rfl
  have hQ : Q1 R4 (sMo_images (sMo_undos (sMo_hasStore Y0 (nI 1)) (nI 0)) (nI 0)) r' st' n m c b := ⟨e6, e7, (hreq 0 (by omega)).trans hd.1, (hreq 1 (by omega)).trans hd.2.1, (hreq 3 (by omega)).trans hd.2.2.1, FF.1, FF.2.1, FF.2.2⟩
  have hH : HR (mkHi (nI 0) (nI 0) (Hi_newest Hi)) P (sMo_images (sMo_undos (sMo_hasStore Y0 (nI 1)) (nI 0)) (nI 0)) und kpt n m c b := ⟨0, 0, nw, by omega, by omega, hnw, rfl, rfl, enw, rfl, rfl, fun j hj => absurd hj (Nat.not_lt_zero j), fun j hj => absurd hj (Nat.not_lt_zero j)⟩
  have hEE : ER E7 (sMo_images (sMo_undos (sMo_hasStore Y0 (nI 1)) (nI 0)) (nI 0)) r' on' og' tl' := .inr ⟨e6, n, m, u, ev, sv, fk, rw', Ev_seenValues E3, hEM, z2'⟩
  have hI : IV (mkSR (nI 0) (Rd_fault D3) (Rd_place D3)) E7 (mkHi (nI 0) (nI 0) (Hi_newest Hi)) P R4 T3 (sMo_images (sMo_undos (sMo_hasStore Y0 (nI 1)) (nI 0)) (nI 0)) r' on' og' tl' st' und kpt tp b := by
    refine ⟨.inr ⟨n, m, c, hQ, hH⟩, hEE, e4.symm, e8, fun q => ?_, ⟨0, fun _ => 0, by omega, hT, e5, fun i hi => absurd hi (Nat.not_lt_zero i)⟩, fun q => ?_⟩
    · rw [e4] at q
      exact absurd q (by decide)
    · rw [e6] at q
      exact absurd q (by decide)
  exact ⟨_, _, _, _, _, _, _, _, _, _, _, _, _, _, _, _, _, _, _, _, _, _, hc, hk3, hI⟩
theorem t_store (hb0 : 1000 ≤ b) (hb : b < 2 ^ 29) (h : IV T E Hi P R Tp S r on og tl st und kpt tp b) (x : Int32) : SO P und kpt tp b (f_X9_store T E Hi D R E2 R2 Tp x) (f_X10_store S fr lt mk og oq on ow r rd sl st tp tl x) := by
  obtain ⟨z, kf, hz, t1, t2, t3⟩ := h.2.2.2.2.2.1
  have t2' : Mo_taped (AN S) = nI z := t2
  have hin := M_in (x := x) (by omega : z + 1 < 2 ^ 30)
  have ez : nI (z + 1) - nI 1 = nI z := by rw [pk_sub (by omega), Nat.add_sub_cancel]
  rw [ez] at hin
  rcases ix_cases x (by omega : z + 1 < 2 ^ 30) with ⟨f0, f1⟩ | ⟨f0, L, hLz, rfl⟩
  · rw [f0] at hin
    exact st_refuse hb h hz t1 t2 f1 hin
  · rw [f0] at hin
    have hL : L ≤ 900 := by omega
    obtain ⟨fr0, rd0', ow0, sl0, m1', m2', m3'⟩ := M_store_in (S := S) (fr := fr) (lt := lt) (mk := mk) (og := og) (oq := oq) (on := on) (ow := ow) (r := r) (rd := rd) (sl := sl) (st := st) (tl := tl) (tp := tp) hL (by rw [t2']; exact hin)
    have hBL : TB (Tape_bytes (stT Tp L)) tp kf L := fun i hi => t3 i (by omega)
    obtain ⟨T1, S1, lt1, p, a1, a2, a3, a4, a5, a6⟩ := adv_step (T := stT Tp L) (S := stL S L) (lt := lt) (e := 0) hBL hL rfl rfl rfl rfl (Nat.zero_le L)
    have C1 : CX T1 S1 tp kf L := by
      refine ⟨?_, hL, a5.2.1, a6.2.1, a5.1, SE_failed a6⟩
      rw [a5.2.2]
      exact hBL
    obtain ⟨R0, r0, r1, -⟩ := X6_startAnew R2 (nI 0) (nI 0) (nI 0) (nI 0)
    obtain ⟨E0, hE0⟩ : ∃ E0, E0 = mkEv (0 : Int32) (0 : Int32) (Ev_fitCount E2) (Ev_firstWrong E2) (Ev_flips E2) (Ev_seenRows E2) (Ev_seenValues E2) (Ev_fitSets E2) := ⟨_, rfl⟩
    obtain ⟨D0, hD0⟩ : ∃ D0, D0 = mkRd (0 : Int32) (-2 : Int32) (0 : Int32) (Rd_names D) (Rd_nameStamps D) (Rd_nameSlots D) (Rd_unsureNames D) (0 : Int32) (Rd_head D) (Rd_name D) (Rd_row D) (Rd_whole D) := ⟨_, rfl⟩
    have hNS : NSt D0 E0 R0 S1 fr0 rd0' := ⟨by rw [hD0]; rfl, SE_fault a6, r1, by rw [hD0]; rfl, by rw [hD0]; rfl, by rw [hE0]; rfl, by rw [hE0]; rfl, m2', m3'⟩
    obtain ⟨X, hX⟩ := LO_some (any_line (mk := mk) (oq := oq) (ow := ow0) (sl := sl0) (b := 0) C1 a4 (.inl hNS) (by omega))
    have hmo : f_X10_store S fr lt mk og oq on ow r rd sl st tp tl (nI L) = MRun tp (nI L) FU X og on r st tl := by
      rw [m1', a2, ob_some, hX, ob_some]
    have hlen : (if nI z < nI L then nI z else nI L) = nI L := by
      rw [if_neg (by rw [zn_lt (by omega) (by omega)]; omega)]
    have hst : f_X7_startText Tp (nI L) = some T1 := by
      unfold f_X7_startText
      rw [t1, hlen]
      have a1' : f_X7_advance (mkTape (0 : Int32) (Tape_kind Tp) (Tape_start Tp) (Tape_value Tp) (0 : Int32) (nI L) (Tape_bytes Tp)) = some T1 := a1
      rw [a1', ob_some]
    have hrs : f_X5_readStore D E2 R2 Tp (nI L) = zl5 (b_X5_readStore_49 (nI L)) FU D0 E0 R0 T1 (nI 0) := by
      have r0' : f_X6_startAnew R2 (0 : Int32) (0 : Int32) (0 : Int32) (0 : Int32) = some R0 := r0
      have he : f_X2_startAnew E2 = some E0 := by rw [hE0]; rfl
      unfold f_X5_readStore
      rw [r0', ob_some, he, ob_some, hst, ob_some, hD0, i0]
    have hx0 : ¬ nI L < nI 0 := by rw [zn_lt (by omega) (by omega)]; omega
    have hxz : nI L ≤ nI z := by rw [zn_le (by omega) (by omega)]; omega
    have hT1 : Tape_size T1 = nI 0 := C1.2.2.2.2.1
    have hFM : FM (stS S) S1 := FM_trans (S := stS S) (S' := stL S L) ⟨rfl, rfl, rfl, rfl, rfl⟩ (SE_FM a6)
    rcases run_all (tp := tp) (kf := kf) hL (L - p + 1) D0 E0 R0 T1 S1 fr0 lt1 mk oq ow0 rd0' sl0 p 0 0 FU FU X (by omega) (by omega) C1 a4 (.inl hNS) (by omega) (by unfold FU; omega) (by unfold FU; omega) hX with ⟨D3, E3, R3, T3, n, m, c, b3, Y, k1, k2, k3, k4, k5, k6, k7, k8⟩ | ⟨D3, E3, R3, T3, Y, k1, k2, k3⟩
    · exact st_good hb0 hb h hx0 t1 hxz (hrs.trans k1) (hmo.trans (k2 og on r st tl)) (k3.1.trans hT1) (FM_trans hFM k4) k5 k6 k7 (by omega)
    · rcases k3 with k3 | k3
      · exact st_bad (S9 := Y.1) hb h hx0 t1 hxz (hrs.trans k1) (hmo.trans ((k2 og on r st tl).trans (M185_f k3.2.2.1))) (k3.1.1.trans hT1) (FM_trans hFM k3.2.1) k3.2.2.2.1 k3.2.2.2.2
      · exact st_bad (S9 := wrS Y.1 (nI 1) (Mo_at Y.1)) hb h hx0 t1 hxz (hrs.trans k1) (hmo.trans ((k2 og on r st tl).trans (M185_t k3.2.2.1 k3.2.2.2.1.1))) (k3.1.1.trans hT1) (FM_trans hFM (FM_trans k3.2.1 (FM_wr _ _ _))) k3.2.2.2.2.1 k3.2.2.2.2.2
end
