/-! acts: put and drop, both sides -/
section
variable {R : SRows} {S : SMo} {st : Nat → Int32} {n m c b : Nat}
theorem M_putOn_95 {x2 : Int32} {r k s u : Nat} (hu : u < 48) : b_X10_putOn_95 x2 (nI r) (nI k) S st (nI s) (nI u) = some (nI u, S, newS st r k (nI s) u) := by
  unfold b_X10_putOn_95 newS
  simp (disch := omega) only [↓lm1, ↓lm2, i0, i1, i2, i3, i4, i5, i6, i7, i8, i9, i10, i12, i16, i20, i24, i31, i32, i44, i48, i57, i59, i63, i64, i74, i75, i90, i96, i97, i99, i100, i122, i139, i140, i144, i192, i200, i240, i255, i304, i309, i310, i311, i323, i324, i325, i899, i900, i975, i999, i5200, i4875, i65536, i65537, i15, ob_some, nI_add, nI_clamp, zn_zib, zn_eq, zn_lt, zn_le, m2_lt, m2_le, lt_m2, le_m2, eq_m2, m2_eq, m1_lt, m1_le, lt_m1, le_m1, eq_m1, m1_eq, m1_m2, m2_m1, m2_lt_m1, bI_0, bI_1, bI_t, bI_f, bI_bo, nI0_bo, nI1_bo, if_true, if_false, ite_true, ite_false, Nat.zero_add, Nat.not_lt_zero, Nat.zero_le, not_true_eq_false, not_false_eq_true, or_false, false_or, true_or, or_true, and_true, true_and, Bool.false_eq_true, Bool.true_eq_false, reduceCtorEq, eq_self, upd_ne]
theorem run_s (W : WS st n m) {w : Nat} (hw : w < 6) (h : rn st w = true) : ∃ s, s < n ∧ st (304 + w) = nI s := by
  rcases WS_w W hw with e | e
  · rw [rn_f e] at h
    cases h
  · exact e
theorem put_both (hr : Mo_ring S = nI n) (H : RC R st n m c) (I : IS st n) (K : MK st b) (hbb : b + 1 < 2 ^ 29) {w r k : Nat} (hw : w < 6) (hrn : rn st w = true) (hrr : r < m) (hk : k ≤ 999) :
    (∃ q, 0 < q ∧ q < 8 ∧ f_X6_putTrouble R (nI w) (nI r) = some (nI q) ∧ f_X10_putOn S st (nI w) (nI r) (nI k) = some (m2, sMo_refused S (nI q), st)) ∨
    (∃ x R' st', f_X6_putTrouble R (nI w) (nI r) = some (nI 0) ∧ f_X6_putValue R (nI w) (nI r) (nI k) = some (x, R') ∧ f_X10_putOn S st (nI w) (nI r) (nI k) = some (x, sMo_refused S (nI 0), st') ∧ RC R' st' n m c ∧ IS st' n ∧ MK st' (b + 1) ∧ (x = m2 ∨ ∃ v, v < 48 ∧ x = nI v)) := by
  have W := RC_W H
  have hn := WS_n W
  have hm := WS_m W
  obtain ⟨s, hs, es⟩ := run_s W hw hrn
  have hbar := M_isBarred hr W I hw hrn hrr
  have hver := X6_verdict H hw hrn hrr
  have hlt := vd_lt (st := st) (n := n) (w := w) (r := r)
  have hMK : ∀ st', MK st' b → MK st' (b + 1) := fun st' ⟨a1, k, a2, a3, a4⟩ => ⟨hbb, k, a2, by omega, a4⟩
  have e1 : ∀ q : Nat, q < 4 → ((nI q = (1 : Int32)) = (q = 1)) := fun q hq => by
    show (nI q = nI 1) = _
    rw [zn_eq (by omega) (by omega)]
  by_cases v13 : vd st n w r = 1 ∨ vd st n w r = 3
  · left
    refine ⟨5, by omega, by omega, ?_, ?_⟩
    · unfold f_X6_putTrouble
      rw [hver, ob_some]
      rcases v13 with z | z <;> rw [z] <;> rfl
    · unfold f_X10_putOn
      rw [hbar, ob_some, if_pos v13]
      have h2 : ¬ vd st n w r = 2 := by omega
      have h0 : decide (vd st n w r ≠ 0) = true := decide_eq_true (by omega)
      rw [if_neg h2, h0]
      rfl
  · by_cases v2 : vd st n w r = 2
    · right
      obtain ⟨h1, h2, h3⟩ := lost_all H I K hw hrn rfl
      refine ⟨m2, _, lostS st w, ?_, ?_, ?_, h1, h2, hMK _ h3, .inl rfl⟩
      · unfold f_X6_putTrouble
        rw [hver, ob_some, v2]
        rfl
      · unfold f_X6_putValue
        rw [hver, ob_some, v2]
        rfl
      · unfold f_X10_putOn
        rw [hbar, ob_some, if_neg v13, if_pos v2]
        have h0 : decide (vd st n w r ≠ 0) = true := decide_eq_true (by omega)
        rw [h0]
        rfl
    · have v0 : vd st n w r = 0 := by omega
      obtain ⟨C, hC, hC2⟩ := X6_countingFor H hw hrn
      have hseen : f_X6_versionSeen R (nI r) C = some (eo (bst st (sp st (cw st n w) r) 48)) := by rw [X6_versionSeen H C hrr, bst_cong (fun v hv => sp_cong W hC2 r hv)]
      have hr' : Mo_ring (sMo_refused S (nI 0)) = nI n := hr
      have hmseen := M_seenIn (who_for hr' W hw hrn) W hrr
      have hstamp : f_X6_stampOf R (nI w) = some (nI s) := by rw [X6_stampOf H hw, hrn, es, if_pos rfl]
      rw [v0] at hver
      rw [if_neg v13, if_neg v2, v0] at hbar
      have hst1 : st (240 + s) ≠ nI 0 := by rw [I.1 w hw s hs es, ne_eq, zn_eq (by omega) (by omega)]; omega
      have hPT : ∀ q, f_X6_firstFreeNumber R = some q → f_X6_putTrouble R (nI w) (nI r) = if q = m2 then (f_X6_isOwn R (nI w) (eo (bst st (sp st (cw st n w) r) 48))).bind (fun q5 => if q5 = 0 then some 3 else some 0) else some 0 := fun q hq => by
        unfold f_X6_putTrouble
        rw [hver, ob_some, hq, ob_some, hC]
        simp only [ob_some, hseen]
        rfl
      have hfree := X6_firstFreeNumber H
      cases hb : bst st (sp st (cw st n w) r) 48 with
      | none =>
        rw [hb] at hseen hmseen
        cases hf : fi (fun v => !lv st v) 48 with
        | none =>
          left
          refine ⟨3, by omega, by omega, ?_, ?_⟩
          · rw [hPT _ hfree, hf, hb, eo_n, if_pos rfl, X6_isOwn_m2]
            rfl
          · unfold f_X10_putOn b_X10_putOn_60
            simp (disch := omega) only [hbar, hmseen, M_freeVersion W, hf, eo_n, es, ne_eq, decide_false, ↓lm1, ↓lm2, i0, i1, i2, i3, i4, i5, i6, i7, i8, i9, i10, i12, i16, i20, i24, i31, i32, i44, i48, i57, i59, i63, i64, i74, i75, i90, i96, i97, i99, i100, i122, i139, i140, i144, i192, i200, i240, i255, i304, i309, i310, i311, i323, i324, i325, i899, i900, i975, i999, i5200, i4875, i65536, i65537, i15, ob_some, nI_add, nI_clamp, zn_zib, zn_eq, zn_lt, zn_le, m2_lt, m2_le, lt_m2, le_m2, eq_m2, m2_eq, m1_lt, m1_le, lt_m1, le_m1, eq_m1, m1_eq, m1_m2, m2_m1, m2_lt_m1, bI_0, bI_1, bI_t, bI_f, bI_bo, nI0_bo, nI1_bo, if_true, if_false, ite_true, ite_false, Nat.zero_add, Nat.not_lt_zero, Nat.zero_le, not_true_eq_false, not_false_eq_true, or_false, false_or, true_or, or_true, and_true, true_and, Bool.false_eq_true, Bool.true_eq_false, reduceCtorEq, eq_self]
            rfl
        | some u =>
          right
          have hu := (fi_some hf).1
          obtain ⟨R', h1, h2, h3, h4⟩ := X6_makeVersion H I K hbb hf hrr hk hs hst1
          refine ⟨nI u, R', newS st r k (nI s) u, ?_, ?_, ?_, h2, h3, h4, .inr ⟨u, hu, rfl⟩⟩
          · rw [hPT _ hfree, hf, eo_s, if_neg (by rw [eq_m2 (by omega)]; exact id)]
            rfl
          · unfold f_X6_putValue
            simp (disch := omega) only [hver, hC, hseen, eo_n, X6_isOwn_m2, X6_isVersion_m2, hstamp, h1, ↓lm1, ↓lm2, i0, i1, i2, i3, i4, i5, i6, i7, i8, i9, i10, i12, i16, i20, i24, i31, i32, i44, i48, i57, i59, i63, i64, i74, i75, i90, i96, i97, i99, i100, i122, i139, i140, i144, i192, i200, i240, i255, i304, i309, i310, i311, i323, i324, i325, i899, i900, i975, i999, i5200, i4875, i65536, i65537, i15, ob_some, nI_add, nI_clamp, zn_zib, zn_eq, zn_lt, zn_le, m2_lt, m2_le, lt_m2, le_m2, eq_m2, m2_eq, m1_lt, m1_le, lt_m1, le_m1, eq_m1, m1_eq, m1_m2, m2_m1, m2_lt_m1, bI_0, bI_1, bI_t, bI_f, bI_bo, nI0_bo, nI1_bo, if_true, if_false, ite_true, ite_false, Nat.zero_add, Nat.not_lt_zero, Nat.zero_le, not_true_eq_false, not_false_eq_true, or_false, false_or, true_or, or_true, and_true, true_and, Bool.false_eq_true, Bool.true_eq_false, reduceCtorEq, eq_self]
          · unfold f_X10_putOn b_X10_putOn_60
            simp (disch := omega) only [hbar, hmseen, M_freeVersion W, hf, eo_n, eo_s, es, M_putOn_95 hu, ne_eq, decide_false, ↓lm1, ↓lm2, i0, i1, i2, i3, i4, i5, i6, i7, i8, i9, i10, i12, i16, i20, i24, i31, i32, i44, i48, i57, i59, i63, i64, i74, i75, i90, i96, i97, i99, i100, i122, i139, i140, i144, i192, i200, i240, i255, i304, i309, i310, i311, i323, i324, i325, i899, i900, i975, i999, i5200, i4875, i65536, i65537, i15, ob_some, nI_add, nI_clamp, zn_zib, zn_eq, zn_lt, zn_le, m2_lt, m2_le, lt_m2, le_m2, eq_m2, m2_eq, m1_lt, m1_le, lt_m1, le_m1, eq_m1, m1_eq, m1_m2, m2_m1, m2_lt_m1, bI_0, bI_1, bI_t, bI_f, bI_bo, nI0_bo, nI1_bo, if_true, if_false, ite_true, ite_false, Nat.zero_add, Nat.not_lt_zero, Nat.zero_le, not_true_eq_false, not_false_eq_true, or_false, false_or, true_or, or_true, and_true, true_and, Bool.false_eq_true, Bool.true_eq_false, reduceCtorEq, eq_self]
      | some v =>
        rw [hb] at hseen hmseen
        have hv := (bst_some hb).1
        have hl := sp_live hv.2
        have hown := X6_isOwn H hw hs es hv.1 hl
        by_cases q : st (96 + v) = nI s
        · right
          obtain ⟨h1, h2, h3⟩ := val_all H I K hv.1 hk rfl
          refine ⟨nI v, _, valS st v k, ?_, ?_, ?_, h1, h2, hMK _ h3, .inr ⟨v, hv.1, rfl⟩⟩
          · rw [hPT _ hfree, hb, eo_s, hown, q, decide_eq_true rfl]
            split <;> rfl
          · unfold f_X6_putValue
            simp (disch := omega) only [hver, hC, hseen, eo_s, hown, q, decide_true, ↓lm1, ↓lm2, i0, i1, i2, i3, i4, i5, i6, i7, i8, i9, i10, i12, i16, i20, i24, i31, i32, i44, i48, i57, i59, i63, i64, i74, i75, i90, i96, i97, i99, i100, i122, i139, i140, i144, i192, i200, i240, i255, i304, i309, i310, i311, i323, i324, i325, i899, i900, i975, i999, i5200, i4875, i65536, i65537, i15, ob_some, nI_add, nI_clamp, zn_zib, zn_eq, zn_lt, zn_le, m2_lt, m2_le, lt_m2, le_m2, eq_m2, m2_eq, m1_lt, m1_le, lt_m1, le_m1, eq_m1, m1_eq, m1_m2, m2_m1, m2_lt_m1, bI_0, bI_1, bI_t, bI_f, bI_bo, nI0_bo, nI1_bo, if_true, if_false, ite_true, ite_false, Nat.zero_add, Nat.not_lt_zero, Nat.zero_le, not_true_eq_false, not_false_eq_true, or_false, false_or, true_or, or_true, and_true, true_and, Bool.false_eq_true, Bool.true_eq_false, reduceCtorEq, eq_self]
          · unfold f_X10_putOn
            simp (disch := omega) only [hbar, hmseen, eo_s, es, q, ne_eq, decide_false, ↓lm1, ↓lm2, i0, i1, i2, i3, i4, i5, i6, i7, i8, i9, i10, i12, i16, i20, i24, i31, i32, i44, i48, i57, i59, i63, i64, i74, i75, i90, i96, i97, i99, i100, i122, i139, i140, i144, i192, i200, i240, i255, i304, i309, i310, i311, i323, i324, i325, i899, i900, i975, i999, i5200, i4875, i65536, i65537, i15, ob_some, nI_add, nI_clamp, zn_zib, zn_eq, zn_lt, zn_le, m2_lt, m2_le, lt_m2, le_m2, eq_m2, m2_eq, m1_lt, m1_le, lt_m1, le_m1, eq_m1, m1_eq, m1_m2, m2_m1, m2_lt_m1, bI_0, bI_1, bI_t, bI_f, bI_bo, nI0_bo, nI1_bo, if_true, if_false, ite_true, ite_false, Nat.zero_add, Nat.not_lt_zero, Nat.zero_le, not_true_eq_false, not_false_eq_true, or_false, false_or, true_or, or_true, and_true, true_and, Bool.false_eq_true, Bool.true_eq_false, reduceCtorEq, eq_self]
            rfl
        · cases hf : fi (fun v => !lv st v) 48 with
          | none =>
            left
            refine ⟨3, by omega, by omega, ?_, ?_⟩
            · rw [hPT _ hfree, hf, hb, eo_n, if_pos rfl, eo_s, hown, decide_eq_false q]
              rfl
            · unfold f_X10_putOn b_X10_putOn_60
              simp (disch := omega) only [hbar, hmseen, M_freeVersion W, hf, eo_n, eo_s, es, q, ne_eq, decide_false, ↓lm1, ↓lm2, i0, i1, i2, i3, i4, i5, i6, i7, i8, i9, i10, i12, i16, i20, i24, i31, i32, i44, i48, i57, i59, i63, i64, i74, i75, i90, i96, i97, i99, i100, i122, i139, i140, i144, i192, i200, i240, i255, i304, i309, i310, i311, i323, i324, i325, i899, i900, i975, i999, i5200, i4875, i65536, i65537, i15, ob_some, nI_add, nI_clamp, zn_zib, zn_eq, zn_lt, zn_le, m2_lt, m2_le, lt_m2, le_m2, eq_m2, m2_eq, m1_lt, m1_le, lt_m1, le_m1, eq_m1, m1_eq, m1_m2, m2_m1, m2_lt_m1, bI_0, bI_1, bI_t, bI_f, bI_bo, nI0_bo, nI1_bo, if_true, if_false, ite_true, ite_false, Nat.zero_add, Nat.not_lt_zero, Nat.zero_le, not_true_eq_false, not_false_eq_true, or_false, false_or, true_or, or_true, and_true, true_and, Bool.false_eq_true, Bool.true_eq_false, reduceCtorEq, eq_self]
              rfl
          | some u =>
            right
            have hu := (fi_some hf).1
            obtain ⟨h1, h2, h3⟩ := till_all H I K hv.1 hs rfl
            have hf2 : fi (fun x => !lv (tillS st v (nI s)) x) 48 = some u := by
              rw [← hf]
              refine fi_cong (fun x hx => ?_)
              unfold lv tillS
              rw [upd_ne (by omega)]
            have hst2 : tillS st v (nI s) (240 + s) ≠ nI 0 := by
              unfold tillS
              rw [upd_ne (by omega)]
              exact hst1
            have es2 : tillS st v (nI s) (304 + w) = nI s := by
              unfold tillS
              rw [upd_ne (by omega)]
              exact es
            have hstamp2 := X6_stampOf h1 hw
            rw [rn_t es2 (by omega), es2, if_pos rfl] at hstamp2
            obtain ⟨R', g1, g2, g3, g4⟩ := X6_makeVersion h1 h2 h3 hbb hf2 hrr hk hs hst2
            refine ⟨nI u, R', newS (tillS st v (nI s)) r k (nI s) u, ?_, ?_, ?_, g2, g3, g4, .inr ⟨u, hu, rfl⟩⟩
            · rw [hPT _ hfree, hf, eo_s, if_neg (by rw [eq_m2 (by omega)]; exact id)]
              rfl
            · unfold f_X6_putValue
              simp (disch := omega) only [hver, hC, hseen, eo_s, hown, q, decide_false, X6_isVersion H hv.1, lv_ne.mpr hl, hstamp, hstamp2, g1, ↓lm1, ↓lm2, i0, i1, i2, i3, i4, i5, i6, i7, i8, i9, i10, i12, i16, i20, i24, i31, i32, i44, i48, i57, i59, i63, i64, i74, i75, i90, i96, i97, i99, i100, i122, i139, i140, i144, i192, i200, i240, i255, i304, i309, i310, i311, i323, i324, i325, i899, i900, i975, i999, i5200, i4875, i65536, i65537, i15, ob_some, nI_add, nI_clamp, zn_zib, zn_eq, zn_lt, zn_le, m2_lt, m2_le, lt_m2, le_m2, eq_m2, m2_eq, m1_lt, m1_le, lt_m1, le_m1, eq_m1, m1_eq, m1_m2, m2_m1, m2_lt_m1, bI_0, bI_1, bI_t, bI_f, bI_bo, nI0_bo, nI1_bo, if_true, if_false, ite_true, ite_false, Nat.zero_add, Nat.not_lt_zero, Nat.zero_le, not_true_eq_false, not_false_eq_true, or_false, false_or, true_or, or_true, and_true, true_and, Bool.false_eq_true, Bool.true_eq_false, reduceCtorEq, eq_self]
            · unfold f_X10_putOn b_X10_putOn_60
              simp (disch := omega) only [hbar, hmseen, M_freeVersion W, hf, eo_s, es, q, ne_eq, decide_false, ↓lm1, ↓lm2, i0, i1, i2, i3, i4, i5, i6, i7, i8, i9, i10, i12, i16, i20, i24, i31, i32, i44, i48, i57, i59, i63, i64, i74, i75, i90, i96, i97, i99, i100, i122, i139, i140, i144, i192, i200, i240, i255, i304, i309, i310, i311, i323, i324, i325, i899, i900, i975, i999, i5200, i4875, i65536, i65537, i15, ob_some, nI_add, nI_clamp, zn_zib, zn_eq, zn_lt, zn_le, m2_lt, m2_le, lt_m2, le_m2, eq_m2, m2_eq, m1_lt, m1_le, lt_m1, le_m1, eq_m1, m1_eq, m1_m2, m2_m1, m2_lt_m1, bI_0, bI_1, bI_t, bI_f, bI_bo, nI0_bo, nI1_bo, if_true, if_false, ite_true, ite_false, Nat.zero_add, Nat.not_lt_zero, Nat.zero_le, not_true_eq_false, not_false_eq_true, or_false, false_or, true_or, or_true, and_true, true_and, Bool.false_eq_true, Bool.true_eq_false, reduceCtorEq, eq_self]
              exact M_putOn_95 hu
end
