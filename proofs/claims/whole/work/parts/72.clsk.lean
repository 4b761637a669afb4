/-! the class's rows: sums, verdicts, room -/
theorem fb_sm_at {f g : Nat → Nat} {i n : Nat} (hi : i < n) (h : ∀ k, k < n → k ≠ i → g k = f k) (h0 : f i = 0) : fb_sm g n = fb_sm f n + g i := by
  have e := fb_sm_upd f (g i) hi
  have e2 : fb_sm (fun k => if k = i then g i else f k) n = fb_sm g n := fb_sm_cong (fun k hk => by
    by_cases q : k = i
    · rw [if_pos q, q]
    · rw [if_neg q, h k hk q])
  rw [e2, h0] at e
  omega
section
variable {R : SRows} {st : Nat → Int32} {n m c : Nat}
theorem vN_some (W : WS st n m) {C : Nat → Bool} {r v : Nat} (h : bst st (sp st C r) 48 = some v) : st (48 + v) = nI (vN st C r) ∧ vN st C r ≤ 999 := by
  obtain ⟨⟨h1, h2⟩, -⟩ := bst_some h
  obtain ⟨k, hk, e⟩ := WS_a W h1
  unfold vN
  rw [h]
  show st (48 + v) = nI (st (48 + v)).toNatClampNeg ∧ (st (48 + v)).toNatClampNeg ≤ 999
  rw [e, nI_clamp (by omega)]
  exact ⟨rfl, hk⟩
theorem vN_none {C : Nat → Bool} {r : Nat} (h : bst st (sp st C r) 48 = none) : vN st C r = 0 := by
  unfold vN
  rw [h]
theorem X6_sumSeen (H : RC R st n m c) (C : Int64) : f_X6_sumSeen R C = some (nI (fb_sm (vN st (lb C)) m)) := by
  have hm := WS_m (RC_W H)
  have hn := WS_n (RC_W H)
  obtain ⟨cN, md, hc, hc2, hmd, ho, hs⟩ := RC_o H
  unfold f_X6_sumSeen
  rw [hc]
  refine zl3_dn cN (fun i tot fnd => ∃ g : Nat → Nat, tot = nI (fb_sm g m) ∧ ∀ r, r < m → (bt fnd r = false ∧ g r = 0 ∧ ∀ j, i ≤ j → j < cN → sp st (lb C) r (md j) = false) ∨ (bt fnd r = true ∧ g r = vN st (lb C) r)) _ (by omega) ⟨fun _ => 0, by rw [fb_sm_const]; rfl, fun r hr => .inl ⟨b_0 r, rfl, fun j h1 h2 => by omega⟩⟩ (fun k i tot fnd hi hI => ?_) (fun k tot fnd hI => ?_)
  · obtain ⟨g, rfl, hg⟩ := hI
    right
    have hv := (hmd i hi).2.1
    obtain ⟨r, hr, er⟩ : ∃ r, r < m ∧ st (md i) = nI (r + 1) := by
      rcases WS_l (RC_W H) hv with e | e
      · exact absurd e (hmd i hi).2.2
      · exact e
    have erw : rwI st (md i) = nI r := by rw [rwI_eq (RC_W H) hv (by omega)]; exact er
    have hsp : ∀ r', r' < m → sp st (lb C) r' (md i) = (decide (r' = r) && sees st (lb C) (md i)) := fun r' hr' => by
      unfold sp
      rw [er]
      simp (disch := omega) only [zn_eq]
      congr 2
      exact propext ⟨fun h => by omega, fun h => by omega⟩
    unfold b_X6_sumSeen_13
    simp (disch := omega) only [X6_madeAt hc hc2 hmd hi, X6_isSeen H _ hv, X6_rowOf H hv, X6_valueOf H hv, erw, bit_and1, ↓lm1, ↓lm2, i0, i1, i2, i3, i4, i5, i6, i7, i8, i9, i10, i12, i16, i20, i24, i31, i32, i44, i48, i57, i59, i63, i64, i74, i75, i90, i96, i97, i99, i100, i122, i139, i140, i144, i192, i200, i240, i255, i304, i309, i310, i311, i323, i324, i325, i899, i900, i975, i999, i5200, i4875, i65536, i65537, i15, ob_some, nI_add, nI_clamp, zn_zib, zn_eq, zn_lt, zn_le, m2_lt, m2_le, lt_m2, le_m2, eq_m2, m2_eq, m1_lt, m1_le, lt_m1, le_m1, eq_m1, m1_eq, m1_m2, m2_m1, m2_lt_m1, bI_0, bI_1, bI_t, bI_f, bI_bo, nI0_bo, nI1_bo, if_true, if_false, ite_true, ite_false, Nat.zero_add, Nat.not_lt_zero, Nat.zero_le, not_true_eq_false, not_false_eq_true, or_false, false_or, true_or, or_true, and_true, true_and, Bool.false_eq_true, Bool.true_eq_false, reduceCtorEq, eq_self]
    cases hse : sees st (lb C) (md i)
    · refine ⟨_, fnd, ⟨g, rfl, fun r' hr' => ?_⟩, by simp (disch := omega) only [↓lm1, ↓lm2, i0, i1, i2, i3, i4, i5, i6, i7, i8, i9, i10, i12, i16, i20, i24, i31, i32, i44, i48, i57, i59, i63, i64, i74, i75, i90, i96, i97, i99, i100, i122, i139, i140, i144, i192, i200, i240, i255, i304, i309, i310, i311, i323, i324, i325, i899, i900, i975, i999, i5200, i4875, i65536, i65537, i15, ob_some, nI_add, nI_clamp, zn_zib, zn_eq, zn_lt, zn_le, m2_lt, m2_le, lt_m2, le_m2, eq_m2, m2_eq, m1_lt, m1_le, lt_m1, le_m1, eq_m1, m1_eq, m1_m2, m2_m1, m2_lt_m1, bI_0, bI_1, bI_t, bI_f, bI_bo, nI0_bo, nI1_bo, if_true, if_false, ite_true, ite_false, Nat.zero_add, Nat.not_lt_zero, Nat.zero_le, not_true_eq_false, not_false_eq_true, or_false, false_or, true_or, or_true, and_true, true_and, Bool.false_eq_true, Bool.true_eq_false, reduceCtorEq, eq_self]⟩
      rcases hg r' hr' with ⟨a1, a2, a3⟩ | a
      · refine .inl ⟨a1, a2, fun j h1 h2 => ?_⟩
        by_cases q : j = i
        · rw [q, hsp r' hr', hse, Bool.and_false]
        · exact a3 j (by omega) h2
      · exact .inr a
    · simp (disch := omega) only [↓lm1, ↓lm2, i0, i1, i2, i3, i4, i5, i6, i7, i8, i9, i10, i12, i16, i20, i24, i31, i32, i44, i48, i57, i59, i63, i64, i74, i75, i90, i96, i97, i99, i100, i122, i139, i140, i144, i192, i200, i240, i255, i304, i309, i310, i311, i323, i324, i325, i899, i900, i975, i999, i5200, i4875, i65536, i65537, i15, ob_some, nI_add, nI_clamp, zn_zib, zn_eq, zn_lt, zn_le, m2_lt, m2_le, lt_m2, le_m2, eq_m2, m2_eq, m1_lt, m1_le, lt_m1, le_m1, eq_m1, m1_eq, m1_m2, m2_m1, m2_lt_m1, bI_0, bI_1, bI_t, bI_f, bI_bo, nI0_bo, nI1_bo, if_true, if_false, ite_true, ite_false, Nat.zero_add, Nat.not_lt_zero, Nat.zero_le, not_true_eq_false, not_false_eq_true, or_false, false_or, true_or, or_true, and_true, true_and, Bool.false_eq_true, Bool.true_eq_false, reduceCtorEq, eq_self]
      rcases hg r hr with ⟨a1, a2, a3⟩ | ⟨a1, a2⟩
      · have hb : bst st (sp st (lb C) r) 48 = some (md i) := bst_last hmd ho hs (fun v => sp_live) hi (by rw [hsp r hr, hse, decide_eq_true rfl]; rfl) (fun j h1 h2 => a3 j (by omega) h2)
        have hva := vN_some (RC_W H) hb
        have hvi : vaI st (md i) = nI (vN st (lb C) r) := by
          unfold vaI
          rw [lv_ne.mpr (hmd i hi).2.2, if_pos rfl]
          exact hva.1
        refine ⟨_, fnd ||| (nI 1 <<< (nI r &&& nI 31)), ⟨fun k => if k = r then vN st (lb C) r else g k, rfl, fun r' hr' => ?_⟩, ?_⟩
        · by_cases q : r' = r
          · subst q
            refine .inr ⟨?_, if_pos rfl⟩
            rw [b_or, bt_bit (by omega) (by omega), decide_eq_true rfl, Bool.or_true]
          · have eb : bt (fnd ||| (nI 1 <<< (nI r &&& nI 31))) r' = bt fnd r' := by
              rw [b_or, bt_bit (by omega) (by omega), decide_eq_false q, Bool.or_false]
            rw [eb]
            have eg : (fun k => if k = r then vN st (lb C) r else g k) r' = g r' := if_neg q
            rw [eg]
            rcases hg r' hr' with ⟨b1, b2, b3⟩ | b
            · refine .inl ⟨b1, b2, fun j h1 h2 => ?_⟩
              by_cases z : j = i
              · rw [z, hsp r' hr', decide_eq_false q, Bool.false_and]
              · exact b3 j (by omega) h2
            · exact .inr b
        · have es := fb_sm_at (f := g) (g := fun k => if k = r then vN st (lb C) r else g k) hr (fun k hk hne => if_neg hne) a2
          rw [if_pos rfl] at es
          simp (disch := omega) only [a1, hvi, es, ↓lm1, ↓lm2, i0, i1, i2, i3, i4, i5, i6, i7, i8, i9, i10, i12, i16, i20, i24, i31, i32, i44, i48, i57, i59, i63, i64, i74, i75, i90, i96, i97, i99, i100, i122, i139, i140, i144, i192, i200, i240, i255, i304, i309, i310, i311, i323, i324, i325, i899, i900, i975, i999, i5200, i4875, i65536, i65537, i15, ob_some, nI_add, nI_clamp, zn_zib, zn_eq, zn_lt, zn_le, m2_lt, m2_le, lt_m2, le_m2, eq_m2, m2_eq, m1_lt, m1_le, lt_m1, le_m1, eq_m1, m1_eq, m1_m2, m2_m1, m2_lt_m1, bI_0, bI_1, bI_t, bI_f, bI_bo, nI0_bo, nI1_bo, if_true, if_false, ite_true, ite_false, Nat.zero_add, Nat.not_lt_zero, Nat.zero_le, not_true_eq_false, not_false_eq_true, or_false, false_or, true_or, or_true, and_true, true_and, Bool.false_eq_true, Bool.true_eq_false, reduceCtorEq, eq_self]
      · refine ⟨_, fnd, ⟨g, rfl, fun r' hr' => ?_⟩, by simp (disch := omega) only [a1, ↓lm1, ↓lm2, i0, i1, i2, i3, i4, i5, i6, i7, i8, i9, i10, i12, i16, i20, i24, i31, i32, i44, i48, i57, i59, i63, i64, i74, i75, i90, i96, i97, i99, i100, i122, i139, i140, i144, i192, i200, i240, i255, i304, i309, i310, i311, i323, i324, i325, i899, i900, i975, i999, i5200, i4875, i65536, i65537, i15, ob_some, nI_add, nI_clamp, zn_zib, zn_eq, zn_lt, zn_le, m2_lt, m2_le, lt_m2, le_m2, eq_m2, m2_eq, m1_lt, m1_le, lt_m1, le_m1, eq_m1, m1_eq, m1_m2, m2_m1, m2_lt_m1, bI_0, bI_1, bI_t, bI_f, bI_bo, nI0_bo, nI1_bo, if_true, if_false, ite_true, ite_false, Nat.zero_add, Nat.not_lt_zero, Nat.zero_le, not_true_eq_false, not_false_eq_true, or_false, false_or, true_or, or_true, and_true, true_and, Bool.false_eq_true, Bool.true_eq_false, reduceCtorEq, eq_self]⟩
        by_cases q : r' = r
        · subst q
          exact .inr ⟨a1, a2⟩
        · rcases hg r' hr' with ⟨b1, b2, b3⟩ | b
          · refine .inl ⟨b1, b2, fun j h1 h2 => ?_⟩
            by_cases z : j = i
            · rw [z, hsp r' hr', decide_eq_false q, Bool.false_and]
            · exact b3 j (by omega) h2
          · exact .inr b
  · obtain ⟨g, rfl, hg⟩ := hI
    unfold b_X6_sumSeen_13
    have h0 : (-1 : Int32) < 0 := by decide
    rw [if_pos h0]
    congr 2
    refine fb_sm_cong (fun r hr => ?_)
    rcases hg r hr with ⟨-, a2, a3⟩ | ⟨-, a2⟩
    · rw [a2, vN_none (bst_noneO hs (fun v => sp_live) (fun j hj => a3 j (by omega) hj))]
    · exact a2
theorem stop_ok (W : WS st n m) {w r : Nat} : okS n (stop st n w r) := by
  unfold stop
  cases h1 : bst st (sp st (cw st n w) r) 48 with
  | none =>
    cases h2 : bst st (lp st r) 48 with
    | none => exact .inl rfl
    | some u => exact WS_f W (bst_some h2).1.1
  | some v => exact WS_d W (bst_some h1).1.1
theorem X6_verdict (H : RC R st n m c) {w r : Nat} (hw : w < 6) (hr : rn st w = true) (hrr : r < m) : f_X6_verdict R (nI w) (nI r) = some (nI (vd st n w r)) := by
  have hm := WS_m (RC_W H)
  have hn := WS_n (RC_W H)
  obtain ⟨C, hC, hC2⟩ := X6_countingFor H hw hr
  have tail : b_X6_verdict_49 R (nI w) (nI r) C (stop st n w r) = some (nI (if has (cw st n w) (stop st n w r) then 0 else if has (ru st) (stop st n w r) then 1 else if has (dn st) (stop st n w r) then 2 else 0)) := by
    have ok := stop_ok (RC_W H) (w := w) (r := r)
    unfold b_X6_verdict_49
    rw [hol_ok (by omega : n ≤ 64) _ ok, hol_ok (by omega : n ≤ 64) _ ok, hol_ok (by omega : n ≤ 64) _ ok, has_cong hC2 (by omega) ok, has_cong (fun s hs => RC_ru H (by omega : s < 64)) (by omega) ok, has_cong (fun s hs => RC_dn H (by omega : s < 64)) (by omega) ok]
    cases has (cw st n w) (stop st n w r) <;> cases has (ru st) (stop st n w r) <;> cases has (dn st) (stop st n w r) <;> simp (disch := omega) only [↓lm1, ↓lm2, i0, i1, i2, i3, i4, i5, i6, i7, i8, i9, i10, i12, i16, i20, i24, i31, i32, i44, i48, i57, i59, i63, i64, i74, i75, i90, i96, i97, i99, i100, i122, i139, i140, i144, i192, i200, i240, i255, i304, i309, i310, i311, i323, i324, i325, i899, i900, i975, i999, i5200, i4875, i65536, i65537, i15, ob_some, nI_add, nI_clamp, zn_zib, zn_eq, zn_lt, zn_le, m2_lt, m2_le, lt_m2, le_m2, eq_m2, m2_eq, m1_lt, m1_le, lt_m1, le_m1, eq_m1, m1_eq, m1_m2, m2_m1, m2_lt_m1, bI_0, bI_1, bI_t, bI_f, bI_bo, nI0_bo, nI1_bo, if_true, if_false, ite_true, ite_false, Nat.zero_add, Nat.not_lt_zero, Nat.zero_le, not_true_eq_false, not_false_eq_true, or_false, false_or, true_or, or_true, and_true, true_and, Bool.false_eq_true, Bool.true_eq_false, reduceCtorEq, eq_self]
  unfold f_X6_verdict
  rw [X6_hasLost H hw, hr, Bool.true_and, ob_some]
  unfold vd
  cases hl : bt (st 310) w
  · have h0 : bI false = 0 := rfl
    rw [if_pos h0, hC, ob_some, X6_versionSeen H C hrr, ob_some, bst_cong (fun v hv => sp_cong (RC_W H) hC2 r hv)]
    rw [if_neg (by decide : ¬ (false = true))]
    rw [← tail]
    cases hb : bst st (sp st (cw st n w) r) 48 with
    | none =>
      rw [eo_n, lm2, if_pos rfl, X6_lastNotGone H hrr, ob_some]
      cases hb2 : bst st (lp st r) 48 with
      | none =>
        rw [eo_n, X6_fromOf_m2, ob_some]
        unfold stop
        rw [hb, hb2]
      | some u =>
        have hu := (bst_some hb2).1
        rw [eo_s, X6_fromOf H hu.1, ob_some]
        unfold stop frI
        rw [hb, hb2, lv_ne.mpr (lp_live (by omega : r < 100) hu.2), if_pos rfl]
    | some v =>
      have hv := (bst_some hb).1
      rw [eo_s, lm2]
      have hne : ¬ nI v = m2 := by rw [eq_m2 (by omega)]; exact id
      rw [if_neg hne, X6_tillOf H hv.1, ob_some]
      unfold stop tlI
      rw [hb, lv_ne.mpr (sp_live hv.2), if_pos rfl]
  · have h0 : ¬ bI true = 0 := by decide
    rw [if_neg h0]
    rfl
theorem vd_lt {w r : Nat} : vd st n w r < 4 := by
  unfold vd
  split
  · omega
  · split
    · omega
    · split
      · omega
      · split <;> omega
theorem X6_holder (H : RC R st n m c) {w r : Nat} (hw : w < 6) (hr : rn st w = true) (hrr : r < m) : f_X6_holder R (nI w) (nI r) = some (hldI st n w r) := by
  have hm := WS_m (RC_W H)
  have hn := WS_n (RC_W H)
  obtain ⟨C, hC, hC2⟩ := X6_countingFor H hw hr
  unfold f_X6_holder hldI
  rw [X6_verdict H hw hr hrr, ob_some]
  have hlt := vd_lt (st := st) (n := n) (w := w) (r := r)
  by_cases q : vd st n w r = 1
  · have h0 : nI (vd st n w r) = 1 := by rw [q]; rfl
    rw [if_pos h0, if_pos q, hC, ob_some, X6_versionSeen H C hrr, ob_some, bst_cong (fun v hv => sp_cong (RC_W H) hC2 r hv)]
    have hrun : has (ru st) (stop st n w r) = true := by
      unfold vd at q
      split at q
      · omega
      · split at q
        · omega
        · split at q
          · assumption
          · split at q <;> omega
    obtain ⟨s, hs, es⟩ : ∃ s, s < n ∧ stop st n w r = nI s := by
      rcases stop_ok (RC_W H) (w := w) (r := r) with e | e
      · rw [e, has_m2] at hrun
        cases hrun
      · exact e
    have hslot := X6_slotOf H (by omega : s < 2 ^ 30)
    rw [← es] at hslot
    cases hb : bst st (sp st (cw st n w) r) 48 with
    | none =>
      rw [eo_n, lm2, if_pos rfl, X6_lastNotGone H hrr, ob_some]
      cases hb2 : bst st (lp st r) 48 with
      | none =>
        unfold stop at es
        rw [hb, hb2] at es
        exact absurd es (by rw [m2_eq (by omega)]; exact id)
      | some u =>
        have hu := (bst_some hb2).1
        rw [eo_s, X6_fromOf H hu.1, ob_some]
        have e2 : frI st u = stop st n w r := by
          unfold stop frI
          rw [hb, hb2, lv_ne.mpr (lp_live (by omega : r < 100) hu.2), if_pos rfl]
        rw [e2, hslot, ob_some]
    | some v =>
      have hv := (bst_some hb).1
      rw [eo_s, lm2]
      have hne : ¬ nI v = m2 := by rw [eq_m2 (by omega)]; exact id
      rw [if_neg hne, X6_tillOf H hv.1, ob_some]
      have e2 : tlI st v = stop st n w r := by
        unfold stop tlI
        rw [hb, lv_ne.mpr (sp_live hv.2), if_pos rfl]
      rw [e2, hslot, ob_some]
  · have h0 : ¬ nI (vd st n w r) = nI 1 := by rw [zn_eq (by omega) (by omega)]; exact q
    have h0 : ¬ nI (vd st n w r) = 1 := h0
    rw [if_neg h0, if_neg q]
    rfl
theorem X6_rowsWithVerdict (H : RC R st n m c) {w : Nat} (hw : w < 6) (hr : rn st w = true) {q : Nat} (hq : q < 4) : f_X6_rowsWithVerdict R (nI w) (nI q) = some (orI (fun r => decide (vd st n w r = q)) m) := by
  have hm := WS_m (RC_W H)
  unfold f_X6_rowsWithVerdict
  refine zl2_fold m (orI (fun r => decide (vd st n w r = q))) _ (by omega) (fun k i hi => ?_) (fun k => ?_)
  · have h1 : ¬ m ≤ i := by omega
    have hlt := vd_lt (st := st) (n := n) (w := w) (r := i)
    unfold b_X6_rowsWithVerdict_5
    rw [orI_s]
    by_cases z : vd st n w i = q
    · simp (disch := omega) only [RC_rc H, h1, X6_verdict H hw hr hi, z, decide_true, ↓lm1, ↓lm2, i0, i1, i2, i3, i4, i5, i6, i7, i8, i9, i10, i12, i16, i20, i24, i31, i32, i44, i48, i57, i59, i63, i64, i74, i75, i90, i96, i97, i99, i100, i122, i139, i140, i144, i192, i200, i240, i255, i304, i309, i310, i311, i323, i324, i325, i899, i900, i975, i999, i5200, i4875, i65536, i65537, i15, ob_some, nI_add, nI_clamp, zn_zib, zn_eq, zn_lt, zn_le, m2_lt, m2_le, lt_m2, le_m2, eq_m2, m2_eq, m1_lt, m1_le, lt_m1, le_m1, eq_m1, m1_eq, m1_m2, m2_m1, m2_lt_m1, bI_0, bI_1, bI_t, bI_f, bI_bo, nI0_bo, nI1_bo, if_true, if_false, ite_true, ite_false, Nat.zero_add, Nat.not_lt_zero, Nat.zero_le, not_true_eq_false, not_false_eq_true, or_false, false_or, true_or, or_true, and_true, true_and, Bool.false_eq_true, Bool.true_eq_false, reduceCtorEq, eq_self]
    · simp (disch := omega) only [RC_rc H, h1, X6_verdict H hw hr hi, z, decide_false, ↓lm1, ↓lm2, i0, i1, i2, i3, i4, i5, i6, i7, i8, i9, i10, i12, i16, i20, i24, i31, i32, i44, i48, i57, i59, i63, i64, i74, i75, i90, i96, i97, i99, i100, i122, i139, i140, i144, i192, i200, i240, i255, i304, i309, i310, i311, i323, i324, i325, i899, i900, i975, i999, i5200, i4875, i65536, i65537, i15, ob_some, nI_add, nI_clamp, zn_zib, zn_eq, zn_lt, zn_le, m2_lt, m2_le, lt_m2, le_m2, eq_m2, m2_eq, m1_lt, m1_le, lt_m1, le_m1, eq_m1, m1_eq, m1_m2, m2_m1, m2_lt_m1, bI_0, bI_1, bI_t, bI_f, bI_bo, nI0_bo, nI1_bo, if_true, if_false, ite_true, ite_false, Nat.zero_add, Nat.not_lt_zero, Nat.zero_le, not_true_eq_false, not_false_eq_true, or_false, false_or, true_or, or_true, and_true, true_and, Bool.false_eq_true, Bool.true_eq_false, reduceCtorEq, eq_self]
  · unfold b_X6_rowsWithVerdict_5
    simp (disch := omega) only [RC_rc H, Nat.le_refl, ↓lm1, ↓lm2, i0, i1, i2, i3, i4, i5, i6, i7, i8, i9, i10, i12, i16, i20, i24, i31, i32, i44, i48, i57, i59, i63, i64, i74, i75, i90, i96, i97, i99, i100, i122, i139, i140, i144, i192, i200, i240, i255, i304, i309, i310, i311, i323, i324, i325, i899, i900, i975, i999, i5200, i4875, i65536, i65537, i15, ob_some, nI_add, nI_clamp, zn_zib, zn_eq, zn_lt, zn_le, m2_lt, m2_le, lt_m2, le_m2, eq_m2, m2_eq, m1_lt, m1_le, lt_m1, le_m1, eq_m1, m1_eq, m1_m2, m2_m1, m2_lt_m1, bI_0, bI_1, bI_t, bI_f, bI_bo, nI0_bo, nI1_bo, if_true, if_false, ite_true, ite_false, Nat.zero_add, Nat.not_lt_zero, Nat.zero_le, not_true_eq_false, not_false_eq_true, or_false, false_or, true_or, or_true, and_true, true_and, Bool.false_eq_true, Bool.true_eq_false, reduceCtorEq, eq_self]
def cbB (st : Nat → Int32) (n : Nat) : Bool := (fi (fun w => !rn st w) 6).isSome && (match mxo (iu st) (ag st n) n with
  | none => true
  | some a => decide (a < n / 2))
theorem mxo_lt (W : WS st n m) {p : Nat → Bool} {a : Nat} (h : mxo p (ag st n) n = some a) : a < n := by
  have hn := WS_n W
  obtain ⟨⟨k, hk, e1, e2⟩, -⟩ := mxo_some h
  rw [← e2]
  exact gon_lt (by omega)
theorem X6_canBegin (H : RC R st n m c) : f_X6_canBegin R = some (bI (cbB st n)) := by
  have hn := WS_n (RC_W H)
  unfold f_X6_canBegin cbB
  obtain ⟨S, hS, hS2⟩ := X6_inUse H
  rw [X6_firstFreeSlot H, ob_some]
  cases hf : fi (fun w => !rn st w) 6 with
  | none =>
    rw [eo_n, lm2, if_pos rfl]
    rfl
  | some w =>
    have hw := (fi_some hf).1
    have hne : ¬ nI w = m2 := by rw [eq_m2 (by omega)]; exact id
    rw [eo_s, lm2, if_neg hne, hS, ob_some, X6_greatestAge H, ob_some, RC_ring H, mxo_cong (fun k hk => hS2 k (by omega))]
    cases hx : mxo (iu st) (ag st n) n with
    | none => simp (disch := omega) only [eo_n, pk_div, ↓lm1, ↓lm2, i0, i1, i2, i3, i4, i5, i6, i7, i8, i9, i10, i12, i16, i20, i24, i31, i32, i44, i48, i57, i59, i63, i64, i74, i75, i90, i96, i97, i99, i100, i122, i139, i140, i144, i192, i200, i240, i255, i304, i309, i310, i311, i323, i324, i325, i899, i900, i975, i999, i5200, i4875, i65536, i65537, i15, ob_some, nI_add, nI_clamp, zn_zib, zn_eq, zn_lt, zn_le, m2_lt, m2_le, lt_m2, le_m2, eq_m2, m2_eq, m1_lt, m1_le, lt_m1, le_m1, eq_m1, m1_eq, m1_m2, m2_m1, m2_lt_m1, bI_0, bI_1, bI_t, bI_f, bI_bo, nI0_bo, nI1_bo, if_true, if_false, ite_true, ite_false, Nat.zero_add, Nat.not_lt_zero, Nat.zero_le, not_true_eq_false, not_false_eq_true, or_false, false_or, true_or, or_true, and_true, true_and, Bool.false_eq_true, Bool.true_eq_false, reduceCtorEq, eq_self, Option.isSome, Bool.true_and]
    | some a =>
      have ha := mxo_lt (RC_W H) hx
      by_cases q : a < n / 2
      · have q2 : ¬ n / 2 ≤ a := by omega
        simp (disch := omega) only [eo_s, pk_div, q, q2, decide_true, Option.isSome, Bool.true_and, ↓lm1, ↓lm2, i0, i1, i2, i3, i4, i5, i6, i7, i8, i9, i10, i12, i16, i20, i24, i31, i32, i44, i48, i57, i59, i63, i64, i74, i75, i90, i96, i97, i99, i100, i122, i139, i140, i144, i192, i200, i240, i255, i304, i309, i310, i311, i323, i324, i325, i899, i900, i975, i999, i5200, i4875, i65536, i65537, i15, ob_some, nI_add, nI_clamp, zn_zib, zn_eq, zn_lt, zn_le, m2_lt, m2_le, lt_m2, le_m2, eq_m2, m2_eq, m1_lt, m1_le, lt_m1, le_m1, eq_m1, m1_eq, m1_m2, m2_m1, m2_lt_m1, bI_0, bI_1, bI_t, bI_f, bI_bo, nI0_bo, nI1_bo, if_true, if_false, ite_true, ite_false, Nat.zero_add, Nat.not_lt_zero, Nat.zero_le, not_true_eq_false, not_false_eq_true, or_false, false_or, true_or, or_true, and_true, true_and, Bool.false_eq_true, Bool.true_eq_false, reduceCtorEq, eq_self]
      · have q2 : n / 2 ≤ a := by omega
        simp (disch := omega) only [eo_s, pk_div, q, q2, decide_false, Option.isSome, Bool.true_and, ↓lm1, ↓lm2, i0, i1, i2, i3, i4, i5, i6, i7, i8, i9, i10, i12, i16, i20, i24, i31, i32, i44, i48, i57, i59, i63, i64, i74, i75, i90, i96, i97, i99, i100, i122, i139, i140, i144, i192, i200, i240, i255, i304, i309, i310, i311, i323, i324, i325, i899, i900, i975, i999, i5200, i4875, i65536, i65537, i15, ob_some, nI_add, nI_clamp, zn_zib, zn_eq, zn_lt, zn_le, m2_lt, m2_le, lt_m2, le_m2, eq_m2, m2_eq, m1_lt, m1_le, lt_m1, le_m1, eq_m1, m1_eq, m1_m2, m2_m1, m2_lt_m1, bI_0, bI_1, bI_t, bI_f, bI_bo, nI0_bo, nI1_bo, if_true, if_false, ite_true, ite_false, Nat.zero_add, Nat.not_lt_zero, Nat.zero_le, not_true_eq_false, not_false_eq_true, or_false, false_or, true_or, or_true, and_true, true_and, Bool.false_eq_true, Bool.true_eq_false, reduceCtorEq, eq_self]
def rmI (st : Nat → Int32) (n : Nat) (U : Nat → Bool) : Int32 := match mxo U (ag st n) n with
  | none => m2
  | some a => if (fi (fun w => !rn st w) 6).isSome then nI (n / 2 - a) else nI 0
theorem X6_roomBeside (H : RC R st n m c) (S : Int64) {U : Nat → Bool} (hU : ∀ t, t < 64 → lb S t = U t) : f_X6_roomBeside R S = some (rmI st n U) := by
  have hn := WS_n (RC_W H)
  unfold f_X6_roomBeside rmI
  rw [X6_greatestAge H, ob_some, mxo_cong (fun k hk => hU k (by omega))]
  cases hx : mxo U (ag st n) n with
  | none => simp (disch := omega) only [eo_n, ↓lm1, ↓lm2, i0, i1, i2, i3, i4, i5, i6, i7, i8, i9, i10, i12, i16, i20, i24, i31, i32, i44, i48, i57, i59, i63, i64, i74, i75, i90, i96, i97, i99, i100, i122, i139, i140, i144, i192, i200, i240, i255, i304, i309, i310, i311, i323, i324, i325, i899, i900, i975, i999, i5200, i4875, i65536, i65537, i15, ob_some, nI_add, nI_clamp, zn_zib, zn_eq, zn_lt, zn_le, m2_lt, m2_le, lt_m2, le_m2, eq_m2, m2_eq, m1_lt, m1_le, lt_m1, le_m1, eq_m1, m1_eq, m1_m2, m2_m1, m2_lt_m1, bI_0, bI_1, bI_t, bI_f, bI_bo, nI0_bo, nI1_bo, if_true, if_false, ite_true, ite_false, Nat.zero_add, Nat.not_lt_zero, Nat.zero_le, not_true_eq_false, not_false_eq_true, or_false, false_or, true_or, or_true, and_true, true_and, Bool.false_eq_true, Bool.true_eq_false, reduceCtorEq, eq_self]
  | some a =>
    have ha := mxo_lt (RC_W H) hx
    simp (disch := omega) only [eo_s, X6_firstFreeSlot H, ↓lm1, ↓lm2, i0, i1, i2, i3, i4, i5, i6, i7, i8, i9, i10, i12, i16, i20, i24, i31, i32, i44, i48, i57, i59, i63, i64, i74, i75, i90, i96, i97, i99, i100, i122, i139, i140, i144, i192, i200, i240, i255, i304, i309, i310, i311, i323, i324, i325, i899, i900, i975, i999, i5200, i4875, i65536, i65537, i15, ob_some, nI_add, nI_clamp, zn_zib, zn_eq, zn_lt, zn_le, m2_lt, m2_le, lt_m2, le_m2, eq_m2, m2_eq, m1_lt, m1_le, lt_m1, le_m1, eq_m1, m1_eq, m1_m2, m2_m1, m2_lt_m1, bI_0, bI_1, bI_t, bI_f, bI_bo, nI0_bo, nI1_bo, if_true, if_false, ite_true, ite_false, Nat.zero_add, Nat.not_lt_zero, Nat.zero_le, not_true_eq_false, not_false_eq_true, or_false, false_or, true_or, or_true, and_true, true_and, Bool.false_eq_true, Bool.true_eq_false, reduceCtorEq, eq_self]
    cases hf : fi (fun w => !rn st w) 6 with
    | none => simp (disch := omega) only [eo_n, Option.isSome, ↓lm1, ↓lm2, i0, i1, i2, i3, i4, i5, i6, i7, i8, i9, i10, i12, i16, i20, i24, i31, i32, i44, i48, i57, i59, i63, i64, i74, i75, i90, i96, i97, i99, i100, i122, i139, i140, i144, i192, i200, i240, i255, i304, i309, i310, i311, i323, i324, i325, i899, i900, i975, i999, i5200, i4875, i65536, i65537, i15, ob_some, nI_add, nI_clamp, zn_zib, zn_eq, zn_lt, zn_le, m2_lt, m2_le, lt_m2, le_m2, eq_m2, m2_eq, m1_lt, m1_le, lt_m1, le_m1, eq_m1, m1_eq, m1_m2, m2_m1, m2_lt_m1, bI_0, bI_1, bI_t, bI_f, bI_bo, nI0_bo, nI1_bo, if_true, if_false, ite_true, ite_false, Nat.zero_add, Nat.not_lt_zero, Nat.zero_le, not_true_eq_false, not_false_eq_true, or_false, false_or, true_or, or_true, and_true, true_and, Bool.false_eq_true, Bool.true_eq_false, reduceCtorEq, eq_self]
    | some w =>
      have hw := (fi_some hf).1
      by_cases q : a ≤ n / 2
      · by_cases q2 : 0 < n / 2 - a
        · simp (disch := omega) only [eo_s, RC_ring H, pk_div, pk_sub, q2, Option.isSome, ↓lm1, ↓lm2, i0, i1, i2, i3, i4, i5, i6, i7, i8, i9, i10, i12, i16, i20, i24, i31, i32, i44, i48, i57, i59, i63, i64, i74, i75, i90, i96, i97, i99, i100, i122, i139, i140, i144, i192, i200, i240, i255, i304, i309, i310, i311, i323, i324, i325, i899, i900, i975, i999, i5200, i4875, i65536, i65537, i15, ob_some, nI_add, nI_clamp, zn_zib, zn_eq, zn_lt, zn_le, m2_lt, m2_le, lt_m2, le_m2, eq_m2, m2_eq, m1_lt, m1_le, lt_m1, le_m1, eq_m1, m1_eq, m1_m2, m2_m1, m2_lt_m1, bI_0, bI_1, bI_t, bI_f, bI_bo, nI0_bo, nI1_bo, if_true, if_false, ite_true, ite_false, Nat.zero_add, Nat.not_lt_zero, Nat.zero_le, not_true_eq_false, not_false_eq_true, or_false, false_or, true_or, or_true, and_true, true_and, Bool.false_eq_true, Bool.true_eq_false, reduceCtorEq, eq_self]
        · simp (disch := omega) only [eo_s, RC_ring H, pk_div, pk_sub, q2, Option.isSome, ↓lm1, ↓lm2, i0, i1, i2, i3, i4, i5, i6, i7, i8, i9, i10, i12, i16, i20, i24, i31, i32, i44, i48, i57, i59, i63, i64, i74, i75, i90, i96, i97, i99, i100, i122, i139, i140, i144, i192, i200, i240, i255, i304, i309, i310, i311, i323, i324, i325, i899, i900, i975, i999, i5200, i4875, i65536, i65537, i15, ob_some, nI_add, nI_clamp, zn_zib, zn_eq, zn_lt, zn_le, m2_lt, m2_le, lt_m2, le_m2, eq_m2, m2_eq, m1_lt, m1_le, lt_m1, le_m1, eq_m1, m1_eq, m1_m2, m2_m1, m2_lt_m1, bI_0, bI_1, bI_t, bI_f, bI_bo, nI0_bo, nI1_bo, if_true, if_false, ite_true, ite_false, Nat.zero_add, Nat.not_lt_zero, Nat.zero_le, not_true_eq_false, not_false_eq_true, or_false, false_or, true_or, or_true, and_true, true_and, Bool.false_eq_true, Bool.true_eq_false, reduceCtorEq, eq_self]
          rw [show n / 2 - a = 0 by omega]
      · have hneg : ¬ nI 0 < nI (n / 2) - nI a := by
          have h1 := pk_sneg (a := n / 2) (b := a) (by omega) (by omega)
          rw [fa_lt] at h1 ⊢
          have h2 : (0 : Int32).toInt = 0 := by decide
          have h3 : (nI 0).toInt = 0 := by decide
          omega
        simp (disch := omega) only [eo_s, RC_ring H, pk_div, hneg, Option.isSome, ↓lm1, ↓lm2, i0, i1, i2, i3, i4, i5, i6, i7, i8, i9, i10, i12, i16, i20, i24, i31, i32, i44, i48, i57, i59, i63, i64, i74, i75, i90, i96, i97, i99, i100, i122, i139, i140, i144, i192, i200, i240, i255, i304, i309, i310, i311, i323, i324, i325, i899, i900, i975, i999, i5200, i4875, i65536, i65537, i15, ob_some, nI_add, nI_clamp, zn_zib, zn_eq, zn_lt, zn_le, m2_lt, m2_le, lt_m2, le_m2, eq_m2, m2_eq, m1_lt, m1_le, lt_m1, le_m1, eq_m1, m1_eq, m1_m2, m2_m1, m2_lt_m1, bI_0, bI_1, bI_t, bI_f, bI_bo, nI0_bo, nI1_bo, if_true, if_false, ite_true, ite_false, Nat.zero_add, Nat.not_lt_zero, Nat.zero_le, not_true_eq_false, not_false_eq_true, or_false, false_or, true_or, or_true, and_true, true_and, Bool.false_eq_true, Bool.true_eq_false, reduceCtorEq, eq_self]
        rw [show n / 2 - a = 0 by omega]
theorem X6_inUseWhenFrozen (H : RC R st n m c) : ∃ S, f_X6_inUseWhenFrozen R = some S ∧ ∀ t, t < 64 → lb S t = iuf st n t := by
  have hn := WS_n (RC_W H)
  have hm := WS_m (RC_W H)
  have hset : ∀ t, t < 64 → lb (Rows_doneStamps R &&& ot n (hz st n m2)) t = (decide (t < n) && stl st n m2 t) := fun t ht => by
    rw [lb_and, RC_dn H ht, lb_ot ht]
    unfold stl
    cases dn st t <;> cases decide (t < n) <;> rfl
  have key : ∀ v, v < 48 → ∃ b1 b2, f_X6_bitOf (st (96 + v)) = some b1 ∧ f_X6_bitOf (st (144 + v)) = some b2 ∧ ∀ t, t < 64 → lb ((b1 &&& ((Rows_doneStamps R &&& ot n (hz st n m2)) ^^^ (-1))) ||| (b2 &&& (Rows_goneStamps R ^^^ (-1)))) t = (decide (st (96 + v) = nI t) && !stl st n m2 t || decide (st (144 + v) = nI t) && !gn st t) := fun v hv => by
    obtain ⟨b1, h1, h2⟩ := bit_ok (by omega : n ≤ 64) (WS_f (RC_W H) hv)
    obtain ⟨b2, h3, h4⟩ := bit_ok (by omega : n ≤ 64) (WS_d (RC_W H) hv)
    refine ⟨b1, b2, h1, h3, fun t ht => ?_⟩
    rw [lb_or, lb_and, lb_and, lb_not ht, lb_not ht, h2 t ht, h4 t ht, RC_gn H ht, hset t ht]
    congr 1
    by_cases q : st (96 + v) = nI t
    · have : t < n := by
        rcases WS_f (RC_W H) hv with e | ⟨s, hs, e⟩
        · rw [e, m2_eq (by omega)] at q
          cases q
        · rw [e, zn_eq (by omega) (by omega)] at q
          omega
      rw [decide_eq_true this, Bool.true_and]
    · rw [decide_eq_false q, Bool.false_and, Bool.false_and]
  let g : Nat → Int64 := fun v => (((f_X6_bitOf (st (96 + v))).getD 0) &&& ((Rows_doneStamps R &&& ot n (hz st n m2)) ^^^ (-1))) ||| (((f_X6_bitOf (st (144 + v))).getD 0) &&& (Rows_goneStamps R ^^^ (-1)))
  let p : Nat → Bool := fun v => lv st v && !dd st (gn st) (stl st n m2) v
  have hgi : ∀ v b1 b2, f_X6_bitOf (st (96 + v)) = some b1 → f_X6_bitOf (st (144 + v)) = some b2 → g v = ((b1 &&& ((Rows_doneStamps R &&& ot n (hz st n m2)) ^^^ (-1))) ||| (b2 &&& (Rows_goneStamps R ^^^ (-1)))) := fun v b1 b2 e1 e2 => by
    show (((f_X6_bitOf (st (96 + v))).getD 0) &&& _) ||| (((f_X6_bitOf (st (144 + v))).getD 0) &&& _) = _
    rw [e1, e2]
    rfl
  refine ⟨orL 0 p g 48 ||| orL 0 (fun w => !decide (nI w = m2)) (Rows_held R) 6, ?_, fun t ht => ?_⟩
  · unfold f_X6_inUseWhenFrozen
    rw [lm2, X6_settledWithout H, ob_some]
    refine zl3_fold 48 (fun _ => Rows_doneStamps R &&& ot n (hz st n m2)) (orL 0 p g) _ (by omega) (fun k i hi => ?_) (fun k => ?_)
    · have h1 : ¬ 48 ≤ i := by omega
      obtain ⟨b1, b2, e1, e2, -⟩ := key i hi
      unfold b_X6_inUseWhenFrozen_12
      rw [orL_s, hgi i b1 b2 e1 e2]
      have hpi : p i = (lv st i && !dd st (gn st) (stl st n m2) i) := rfl
      rw [hpi]
      generalize orL 0 p g i = F
      rcases RC_v H hi with ⟨e, -⟩ | ⟨r, hr, e, -, -, f1, f2⟩
      · simp (disch := omega) only [h1, X6_isVersion H hi, lv_f e, Bool.false_and, ↓lm1, ↓lm2, i0, i1, i2, i3, i4, i5, i6, i7, i8, i9, i10, i12, i16, i20, i24, i31, i32, i44, i48, i57, i59, i63, i64, i74, i75, i90, i96, i97, i99, i100, i122, i139, i140, i144, i192, i200, i240, i255, i304, i309, i310, i311, i323, i324, i325, i899, i900, i975, i999, i5200, i4875, i65536, i65537, i15, ob_some, nI_add, nI_clamp, zn_zib, zn_eq, zn_lt, zn_le, m2_lt, m2_le, lt_m2, le_m2, eq_m2, m2_eq, m1_lt, m1_le, lt_m1, le_m1, eq_m1, m1_eq, m1_m2, m2_m1, m2_lt_m1, bI_0, bI_1, bI_t, bI_f, bI_bo, nI0_bo, nI1_bo, if_true, if_false, ite_true, ite_false, Nat.zero_add, Nat.not_lt_zero, Nat.zero_le, not_true_eq_false, not_false_eq_true, or_false, false_or, true_or, or_true, and_true, true_and, Bool.false_eq_true, Bool.true_eq_false, reduceCtorEq, eq_self]
      · simp (disch := omega) only [h1, X6_isVersion H hi, lv_t e (by omega : r < 100), X6_isDead H _ _ hi, dd_cong (RC_W H) (fun s hs => RC_gn H (by omega : s < 64)) (fun s hs => lb_stl H m2 hs) hi, ↓lm1, ↓lm2, i0, i1, i2, i3, i4, i5, i6, i7, i8, i9, i10, i12, i16, i20, i24, i31, i32, i44, i48, i57, i59, i63, i64, i74, i75, i90, i96, i97, i99, i100, i122, i139, i140, i144, i192, i200, i240, i255, i304, i309, i310, i311, i323, i324, i325, i899, i900, i975, i999, i5200, i4875, i65536, i65537, i15, ob_some, nI_add, nI_clamp, zn_zib, zn_eq, zn_lt, zn_le, m2_lt, m2_le, lt_m2, le_m2, eq_m2, m2_eq, m1_lt, m1_le, lt_m1, le_m1, eq_m1, m1_eq, m1_m2, m2_m1, m2_lt_m1, bI_0, bI_1, bI_t, bI_f, bI_bo, nI0_bo, nI1_bo, if_true, if_false, ite_true, ite_false, Nat.zero_add, Nat.not_lt_zero, Nat.zero_le, not_true_eq_false, not_false_eq_true, or_false, false_or, true_or, or_true, and_true, true_and, Bool.false_eq_true, Bool.true_eq_false, reduceCtorEq, eq_self]
        cases dd st (gn st) (stl st n m2) i
        · simp (disch := omega) only [f1, f2, e1, e2, Bool.not_false, Bool.true_and, zn_zib, nI_clamp, if_true, ob_some]
        · simp (disch := omega) only [Bool.not_true, Bool.and_false, ↓lm1, ↓lm2, i0, i1, i2, i3, i4, i5, i6, i7, i8, i9, i10, i12, i16, i20, i24, i31, i32, i44, i48, i57, i59, i63, i64, i74, i75, i90, i96, i97, i99, i100, i122, i139, i140, i144, i192, i200, i240, i255, i304, i309, i310, i311, i323, i324, i325, i899, i900, i975, i999, i5200, i4875, i65536, i65537, i15, ob_some, nI_add, nI_clamp, zn_zib, zn_eq, zn_lt, zn_le, m2_lt, m2_le, lt_m2, le_m2, eq_m2, m2_eq, m1_lt, m1_le, lt_m1, le_m1, eq_m1, m1_eq, m1_m2, m2_m1, m2_lt_m1, bI_0, bI_1, bI_t, bI_f, bI_bo, nI0_bo, nI1_bo, if_true, if_false, ite_true, ite_false, Nat.zero_add, Nat.not_lt_zero, Nat.zero_le, not_true_eq_false, not_false_eq_true, or_false, false_or, true_or, or_true, and_true, true_and, Bool.false_eq_true, Bool.true_eq_false, reduceCtorEq, eq_self]
    · unfold b_X6_inUseWhenFrozen_12
      simp (disch := omega) only [Nat.le_refl, X6_heldWithout H, ↓lm1, ↓lm2, i0, i1, i2, i3, i4, i5, i6, i7, i8, i9, i10, i12, i16, i20, i24, i31, i32, i44, i48, i57, i59, i63, i64, i74, i75, i90, i96, i97, i99, i100, i122, i139, i140, i144, i192, i200, i240, i255, i304, i309, i310, i311, i323, i324, i325, i899, i900, i975, i999, i5200, i4875, i65536, i65537, i15, ob_some, nI_add, nI_clamp, zn_zib, zn_eq, zn_lt, zn_le, m2_lt, m2_le, lt_m2, le_m2, eq_m2, m2_eq, m1_lt, m1_le, lt_m1, le_m1, eq_m1, m1_eq, m1_m2, m2_m1, m2_lt_m1, bI_0, bI_1, bI_t, bI_f, bI_bo, nI0_bo, nI1_bo, if_true, if_false, ite_true, ite_false, Nat.zero_add, Nat.not_lt_zero, Nat.zero_le, not_true_eq_false, not_false_eq_true, or_false, false_or, true_or, or_true, and_true, true_and, Bool.false_eq_true, Bool.true_eq_false, reduceCtorEq, eq_self]
  · rw [lb_or, lb_orL, lb_0, Bool.false_or, lb_hbx H m2 ht]
    unfold iuf
    congr 1
    refine an_cong (fun v hv => ?_)
    obtain ⟨b1, b2, e1, e2, e3⟩ := key v hv
    rw [hgi v b1 b2 e1 e2, e3 t ht]
end
