/-! what was seen, weighed -/
def xr (f : Nat → Bool) : Nat → Bool
  | 0 => false
  | n + 1 => xr f n ^^ f n
theorem xr_s (f : Nat → Bool) (n : Nat) : xr f (n + 1) = (xr f n ^^ f n) := rfl
theorem xr_0 {f : Nat → Bool} : ∀ {n : Nat}, (∀ k, k < n → f k = false) → xr f n = false
  | 0, _ => rfl
  | n + 1, h => by rw [xr_s, xr_0 (fun k hk => h k (by omega)), h n (by omega)]; rfl
def FL (r on : Nat → Int32) (n u : Nat) (sv : Nat → Nat) (fk : Nat → Bool) : Prop := ∀ k, k < u → ∃ i, i < 12 ∧ sv k < n ∧ r (8 + k) = nI i ∧ r (20 + i) = nI (sv k) ∧ fk k = decide (on (sv k) = nI (i + 1))
def fxB (sv : Nat → Nat) (fk : Nat → Bool) (x : Int32) (j s : Nat) : Bool := xr (fun k => bt x k && fk k && decide (s = sv k)) j
def cx (told : Nat → Int32) (sv : Nat → Nat) (fk : Nat → Bool) (u : Nat) (x : Int32) (s : Nat) : Bool := dn told s ^^ fxB sv fk x u s
def wv (told : Nat → Int32) (rw' : Nat → Nat) (vals : Nat → Int32) (ev : Nat) (C : Nat → Bool) : Option Nat := fi (fun k => !decide (va told (bst told (sp told C (rw' k)) 48) = vals k)) ev
def EM (r on og told : Nat → Int32) (n m u ev : Nat) (sv : Nat → Nat) (fk : Nat → Bool) (rw' : Nat → Nat) (vals : Nat → Int32) : Prop := WS told n m ∧ u ≤ 4 ∧ ev ≤ 8 ∧ r 4 = nI u ∧ r 5 = nI ev ∧ FL r on n u sv fk ∧ ∀ k, k < ev → rw' k < m ∧ og k = nI (rw' k) ∧ ((vals k = m2 ∧ r (12 + rw' k) = nI 1) ∨ ∃ v, v ≤ 999 ∧ vals k = nI v ∧ r (12 + rw' k) = nI (v + 2))
theorem wv_cong {told : Nat → Int32} {rw' : Nat → Nat} {vals : Nat → Int32} {ev n m : Nat} {C C' : Nat → Bool} (W : WS told n m) (h : ∀ s, s < n → C' s = C s) : wv told rw' vals ev C' = wv told rw' vals ev C := by
  unfold wv
  refine fi_cong (fun k hk => ?_)
  rw [va_st W (fun i _ => rfl) h]
section
variable {E : SEv} {R : SRows} {S : SMo} {r on og told tr st : Nat → Int32} {n m c u ev : Nat} {sv rw' : Nat → Nat} {fk : Nat → Bool} {vals : Nat → Int32}
theorem va_c (W : WS st n m) (P : Nat → Bool) : va st (bst st P 48) = m2 ∨ ∃ a, a ≤ 999 ∧ va st (bst st P 48) = nI a := by
  cases h : bst st P 48 with
  | none => exact .inl rfl
  | some v =>
    obtain ⟨⟨h1, -⟩, -⟩ := bst_some h
    exact .inr (WS_a W h1)
theorem WS_tr (W : WS told n m) (h1 : ∀ i, i < 325 → (i < 240 ∨ 304 ≤ i) → tr i = told i) (h2 : ∀ s, s < 64 → ∃ k, k < 4 ∧ tr (240 + s) = nI k) : WS tr n m := by
  obtain ⟨w1, w2, w3, w4, w5⟩ := W
  refine ⟨w1, ?_, fun v hv => ?_, h2, fun w hw => ?_⟩
  · rw [h1 323 (by omega) (by omega)]
    exact w2
  · have := w3 v hv
    unfold WV at this ⊢
    rw [h1 v (by omega) (by omega), h1 (48 + v) (by omega) (by omega), h1 (96 + v) (by omega) (by omega), h1 (144 + v) (by omega) (by omega), h1 (192 + v) (by omega) (by omega)]
    exact this
  · rw [h1 (304 + w) (by omega) (by omega)]
    exact w5 w hw
theorem M_firstWrong (h : EM r on og told n m u ev sv fk rw' vals) (W : WS tr n m) (ht : ∀ i, i < 240 → tr i = told i) {C : Nat → Bool} (hC : ∀ s, s < n → dn tr s = C s) : f_X10_firstWrong S og r tr = some (eo (wv told rw' vals ev C)) := by
  obtain ⟨W0, h1, h2, h3, h4, h5, h6⟩ := h
  have hm := WS_m W
  unfold f_X10_firstWrong
  refine zl1_up ev 0 (fun j => ∀ k, k < j → (!decide (va told (bst told (sp told C (rw' k)) 48) = vals k)) = false) _ (by omega) (Nat.zero_le _) (fun k hk => absurd hk (Nat.not_lt_zero k)) (fun k j hj hI => ?_) (fun k hI => ?_)
  · obtain ⟨a1, a2, a3⟩ := h6 j hj
    have b1 : ¬ ev ≤ j := by omega
    have hv := M_valueOf (S := S) (x := m1) (who_fresh W) W a1
    rw [va_st W0 ht hC] at hv
    have more : va told (bst told (sp told C (rw' j)) 48) = vals j → ∀ k, k < j + 1 → (!decide (va told (bst told (sp told C (rw' k)) 48) = vals k)) = false := fun z k hk => by
      by_cases y : k = j
      · rw [y, decide_eq_true z]
        rfl
      · exact hI k (by omega)
    have stop : ¬ va told (bst told (sp told C (rw' j)) 48) = vals j → wv told rw' vals ev C = some j := fun z => fi_eq hj (by rw [decide_eq_false z]; rfl) hI
    unfold b_X10_firstWrong_2 b_X10_firstWrong_39
    rcases va_c W0 (sp told C (rw' j)) with z | ⟨a, ha, z⟩
    · rw [z] at hv more stop
      have em : m1 + nI 2 = nI 1 := by decide
      rcases a3 with ⟨y1, y2⟩ | ⟨v, hv9, y1, y2⟩
      · refine .inr ⟨more y1.symm, ?_⟩
        simp (disch := omega) only [h4, b1, a2, hv, em, y2, ↓lm1, ↓lm2, i0, i1, i2, i3, i4, i5, i6, i7, i8, i9, i10, i12, i16, i20, i24, i31, i32, i44, i48, i57, i59, i63, i64, i74, i75, i90, i96, i97, i99, i100, i122, i139, i140, i144, i192, i200, i240, i255, i304, i309, i310, i311, i323, i324, i325, i899, i900, i975, i999, i5200, i4875, i65536, i65537, i15, ob_some, nI_add, nI_clamp, zn_zib, zn_eq, zn_lt, zn_le, m2_lt, m2_le, lt_m2, le_m2, eq_m2, m2_eq, m1_lt, m1_le, lt_m1, le_m1, eq_m1, m1_eq, m1_m2, m2_m1, m2_lt_m1, bI_0, bI_1, bI_t, bI_f, bI_bo, nI0_bo, nI1_bo, if_true, if_false, ite_true, ite_false, Nat.zero_add, Nat.not_lt_zero, Nat.zero_le, not_true_eq_false, not_false_eq_true, or_false, false_or, true_or, or_true, and_true, true_and, Bool.false_eq_true, Bool.true_eq_false, reduceCtorEq, eq_self]
      · refine .inl ?_
        rw [stop (by rw [y1, m2_eq (by omega)]; exact not_false)]
        have q1 : ¬ 1 = v + 2 := by omega
        simp (disch := omega) only [h4, b1, a2, hv, em, y2, q1, ↓lm1, ↓lm2, i0, i1, i2, i3, i4, i5, i6, i7, i8, i9, i10, i12, i16, i20, i24, i31, i32, i44, i48, i57, i59, i63, i64, i74, i75, i90, i96, i97, i99, i100, i122, i139, i140, i144, i192, i200, i240, i255, i304, i309, i310, i311, i323, i324, i325, i899, i900, i975, i999, i5200, i4875, i65536, i65537, i15, ob_some, nI_add, nI_clamp, zn_zib, zn_eq, zn_lt, zn_le, m2_lt, m2_le, lt_m2, le_m2, eq_m2, m2_eq, m1_lt, m1_le, lt_m1, le_m1, eq_m1, m1_eq, m1_m2, m2_m1, m2_lt_m1, bI_0, bI_1, bI_t, bI_f, bI_bo, nI0_bo, nI1_bo, if_true, if_false, ite_true, ite_false, Nat.zero_add, Nat.not_lt_zero, Nat.zero_le, not_true_eq_false, not_false_eq_true, or_false, false_or, true_or, or_true, and_true, true_and, Bool.false_eq_true, Bool.true_eq_false, reduceCtorEq, eq_self]
        rfl
    · rw [z] at hv more stop
      have q0 : 0 ≤ a := Nat.zero_le a
      rcases a3 with ⟨y1, y2⟩ | ⟨v, hv9, y1, y2⟩
      · refine .inl ?_
        rw [stop (by rw [y1, eq_m2 (by omega)]; exact not_false)]
        have q1 : ¬ a + 2 = 1 := by omega
        simp (disch := omega) only [h4, b1, a2, hv, y2, q0, q1, ↓lm1, ↓lm2, i0, i1, i2, i3, i4, i5, i6, i7, i8, i9, i10, i12, i16, i20, i24, i31, i32, i44, i48, i57, i59, i63, i64, i74, i75, i90, i96, i97, i99, i100, i122, i139, i140, i144, i192, i200, i240, i255, i304, i309, i310, i311, i323, i324, i325, i899, i900, i975, i999, i5200, i4875, i65536, i65537, i15, ob_some, nI_add, nI_clamp, zn_zib, zn_eq, zn_lt, zn_le, m2_lt, m2_le, lt_m2, le_m2, eq_m2, m2_eq, m1_lt, m1_le, lt_m1, le_m1, eq_m1, m1_eq, m1_m2, m2_m1, m2_lt_m1, bI_0, bI_1, bI_t, bI_f, bI_bo, nI0_bo, nI1_bo, if_true, if_false, ite_true, ite_false, Nat.zero_add, Nat.not_lt_zero, Nat.zero_le, not_true_eq_false, not_false_eq_true, or_false, false_or, true_or, or_true, and_true, true_and, Bool.false_eq_true, Bool.true_eq_false, reduceCtorEq, eq_self]
        rfl
      · by_cases y : a = v
        · refine .inr ⟨more (by rw [y1, y]), ?_⟩
          simp (disch := omega) only [h4, b1, a2, hv, y2, q0, y, ↓lm1, ↓lm2, i0, i1, i2, i3, i4, i5, i6, i7, i8, i9, i10, i12, i16, i20, i24, i31, i32, i44, i48, i57, i59, i63, i64, i74, i75, i90, i96, i97, i99, i100, i122, i139, i140, i144, i192, i200, i240, i255, i304, i309, i310, i311, i323, i324, i325, i899, i900, i975, i999, i5200, i4875, i65536, i65537, i15, ob_some, nI_add, nI_clamp, zn_zib, zn_eq, zn_lt, zn_le, m2_lt, m2_le, lt_m2, le_m2, eq_m2, m2_eq, m1_lt, m1_le, lt_m1, le_m1, eq_m1, m1_eq, m1_m2, m2_m1, m2_lt_m1, bI_0, bI_1, bI_t, bI_f, bI_bo, nI0_bo, nI1_bo, if_true, if_false, ite_true, ite_false, Nat.zero_add, Nat.not_lt_zero, Nat.zero_le, not_true_eq_false, not_false_eq_true, or_false, false_or, true_or, or_true, and_true, true_and, Bool.false_eq_true, Bool.true_eq_false, reduceCtorEq, eq_self]
        · refine .inl ?_
          rw [stop (by rw [y1, zn_eq (by omega) (by omega)]; exact y)]
          have q1 : ¬ a + 2 = v + 2 := by omega
          simp (disch := omega) only [h4, b1, a2, hv, y2, q0, q1, ↓lm1, ↓lm2, i0, i1, i2, i3, i4, i5, i6, i7, i8, i9, i10, i12, i16, i20, i24, i31, i32, i44, i48, i57, i59, i63, i64, i74, i75, i90, i96, i97, i99, i100, i122, i139, i140, i144, i192, i200, i240, i255, i304, i309, i310, i311, i323, i324, i325, i899, i900, i975, i999, i5200, i4875, i65536, i65537, i15, ob_some, nI_add, nI_clamp, zn_zib, zn_eq, zn_lt, zn_le, m2_lt, m2_le, lt_m2, le_m2, eq_m2, m2_eq, m1_lt, m1_le, lt_m1, le_m1, eq_m1, m1_eq, m1_m2, m2_m1, m2_lt_m1, bI_0, bI_1, bI_t, bI_f, bI_bo, nI0_bo, nI1_bo, if_true, if_false, ite_true, ite_false, Nat.zero_add, Nat.not_lt_zero, Nat.zero_le, not_true_eq_false, not_false_eq_true, or_false, false_or, true_or, or_true, and_true, true_and, Bool.false_eq_true, Bool.true_eq_false, reduceCtorEq, eq_self]
          rfl
  · have b1 : ev ≤ ev := Nat.le_refl _
    unfold b_X10_firstWrong_2
    have : wv told rw' vals ev C = none := fi_eqn hI
    rw [this]
    simp (disch := omega) only [h4, b1, ↓lm1, ↓lm2, i0, i1, i2, i3, i4, i5, i6, i7, i8, i9, i10, i12, i16, i20, i24, i31, i32, i44, i48, i57, i59, i63, i64, i74, i75, i90, i96, i97, i99, i100, i122, i139, i140, i144, i192, i200, i240, i255, i304, i309, i310, i311, i323, i324, i325, i899, i900, i975, i999, i5200, i4875, i65536, i65537, i15, ob_some, nI_add, nI_clamp, zn_zib, zn_eq, zn_lt, zn_le, m2_lt, m2_le, lt_m2, le_m2, eq_m2, m2_eq, m1_lt, m1_le, lt_m1, le_m1, eq_m1, m1_eq, m1_m2, m2_m1, m2_lt_m1, bI_0, bI_1, bI_t, bI_f, bI_bo, nI0_bo, nI1_bo, if_true, if_false, ite_true, ite_false, Nat.zero_add, Nat.not_lt_zero, Nat.zero_le, not_true_eq_false, not_false_eq_true, or_false, false_or, true_or, or_true, and_true, true_and, Bool.false_eq_true, Bool.true_eq_false, reduceCtorEq, eq_self]
    rfl
theorem M_wrongBy (h : EM r on og told n m u ev sv fk rw' vals) (x : Int32) : ∃ tr', f_X10_wrongBy S og on r told tr x = some (eo (wv told rw' vals ev (cx told sv fk u x)), tr') := by
  have h' := h
  obtain ⟨W0, h1, h2, h3, h4, h5, h6⟩ := h'
  have hn := WS_n W0
  have hcp : f_X10_copy 325 325 told tr (nI 0) (nI 0) (nI 325) = some (fb_put tr (fun j => told (0 + j)) 0 325) := M_copy (p := 325) (q := 325) (a := 0) (d := 0) (k := 325) told tr (by omega) (by omega) (by omega) (by omega)
  have hcp' : f_X10_copy 325 325 told tr (0 : Int32) (0 : Int32) (325 : Int32) = some (fb_put tr (fun j => told (0 + j)) 0 325) := hcp
  have ht0 : ∀ i, i < 325 → fb_put tr (fun j => told (0 + j)) 0 325 i = told i := fun i hi => by rw [put_in hi, Nat.zero_add]
  unfold f_X10_wrongBy
  rw [hcp', ob_some]
  have key := zl2_ex (f := b_X10_wrongBy_18 S og on r told x) (c1 := fb_put tr (fun j => told (0 + j)) 0 325) u 0 (fun j t => (∀ i, i < 325 → (i < 240 ∨ 304 ≤ i) → t i = told i) ∧ (∀ s, s < 64 → ∃ k, k < 4 ∧ t (240 + s) = nI k) ∧ ∀ s, s < n → dn t s = (dn told s ^^ fxB sv fk x j s)) (fun q => q.1 = eo (wv told rw' vals ev (cx told sv fk u x))) (by omega) (Nat.zero_le _) ⟨fun i hi _ => ht0 i hi, fun s hs => by rw [ht0 _ (by omega)]; exact WS_t W0 hs, fun s hs => by
    show dn _ s = (dn told s ^^ false)
    unfold dn
    rw [ht0 _ (by omega), Bool.xor_false]⟩ (fun k j t hj hI => ?_) (fun k t hI => ?_)
  · obtain ⟨⟨a, tr'⟩, k1, k2⟩ := key
    exact ⟨tr', k1.trans (by rw [← k2])⟩
  · obtain ⟨ih1, ih2, ih3⟩ := hI
    obtain ⟨i, ih4, ih5, ih6, ih7, ih8⟩ := h5 j hj
    have b1 : ¬ u ≤ j := by omega
    have same : (bt x j && fk j) = false → (∀ s, s < n → dn t s = (dn told s ^^ fxB sv fk x (j + 1) s)) := fun z s hs => by
      rw [ih3 s hs]
      unfold fxB
      rw [xr_s, z, Bool.false_and, Bool.xor_false]
    unfold b_X10_wrongBy_18
    cases z : bt x j
    · refine .inr ⟨t, ⟨ih1, ih2, same (by rw [z]; rfl)⟩, ?_⟩
      simp (disch := omega) only [h3, b1, ih6, M_hasBit x (by omega : j < 32), z, ↓lm1, ↓lm2, i0, i1, i2, i3, i4, i5, i6, i7, i8, i9, i10, i12, i16, i20, i24, i31, i32, i44, i48, i57, i59, i63, i64, i74, i75, i90, i96, i97, i99, i100, i122, i139, i140, i144, i192, i200, i240, i255, i304, i309, i310, i311, i323, i324, i325, i899, i900, i975, i999, i5200, i4875, i65536, i65537, i15, ob_some, nI_add, nI_clamp, zn_zib, zn_eq, zn_lt, zn_le, m2_lt, m2_le, lt_m2, le_m2, eq_m2, m2_eq, m1_lt, m1_le, lt_m1, le_m1, eq_m1, m1_eq, m1_m2, m2_m1, m2_lt_m1, bI_0, bI_1, bI_t, bI_f, bI_bo, nI0_bo, nI1_bo, if_true, if_false, ite_true, ite_false, Nat.zero_add, Nat.not_lt_zero, Nat.zero_le, not_true_eq_false, not_false_eq_true, or_false, false_or, true_or, or_true, and_true, true_and, Bool.false_eq_true, Bool.true_eq_false, reduceCtorEq, eq_self]
    · by_cases y : on (sv j) = nI (i + 1)
      · have yk : fk j = true := by rw [ih8]; exact decide_eq_true y
        have flip : ∀ d : Nat, d < 4 → (dn (upd t (240 + sv j) (nI d)) (sv j) = !dn t (sv j)) → ((∀ i, i < 325 → (i < 240 ∨ 304 ≤ i) → upd t (240 + sv j) (nI d) i = told i) ∧ (∀ s, s < 64 → ∃ k, k < 4 ∧ upd t (240 + sv j) (nI d) (240 + s) = nI k) ∧ ∀ s, s < n → dn (upd t (240 + sv j) (nI d)) s = (dn told s ^^ fxB sv fk x (j + 1) s)) := fun d hd hdn => ⟨fun i' hi hi2 => by rw [upd_ne (by omega)]; exact ih1 i' hi hi2, fun s hs => by
            by_cases v : s = sv j
            · rw [v, upd_eq]
              exact ⟨d, hd, rfl⟩
            · rw [upd_ne (by omega)]
              exact ih2 s hs, fun s hs => by
            unfold fxB
            rw [xr_s, z, yk]
            by_cases v : s = sv j
            · have ih3' := ih3 (sv j) ih5
              unfold fxB at ih3'
              rw [v, hdn, ih3', decide_eq_true rfl, Bool.true_and, Bool.true_and, ← Bool.xor_assoc, Bool.xor_true]
            · have ih3' := ih3 s hs
              unfold fxB at ih3'
              have : dn (upd t (240 + sv j) (nI d)) s = dn t s := by
                unfold dn
                rw [upd_ne (by omega)]
              rw [this, ih3', decide_eq_false v, Bool.and_false, Bool.xor_false]⟩
        by_cases w : t (240 + sv j) = nI 2
        · refine .inr ⟨upd t (240 + sv j) (nI 3), flip 3 (by omega) ?_, ?_⟩
          · unfold dn
            rw [upd_eq, w]
            decide
          · simp (disch := omega) only [h3, b1, ih6, ih7, M_hasBit x (by omega : j < 32), z, eq_true y, w, ↓lm1, ↓lm2, i0, i1, i2, i3, i4, i5, i6, i7, i8, i9, i10, i12, i16, i20, i24, i31, i32, i44, i48, i57, i59, i63, i64, i74, i75, i90, i96, i97, i99, i100, i122, i139, i140, i144, i192, i200, i240, i255, i304, i309, i310, i311, i323, i324, i325, i899, i900, i975, i999, i5200, i4875, i65536, i65537, i15, ob_some, nI_add, nI_clamp, zn_zib, zn_eq, zn_lt, zn_le, m2_lt, m2_le, lt_m2, le_m2, eq_m2, m2_eq, m1_lt, m1_le, lt_m1, le_m1, eq_m1, m1_eq, m1_m2, m2_m1, m2_lt_m1, bI_0, bI_1, bI_t, bI_f, bI_bo, nI0_bo, nI1_bo, if_true, if_false, ite_true, ite_false, Nat.zero_add, Nat.not_lt_zero, Nat.zero_le, not_true_eq_false, not_false_eq_true, or_false, false_or, true_or, or_true, and_true, true_and, Bool.false_eq_true, Bool.true_eq_false, reduceCtorEq, eq_self]
        · refine .inr ⟨upd t (240 + sv j) (nI 2), flip 2 (by omega) ?_, ?_⟩
          · unfold dn
            rw [upd_eq, decide_eq_false w]
            decide
          · simp (disch := omega) only [h3, b1, ih6, ih7, M_hasBit x (by omega : j < 32), z, eq_true y, eq_false w, ↓lm1, ↓lm2, i0, i1, i2, i3, i4, i5, i6, i7, i8, i9, i10, i12, i16, i20, i24, i31, i32, i44, i48, i57, i59, i63, i64, i74, i75, i90, i96, i97, i99, i100, i122, i139, i140, i144, i192, i200, i240, i255, i304, i309, i310, i311, i323, i324, i325, i899, i900, i975, i999, i5200, i4875, i65536, i65537, i15, ob_some, nI_add, nI_clamp, zn_zib, zn_eq, zn_lt, zn_le, m2_lt, m2_le, lt_m2, le_m2, eq_m2, m2_eq, m1_lt, m1_le, lt_m1, le_m1, eq_m1, m1_eq, m1_m2, m2_m1, m2_lt_m1, bI_0, bI_1, bI_t, bI_f, bI_bo, nI0_bo, nI1_bo, if_true, if_false, ite_true, ite_false, Nat.zero_add, Nat.not_lt_zero, Nat.zero_le, not_true_eq_false, not_false_eq_true, or_false, false_or, true_or, or_true, and_true, true_and, Bool.false_eq_true, Bool.true_eq_false, reduceCtorEq, eq_self]
      · refine .inr ⟨t, ⟨ih1, ih2, same (by rw [ih8, decide_eq_false y, Bool.and_false])⟩, ?_⟩
        simp (disch := omega) only [h3, b1, ih6, ih7, M_hasBit x (by omega : j < 32), z, eq_false y, ↓lm1, ↓lm2, i0, i1, i2, i3, i4, i5, i6, i7, i8, i9, i10, i12, i16, i20, i24, i31, i32, i44, i48, i57, i59, i63, i64, i74, i75, i90, i96, i97, i99, i100, i122, i139, i140, i144, i192, i200, i240, i255, i304, i309, i310, i311, i323, i324, i325, i899, i900, i975, i999, i5200, i4875, i65536, i65537, i15, ob_some, nI_add, nI_clamp, zn_zib, zn_eq, zn_lt, zn_le, m2_lt, m2_le, lt_m2, le_m2, eq_m2, m2_eq, m1_lt, m1_le, lt_m1, le_m1, eq_m1, m1_eq, m1_m2, m2_m1, m2_lt_m1, bI_0, bI_1, bI_t, bI_f, bI_bo, nI0_bo, nI1_bo, if_true, if_false, ite_true, ite_false, Nat.zero_add, Nat.not_lt_zero, Nat.zero_le, not_true_eq_false, not_false_eq_true, or_false, false_or, true_or, or_true, and_true, true_and, Bool.false_eq_true, Bool.true_eq_false, reduceCtorEq, eq_self]
  · obtain ⟨ih1, ih2, ih3⟩ := hI
    have b1 : u ≤ u := Nat.le_refl _
    have hfw := M_firstWrong (S := S) (C := cx told sv fk u x) h (WS_tr W0 ih1 ih2) (fun i hi => ih1 i (by omega) (.inl hi)) ih3
    refine ⟨(eo (wv told rw' vals ev (cx told sv fk u x)), t), ?_, rfl⟩
    unfold b_X10_wrongBy_18
    simp (disch := omega) only [h3, b1, hfw, ↓lm1, ↓lm2, i0, i1, i2, i3, i4, i5, i6, i7, i8, i9, i10, i12, i16, i20, i24, i31, i32, i44, i48, i57, i59, i63, i64, i74, i75, i90, i96, i97, i99, i100, i122, i139, i140, i144, i192, i200, i240, i255, i304, i309, i310, i311, i323, i324, i325, i899, i900, i975, i999, i5200, i4875, i65536, i65537, i15, ob_some, nI_add, nI_clamp, zn_zib, zn_eq, zn_lt, zn_le, m2_lt, m2_le, lt_m2, le_m2, eq_m2, m2_eq, m1_lt, m1_le, lt_m1, le_m1, eq_m1, m1_eq, m1_m2, m2_m1, m2_lt_m1, bI_0, bI_1, bI_t, bI_f, bI_bo, nI0_bo, nI1_bo, if_true, if_false, ite_true, ite_false, Nat.zero_add, Nat.not_lt_zero, Nat.zero_le, not_true_eq_false, not_false_eq_true, or_false, false_or, true_or, or_true, and_true, true_and, Bool.false_eq_true, Bool.true_eq_false, reduceCtorEq, eq_self]
theorem T_flipsOf (hu : u ≤ 4) (hfl : ∀ k, k < u → ∀ t, t < 64 → lb (Ev_flips E k) t = (fk k && decide (t = sv k))) (x : Int32) (hx : ∀ k, u ≤ k → k < 4 → bt x k = false) : ∃ y, f_X2_flipsOf E x = some y ∧ ∀ t, t < 64 → lb y t = fxB sv fk x u t := by
  unfold f_X2_flipsOf
  refine zl2_ex (f := b_X2_flipsOf_5 E x) 4 0 (fun j a => ∀ t, t < 64 → lb a t = fxB sv fk x (if j < u then j else u) t) (fun y => ∀ t, t < 64 → lb y t = fxB sv fk x u t) (by omega) (Nat.zero_le _) (fun t ht => ?_) (fun k j a hj hI => ?_) (fun k a hI => ?_)
  · rw [lb_0]
    by_cases z : 0 < u
    · rw [if_pos z]
      rfl
    · rw [if_neg z, show u = 0 by omega]
      rfl
  · have b1 : ¬ 4 ≤ j := by omega
    have e := bit_and1 x (by omega : j < 32)
    unfold b_X2_flipsOf_5
    cases z : bt x j
    · refine .inr ⟨a, fun t ht => ?_, ?_⟩
      · rw [hI t ht]
        by_cases y : j < u
        · rw [if_pos y]
          have es : fxB sv fk x (j + 1) t = fxB sv fk x j t := by
            unfold fxB
            rw [xr_s, z, Bool.false_and, Bool.false_and, Bool.xor_false]
          by_cases y2 : j + 1 < u
          · rw [if_pos y2, es]
          · rw [if_neg y2, show u = j + 1 by omega, es]
        · rw [if_neg y, if_neg (by omega)]
      · simp (disch := omega) only [b1, e, z, ↓lm1, ↓lm2, i0, i1, i2, i3, i4, i5, i6, i7, i8, i9, i10, i12, i16, i20, i24, i31, i32, i44, i48, i57, i59, i63, i64, i74, i75, i90, i96, i97, i99, i100, i122, i139, i140, i144, i192, i200, i240, i255, i304, i309, i310, i311, i323, i324, i325, i899, i900, i975, i999, i5200, i4875, i65536, i65537, i15, ob_some, nI_add, nI_clamp, zn_zib, zn_eq, zn_lt, zn_le, m2_lt, m2_le, lt_m2, le_m2, eq_m2, m2_eq, m1_lt, m1_le, lt_m1, le_m1, eq_m1, m1_eq, m1_m2, m2_m1, m2_lt_m1, bI_0, bI_1, bI_t, bI_f, bI_bo, nI0_bo, nI1_bo, if_true, if_false, ite_true, ite_false, Nat.zero_add, Nat.not_lt_zero, Nat.zero_le, not_true_eq_false, not_false_eq_true, or_false, false_or, true_or, or_true, and_true, true_and, Bool.false_eq_true, Bool.true_eq_false, reduceCtorEq, eq_self]
    · have y : j < u := by
        by_cases y : j < u
        · exact y
        · rw [hx j (by omega) hj] at z
          cases z
      refine .inr ⟨a ^^^ Ev_flips E j, fun t ht => ?_, ?_⟩
      · have es : fxB sv fk x (j + 1) t = (fxB sv fk x j t ^^ (fk j && decide (t = sv j))) := by
          unfold fxB
          rw [xr_s, z, Bool.true_and]
        rw [lb_xor, hI t ht, if_pos y, hfl j y t ht]
        by_cases y2 : j + 1 < u
        · rw [if_pos y2, es]
        · rw [if_neg y2, show u = j + 1 by omega, es]
      · simp (disch := omega) only [b1, e, z, ↓lm1, ↓lm2, i0, i1, i2, i3, i4, i5, i6, i7, i8, i9, i10, i12, i16, i20, i24, i31, i32, i44, i48, i57, i59, i63, i64, i74, i75, i90, i96, i97, i99, i100, i122, i139, i140, i144, i192, i200, i240, i255, i304, i309, i310, i311, i323, i324, i325, i899, i900, i975, i999, i5200, i4875, i65536, i65537, i15, ob_some, nI_add, nI_clamp, zn_zib, zn_eq, zn_lt, zn_le, m2_lt, m2_le, lt_m2, le_m2, eq_m2, m2_eq, m1_lt, m1_le, lt_m1, le_m1, eq_m1, m1_eq, m1_m2, m2_m1, m2_lt_m1, bI_0, bI_1, bI_t, bI_f, bI_bo, nI0_bo, nI1_bo, if_true, if_false, ite_true, ite_false, Nat.zero_add, Nat.not_lt_zero, Nat.zero_le, not_true_eq_false, not_false_eq_true, or_false, false_or, true_or, or_true, and_true, true_and, Bool.false_eq_true, Bool.true_eq_false, reduceCtorEq, eq_self]
  · refine ⟨a, ?_, fun t ht => ?_⟩
    · have b1 : (4 : Int32) ≤ nI 4 := by decide
      unfold b_X2_flipsOf_5
      rw [if_pos b1]
    · rw [hI t ht]
      by_cases y : 4 < u
      · omega
      · rw [if_neg y]
theorem T_first (H : RC R told n m c) (h2 : ev ≤ 8) (hc : Ev_seenCount E = nI ev) (hr : ∀ k, k < ev → rw' k < m ∧ Ev_seenRows E k = nI (rw' k) ∧ Ev_seenValues E k = vals k) (C : Int64) {C' : Nat → Bool} (hC : ∀ s, s < n → lb C s = C' s) : f_X2_firstNotSo E R C = some (eo (wv told rw' vals ev C')) := by
  have W := RC_W H
  unfold f_X2_firstNotSo
  refine zl1_up ev 0 (fun j => ∀ k, k < j → (!decide (va told (bst told (sp told C' (rw' k)) 48) = vals k)) = false) _ (by omega) (Nat.zero_le _) (fun k hk => absurd hk (Nat.not_lt_zero k)) (fun k j hj hI => ?_) (fun k hI => ?_)
  · obtain ⟨a1, a2, a3⟩ := hr j hj
    have b1 : ¬ ev ≤ j := by omega
    have b2 : ¬ 8 ≤ j := by omega
    have hv := X6_valueSeen H C a1
    rw [va_st W (fun i _ => rfl) hC] at hv
    unfold b_X2_firstNotSo_3
    by_cases z : va told (bst told (sp told C' (rw' j)) 48) = vals j
    · refine .inr ⟨fun k hk => ?_, ?_⟩
      · by_cases y : k = j
        · rw [y, decide_eq_true z]
          rfl
        · exact hI k (by omega)
      · simp (disch := omega) only [hc, b1, b2, a2, a3, hv, z, ↓lm1, ↓lm2, i0, i1, i2, i3, i4, i5, i6, i7, i8, i9, i10, i12, i16, i20, i24, i31, i32, i44, i48, i57, i59, i63, i64, i74, i75, i90, i96, i97, i99, i100, i122, i139, i140, i144, i192, i200, i240, i255, i304, i309, i310, i311, i323, i324, i325, i899, i900, i975, i999, i5200, i4875, i65536, i65537, i15, ob_some, nI_add, nI_clamp, zn_zib, zn_eq, zn_lt, zn_le, m2_lt, m2_le, lt_m2, le_m2, eq_m2, m2_eq, m1_lt, m1_le, lt_m1, le_m1, eq_m1, m1_eq, m1_m2, m2_m1, m2_lt_m1, bI_0, bI_1, bI_t, bI_f, bI_bo, nI0_bo, nI1_bo, if_true, if_false, ite_true, ite_false, Nat.zero_add, Nat.not_lt_zero, Nat.zero_le, not_true_eq_false, not_false_eq_true, or_false, false_or, true_or, or_true, and_true, true_and, Bool.false_eq_true, Bool.true_eq_false, reduceCtorEq, eq_self]
    · refine .inl ?_
      have : wv told rw' vals ev C' = some j := fi_eq hj (by rw [decide_eq_false z]; rfl) hI
      rw [this]
      simp (disch := omega) only [hc, b1, b2, a2, a3, hv, z, ↓lm1, ↓lm2, i0, i1, i2, i3, i4, i5, i6, i7, i8, i9, i10, i12, i16, i20, i24, i31, i32, i44, i48, i57, i59, i63, i64, i74, i75, i90, i96, i97, i99, i100, i122, i139, i140, i144, i192, i200, i240, i255, i304, i309, i310, i311, i323, i324, i325, i899, i900, i975, i999, i5200, i4875, i65536, i65537, i15, ob_some, nI_add, nI_clamp, zn_zib, zn_eq, zn_lt, zn_le, m2_lt, m2_le, lt_m2, le_m2, eq_m2, m2_eq, m1_lt, m1_le, lt_m1, le_m1, eq_m1, m1_eq, m1_m2, m2_m1, m2_lt_m1, bI_0, bI_1, bI_t, bI_f, bI_bo, nI0_bo, nI1_bo, if_true, if_false, ite_true, ite_false, Nat.zero_add, Nat.not_lt_zero, Nat.zero_le, not_true_eq_false, not_false_eq_true, or_false, false_or, true_or, or_true, and_true, true_and, Bool.false_eq_true, Bool.true_eq_false, reduceCtorEq, eq_self]
      rfl
  · have b1 : ev ≤ ev := Nat.le_refl _
    have : wv told rw' vals ev C' = none := fi_eqn hI
    unfold b_X2_firstNotSo_3
    rw [this]
    simp (disch := omega) only [hc, b1, ↓lm1, ↓lm2, i0, i1, i2, i3, i4, i5, i6, i7, i8, i9, i10, i12, i16, i20, i24, i31, i32, i44, i48, i57, i59, i63, i64, i74, i75, i90, i96, i97, i99, i100, i122, i139, i140, i144, i192, i200, i240, i255, i304, i309, i310, i311, i323, i324, i325, i899, i900, i975, i999, i5200, i4875, i65536, i65537, i15, ob_some, nI_add, nI_clamp, zn_zib, zn_eq, zn_lt, zn_le, m2_lt, m2_le, lt_m2, le_m2, eq_m2, m2_eq, m1_lt, m1_le, lt_m1, le_m1, eq_m1, m1_eq, m1_m2, m2_m1, m2_lt_m1, bI_0, bI_1, bI_t, bI_f, bI_bo, nI0_bo, nI1_bo, if_true, if_false, ite_true, ite_false, Nat.zero_add, Nat.not_lt_zero, Nat.zero_le, not_true_eq_false, not_false_eq_true, or_false, false_or, true_or, or_true, and_true, true_and, Bool.false_eq_true, Bool.true_eq_false, reduceCtorEq, eq_self]
    rfl
end
