/-! acts: a writer begins -/
def BG (st st' : Nat → Int32) (n w : Nat) : Prop := (∀ i, i ≠ 311 + 2 * w → i ≠ 312 + 2 * w → i ≠ 304 + w → i ≠ 240 + nx st → i ≠ 323 → st' i = st i) ∧ st' (304 + w) = nI (nx st) ∧ st' (240 + nx st) = nI 1 ∧ st' 323 = nI ((nx st + 1) % n) ∧ ∀ t, t < 64 → sb st' w t = ru st t
section
variable {R : SRows} {S : SMo} {st st' : Nat → Int32} {n m c : Nat}
theorem M_beginOn (hr : Mo_ring S = nI n) (W : WS st n m) (I : IS st n) {w : Nat} (hf : fi (fun w => !rn st w) 6 = some w) : ∃ st', f_X10_beginOn S st = some (nI w, st') ∧ BG st st' n w := by
  have hn := WS_n W
  have hx := WS_nx W
  obtain ⟨hw, hw2, -⟩ := fi_some hf
  have hfree : st (304 + w) = m1 := by
    rcases WS_w W hw with e | ⟨s, hs, e⟩
    · exact e
    · rw [rn_t e (by omega)] at hw2
      cases hw2
  have hz := I.2.2.2.2.2.1 w hw hfree
  have key : ∀ (j i : Nat) (s1 : Nat → Int32), i + j = 6 → (∀ k, k ≠ 311 + 2 * w → k ≠ 312 + 2 * w → s1 k = st k) → (∀ t, t < 64 → sb s1 w t = an (fun k => decide (st (304 + k) = nI t)) i) → ∀ fu, j < fu → ∃ st', zl4 (b_X10_beginOn_16 S) fu s1 (nI w) (nI (nx st)) (nI i) = some (nI w, st') ∧ BG st st' n w := by
    intro j
    induction j with
    | zero =>
      intro i s1 hi h1 h2 fu hfu
      obtain ⟨fu, rfl⟩ : ∃ q, fu = q + 1 := ⟨fu - 1, by omega⟩
      obtain rfl : i = 6 := by omega
      refine ⟨upd (upd (upd s1 (304 + w) (nI (nx st))) (240 + nx st) (nI 1)) 323 (nI ((nx st + 1) % n)), ?_, ?_⟩
      · have h0 : ¬ nI n = nI 0 := by rw [zn_eq (by omega) (by omega)]; omega
        rw [zl4_s]
        unfold b_X10_beginOn_16
        have e6 : (6 : Int32) ≤ nI 6 := by decide
        have er : nI (nx st + 1) - nI (nx st + 1) / nI n * nI n = nI ((nx st + 1) % n) := rem_nI (by omega) (by omega) (by omega)
        simp only [if_pos e6, hr]
        simp (disch := omega) only [↓lm1, ↓lm2, i0, i1, i2, i3, i4, i5, i6, i7, i8, i9, i10, i12, i16, i20, i24, i31, i32, i44, i48, i57, i59, i63, i64, i74, i75, i90, i96, i97, i99, i100, i122, i139, i140, i144, i192, i200, i240, i255, i304, i309, i310, i311, i323, i324, i325, i899, i900, i975, i999, i5200, i4875, i65536, i65537, i15, nI_add, er, h0, zn_zib, nI_clamp, if_true, if_false]
      · refine ⟨fun i a1 a2 a3 a4 a5 => ?_, ?_, ?_, ?_, fun t ht => ?_⟩
        · rw [upd_ne a5, upd_ne a4, upd_ne a3, h1 i a1 a2]
        · rw [upd_ne (by omega), upd_ne (by omega), upd_eq]
        · rw [upd_ne (by omega), upd_eq]
        · rw [upd_eq]
        · have e : ∀ k, k = 311 + 2 * w ∨ k = 312 + 2 * w → upd (upd (upd s1 (304 + w) (nI (nx st))) (240 + nx st) (nI 1)) 323 (nI ((nx st + 1) % n)) k = s1 k := fun k hk => by
            rw [upd_ne (by omega), upd_ne (by omega), upd_ne (by omega)]
          rw [sb_eq (e _ (.inl rfl)) (e _ (.inr rfl)) ht, h2 t ht]
          cases hru : ru st t
          · cases ha : an (fun k => decide (st (304 + k) = nI t)) 6
            · rfl
            · obtain ⟨k, hk, e2⟩ := an_iff.mp ha
              rw [decide_eq_true_eq] at e2
              have ht2 : t < n := by
                rcases WS_w W hk with e3 | ⟨s, hs, e3⟩
                · rw [e3, m1_eq (by omega)] at e2
                  cases e2
                · rw [e3, zn_eq (by omega) (by omega)] at e2
                  omega
              have := I.1 k hk t ht2 e2
              rw [show ru st t = true from decide_eq_true this] at hru
              cases hru
          · obtain ⟨k, hk, e2⟩ := I.2.1 t ht (decide_eq_true_eq.mp hru)
            exact an_iff.mpr ⟨k, hk, decide_eq_true e2⟩
    | succ j ih =>
      intro i s1 hi h1 h2 fu hfu
      obtain ⟨fu, rfl⟩ : ∃ q, fu = q + 1 := ⟨fu - 1, by omega⟩
      have q6 : ¬ 6 ≤ i := by omega
      have esl : s1 (304 + i) = st (304 + i) := h1 _ (by omega) (by omega)
      rw [zl4_s]
      rcases WS_w W (by omega : i < 6) with e | ⟨s, hs, e⟩
      · have hdr : f_X10_doesRun s1 (nI i) = some (nI 0) := by
          unfold f_X10_doesRun
          simp (disch := omega) only [esl, e, ↓lm1, ↓lm2, i0, i1, i2, i3, i4, i5, i6, i7, i8, i9, i10, i12, i16, i20, i24, i31, i32, i44, i48, i57, i59, i63, i64, i74, i75, i90, i96, i97, i99, i100, i122, i139, i140, i144, i192, i200, i240, i255, i304, i309, i310, i311, i323, i324, i325, i899, i900, i975, i999, i5200, i4875, i65536, i65537, i15, ob_some, nI_add, nI_clamp, zn_zib, zn_eq, zn_lt, zn_le, m2_lt, m2_le, lt_m2, le_m2, eq_m2, m2_eq, m1_lt, m1_le, lt_m1, le_m1, eq_m1, m1_eq, m1_m2, m2_m1, m2_lt_m1, bI_0, bI_1, bI_t, bI_f, bI_bo, nI0_bo, nI1_bo, if_true, if_false, ite_true, ite_false, Nat.zero_add, Nat.not_lt_zero, Nat.zero_le, not_true_eq_false, not_false_eq_true, or_false, false_or, true_or, or_true, and_true, true_and, Bool.false_eq_true, Bool.true_eq_false, reduceCtorEq, eq_self]
        have stp : ∀ k, b_X10_beginOn_16 S k s1 (nI w) (nI (nx st)) (nI i) = k s1 (nI w) (nI (nx st)) (nI (i + 1)) := fun k => by
          unfold b_X10_beginOn_16
          simp (disch := omega) only [q6, hdr, ↓lm1, ↓lm2, i0, i1, i2, i3, i4, i5, i6, i7, i8, i9, i10, i12, i16, i20, i24, i31, i32, i44, i48, i57, i59, i63, i64, i74, i75, i90, i96, i97, i99, i100, i122, i139, i140, i144, i192, i200, i240, i255, i304, i309, i310, i311, i323, i324, i325, i899, i900, i975, i999, i5200, i4875, i65536, i65537, i15, ob_some, nI_add, nI_clamp, zn_zib, zn_eq, zn_lt, zn_le, m2_lt, m2_le, lt_m2, le_m2, eq_m2, m2_eq, m1_lt, m1_le, lt_m1, le_m1, eq_m1, m1_eq, m1_m2, m2_m1, m2_lt_m1, bI_0, bI_1, bI_t, bI_f, bI_bo, nI0_bo, nI1_bo, if_true, if_false, ite_true, ite_false, Nat.zero_add, Nat.not_lt_zero, Nat.zero_le, not_true_eq_false, not_false_eq_true, or_false, false_or, true_or, or_true, and_true, true_and, Bool.false_eq_true, Bool.true_eq_false, reduceCtorEq, eq_self]
        rw [stp]
        refine ih (i + 1) s1 (by omega) h1 (fun t ht => ?_) fu (by omega)
        rw [h2 t ht, an_s, e, decide_eq_false (by rw [m1_eq (by omega)]; exact id), Bool.or_false]
      · have hdr : f_X10_doesRun s1 (nI i) = some (nI 1) := by
          unfold f_X10_doesRun
          simp (disch := omega) only [esl, e, ↓lm1, ↓lm2, i0, i1, i2, i3, i4, i5, i6, i7, i8, i9, i10, i12, i16, i20, i24, i31, i32, i44, i48, i57, i59, i63, i64, i74, i75, i90, i96, i97, i99, i100, i122, i139, i140, i144, i192, i200, i240, i255, i304, i309, i310, i311, i323, i324, i325, i899, i900, i975, i999, i5200, i4875, i65536, i65537, i15, ob_some, nI_add, nI_clamp, zn_zib, zn_eq, zn_lt, zn_le, m2_lt, m2_le, lt_m2, le_m2, eq_m2, m2_eq, m1_lt, m1_le, lt_m1, le_m1, eq_m1, m1_eq, m1_m2, m2_m1, m2_lt_m1, bI_0, bI_1, bI_t, bI_f, bI_bo, nI0_bo, nI1_bo, if_true, if_false, ite_true, ite_false, Nat.zero_add, Nat.not_lt_zero, Nat.zero_le, not_true_eq_false, not_false_eq_true, or_false, false_or, true_or, or_true, and_true, true_and, Bool.false_eq_true, Bool.true_eq_false, reduceCtorEq, eq_self]
        have em : s - s / 32 * 32 = s % 32 := by omega
        have stp : ∀ k, b_X10_beginOn_16 S k s1 (nI w) (nI (nx st)) (nI i) = k (upd s1 (311 + 2 * w + s / 32) (s1 (311 + 2 * w + s / 32) ||| (nI 1 <<< (nI (s % 32) &&& nI 31)))) (nI w) (nI (nx st)) (nI (i + 1)) := fun k => by
          unfold b_X10_beginOn_16
          simp (disch := omega) only [q6, hdr, esl, e, pk_mul, pk_div, pk_sub, em, ↓lm1, ↓lm2, i0, i1, i2, i3, i4, i5, i6, i7, i8, i9, i10, i12, i16, i20, i24, i31, i32, i44, i48, i57, i59, i63, i64, i74, i75, i90, i96, i97, i99, i100, i122, i139, i140, i144, i192, i200, i240, i255, i304, i309, i310, i311, i323, i324, i325, i899, i900, i975, i999, i5200, i4875, i65536, i65537, i15, ob_some, nI_add, nI_clamp, zn_zib, zn_eq, zn_lt, zn_le, m2_lt, m2_le, lt_m2, le_m2, eq_m2, m2_eq, m1_lt, m1_le, lt_m1, le_m1, eq_m1, m1_eq, m1_m2, m2_m1, m2_lt_m1, bI_0, bI_1, bI_t, bI_f, bI_bo, nI0_bo, nI1_bo, if_true, if_false, ite_true, ite_false, Nat.zero_add, Nat.not_lt_zero, Nat.zero_le, not_true_eq_false, not_false_eq_true, or_false, false_or, true_or, or_true, and_true, true_and, Bool.false_eq_true, Bool.true_eq_false, reduceCtorEq, eq_self]
        rw [stp]
        refine ih (i + 1) _ (by omega) (fun k a1 a2 => by rw [upd_ne (by omega)]; exact h1 k a1 a2) (fun t ht => ?_) fu (by omega)
        rw [an_s, ← h2 t ht, e]
        unfold sb
        by_cases q : t / 32 = s / 32
        · rw [q, upd_eq, b_or, bt_bit (by omega) (by omega)]
          congr 1
          simp (disch := omega) only [zn_eq]
          congr 1
          exact propext ⟨fun h => by omega, fun h => by rw [h]⟩
        · rw [upd_ne (by omega), decide_eq_false (by rw [zn_eq (by omega) (by omega)]; intro z; exact q (by rw [z])), Bool.or_false]
  unfold f_X10_beginOn
  rw [lm1, M_slotOf, free_slot W, hf, ob_some, eo_s]
  have z1 : zib 323 325 := by decide
  have e2 : (323 : Int32).toNatClampNeg = 323 := by decide
  rw [if_pos z1, e2, hx.2]
  refine key 6 0 st (by omega) (fun k a1 a2 => rfl) (fun t ht => ?_) FU (by unfold FU; omega)
  unfold sb
  have z : st (311 + 2 * w + t / 32) = nI 0 := by
    by_cases q : t < 32
    · rw [show 311 + 2 * w + t / 32 = 311 + 2 * w by omega, hz.1]
    · rw [show 311 + 2 * w + t / 32 = 312 + 2 * w by omega, hz.2.1]
  rw [z]
  exact b_0 _
end
