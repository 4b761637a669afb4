/-! the fits -/
def ftB (told : Nat → Int32) (rw' : Nat → Nat) (vals : Nat → Int32) (ev : Nat) (sv : Nat → Nat) (fk : Nat → Bool) (u s : Nat) : Bool := (wv told rw' vals ev (cx told sv fk u (nI s))).isNone
def WQ (E : SEv) (told : Nat → Int32) (u ev : Nat) (sv : Nat → Nat) (fk : Nat → Bool) (rw' : Nat → Nat) (vals : Nat → Int32) : Prop := Ev_unsureCount E = nI u ∧ Ev_seenCount E = nI ev ∧ Ev_firstWrong E = eo (wv told rw' vals ev (cx told sv fk u (nI 0))) ∧ Ev_fitCount E = nI (fb_ct (ftB told rw' vals ev sv fk u) (2 ^ u)) ∧ ∀ s, s < 2 ^ u → ftB told rw' vals ev sv fk u s = true → Ev_fitSets E (fb_ct (ftB told rw' vals ev sv fk u) s) = nI s
theorem pw_u {u : Nat} (hu : u ≤ 4) : nI 1 <<< (nI u &&& nI 31) = nI (2 ^ u) := by
  have : ∀ a : Fin 5, nI 1 <<< (nI a.1 &&& nI 31) = nI (2 ^ a.1) := by decide +kernel
  exact this ⟨u, by omega⟩
theorem pw_16 {u : Nat} (hu : u ≤ 4) : 1 ≤ 2 ^ u ∧ 2 ^ u ≤ 16 := by
  have : ∀ a : Fin 5, 1 ≤ 2 ^ a.1 ∧ 2 ^ a.1 ≤ 16 := by decide +kernel
  exact this ⟨u, by omega⟩
theorem bt_hi {u j k : Nat} (hu : u ≤ 4) (hj : j < 2 ^ u) (hk : u ≤ k) (hk4 : k < 4) : bt (nI j) k = false := by
  have : ∀ a : Fin 5, ∀ b : Fin 16, ∀ d : Fin 4, b.1 < 2 ^ a.1 → a.1 ≤ d.1 → bt (nI b.1) d.1 = false := by decide +kernel
  have := pw_16 hu
  exact ‹∀ a : Fin 5, ∀ b : Fin 16, ∀ d : Fin 4, b.1 < 2 ^ a.1 → a.1 ≤ d.1 → bt (nI b.1) d.1 = false› ⟨u, by omega⟩ ⟨j, by omega⟩ ⟨k, hk4⟩ hj hk
section
variable {E : SEv} {R : SRows} {S : SMo} {r on og told tr st : Nat → Int32} {n m c u ev : Nat} {sv rw' : Nat → Nat} {fk : Nat → Bool} {vals : Nat → Int32}
theorem cx_0 (s : Nat) : cx told sv fk u (nI 0) s = dn told s := by
  unfold cx fxB
  rw [xr_0 (fun k hk => by rw [bt_nI0]; rfl), Bool.xor_false]
theorem T_weigh (H : RC R told n m c) (hu : u ≤ 4) (h2 : ev ≤ 8) (huc : Ev_unsureCount E = nI u) (hc : Ev_seenCount E = nI ev) (hr : ∀ k, k < ev → rw' k < m ∧ Ev_seenRows E k = nI (rw' k) ∧ Ev_seenValues E k = vals k) (hfl : ∀ k, k < u → ∀ t, t < 64 → lb (Ev_flips E k) t = (fk k && decide (t = sv k))) : ∃ E', f_X2_weigh E R = some E' ∧ WQ E' told u ev sv fk rw' vals := by
  have hn := WS_n (RC_W H)
  have hN := pw_16 hu
  have hfr : f_X6_countingFresh R = some (Rows_doneStamps R) := rfl
  have hdn : ∀ s, s < n → lb (Rows_doneStamps R) s = dn told s := fun s hs => (RC_t H (by omega)).2.1
  have h0 := T_first H h2 hc hr (Rows_doneStamps R) (C' := cx told sv fk u (nI 0)) (fun s hs => by rw [hdn s hs, cx_0])
  unfold f_X2_weigh
  rw [hfr, ob_some, h0, ob_some]
  refine zl3_ex (f := b_X2_weigh_23 R) (2 ^ u) 0 (fun j E' v => v = Rows_doneStamps R ∧ Ev_unsureCount E' = nI u ∧ Ev_seenCount E' = nI ev ∧ Ev_flips E' = Ev_flips E ∧ Ev_seenRows E' = Ev_seenRows E ∧ Ev_seenValues E' = Ev_seenValues E ∧ Ev_firstWrong E' = eo (wv told rw' vals ev (cx told sv fk u (nI 0))) ∧ Ev_fitCount E' = nI (fb_ct (ftB told rw' vals ev sv fk u) j) ∧ ∀ s, s < j → ftB told rw' vals ev sv fk u s = true → Ev_fitSets E' (fb_ct (ftB told rw' vals ev sv fk u) s) = nI s) (fun E' => WQ E' told u ev sv fk rw' vals) (by omega) (Nat.zero_le _) ⟨rfl, huc, hc, rfl, rfl, rfl, rfl, rfl, fun s hs => absurd hs (Nat.not_lt_zero s)⟩ (fun k j E' v hj hI => ?_) (fun k E' v hI => ?_)
  · obtain ⟨rfl, e1, e2, e3, e4, e5, e6, e7, e8⟩ := hI
    have hct := fb_ct_le (ftB told rw' vals ev sv fk u) j
    have b1 : ¬ 2 ^ u ≤ j := by omega
    have b2 : ¬ 16 ≤ fb_ct (ftB told rw' vals ev sv fk u) j := by omega
    obtain ⟨y, y1, y2⟩ := T_flipsOf (E := E') (sv := sv) (fk := fk) hu (fun k hk t ht => by rw [e3]; exact hfl k hk t ht) (nI j) (fun k h1 h2 => bt_hi hu hj h1 h2)
    have hf := T_first (E := E') H h2 e2 (fun k hk => by rw [e4, e5]; exact hr k hk) (Rows_doneStamps R ^^^ y) (C' := cx told sv fk u (nI j)) (fun s hs => by rw [lb_xor, hdn s hs, y2 s (by omega)]; rfl)
    have hpw := pw_u hu
    unfold b_X2_weigh_23
    cases z : wv told rw' vals ev (cx told sv fk u (nI j)) with
    | none =>
      rw [z] at hf
      have hf' : f_X2_firstNotSo E' R (Rows_doneStamps R ^^^ y) = some m2 := hf
      have hft : ftB told rw' vals ev sv fk u j = true := by
        unfold ftB
        rw [z]
        rfl
      refine .inr ⟨mkEv (Ev_unsureCount E') (Ev_seenCount E') (nI (fb_ct (ftB told rw' vals ev sv fk u) j + 1)) (Ev_firstWrong E') (Ev_flips E') (Ev_seenRows E') (Ev_seenValues E') (upd (Ev_fitSets E') (fb_ct (ftB told rw' vals ev sv fk u) j) (nI j)), Rows_doneStamps R, ⟨rfl, e1, e2, e3, e4, e5, e6, ?_, fun s hs hs2 => ?_⟩, ?_⟩
      · rw [fb_ct_succ, hft]
        rfl
      · show upd (Ev_fitSets E') (fb_ct (ftB told rw' vals ev sv fk u) j) (nI j) (fb_ct (ftB told rw' vals ev sv fk u) s) = nI s
        by_cases w : s = j
        · rw [w, upd_eq]
        · have h3 : fb_ct (ftB told rw' vals ev sv fk u) (s + 1) ≤ fb_ct (ftB told rw' vals ev sv fk u) j := fb_ct_mono _ (by omega)
          rw [fb_ct_succ, hs2] at h3
          rw [upd_ne (by have h4 : (if true = true then 1 else 0) = 1 := rfl; omega)]
          exact e8 s (by omega) hs2
      · simp (disch := omega) only [e1, hpw, b1, e7, b2, y1, hf', ↓lm1, ↓lm2, i0, i1, i2, i3, i4, i5, i6, i7, i8, i9, i10, i12, i16, i20, i24, i31, i32, i44, i48, i57, i59, i63, i64, i74, i75, i90, i96, i97, i99, i100, i122, i139, i140, i144, i192, i200, i240, i255, i304, i309, i310, i311, i323, i324, i325, i899, i900, i975, i999, i5200, i4875, i65536, i65537, i15, ob_some, nI_add, nI_clamp, zn_zib, zn_eq, zn_lt, zn_le, m2_lt, m2_le, lt_m2, le_m2, eq_m2, m2_eq, m1_lt, m1_le, lt_m1, le_m1, eq_m1, m1_eq, m1_m2, m2_m1, m2_lt_m1, bI_0, bI_1, bI_t, bI_f, bI_bo, nI0_bo, nI1_bo, if_true, if_false, ite_true, ite_false, Nat.zero_add, Nat.not_lt_zero, Nat.zero_le, not_true_eq_false, not_false_eq_true, or_false, false_or, true_or, or_true, and_true, true_and, Bool.false_eq_true, Bool.true_eq_false, reduceCtorEq, eq_self]
    | some a =>
      rw [z] at hf
      have hf' : f_X2_firstNotSo E' R (Rows_doneStamps R ^^^ y) = some (nI a) := hf
      have ha : a < ev := (fi_some z).1
      have hft : ftB told rw' vals ev sv fk u j = false := by
        unfold ftB
        rw [z]
        rfl
      refine .inr ⟨E', Rows_doneStamps R, ⟨rfl, e1, e2, e3, e4, e5, e6, ?_, fun s hs hs2 => ?_⟩, ?_⟩
      · rw [fb_ct_succ, hft]
        exact e7
      · by_cases w : s = j
        · rw [w, hft] at hs2
          cases hs2
        · exact e8 s (by omega) hs2
      · simp (disch := omega) only [e1, hpw, b1, e7, b2, y1, hf', ↓lm1, ↓lm2, i0, i1, i2, i3, i4, i5, i6, i7, i8, i9, i10, i12, i16, i20, i24, i31, i32, i44, i48, i57, i59, i63, i64, i74, i75, i90, i96, i97, i99, i100, i122, i139, i140, i144, i192, i200, i240, i255, i304, i309, i310, i311, i323, i324, i325, i899, i900, i975, i999, i5200, i4875, i65536, i65537, i15, ob_some, nI_add, nI_clamp, zn_zib, zn_eq, zn_lt, zn_le, m2_lt, m2_le, lt_m2, le_m2, eq_m2, m2_eq, m1_lt, m1_le, lt_m1, le_m1, eq_m1, m1_eq, m1_m2, m2_m1, m2_lt_m1, bI_0, bI_1, bI_t, bI_f, bI_bo, nI0_bo, nI1_bo, if_true, if_false, ite_true, ite_false, Nat.zero_add, Nat.not_lt_zero, Nat.zero_le, not_true_eq_false, not_false_eq_true, or_false, false_or, true_or, or_true, and_true, true_and, Bool.false_eq_true, Bool.true_eq_false, reduceCtorEq, eq_self]
  · obtain ⟨rfl, e1, e2, e3, e4, e5, e6, e7, e8⟩ := hI
    have b1 : 2 ^ u ≤ 2 ^ u := Nat.le_refl _
    have hpw := pw_u hu
    refine ⟨E', ?_, e1, e2, e6, e7, e8⟩
    unfold b_X2_weigh_23
    simp (disch := omega) only [e1, hpw, b1, ↓lm1, ↓lm2, i0, i1, i2, i3, i4, i5, i6, i7, i8, i9, i10, i12, i16, i20, i24, i31, i32, i44, i48, i57, i59, i63, i64, i74, i75, i90, i96, i97, i99, i100, i122, i139, i140, i144, i192, i200, i240, i255, i304, i309, i310, i311, i323, i324, i325, i899, i900, i975, i999, i5200, i4875, i65536, i65537, i15, ob_some, nI_add, nI_clamp, zn_zib, zn_eq, zn_lt, zn_le, m2_lt, m2_le, lt_m2, le_m2, eq_m2, m2_eq, m1_lt, m1_le, lt_m1, le_m1, eq_m1, m1_eq, m1_m2, m2_m1, m2_lt_m1, bI_0, bI_1, bI_t, bI_f, bI_bo, nI0_bo, nI1_bo, if_true, if_false, ite_true, ite_false, Nat.zero_add, Nat.not_lt_zero, Nat.zero_le, not_true_eq_false, not_false_eq_true, or_false, false_or, true_or, or_true, and_true, true_and, Bool.false_eq_true, Bool.true_eq_false, reduceCtorEq, eq_self]
end
