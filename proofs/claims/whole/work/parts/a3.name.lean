/-! names -/
theorem enc_s (kf : Nat → Nat) (p j : Nat) : enc kf p (j + 1) = enc kf p j * 32 + (kf (p + j) - 96) := rfl
def lets (kf : Nat → Nat) (p n : Nat) : Prop := ∀ k, k < n → 97 ≤ kf (p + k) ∧ kf (p + k) ≤ 122
theorem enc_lt {kf : Nat → Nat} {p : Nat} : ∀ {n : Nat}, lets kf p n → enc kf p n < 32 ^ n
  | 0, _ => Nat.lt_add_one 0
  | n + 1, h => by
    have h1 := enc_lt (n := n) (fun k hk => h k (by omega))
    have h2 := h n (by omega)
    rw [enc_s, Nat.pow_succ]
    omega
theorem enc_lt63 {kf : Nat → Nat} {p n : Nat} (hn : n ≤ 8) (h : lets kf p n) : enc kf p n < 2 ^ 63 := by
  have h1 := enc_lt h
  have h2 : 32 ^ n ≤ 32 ^ 8 := Nat.pow_le_pow_right (by decide) hn
  have h3 : 32 ^ 8 < 2 ^ 63 := by decide
  omega
theorem enc_inj {kf : Nat → Nat} {p q : Nat} : ∀ {n m : Nat}, lets kf p n → lets kf q m → enc kf p n = enc kf q m → n = m ∧ ∀ k, k < n → kf (p + k) = kf (q + k)
  | 0, 0, _, _, _ => ⟨rfl, fun k hk => absurd hk (Nat.not_lt_zero k)⟩
  | 0, m + 1, _, h2, h => by
    have h3 := h2 m (by omega)
    rw [enc_s] at h
    have : enc kf p 0 = 0 := rfl
    omega
  | n + 1, 0, h1, _, h => by
    have h3 := h1 n (by omega)
    rw [enc_s] at h
    have : enc kf q 0 = 0 := rfl
    omega
  | n + 1, m + 1, h1, h2, h => by
    have h3 := h1 n (by omega)
    have h4 := h2 m (by omega)
    rw [enc_s, enc_s] at h
    have e1 : enc kf p n = enc kf q m := by omega
    have e2 : kf (p + n) = kf (q + m) := by omega
    obtain ⟨g1, g2⟩ := enc_inj (fun k hk => h1 k (by omega)) (fun k hk => h2 k (by omega)) e1
    subst g1
    refine ⟨rfl, fun k hk => ?_⟩
    by_cases z : k = n
    · rw [z]
      exact e2
    · exact g2 k (by omega)
theorem enc_cong {kf : Nat → Nat} {p q : Nat} : ∀ {n : Nat}, (∀ k, k < n → kf (p + k) = kf (q + k)) → enc kf p n = enc kf q n
  | 0, _ => rfl
  | n + 1, h => by rw [enc_s, enc_s, enc_cong (fun k hk => h k (by omega)), h n (by omega)]
def smW (kf : Nat → Nat) (q m p n : Nat) : Bool := decide (m = n) && alB (fun k => decide (kf (q + k) = kf (p + k))) n
theorem smW_enc {kf : Nat → Nat} {q m p n : Nat} (hm : m ≤ 8) (hn : n ≤ 8) (h1 : lets kf q m) (h2 : lets kf p n) : (lN (enc kf q m) = lN (enc kf p n)) = (smW kf q m p n = true) := by
  rw [pk_lEQ (enc_lt63 hm h1) (enc_lt63 hn h2)]
  unfold smW
  rw [Bool.and_eq_true, decide_eq_true_iff, alB_t]
  refine propext ⟨fun h => ?_, fun h => ?_⟩
  · obtain ⟨e1, e2⟩ := enc_inj h1 h2 h
    subst e1
    exact ⟨rfl, fun k hk => decide_eq_true (e2 k hk)⟩
  · obtain ⟨e1, e2⟩ := h
    subst e1
    exact enc_cong (fun k hk => of_decide_eq_true (e2 k hk))
theorem lc_eq (x y : Int64) : (lg_cmp x y = nI 0) = (x = y) := by
  unfold lg_cmp
  by_cases q : x > y
  · rw [if_pos q]
    have : ¬ x = y := fun z => by
      rw [z] at q
      exact absurd q (by rw [gt_iff_lt, fa_lt64]; omega)
    exact propext ⟨fun z => absurd z (by decide), fun z => absurd z this⟩
  · rw [if_neg q]
    by_cases z : x = y
    · rw [if_pos z]
      exact propext ⟨fun _ => z, fun _ => rfl⟩
    · rw [if_neg z]
      exact propext ⟨fun y => absurd y (by decide), fun y => absurd y z⟩
theorem lc_lt {a b : Nat} (ha : a < 2 ^ 31) (hb : b < 2 ^ 31) : (lg_cmp (lN a) (lN b) < nI 0) = (a < b) := by
  unfold lg_cmp
  by_cases q : lN a > lN b
  · rw [if_pos q]
    rw [gt_iff_lt, lN_lt hb ha] at q
    exact propext ⟨fun z => absurd z (by decide), fun z => by omega⟩
  · rw [if_neg q]
    rw [gt_iff_lt, lN_lt hb ha] at q
    by_cases z : lN a = lN b
    · rw [if_pos z]
      rw [lN_eq ha hb] at z
      exact propext ⟨fun y => absurd y (by decide), fun y => by omega⟩
    · rw [if_neg z]
      rw [lN_eq ha hb] at z
      exact propext ⟨fun _ => by omega, fun _ => by decide⟩
theorem lc_le {a b : Nat} (ha : a < 2 ^ 31) (hb : b < 2 ^ 31) : (lg_cmp (lN a) (lN b) ≤ nI 0) = (a ≤ b) := by
  unfold lg_cmp
  by_cases q : lN a > lN b
  · rw [if_pos q]
    rw [gt_iff_lt, lN_lt hb ha] at q
    exact propext ⟨fun z => absurd z (by decide), fun z => by omega⟩
  · rw [if_neg q]
    rw [gt_iff_lt, lN_lt hb ha] at q
    by_cases z : lN a = lN b
    · rw [if_pos z]
      exact propext ⟨fun _ => by omega, fun _ => by decide⟩
    · rw [if_neg z]
      exact propext ⟨fun _ => by omega, fun _ => by decide⟩
/-- the names that both sides keep: where they stand on the tape, how long they are -/
def NR (nm : Nat → Int64) (fr : Nat → Int32) (kf po le : Nat → Nat) (kn : Nat) : Prop := kn ≤ 12 ∧ (∀ i, i < kn → 1 ≤ le i ∧ le i ≤ 8 ∧ lets kf (po i) (le i) ∧ nm i = lN (enc kf (po i) (le i)) ∧ fr (32 + i) = nI (le i) ∧ ∀ k, k < le i → fr (44 + 8 * i + k) = nI (kf (po i + k))) ∧ (∀ i j, i < j → j < kn → smW kf (po i) (le i) (po j) (le j) = false) ∧ ∀ i, kn ≤ i → i < 12 → fr (32 + i) = nI 0
def nmP (kf po le : Nat → Nat) (kn p n i : Nat) : Bool := decide (i < kn) && smW kf (po i) (le i) p n
def dNm (D : SRd) (x : Int32) : SRd := mkRd (Rd_fault D) (Rd_place D) (Rd_nameCount D) (Rd_names D) (Rd_nameStamps D) (Rd_nameSlots D) (Rd_unsureNames D) (Rd_unsureCount D) (Rd_head D) x (Rd_row D) (Rd_whole D)
def eo1 : Option Nat → Int32
  | none => m1
  | some a => nI a
theorem smW_sym {kf : Nat → Nat} {q m p n : Nat} (h : smW kf q m p n = true) : smW kf p n q m = true := by
  unfold smW at h ⊢
  rw [Bool.and_eq_true, decide_eq_true_iff, alB_t] at h ⊢
  obtain ⟨e1, e2⟩ := h
  subst e1
  exact ⟨rfl, fun k hk => decide_eq_true (of_decide_eq_true (e2 k hk)).symm⟩
theorem smW_trans {kf : Nat → Nat} {q m p n r l : Nat} (h : smW kf q m p n = true) (g : smW kf p n r l = true) : smW kf q m r l = true := by
  unfold smW at h g ⊢
  rw [Bool.and_eq_true, decide_eq_true_iff, alB_t] at h g ⊢
  obtain ⟨e1, e2⟩ := h
  obtain ⟨e3, e4⟩ := g
  subst e1
  subst e3
  exact ⟨rfl, fun k hk => decide_eq_true ((of_decide_eq_true (e2 k hk)).trans (of_decide_eq_true (e4 k hk)))⟩
section
variable {T : STape} {S : SMo} {D : SRd} {lt tp fr : Nat → Int32} {nm : Nat → Int64} {kf po le : Nat → Nat} {L p e kn : Nat}
theorem NR_one (h : NR nm fr kf po le kn) {n i j : Nat} (hi : nmP kf po le kn p n i = true) (hj : nmP kf po le kn p n j = true) : i = j := by
  unfold nmP at hi hj
  rw [Bool.and_eq_true, decide_eq_true_iff] at hi hj
  by_cases q : i < j
  · have := smW_trans hi.2 (smW_sym hj.2)
    rw [h.2.2.1 i j q hj.1] at this
    cases this
  · by_cases q2 : j < i
    · have := smW_trans hj.2 (smW_sym hi.2)
      rw [h.2.2.1 j i q2 hi.1] at this
      cases this
    · omega
theorem fi_kn (kf po le : Nat → Nat) {kn : Nat} (h : kn ≤ 12) (p n : Nat) : fi (nmP kf po le kn p n) kn = fi (nmP kf po le kn p n) 12 := by
  cases z : fi (nmP kf po le kn p n) kn with
  | some a =>
    obtain ⟨h1, h2, h3⟩ := fi_some z
    exact (fi_eq (by omega) h2 h3).symm
  | none =>
    refine (fi_eqn (fun k hk => ?_)).symm
    by_cases q : k < kn
    · exact fi_none z k q
    · unfold nmP
      rw [decide_eq_false q, Bool.false_and]
theorem TKw_lets (hw : TKw T S lt kf L p e) : lets kf p (e - p) := fun k hk => hw.2.2.2.2.2.2.2.1 (p + k) (by omega) (by have := hw.2.2.2.2.1; omega)
theorem T_names (hN : NR (Rd_names D) fr kf po le kn) (hc : Rd_nameCount D = nI kn) (hw : TKw T S lt kf L p e) : zl3 b_X5_takeName_42 FU (dNm D m2) T (nI 0) = some (nI 1, dNm D (eo (fi (nmP kf po le kn p (e - p)) kn)), T) := by
  have hkn := hN.1
  have hl := TKw_lets hw
  have h8 := hw.2.2.2.2.2.2.1
  have hv := hw.2.2.2.2.2.2.2.2.2.2
  refine zl3_up kn 0 (fun i a1 a2 => a1 = dNm D (eo (fi (nmP kf po le kn p (e - p)) i)) ∧ a2 = T) _ (by omega) (Nat.zero_le _) ⟨rfl, rfl⟩ (fun k i a1 a2 hi hI => ?_) (fun k a1 a2 hI => ?_)
  · obtain ⟨rfl, rfl⟩ := hI
    obtain ⟨n1, n2, n3, n4, n5, n6⟩ := hN.2.1 i hi
    have b1 : ¬ kn ≤ i := by omega
    have b2 : ¬ 12 ≤ i := by omega
    have hcc : Rd_nameCount (dNm D (eo (fi (nmP kf po le kn p (e - p)) i))) = nI kn := hc
    have hnn : Rd_names (dNm D (eo (fi (nmP kf po le kn p (e - p)) i))) i = lN (enc kf (po i) (le i)) := n4
    refine .inr ⟨dNm D (eo (fi (nmP kf po le kn p (e - p)) (i + 1))), a2, ⟨rfl, rfl⟩, ?_⟩
    unfold b_X5_takeName_42
    have hs := smW_enc n2 h8 n3 hl
    cases z : smW kf (po i) (le i) p (e - p)
    · rw [z] at hs
      have z2 : nmP kf po le kn p (e - p) i = false := by
        unfold nmP
        rw [z, Bool.and_false]
      have z3 : fi (nmP kf po le kn p (e - p)) (i + 1) = fi (nmP kf po le kn p (e - p)) i := by
        rw [fi_s, z2]
        cases fi (nmP kf po le kn p (e - p)) i <;> rfl
      rw [z3]
      simp (disch := omega) only [hcc, b1, b2, hnn, hv, lc_eq, hs, ↓lm1, ↓lm2, i0, i1, i2, i3, i4, i5, i6, i7, i8, i9, i10, i12, i16, i20, i24, i31, i32, i44, i48, i57, i59, i63, i64, i74, i75, i90, i96, i97, i99, i100, i122, i139, i140, i144, i192, i200, i240, i255, i304, i309, i310, i311, i323, i324, i325, i899, i900, i975, i999, i5200, i4875, i65536, i65537, i15, ob_some, nI_add, nI_clamp, zn_zib, zn_eq, zn_lt, zn_le, m2_lt, m2_le, lt_m2, le_m2, eq_m2, m2_eq, m1_lt, m1_le, lt_m1, le_m1, eq_m1, m1_eq, m1_m2, m2_m1, m2_lt_m1, bI_0, bI_1, bI_t, bI_f, bI_bo, nI0_bo, nI1_bo, if_true, if_false, ite_true, ite_false, Nat.zero_add, Nat.not_lt_zero, Nat.zero_le, not_true_eq_false, not_false_eq_true, or_false, false_or, true_or, or_true, and_true, true_and, Bool.false_eq_true, Bool.true_eq_false, reduceCtorEq, eq_self]
    · rw [z] at hs
      have z2 : nmP kf po le kn p (e - p) i = true := by
        unfold nmP
        rw [z, decide_eq_true hi]
        rfl
      have z3 : fi (nmP kf po le kn p (e - p)) (i + 1) = some i := fi_eq (by omega) z2 (fun k hk => by
        cases y : nmP kf po le kn p (e - p) k
        · rfl
        · have := NR_one hN y z2
          omega)
      rw [z3]
      simp (disch := omega) only [hcc, b1, b2, hnn, hv, lc_eq, hs, ↓lm1, ↓lm2, i0, i1, i2, i3, i4, i5, i6, i7, i8, i9, i10, i12, i16, i20, i24, i31, i32, i44, i48, i57, i59, i63, i64, i74, i75, i90, i96, i97, i99, i100, i122, i139, i140, i144, i192, i200, i240, i255, i304, i309, i310, i311, i323, i324, i325, i899, i900, i975, i999, i5200, i4875, i65536, i65537, i15, ob_some, nI_add, nI_clamp, zn_zib, zn_eq, zn_lt, zn_le, m2_lt, m2_le, lt_m2, le_m2, eq_m2, m2_eq, m1_lt, m1_le, lt_m1, le_m1, eq_m1, m1_eq, m1_m2, m2_m1, m2_lt_m1, bI_0, bI_1, bI_t, bI_f, bI_bo, nI0_bo, nI1_bo, if_true, if_false, ite_true, ite_false, Nat.zero_add, Nat.not_lt_zero, Nat.zero_le, not_true_eq_false, not_false_eq_true, or_false, false_or, true_or, or_true, and_true, true_and, Bool.false_eq_true, Bool.true_eq_false, reduceCtorEq, eq_self]
      rw [← hc]
      rfl
  · obtain ⟨rfl, rfl⟩ := hI
    have hcc : Rd_nameCount (dNm D (eo (fi (nmP kf po le kn p (e - p)) kn))) = nI kn := hc
    have b1 : kn ≤ kn := Nat.le_refl _
    unfold b_X5_takeName_42
    simp (disch := omega) only [hcc, b1, ↓lm1, ↓lm2, i0, i1, i2, i3, i4, i5, i6, i7, i8, i9, i10, i12, i16, i20, i24, i31, i32, i44, i48, i57, i59, i63, i64, i74, i75, i90, i96, i97, i99, i100, i122, i139, i140, i144, i192, i200, i240, i255, i304, i309, i310, i311, i323, i324, i325, i899, i900, i975, i999, i5200, i4875, i65536, i65537, i15, ob_some, nI_add, nI_clamp, zn_zib, zn_eq, zn_lt, zn_le, m2_lt, m2_le, lt_m2, le_m2, eq_m2, m2_eq, m1_lt, m1_le, lt_m1, le_m1, eq_m1, m1_eq, m1_m2, m2_m1, m2_lt_m1, bI_0, bI_1, bI_t, bI_f, bI_bo, nI0_bo, nI1_bo, if_true, if_false, ite_true, ite_false, Nat.zero_add, Nat.not_lt_zero, Nat.zero_le, not_true_eq_false, not_false_eq_true, or_false, false_or, true_or, or_true, and_true, true_and, Bool.false_eq_true, Bool.true_eq_false, reduceCtorEq, eq_self]
theorem M_find_in (hN : NR nm fr kf po le kn) (hw : TKw T S lt kf L p e) {i : Nat} (hi : i < kn) (he : le i = e - p) (k2 : Int32 → Option Int32) : zl3 (b_X10_find_44 S fr lt k2) FU (nI i) (nI 1) (nI 0) = if smW kf (po i) (le i) p (e - p) then some (nI i) else k2 (nI (i + 1)) := by
  obtain ⟨n1, n2, n3, n4, n5, n6⟩ := hN.2.1 i hi
  have hkn := hN.1
  have hl := TKw_lets hw
  have h8 := hw.2.2.2.2.2.2.1
  have hns := hw.2.2.2.2.2.2.2.2.1
  have hlt := hw.2.2.2.2.2.2.2.2.2.1
  have hsm : smW kf (po i) (le i) p (e - p) = alB (fun k => decide (kf (po i + k) = kf (p + k))) (e - p) := by
    unfold smW
    rw [decide_eq_true he, Bool.true_and]
  rw [hsm]
  refine zl3_up (e - p) 0 (fun j a1 a2 => a1 = nI i ∧ a2 = bI (alB (fun k => decide (kf (po i + k) = kf (p + k))) j)) _ (by omega) (Nat.zero_le _) ⟨rfl, rfl⟩ (fun k j a1 a2 hj hI => ?_) (fun k a1 a2 hI => ?_)
  · obtain ⟨rfl, rfl⟩ := hI
    have b1 : ¬ e - p ≤ j := by omega
    have m1' := n6 j (by omega)
    have m2' := hlt j hj
    have l1 := n3 j (by omega)
    have l2 := hl j hj
    have ix : 44 + 8 * i + j < 140 := by omega
    unfold b_X10_find_44
    cases z : alB (fun k => decide (kf (po i + k) = kf (p + k))) j
    · refine .inl ?_
      have z2 : alB (fun k => decide (kf (po i + k) = kf (p + k))) (e - p) = false := by
        cases y : alB (fun k => decide (kf (po i + k) = kf (p + k))) (e - p)
        · rfl
        · have : alB (fun k => decide (kf (po i + k) = kf (p + k))) j = true := alB_t.mpr (fun k hk => alB_t.mp y k (by omega))
          rw [this] at z
          cases z
      rw [z2]
      simp (disch := omega) only [hns, b1, ↓lm1, ↓lm2, i0, i1, i2, i3, i4, i5, i6, i7, i8, i9, i10, i12, i16, i20, i24, i31, i32, i44, i48, i57, i59, i63, i64, i74, i75, i90, i96, i97, i99, i100, i122, i139, i140, i144, i192, i200, i240, i255, i304, i309, i310, i311, i323, i324, i325, i899, i900, i975, i999, i5200, i4875, i65536, i65537, i15, ob_some, nI_add, nI_clamp, zn_zib, zn_eq, zn_lt, zn_le, m2_lt, m2_le, lt_m2, le_m2, eq_m2, m2_eq, m1_lt, m1_le, lt_m1, le_m1, eq_m1, m1_eq, m1_m2, m2_m1, m2_lt_m1, bI_0, bI_1, bI_t, bI_f, bI_bo, nI0_bo, nI1_bo, if_true, if_false, ite_true, ite_false, Nat.zero_add, Nat.not_lt_zero, Nat.zero_le, not_true_eq_false, not_false_eq_true, or_false, false_or, true_or, or_true, and_true, true_and, Bool.false_eq_true, Bool.true_eq_false, reduceCtorEq, eq_self]
    · by_cases y : kf (po i + j) = kf (p + j)
      · refine .inr ⟨_, bI (alB (fun k => decide (kf (po i + k) = kf (p + k))) (j + 1)), ⟨rfl, rfl⟩, ?_⟩
        rw [alB_s, z, decide_eq_true y]
        simp (disch := omega) only [hns, b1, pk_mul, m1', m2', eq_true y, ↓lm1, ↓lm2, i0, i1, i2, i3, i4, i5, i6, i7, i8, i9, i10, i12, i16, i20, i24, i31, i32, i44, i48, i57, i59, i63, i64, i74, i75, i90, i96, i97, i99, i100, i122, i139, i140, i144, i192, i200, i240, i255, i304, i309, i310, i311, i323, i324, i325, i899, i900, i975, i999, i5200, i4875, i65536, i65537, i15, ob_some, nI_add, nI_clamp, zn_zib, zn_eq, zn_lt, zn_le, m2_lt, m2_le, lt_m2, le_m2, eq_m2, m2_eq, m1_lt, m1_le, lt_m1, le_m1, eq_m1, m1_eq, m1_m2, m2_m1, m2_lt_m1, bI_0, bI_1, bI_t, bI_f, bI_bo, nI0_bo, nI1_bo, if_true, if_false, ite_true, ite_false, Nat.zero_add, Nat.not_lt_zero, Nat.zero_le, not_true_eq_false, not_false_eq_true, or_false, false_or, true_or, or_true, and_true, true_and, Bool.false_eq_true, Bool.true_eq_false, reduceCtorEq, eq_self, Bool.and_self]
      · refine .inr ⟨_, bI (alB (fun k => decide (kf (po i + k) = kf (p + k))) (j + 1)), ⟨rfl, rfl⟩, ?_⟩
        rw [alB_s, z, decide_eq_false y]
        simp (disch := omega) only [hns, b1, pk_mul, m1', m2', eq_false y, ↓lm1, ↓lm2, i0, i1, i2, i3, i4, i5, i6, i7, i8, i9, i10, i12, i16, i20, i24, i31, i32, i44, i48, i57, i59, i63, i64, i74, i75, i90, i96, i97, i99, i100, i122, i139, i140, i144, i192, i200, i240, i255, i304, i309, i310, i311, i323, i324, i325, i899, i900, i975, i999, i5200, i4875, i65536, i65537, i15, ob_some, nI_add, nI_clamp, zn_zib, zn_eq, zn_lt, zn_le, m2_lt, m2_le, lt_m2, le_m2, eq_m2, m2_eq, m1_lt, m1_le, lt_m1, le_m1, eq_m1, m1_eq, m1_m2, m2_m1, m2_lt_m1, bI_0, bI_1, bI_t, bI_f, bI_bo, nI0_bo, nI1_bo, if_true, if_false, ite_true, ite_false, Nat.zero_add, Nat.not_lt_zero, Nat.zero_le, not_true_eq_false, not_false_eq_true, or_false, false_or, true_or, or_true, and_true, true_and, Bool.false_eq_true, Bool.true_eq_false, reduceCtorEq, eq_self, Bool.and_false]
  · obtain ⟨rfl, rfl⟩ := hI
    have b1 : e - p ≤ e - p := Nat.le_refl _
    unfold b_X10_find_44
    cases z : alB (fun k => decide (kf (po i + k) = kf (p + k))) (e - p)
    · simp (disch := omega) only [hns, b1, ↓lm1, ↓lm2, i0, i1, i2, i3, i4, i5, i6, i7, i8, i9, i10, i12, i16, i20, i24, i31, i32, i44, i48, i57, i59, i63, i64, i74, i75, i90, i96, i97, i99, i100, i122, i139, i140, i144, i192, i200, i240, i255, i304, i309, i310, i311, i323, i324, i325, i899, i900, i975, i999, i5200, i4875, i65536, i65537, i15, ob_some, nI_add, nI_clamp, zn_zib, zn_eq, zn_lt, zn_le, m2_lt, m2_le, lt_m2, le_m2, eq_m2, m2_eq, m1_lt, m1_le, lt_m1, le_m1, eq_m1, m1_eq, m1_m2, m2_m1, m2_lt_m1, bI_0, bI_1, bI_t, bI_f, bI_bo, nI0_bo, nI1_bo, if_true, if_false, ite_true, ite_false, Nat.zero_add, Nat.not_lt_zero, Nat.zero_le, not_true_eq_false, not_false_eq_true, or_false, false_or, true_or, or_true, and_true, true_and, Bool.false_eq_true, Bool.true_eq_false, reduceCtorEq, eq_self]
    · simp (disch := omega) only [hns, b1, ↓lm1, ↓lm2, i0, i1, i2, i3, i4, i5, i6, i7, i8, i9, i10, i12, i16, i20, i24, i31, i32, i44, i48, i57, i59, i63, i64, i74, i75, i90, i96, i97, i99, i100, i122, i139, i140, i144, i192, i200, i240, i255, i304, i309, i310, i311, i323, i324, i325, i899, i900, i975, i999, i5200, i4875, i65536, i65537, i15, ob_some, nI_add, nI_clamp, zn_zib, zn_eq, zn_lt, zn_le, m2_lt, m2_le, lt_m2, le_m2, eq_m2, m2_eq, m1_lt, m1_le, lt_m1, le_m1, eq_m1, m1_eq, m1_m2, m2_m1, m2_lt_m1, bI_0, bI_1, bI_t, bI_f, bI_bo, nI0_bo, nI1_bo, if_true, if_false, ite_true, ite_false, Nat.zero_add, Nat.not_lt_zero, Nat.zero_le, not_true_eq_false, not_false_eq_true, or_false, false_or, true_or, or_true, and_true, true_and, Bool.false_eq_true, Bool.true_eq_false, reduceCtorEq, eq_self]
theorem M_find_no (hw : TKw T S lt kf L p e) (i : Nat) (k2 : Int32 → Option Int32) : zl3 (b_X10_find_44 S fr lt k2) FU (nI i) (nI 0) (nI 0) = k2 (nI (i + 1)) := by
  have hns := hw.2.2.2.2.2.2.2.2.1
  have h5 := hw.2.2.2.2.1
  have h8 := hw.2.2.2.2.2.2.1
  have eF : FU = 5999 + 1 := rfl
  have b1 : ¬ e - p ≤ 0 := by omega
  rw [eF, zl3_s]
  unfold b_X10_find_44
  simp (disch := omega) only [hns, b1, ↓lm1, ↓lm2, i0, i1, i2, i3, i4, i5, i6, i7, i8, i9, i10, i12, i16, i20, i24, i31, i32, i44, i48, i57, i59, i63, i64, i74, i75, i90, i96, i97, i99, i100, i122, i139, i140, i144, i192, i200, i240, i255, i304, i309, i310, i311, i323, i324, i325, i899, i900, i975, i999, i5200, i4875, i65536, i65537, i15, ob_some, nI_add, nI_clamp, zn_zib, zn_eq, zn_lt, zn_le, m2_lt, m2_le, lt_m2, le_m2, eq_m2, m2_eq, m1_lt, m1_le, lt_m1, le_m1, eq_m1, m1_eq, m1_m2, m2_m1, m2_lt_m1, bI_0, bI_1, bI_t, bI_f, bI_bo, nI0_bo, nI1_bo, if_true, if_false, ite_true, ite_false, Nat.zero_add, Nat.not_lt_zero, Nat.zero_le, not_true_eq_false, not_false_eq_true, or_false, false_or, true_or, or_true, and_true, true_and, Bool.false_eq_true, Bool.true_eq_false, reduceCtorEq, eq_self]
theorem M_find (hN : NR nm fr kf po le kn) (hw : TKw T S lt kf L p e) : f_X10_find S fr lt = some (eo1 (fi (nmP kf po le kn p (e - p)) 12)) := by
  have hkn := hN.1
  have hns := hw.2.2.2.2.2.2.2.2.1
  have h8 := hw.2.2.2.2.2.2.1
  unfold f_X10_find
  refine zl1_up 12 0 (fun i => ∀ k, k < i → nmP kf po le kn p (e - p) k = false) _ (by omega) (Nat.zero_le _) (fun k hk => absurd hk (Nat.not_lt_zero k)) (fun k i hi hI => ?_) (fun k hI => ?_)
  · have b1 : ¬ 12 ≤ i := by omega
    have more : nmP kf po le kn p (e - p) i = false → ∀ k, k < i + 1 → nmP kf po le kn p (e - p) k = false := fun z k hk => by
      by_cases y : k = i
      · rw [y]
        exact z
      · exact hI k (by omega)
    unfold b_X10_find_2
    by_cases q : i < kn
    · obtain ⟨n1, n2, n3, n4, n5, n6⟩ := hN.2.1 i q
      have b2 : ¬ le i ≤ 0 := by omega
      by_cases y : le i = e - p
      · have hin := M_find_in hN hw q y k
        cases z : smW kf (po i) (le i) p (e - p)
        · rw [z] at hin
          refine .inr ⟨more (by unfold nmP; rw [z, Bool.and_false]), ?_⟩
          rw [if_neg (by decide)] at hin
          simp (disch := omega) only [b1, n5, b2, hns, eq_true y, hin, ↓lm1, ↓lm2, i0, i1, i2, i3, i4, i5, i6, i7, i8, i9, i10, i12, i16, i20, i24, i31, i32, i44, i48, i57, i59, i63, i64, i74, i75, i90, i96, i97, i99, i100, i122, i139, i140, i144, i192, i200, i240, i255, i304, i309, i310, i311, i323, i324, i325, i899, i900, i975, i999, i5200, i4875, i65536, i65537, i15, ob_some, nI_add, nI_clamp, zn_zib, zn_eq, zn_lt, zn_le, m2_lt, m2_le, lt_m2, le_m2, eq_m2, m2_eq, m1_lt, m1_le, lt_m1, le_m1, eq_m1, m1_eq, m1_m2, m2_m1, m2_lt_m1, bI_0, bI_1, bI_t, bI_f, bI_bo, nI0_bo, nI1_bo, if_true, if_false, ite_true, ite_false, Nat.zero_add, Nat.not_lt_zero, Nat.zero_le, not_true_eq_false, not_false_eq_true, or_false, false_or, true_or, or_true, and_true, true_and, Bool.false_eq_true, Bool.true_eq_false, reduceCtorEq, eq_self]
        · rw [z] at hin
          refine .inl ?_
          rw [fi_eq hi (by unfold nmP; rw [z, decide_eq_true q]; rfl) hI]
          rw [if_pos rfl] at hin
          simp (disch := omega) only [b1, n5, b2, hns, eq_true y, hin, ↓lm1, ↓lm2, i0, i1, i2, i3, i4, i5, i6, i7, i8, i9, i10, i12, i16, i20, i24, i31, i32, i44, i48, i57, i59, i63, i64, i74, i75, i90, i96, i97, i99, i100, i122, i139, i140, i144, i192, i200, i240, i255, i304, i309, i310, i311, i323, i324, i325, i899, i900, i975, i999, i5200, i4875, i65536, i65537, i15, ob_some, nI_add, nI_clamp, zn_zib, zn_eq, zn_lt, zn_le, m2_lt, m2_le, lt_m2, le_m2, eq_m2, m2_eq, m1_lt, m1_le, lt_m1, le_m1, eq_m1, m1_eq, m1_m2, m2_m1, m2_lt_m1, bI_0, bI_1, bI_t, bI_f, bI_bo, nI0_bo, nI1_bo, if_true, if_false, ite_true, ite_false, Nat.zero_add, Nat.not_lt_zero, Nat.zero_le, not_true_eq_false, not_false_eq_true, or_false, false_or, true_or, or_true, and_true, true_and, Bool.false_eq_true, Bool.true_eq_false, reduceCtorEq, eq_self]
          rfl
      · refine .inr ⟨more (by unfold nmP smW; rw [decide_eq_false y, Bool.false_and, Bool.and_false]), ?_⟩
        have hin := M_find_no (fr := fr) hw i k
        simp (disch := omega) only [b1, n5, b2, hns, eq_false y, hin, ↓lm1, ↓lm2, i0, i1, i2, i3, i4, i5, i6, i7, i8, i9, i10, i12, i16, i20, i24, i31, i32, i44, i48, i57, i59, i63, i64, i74, i75, i90, i96, i97, i99, i100, i122, i139, i140, i144, i192, i200, i240, i255, i304, i309, i310, i311, i323, i324, i325, i899, i900, i975, i999, i5200, i4875, i65536, i65537, i15, ob_some, nI_add, nI_clamp, zn_zib, zn_eq, zn_lt, zn_le, m2_lt, m2_le, lt_m2, le_m2, eq_m2, m2_eq, m1_lt, m1_le, lt_m1, le_m1, eq_m1, m1_eq, m1_m2, m2_m1, m2_lt_m1, bI_0, bI_1, bI_t, bI_f, bI_bo, nI0_bo, nI1_bo, if_true, if_false, ite_true, ite_false, Nat.zero_add, Nat.not_lt_zero, Nat.zero_le, not_true_eq_false, not_false_eq_true, or_false, false_or, true_or, or_true, and_true, true_and, Bool.false_eq_true, Bool.true_eq_false, reduceCtorEq, eq_self]
    · have n5 := hN.2.2.2 i (by omega) hi
      have hin := M_find_no (fr := fr) hw i k
      have b2 : 0 ≤ 0 := Nat.le_refl 0
      refine .inr ⟨more (by unfold nmP; rw [decide_eq_false q, Bool.false_and]), ?_⟩
      simp (disch := omega) only [b1, n5, b2, hin, ↓lm1, ↓lm2, i0, i1, i2, i3, i4, i5, i6, i7, i8, i9, i10, i12, i16, i20, i24, i31, i32, i44, i48, i57, i59, i63, i64, i74, i75, i90, i96, i97, i99, i100, i122, i139, i140, i144, i192, i200, i240, i255, i304, i309, i310, i311, i323, i324, i325, i899, i900, i975, i999, i5200, i4875, i65536, i65537, i15, ob_some, nI_add, nI_clamp, zn_zib, zn_eq, zn_lt, zn_le, m2_lt, m2_le, lt_m2, le_m2, eq_m2, m2_eq, m1_lt, m1_le, lt_m1, le_m1, eq_m1, m1_eq, m1_m2, m2_m1, m2_lt_m1, bI_0, bI_1, bI_t, bI_f, bI_bo, nI0_bo, nI1_bo, if_true, if_false, ite_true, ite_false, Nat.zero_add, Nat.not_lt_zero, Nat.zero_le, not_true_eq_false, not_false_eq_true, or_false, false_or, true_or, or_true, and_true, true_and, Bool.false_eq_true, Bool.true_eq_false, reduceCtorEq, eq_self]
  · have b1 : (12 : Int32) ≤ nI 12 := by decide
    unfold b_X10_find_2
    rw [fi_eqn hI, if_pos b1]
    rfl
end
