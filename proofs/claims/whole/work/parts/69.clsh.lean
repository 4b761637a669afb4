/-! the class's rows: the dead, the used, the seen -/
def fi (p : Nat → Bool) : Nat → Option Nat
  | 0 => none
  | n + 1 => match fi p n with
    | some a => some a
    | none => if p n then some n else none
theorem fi_s (p : Nat → Bool) (n : Nat) : fi p (n + 1) = match fi p n with
    | some a => some a
    | none => if p n then some n else none := rfl
theorem fi_some {p : Nat → Bool} : ∀ {n a : Nat}, fi p n = some a → a < n ∧ p a = true ∧ ∀ k, k < a → p k = false
  | 0, a, h => by cases h
  | n + 1, a, h => by
    rw [fi_s] at h
    cases hm : fi p n with
    | some b =>
      rw [hm] at h
      cases h
      obtain ⟨h1, h2, h3⟩ := fi_some hm
      exact ⟨by omega, h2, h3⟩
    | none =>
      rw [hm] at h
      dsimp only at h
      have hnone : ∀ j, j ≤ n → fi p j = none := by
        intro j hj
        cases hq : fi p j with
        | none => rfl
        | some b =>
          exfalso
          have : ∀ d, fi p (j + d) = some b := by
            intro d
            induction d with
            | zero => exact hq
            | succ d ih => rw [← Nat.add_assoc, fi_s, ih]
          have e := this (n - j)
          rw [show j + (n - j) = n by omega, hm] at e
          cases e
      cases hp : p n
      · rw [hp] at h
        cases h
      · rw [hp] at h
        cases h
        refine ⟨by omega, hp, fun k hk => ?_⟩
        have e := hnone (k + 1) (by omega)
        rw [fi_s, hnone k (by omega)] at e
        cases hk2 : p k
        · rfl
        · rw [hk2] at e
          cases e
theorem fi_none {p : Nat → Bool} : ∀ {n : Nat}, fi p n = none → ∀ k, k < n → p k = false
  | 0, _, k, hk => absurd hk (Nat.not_lt_zero k)
  | n + 1, h, k, hk => by
    rw [fi_s] at h
    cases hm : fi p n with
    | some b =>
      rw [hm] at h
      cases h
    | none =>
      rw [hm] at h
      dsimp only at h
      by_cases e : k = n
      · subst e
        cases hp : p k
        · rfl
        · rw [hp] at h
          cases h
      · exact fi_none hm k (by omega)
theorem fi_eqn {p : Nat → Bool} {n : Nat} (h : ∀ k, k < n → p k = false) : fi p n = none := by
  cases hm : fi p n with
  | none => rfl
  | some a =>
    obtain ⟨h1, h2, -⟩ := fi_some hm
    rw [h a h1] at h2
    cases h2
theorem fi_eq {p : Nat → Bool} {n a : Nat} (ha : a < n) (hp : p a = true) (h : ∀ k, k < a → p k = false) : fi p n = some a := by
  cases hm : fi p n with
  | none =>
    rw [fi_none hm a ha] at hp
    cases hp
  | some b =>
    obtain ⟨h1, h2, h3⟩ := fi_some hm
    by_cases q : a < b
    · rw [h3 a q] at hp
      cases hp
    · by_cases q2 : b < a
      · rw [h b q2] at h2
        cases h2
      · congr 1
        omega
theorem fi_cong {p q : Nat → Bool} : ∀ {n : Nat}, (∀ k, k < n → p k = q k) → fi p n = fi q n
  | 0, _ => rfl
  | n + 1, h => by rw [fi_s, fi_s, fi_cong (fun k hk => h k (by omega)), h n (by omega)]
def dd (st : Nat → Int32) (G S : Nat → Bool) (v : Nat) : Bool := has G (frI st v) || has S (tlI st v)
def gnw (st : Nat → Int32) (w s : Nat) : Bool := gn st s || decide (st (304 + w) = nI s)
def iu (st : Nat → Int32) (t : Nat) : Bool := hbx st m2 t || an (fun v => lv st v && (decide (st (96 + v) = nI t) || decide (st (144 + v) = nI t))) 48
def iuf (st : Nat → Int32) (n t : Nat) : Bool := an (fun v => (lv st v && !dd st (gn st) (stl st n m2) v) && (decide (st (96 + v) = nI t) && !stl st n m2 t || decide (st (144 + v) = nI t) && !gn st t)) 48 || hbx st m2 t
theorem bit_ok {n : Nat} (hn : n ≤ 64) {x : Int32} (h : okS n x) : ∃ b, f_X6_bitOf x = some b ∧ ∀ t, t < 64 → lb b t = decide (x = nI t) := by
  rcases h with rfl | ⟨s, hs, rfl⟩
  · refine ⟨0, bitOf_neg (by decide +kernel), fun t ht => ?_⟩
    rw [lb_0]
    exact (decide_eq_false (by rw [m2_eq (by omega)]; exact id)).symm
  · refine ⟨_, bitOf_nI (by omega), fun t ht => ?_⟩
    rw [lb_one (by omega)]
    simp (disch := omega) only [zn_eq]
    congr 1
    exact propext ⟨fun z => z.symm, fun z => z.symm⟩
section
variable {R : SRows} {st : Nat → Int32} {n m c : Nat}
theorem dd_cong {G G' S S' : Nat → Bool} (W : WS st n m) (hG : ∀ s, s < n → G s = G' s) (hS : ∀ s, s < n → S s = S' s) {v : Nat} (hv : v < 48) : dd st G S v = dd st G' S' v := by
  have hn := WS_n W
  unfold dd
  rw [has_cong hG (by omega) (frI_ok W hv), has_cong hS (by omega) (tlI_ok W hv)]
theorem X6_isDead (H : RC R st n m c) (G S : Int64) {v : Nat} (hv : v < 48) : f_X6_isDead R (nI v) G S = some (bI (dd st (lb G) (lb S) v)) := by
  have hn := WS_n (RC_W H)
  unfold f_X6_isDead dd
  rw [X6_fromOf H hv, ob_some, hol_ok (by omega) G (frI_ok (RC_W H) hv), X6_tillOf H hv]
  cases has (lb G) (frI st v)
  · simp (disch := omega) only [↓lm1, ↓lm2, i0, i1, i2, i3, i4, i5, i6, i7, i8, i9, i10, i12, i16, i20, i24, i31, i32, i44, i48, i57, i59, i63, i64, i74, i75, i90, i96, i97, i99, i100, i122, i139, i140, i144, i192, i200, i240, i255, i304, i309, i310, i311, i323, i324, i325, i899, i900, i975, i999, i5200, i4875, i65536, i65537, i15, ob_some, nI_add, nI_clamp, zn_zib, zn_eq, zn_lt, zn_le, m2_lt, m2_le, lt_m2, le_m2, eq_m2, m2_eq, m1_lt, m1_le, lt_m1, le_m1, eq_m1, m1_eq, m1_m2, m2_m1, m2_lt_m1, bI_0, bI_1, bI_t, bI_f, bI_bo, nI0_bo, nI1_bo, if_true, if_false, ite_true, ite_false, Nat.zero_add, Nat.not_lt_zero, Nat.zero_le, not_true_eq_false, not_false_eq_true, or_false, false_or, true_or, or_true, and_true, true_and, Bool.false_eq_true, Bool.true_eq_false, reduceCtorEq, eq_self, hol_ok (by omega : n ≤ 64) S (tlI_ok (RC_W H) hv), Bool.false_or]
    cases has (lb S) (tlI st v) <;> simp (disch := omega) only [↓lm1, ↓lm2, i0, i1, i2, i3, i4, i5, i6, i7, i8, i9, i10, i12, i16, i20, i24, i31, i32, i44, i48, i57, i59, i63, i64, i74, i75, i90, i96, i97, i99, i100, i122, i139, i140, i144, i192, i200, i240, i255, i304, i309, i310, i311, i323, i324, i325, i899, i900, i975, i999, i5200, i4875, i65536, i65537, i15, ob_some, nI_add, nI_clamp, zn_zib, zn_eq, zn_lt, zn_le, m2_lt, m2_le, lt_m2, le_m2, eq_m2, m2_eq, m1_lt, m1_le, lt_m1, le_m1, eq_m1, m1_eq, m1_m2, m2_m1, m2_lt_m1, bI_0, bI_1, bI_t, bI_f, bI_bo, nI0_bo, nI1_bo, if_true, if_false, ite_true, ite_false, Nat.zero_add, Nat.not_lt_zero, Nat.zero_le, not_true_eq_false, not_false_eq_true, or_false, false_or, true_or, or_true, and_true, true_and, Bool.false_eq_true, Bool.true_eq_false, reduceCtorEq, eq_self]
  · simp (disch := omega) only [↓lm1, ↓lm2, i0, i1, i2, i3, i4, i5, i6, i7, i8, i9, i10, i12, i16, i20, i24, i31, i32, i44, i48, i57, i59, i63, i64, i74, i75, i90, i96, i97, i99, i100, i122, i139, i140, i144, i192, i200, i240, i255, i304, i309, i310, i311, i323, i324, i325, i899, i900, i975, i999, i5200, i4875, i65536, i65537, i15, ob_some, nI_add, nI_clamp, zn_zib, zn_eq, zn_lt, zn_le, m2_lt, m2_le, lt_m2, le_m2, eq_m2, m2_eq, m1_lt, m1_le, lt_m1, le_m1, eq_m1, m1_eq, m1_m2, m2_m1, m2_lt_m1, bI_0, bI_1, bI_t, bI_f, bI_bo, nI0_bo, nI1_bo, if_true, if_false, ite_true, ite_false, Nat.zero_add, Nat.not_lt_zero, Nat.zero_le, not_true_eq_false, not_false_eq_true, or_false, false_or, true_or, or_true, and_true, true_and, Bool.false_eq_true, Bool.true_eq_false, reduceCtorEq, eq_self, Bool.true_or]
theorem X6_isDeadNow (H : RC R st n m c) {v : Nat} (hv : v < 48) : f_X6_isDeadNow R (nI v) = some (bI (dd st (gn st) (stl st n m2) v)) := by
  have hn := WS_n (RC_W H)
  unfold f_X6_isDeadNow
  rw [lm2, X6_settledWithout H, ob_some, X6_isDead H _ _ hv, ob_some, dd_cong (RC_W H) (fun s hs => RC_gn H (by omega)) (fun s hs => lb_stl H m2 hs) hv]
  simp (disch := omega) only [↓lm1, ↓lm2, i0, i1, i2, i3, i4, i5, i6, i7, i8, i9, i10, i12, i16, i20, i24, i31, i32, i44, i48, i57, i59, i63, i64, i74, i75, i90, i96, i97, i99, i100, i122, i139, i140, i144, i192, i200, i240, i255, i304, i309, i310, i311, i323, i324, i325, i899, i900, i975, i999, i5200, i4875, i65536, i65537, i15, ob_some, nI_add, nI_clamp, zn_zib, zn_eq, zn_lt, zn_le, m2_lt, m2_le, lt_m2, le_m2, eq_m2, m2_eq, m1_lt, m1_le, lt_m1, le_m1, eq_m1, m1_eq, m1_m2, m2_m1, m2_lt_m1, bI_0, bI_1, bI_t, bI_f, bI_bo, nI0_bo, nI1_bo, if_true, if_false, ite_true, ite_false, Nat.zero_add, Nat.not_lt_zero, Nat.zero_le, not_true_eq_false, not_false_eq_true, or_false, false_or, true_or, or_true, and_true, true_and, Bool.false_eq_true, Bool.true_eq_false, reduceCtorEq, eq_self]
theorem X6_countDead (H : RC R st n m c) : f_X6_countDeadWithout R m2 = some (cI (fun v => lv st v && dd st (gn st) (stl st n m2) v) 48) := by
  have hn := WS_n (RC_W H)
  unfold f_X6_countDeadWithout
  rw [X6_settledWithout H, ob_some, X6_stampOf_m2, ob_some, bitOf_neg (by decide +kernel), ob_some]
  refine zl4_fold 48 (fun _ => Rows_doneStamps R &&& ot n (hz st n m2)) (fun _ => Rows_goneStamps R ||| 0) (cI (fun v => lv st v && dd st (gn st) (stl st n m2) v)) _ (by omega) (fun k i hi => ?_) (fun k => ?_)
  · have h1 : ¬ 48 ≤ i := by omega
    unfold b_X6_countDeadWithout_27
    have hG : ∀ s, s < n → lb (Rows_goneStamps R ||| 0) s = gn st s := fun s hs => by
      rw [lb_or, lb_0, Bool.or_false, RC_gn H (by omega)]
    simp (disch := omega) only [h1, X6_isVersion H hi, X6_isDead H _ _ hi, dd_cong (RC_W H) hG (fun s hs => lb_stl H m2 hs) hi, ↓lm1, ↓lm2, i0, i1, i2, i3, i4, i5, i6, i7, i8, i9, i10, i12, i16, i20, i24, i31, i32, i44, i48, i57, i59, i63, i64, i74, i75, i90, i96, i97, i99, i100, i122, i139, i140, i144, i192, i200, i240, i255, i304, i309, i310, i311, i323, i324, i325, i899, i900, i975, i999, i5200, i4875, i65536, i65537, i15, ob_some, nI_add, nI_clamp, zn_zib, zn_eq, zn_lt, zn_le, m2_lt, m2_le, lt_m2, le_m2, eq_m2, m2_eq, m1_lt, m1_le, lt_m1, le_m1, eq_m1, m1_eq, m1_m2, m2_m1, m2_lt_m1, bI_0, bI_1, bI_t, bI_f, bI_bo, nI0_bo, nI1_bo, if_true, if_false, ite_true, ite_false, Nat.zero_add, Nat.not_lt_zero, Nat.zero_le, not_true_eq_false, not_false_eq_true, or_false, false_or, true_or, or_true, and_true, true_and, Bool.false_eq_true, Bool.true_eq_false, reduceCtorEq, eq_self]
    rw [cI_s]
    cases lv st i <;> cases dd st (gn st) (stl st n m2) i <;> simp (disch := omega) only [Bool.false_and, Bool.true_and, ↓lm1, ↓lm2, i0, i1, i2, i3, i4, i5, i6, i7, i8, i9, i10, i12, i16, i20, i24, i31, i32, i44, i48, i57, i59, i63, i64, i74, i75, i90, i96, i97, i99, i100, i122, i139, i140, i144, i192, i200, i240, i255, i304, i309, i310, i311, i323, i324, i325, i899, i900, i975, i999, i5200, i4875, i65536, i65537, i15, ob_some, nI_add, nI_clamp, zn_zib, zn_eq, zn_lt, zn_le, m2_lt, m2_le, lt_m2, le_m2, eq_m2, m2_eq, m1_lt, m1_le, lt_m1, le_m1, eq_m1, m1_eq, m1_m2, m2_m1, m2_lt_m1, bI_0, bI_1, bI_t, bI_f, bI_bo, nI0_bo, nI1_bo, if_true, if_false, ite_true, ite_false, Nat.zero_add, Nat.not_lt_zero, Nat.zero_le, not_true_eq_false, not_false_eq_true, or_false, false_or, true_or, or_true, and_true, true_and, Bool.false_eq_true, Bool.true_eq_false, reduceCtorEq, eq_self]
  · unfold b_X6_countDeadWithout_27
    simp (disch := omega) only [Nat.le_refl, ↓lm1, ↓lm2, i0, i1, i2, i3, i4, i5, i6, i7, i8, i9, i10, i12, i16, i20, i24, i31, i32, i44, i48, i57, i59, i63, i64, i74, i75, i90, i96, i97, i99, i100, i122, i139, i140, i144, i192, i200, i240, i255, i304, i309, i310, i311, i323, i324, i325, i899, i900, i975, i999, i5200, i4875, i65536, i65537, i15, ob_some, nI_add, nI_clamp, zn_zib, zn_eq, zn_lt, zn_le, m2_lt, m2_le, lt_m2, le_m2, eq_m2, m2_eq, m1_lt, m1_le, lt_m1, le_m1, eq_m1, m1_eq, m1_m2, m2_m1, m2_lt_m1, bI_0, bI_1, bI_t, bI_f, bI_bo, nI0_bo, nI1_bo, if_true, if_false, ite_true, ite_false, Nat.zero_add, Nat.not_lt_zero, Nat.zero_le, not_true_eq_false, not_false_eq_true, or_false, false_or, true_or, or_true, and_true, true_and, Bool.false_eq_true, Bool.true_eq_false, reduceCtorEq, eq_self]
theorem X6_countDeadW (H : RC R st n m c) {w : Nat} (hw : w < 6) (hr : rn st w = true) : f_X6_countDeadWithout R (nI w) = some (cI (fun v => lv st v && dd st (gnw st w) (stl st n (nI w)) v) 48) := by
  have hn := WS_n (RC_W H)
  unfold f_X6_countDeadWithout
  have hok : okS n (st (304 + w)) := by
    rcases WS_w (RC_W H) hw with e | ⟨s, hs, e⟩
    · rw [rn_f e] at hr
      cases hr
    · exact .inr ⟨s, hs, e⟩
  obtain ⟨b, hb, hb2⟩ := bit_ok (by omega : n ≤ 64) hok
  rw [X6_settledWithout H, ob_some, X6_stampOf H hw, hr, ob_some, if_pos rfl, hb, ob_some]
  refine zl4_fold 48 (fun _ => Rows_doneStamps R &&& ot n (hz st n (nI w))) (fun _ => Rows_goneStamps R ||| b) (cI (fun v => lv st v && dd st (gnw st w) (stl st n (nI w)) v)) _ (by omega) (fun k i hi => ?_) (fun k => ?_)
  · have h1 : ¬ 48 ≤ i := by omega
    unfold b_X6_countDeadWithout_27
    have hG : ∀ s, s < n → lb (Rows_goneStamps R ||| b) s = gnw st w s := fun s hs => by
      rw [lb_or, hb2 s (by omega), RC_gn H (by omega)]
      rfl
    simp (disch := omega) only [h1, X6_isVersion H hi, X6_isDead H _ _ hi, dd_cong (RC_W H) hG (fun s hs => lb_stl H (nI w) hs) hi, ↓lm1, ↓lm2, i0, i1, i2, i3, i4, i5, i6, i7, i8, i9, i10, i12, i16, i20, i24, i31, i32, i44, i48, i57, i59, i63, i64, i74, i75, i90, i96, i97, i99, i100, i122, i139, i140, i144, i192, i200, i240, i255, i304, i309, i310, i311, i323, i324, i325, i899, i900, i975, i999, i5200, i4875, i65536, i65537, i15, ob_some, nI_add, nI_clamp, zn_zib, zn_eq, zn_lt, zn_le, m2_lt, m2_le, lt_m2, le_m2, eq_m2, m2_eq, m1_lt, m1_le, lt_m1, le_m1, eq_m1, m1_eq, m1_m2, m2_m1, m2_lt_m1, bI_0, bI_1, bI_t, bI_f, bI_bo, nI0_bo, nI1_bo, if_true, if_false, ite_true, ite_false, Nat.zero_add, Nat.not_lt_zero, Nat.zero_le, not_true_eq_false, not_false_eq_true, or_false, false_or, true_or, or_true, and_true, true_and, Bool.false_eq_true, Bool.true_eq_false, reduceCtorEq, eq_self]
    rw [cI_s]
    cases lv st i <;> cases dd st (gnw st w) (stl st n (nI w)) i <;> simp (disch := omega) only [Bool.false_and, Bool.true_and, ↓lm1, ↓lm2, i0, i1, i2, i3, i4, i5, i6, i7, i8, i9, i10, i12, i16, i20, i24, i31, i32, i44, i48, i57, i59, i63, i64, i74, i75, i90, i96, i97, i99, i100, i122, i139, i140, i144, i192, i200, i240, i255, i304, i309, i310, i311, i323, i324, i325, i899, i900, i975, i999, i5200, i4875, i65536, i65537, i15, ob_some, nI_add, nI_clamp, zn_zib, zn_eq, zn_lt, zn_le, m2_lt, m2_le, lt_m2, le_m2, eq_m2, m2_eq, m1_lt, m1_le, lt_m1, le_m1, eq_m1, m1_eq, m1_m2, m2_m1, m2_lt_m1, bI_0, bI_1, bI_t, bI_f, bI_bo, nI0_bo, nI1_bo, if_true, if_false, ite_true, ite_false, Nat.zero_add, Nat.not_lt_zero, Nat.zero_le, not_true_eq_false, not_false_eq_true, or_false, false_or, true_or, or_true, and_true, true_and, Bool.false_eq_true, Bool.true_eq_false, reduceCtorEq, eq_self]
  · unfold b_X6_countDeadWithout_27
    simp (disch := omega) only [Nat.le_refl, ↓lm1, ↓lm2, i0, i1, i2, i3, i4, i5, i6, i7, i8, i9, i10, i12, i16, i20, i24, i31, i32, i44, i48, i57, i59, i63, i64, i74, i75, i90, i96, i97, i99, i100, i122, i139, i140, i144, i192, i200, i240, i255, i304, i309, i310, i311, i323, i324, i325, i899, i900, i975, i999, i5200, i4875, i65536, i65537, i15, ob_some, nI_add, nI_clamp, zn_zib, zn_eq, zn_lt, zn_le, m2_lt, m2_le, lt_m2, le_m2, eq_m2, m2_eq, m1_lt, m1_le, lt_m1, le_m1, eq_m1, m1_eq, m1_m2, m2_m1, m2_lt_m1, bI_0, bI_1, bI_t, bI_f, bI_bo, nI0_bo, nI1_bo, if_true, if_false, ite_true, ite_false, Nat.zero_add, Nat.not_lt_zero, Nat.zero_le, not_true_eq_false, not_false_eq_true, or_false, false_or, true_or, or_true, and_true, true_and, Bool.false_eq_true, Bool.true_eq_false, reduceCtorEq, eq_self]
theorem X6_wouldFreeze (H : RC R st n m c) {v : Nat} (hv : v < 48) : f_X6_wouldFreeze R (nI v) = some (bI (has (stl st n m2) (frI st v))) := by
  have hn := WS_n (RC_W H)
  unfold f_X6_wouldFreeze
  rw [lm2, X6_settledWithout H, ob_some, X6_fromOf H hv, ob_some, hol_ok (by omega : n ≤ 64) _ (frI_ok (RC_W H) hv), ob_some, has_cong (fun s hs => lb_stl H m2 hs) (by omega) (frI_ok (RC_W H) hv)]
  simp (disch := omega) only [↓lm1, ↓lm2, i0, i1, i2, i3, i4, i5, i6, i7, i8, i9, i10, i12, i16, i20, i24, i31, i32, i44, i48, i57, i59, i63, i64, i74, i75, i90, i96, i97, i99, i100, i122, i139, i140, i144, i192, i200, i240, i255, i304, i309, i310, i311, i323, i324, i325, i899, i900, i975, i999, i5200, i4875, i65536, i65537, i15, ob_some, nI_add, nI_clamp, zn_zib, zn_eq, zn_lt, zn_le, m2_lt, m2_le, lt_m2, le_m2, eq_m2, m2_eq, m1_lt, m1_le, lt_m1, le_m1, eq_m1, m1_eq, m1_m2, m2_m1, m2_lt_m1, bI_0, bI_1, bI_t, bI_f, bI_bo, nI0_bo, nI1_bo, if_true, if_false, ite_true, ite_false, Nat.zero_add, Nat.not_lt_zero, Nat.zero_le, not_true_eq_false, not_false_eq_true, or_false, false_or, true_or, or_true, and_true, true_and, Bool.false_eq_true, Bool.true_eq_false, reduceCtorEq, eq_self]
theorem X6_countFreezing (H : RC R st n m c) : f_X6_countFreezing R = some (cI (fun v => has (stl st n m2) (frI st v) || has (gn st) (tlI st v)) 48) := by
  have hn := WS_n (RC_W H)
  unfold f_X6_countFreezing
  rw [lm2, X6_settledWithout H, ob_some]
  refine zl3_fold 48 (fun _ => Rows_doneStamps R &&& ot n (hz st n m2)) (cI (fun v => has (stl st n m2) (frI st v) || has (gn st) (tlI st v))) _ (by omega) (fun k i hi => ?_) (fun k => ?_)
  · have h1 : ¬ 48 ≤ i := by omega
    unfold b_X6_countFreezing_12
    simp (disch := omega) only [h1, X6_fromOf H hi, X6_tillOf H hi, hol_ok (by omega : n ≤ 64) _ (frI_ok (RC_W H) hi), hol_ok (by omega : n ≤ 64) _ (tlI_ok (RC_W H) hi), has_cong (fun s hs => lb_stl H m2 hs) (by omega) (frI_ok (RC_W H) hi), has_cong (fun s hs => RC_gn H (by omega : s < 64)) (by omega) (tlI_ok (RC_W H) hi), ↓lm1, ↓lm2, i0, i1, i2, i3, i4, i5, i6, i7, i8, i9, i10, i12, i16, i20, i24, i31, i32, i44, i48, i57, i59, i63, i64, i74, i75, i90, i96, i97, i99, i100, i122, i139, i140, i144, i192, i200, i240, i255, i304, i309, i310, i311, i323, i324, i325, i899, i900, i975, i999, i5200, i4875, i65536, i65537, i15, ob_some, nI_add, nI_clamp, zn_zib, zn_eq, zn_lt, zn_le, m2_lt, m2_le, lt_m2, le_m2, eq_m2, m2_eq, m1_lt, m1_le, lt_m1, le_m1, eq_m1, m1_eq, m1_m2, m2_m1, m2_lt_m1, bI_0, bI_1, bI_t, bI_f, bI_bo, nI0_bo, nI1_bo, if_true, if_false, ite_true, ite_false, Nat.zero_add, Nat.not_lt_zero, Nat.zero_le, not_true_eq_false, not_false_eq_true, or_false, false_or, true_or, or_true, and_true, true_and, Bool.false_eq_true, Bool.true_eq_false, reduceCtorEq, eq_self]
    rw [cI_s]
    cases has (stl st n m2) (frI st i) <;> cases has (gn st) (tlI st i) <;> simp (disch := omega) only [Bool.or_false, Bool.or_true, ↓lm1, ↓lm2, i0, i1, i2, i3, i4, i5, i6, i7, i8, i9, i10, i12, i16, i20, i24, i31, i32, i44, i48, i57, i59, i63, i64, i74, i75, i90, i96, i97, i99, i100, i122, i139, i140, i144, i192, i200, i240, i255, i304, i309, i310, i311, i323, i324, i325, i899, i900, i975, i999, i5200, i4875, i65536, i65537, i15, ob_some, nI_add, nI_clamp, zn_zib, zn_eq, zn_lt, zn_le, m2_lt, m2_le, lt_m2, le_m2, eq_m2, m2_eq, m1_lt, m1_le, lt_m1, le_m1, eq_m1, m1_eq, m1_m2, m2_m1, m2_lt_m1, bI_0, bI_1, bI_t, bI_f, bI_bo, nI0_bo, nI1_bo, if_true, if_false, ite_true, ite_false, Nat.zero_add, Nat.not_lt_zero, Nat.zero_le, not_true_eq_false, not_false_eq_true, or_false, false_or, true_or, or_true, and_true, true_and, Bool.false_eq_true, Bool.true_eq_false, reduceCtorEq, eq_self]
  · unfold b_X6_countFreezing_12
    simp (disch := omega) only [Nat.le_refl, ↓lm1, ↓lm2, i0, i1, i2, i3, i4, i5, i6, i7, i8, i9, i10, i12, i16, i20, i24, i31, i32, i44, i48, i57, i59, i63, i64, i74, i75, i90, i96, i97, i99, i100, i122, i139, i140, i144, i192, i200, i240, i255, i304, i309, i310, i311, i323, i324, i325, i899, i900, i975, i999, i5200, i4875, i65536, i65537, i15, ob_some, nI_add, nI_clamp, zn_zib, zn_eq, zn_lt, zn_le, m2_lt, m2_le, lt_m2, le_m2, eq_m2, m2_eq, m1_lt, m1_le, lt_m1, le_m1, eq_m1, m1_eq, m1_m2, m2_m1, m2_lt_m1, bI_0, bI_1, bI_t, bI_f, bI_bo, nI0_bo, nI1_bo, if_true, if_false, ite_true, ite_false, Nat.zero_add, Nat.not_lt_zero, Nat.zero_le, not_true_eq_false, not_false_eq_true, or_false, false_or, true_or, or_true, and_true, true_and, Bool.false_eq_true, Bool.true_eq_false, reduceCtorEq, eq_self]
theorem X6_inUse (H : RC R st n m c) : ∃ S, f_X6_inUse R = some S ∧ ∀ t, t < 64 → lb S t = iu st t := by
  have hn := WS_n (RC_W H)
  have hm := WS_m (RC_W H)
  have key : ∀ v, v < 48 → ∃ b1 b2, f_X6_bitOf (st (96 + v)) = some b1 ∧ f_X6_bitOf (st (144 + v)) = some b2 ∧ ∀ t, t < 64 → lb (b1 ||| b2) t = (decide (st (96 + v) = nI t) || decide (st (144 + v) = nI t)) := fun v hv => by
    obtain ⟨b1, h1, h2⟩ := bit_ok (by omega : n ≤ 64) (WS_f (RC_W H) hv)
    obtain ⟨b2, h3, h4⟩ := bit_ok (by omega : n ≤ 64) (WS_d (RC_W H) hv)
    exact ⟨b1, b2, h1, h3, fun t ht => by rw [lb_or, h2 t ht, h4 t ht]⟩
  let g : Nat → Int64 := fun v => ((f_X6_bitOf (st (96 + v))).getD 0) ||| ((f_X6_bitOf (st (144 + v))).getD 0)
  refine ⟨orL (orL 0 (fun w => !decide (nI w = m2)) (Rows_held R) 6) (lv st) g 48, ?_, fun t ht => ?_⟩
  · unfold f_X6_inUse
    rw [lm2, X6_heldWithout H, ob_some]
    refine zl2_fold 48 (orL (orL 0 (fun w => !decide (nI w = m2)) (Rows_held R) 6) (lv st) g) _ (by omega) (fun k i hi => ?_) (fun k => ?_)
    · have h1 : ¬ 48 ≤ i := by omega
      obtain ⟨b1, b2, e1, e2, -⟩ := key i hi
      unfold b_X6_inUse_9
      rw [orL_s (orL 0 (fun w => !decide (nI w = m2)) (Rows_held R) 6)]
      have eg : g i = b1 ||| b2 := by
        show ((f_X6_bitOf (st (96 + i))).getD 0) ||| ((f_X6_bitOf (st (144 + i))).getD 0) = b1 ||| b2
        rw [e1, e2]
        rfl
      rw [eg]
      generalize orL (orL 0 (fun w => !decide (nI w = m2)) (Rows_held R) 6) (lv st) g i = F
      rcases RC_v H hi with ⟨e, -⟩ | ⟨r, hr, e, -, -, f1, f2⟩
      · simp (disch := omega) only [h1, X6_isVersion H hi, lv_f e, ↓lm1, ↓lm2, i0, i1, i2, i3, i4, i5, i6, i7, i8, i9, i10, i12, i16, i20, i24, i31, i32, i44, i48, i57, i59, i63, i64, i74, i75, i90, i96, i97, i99, i100, i122, i139, i140, i144, i192, i200, i240, i255, i304, i309, i310, i311, i323, i324, i325, i899, i900, i975, i999, i5200, i4875, i65536, i65537, i15, ob_some, nI_add, nI_clamp, zn_zib, zn_eq, zn_lt, zn_le, m2_lt, m2_le, lt_m2, le_m2, eq_m2, m2_eq, m1_lt, m1_le, lt_m1, le_m1, eq_m1, m1_eq, m1_m2, m2_m1, m2_lt_m1, bI_0, bI_1, bI_t, bI_f, bI_bo, nI0_bo, nI1_bo, if_true, if_false, ite_true, ite_false, Nat.zero_add, Nat.not_lt_zero, Nat.zero_le, not_true_eq_false, not_false_eq_true, or_false, false_or, true_or, or_true, and_true, true_and, Bool.false_eq_true, Bool.true_eq_false, reduceCtorEq, eq_self]
      · simp (disch := omega) only [h1, X6_isVersion H hi, lv_t e (by omega : r < 100), f1, f2, e1, e2, ↓lm1, ↓lm2, i0, i1, i2, i3, i4, i5, i6, i7, i8, i9, i10, i12, i16, i20, i24, i31, i32, i44, i48, i57, i59, i63, i64, i74, i75, i90, i96, i97, i99, i100, i122, i139, i140, i144, i192, i200, i240, i255, i304, i309, i310, i311, i323, i324, i325, i899, i900, i975, i999, i5200, i4875, i65536, i65537, i15, ob_some, nI_add, nI_clamp, zn_zib, zn_eq, zn_lt, zn_le, m2_lt, m2_le, lt_m2, le_m2, eq_m2, m2_eq, m1_lt, m1_le, lt_m1, le_m1, eq_m1, m1_eq, m1_m2, m2_m1, m2_lt_m1, bI_0, bI_1, bI_t, bI_f, bI_bo, nI0_bo, nI1_bo, if_true, if_false, ite_true, ite_false, Nat.zero_add, Nat.not_lt_zero, Nat.zero_le, not_true_eq_false, not_false_eq_true, or_false, false_or, true_or, or_true, and_true, true_and, Bool.false_eq_true, Bool.true_eq_false, reduceCtorEq, eq_self]
    · unfold b_X6_inUse_9
      simp (disch := omega) only [Nat.le_refl, ↓lm1, ↓lm2, i0, i1, i2, i3, i4, i5, i6, i7, i8, i9, i10, i12, i16, i20, i24, i31, i32, i44, i48, i57, i59, i63, i64, i74, i75, i90, i96, i97, i99, i100, i122, i139, i140, i144, i192, i200, i240, i255, i304, i309, i310, i311, i323, i324, i325, i899, i900, i975, i999, i5200, i4875, i65536, i65537, i15, ob_some, nI_add, nI_clamp, zn_zib, zn_eq, zn_lt, zn_le, m2_lt, m2_le, lt_m2, le_m2, eq_m2, m2_eq, m1_lt, m1_le, lt_m1, le_m1, eq_m1, m1_eq, m1_m2, m2_m1, m2_lt_m1, bI_0, bI_1, bI_t, bI_f, bI_bo, nI0_bo, nI1_bo, if_true, if_false, ite_true, ite_false, Nat.zero_add, Nat.not_lt_zero, Nat.zero_le, not_true_eq_false, not_false_eq_true, or_false, false_or, true_or, or_true, and_true, true_and, Bool.false_eq_true, Bool.true_eq_false, reduceCtorEq, eq_self]
  · rw [lb_orL, lb_hbx H m2 ht]
    unfold iu
    congr 1
    refine an_cong (fun v hv => ?_)
    obtain ⟨b1, b2, e1, e2, e3⟩ := key v hv
    rw [← e3 t ht]
    show (lv st v && lb (((f_X6_bitOf (st (96 + v))).getD 0) ||| ((f_X6_bitOf (st (144 + v))).getD 0)) t) = _
    rw [e1, e2]
    rfl
end
