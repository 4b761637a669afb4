/-! asked of the fits -/
def soF (ft : Nat → Bool) : Nat → Int32
  | 0 => nI 0
  | j + 1 => if ft j then soF ft j ||| nI j else soF ft j
def alF (ft : Nat → Bool) (u : Nat) : Nat → Int32
  | 0 => nI (2 ^ u) - nI 1
  | j + 1 => if ft j then alF ft u j &&& nI j else alF ft u j
def fdF (ft : Nat → Bool) (x : Int32) : Nat → Int32
  | 0 => m1
  | j + 1 => if ft j then (if nI (fb_ct ft j) = x then nI j else fdF ft x j) else fdF ft x j
def oF (ft : Nat → Bool) (k j : Nat) : Nat := fb_ct (fun s => ft s && bt (nI s) k) j
theorem soF_s (ft : Nat → Bool) (j : Nat) : soF ft (j + 1) = if ft j then soF ft j ||| nI j else soF ft j := rfl
theorem alF_s (ft : Nat → Bool) (u j : Nat) : alF ft u (j + 1) = if ft j then alF ft u j &&& nI j else alF ft u j := rfl
theorem fdF_s (ft : Nat → Bool) (x : Int32) (j : Nat) : fdF ft x (j + 1) = if ft j then (if nI (fb_ct ft j) = x then nI j else fdF ft x j) else fdF ft x j := rfl
def sk3 (S : SMo) (a b c : Int32) : SMo := mkMo (Mo_thrown S) (Mo_taped S) (Mo_size S) (Mo_at S) (Mo_end S) (Mo_token S) (Mo_whole S) (Mo_nameSize S) (Mo_fault S) (Mo_place S) (Mo_trouble S) (Mo_failed S) (Mo_hasStore S) (Mo_undos S) (Mo_images S) (Mo_ring S) (Mo_refused S) a b c (Mo_firstRest S) (Mo_allWeight S) (Mo_seenWeight S) (Mo_sumWeight S)
def SQ (S S' : SMo) : Prop := Mo_taped S' = Mo_taped S ∧ Mo_fault S' = Mo_fault S ∧ Mo_place S' = Mo_place S ∧ Mo_trouble S' = Mo_trouble S ∧ Mo_hasStore S' = Mo_hasStore S ∧ Mo_undos S' = Mo_undos S ∧ Mo_images S' = Mo_images S ∧ Mo_ring S' = Mo_ring S
section
variable {E : SEv} {R : SRows} {S : SMo} {r on og told tr st of : Nat → Int32} {n m c u ev : Nat} {sv rw' : Nat → Nat} {fk : Nat → Bool} {vals : Nat → Int32}
theorem M_116 (h4 : r 4 = nI u) (hu : u ≤ 4) {s : Nat} (k48 : SMo → (Nat → Int32) → (Nat → Int32) → Int32 → Int32 → Option (Int32 × SMo × (Nat → Int32) × (Nat → Int32))) (x v2 : Int32) : zl6 (b_X10_seekSets_116 og on r told x k48) FU S of tr v2 (nI s) (nI 0) = k48 S (fun k => if k < u then of k + bI (bt (nI s) k) else of k) tr v2 (nI (s + 1)) := by
  refine zl6_up u 0 (fun j a1 a2 a3 a4 a5 => a1 = S ∧ a2 = (fun k => if k < j then of k + bI (bt (nI s) k) else of k) ∧ a3 = tr ∧ a4 = v2 ∧ a5 = nI s) _ (by omega) (Nat.zero_le _) ⟨rfl, funext (fun k => (if_neg (Nat.not_lt_zero k)).symm), rfl, rfl, rfl⟩ (fun k j a1 a2 a3 a4 a5 hj hI => ?_) (fun k a1 a2 a3 a4 a5 hI => ?_)
  · obtain ⟨rfl, rfl, rfl, rfl, rfl⟩ := hI
    have b1 : ¬ u ≤ j := by omega
    have e := bit_and1 (nI s) (by omega : j < 32)
    have b0 : ¬ j < j := Nat.lt_irrefl j
    refine .inr ⟨a1, (fun k => if k < j + 1 then of k + bI (bt (nI s) k) else of k), a3, a4, nI s, ⟨rfl, rfl, rfl, rfl, rfl⟩, ?_⟩
    have ef : (fun k => if k < j + 1 then of k + bI (bt (nI s) k) else of k) = upd (fun k => if k < j then of k + bI (bt (nI s) k) else of k) j (of j + bI (bt (nI s) j)) := funext (fun k => by
      unfold upd
      by_cases z : k = j
      · rw [if_pos z, if_pos (by omega), z]
      · rw [if_neg z]
        show (if k < j + 1 then of k + bI (bt (nI s) k) else of k) = (if k < j then of k + bI (bt (nI s) k) else of k)
        by_cases y : k < j
        · rw [if_pos y, if_pos (by omega)]
        · rw [if_neg y, if_neg (by omega)])
    rw [ef]
    unfold b_X10_seekSets_116
    simp (disch := omega) only [h4, b1, e, b0, ↓lm1, ↓lm2, i0, i1, i2, i3, i4, i5, i6, i7, i8, i9, i10, i12, i16, i20, i24, i31, i32, i44, i48, i57, i59, i63, i64, i74, i75, i90, i96, i97, i99, i100, i122, i139, i140, i144, i192, i200, i240, i255, i304, i309, i310, i311, i323, i324, i325, i899, i900, i975, i999, i5200, i4875, i65536, i65537, i15, ob_some, nI_add, nI_clamp, zn_zib, zn_eq, zn_lt, zn_le, m2_lt, m2_le, lt_m2, le_m2, eq_m2, m2_eq, m1_lt, m1_le, lt_m1, le_m1, eq_m1, m1_eq, m1_m2, m2_m1, m2_lt_m1, bI_0, bI_1, bI_t, bI_f, bI_bo, nI0_bo, nI1_bo, if_true, if_false, ite_true, ite_false, Nat.zero_add, Nat.not_lt_zero, Nat.zero_le, not_true_eq_false, not_false_eq_true, or_false, false_or, true_or, or_true, and_true, true_and, Bool.false_eq_true, Bool.true_eq_false, reduceCtorEq, eq_self]
  · obtain ⟨rfl, rfl, rfl, rfl, rfl⟩ := hI
    have b1 : u ≤ u := Nat.le_refl _
    unfold b_X10_seekSets_116
    simp (disch := omega) only [h4, b1, ↓lm1, ↓lm2, i0, i1, i2, i3, i4, i5, i6, i7, i8, i9, i10, i12, i16, i20, i24, i31, i32, i44, i48, i57, i59, i63, i64, i74, i75, i90, i96, i97, i99, i100, i122, i139, i140, i144, i192, i200, i240, i255, i304, i309, i310, i311, i323, i324, i325, i899, i900, i975, i999, i5200, i4875, i65536, i65537, i15, ob_some, nI_add, nI_clamp, zn_zib, zn_eq, zn_lt, zn_le, m2_lt, m2_le, lt_m2, le_m2, eq_m2, m2_eq, m1_lt, m1_le, lt_m1, le_m1, eq_m1, m1_eq, m1_m2, m2_m1, m2_lt_m1, bI_0, bI_1, bI_t, bI_f, bI_bo, nI0_bo, nI1_bo, if_true, if_false, ite_true, ite_false, Nat.zero_add, Nat.not_lt_zero, Nat.zero_le, not_true_eq_false, not_false_eq_true, or_false, false_or, true_or, or_true, and_true, true_and, Bool.false_eq_true, Bool.true_eq_false, reduceCtorEq, eq_self]
def SKS (S S' : SMo) (of : Nat → Int32) (f : Int32) (ft : Nat → Bool) (u : Nat) (x : Int32) : Prop := SQ S S' ∧ Mo_setMany S' = nI (fb_ct ft (2 ^ u)) ∧ Mo_someOf S' = soF ft (2 ^ u) ∧ Mo_allOf S' = (if fb_ct ft (2 ^ u) = 0 then nI 0 else alF ft u (2 ^ u)) ∧ (∀ k, k < u → of k = nI (oF ft k (2 ^ u))) ∧ f = fdF ft x (2 ^ u)
def SI (S S' : SMo) (of : Nat → Int32) (v2 : Int32) (ft : Nat → Bool) (u j : Nat) (x : Int32) : Prop := SQ S S' ∧ Mo_setMany S' = nI (fb_ct ft j) ∧ Mo_someOf S' = soF ft j ∧ Mo_allOf S' = alF ft u j ∧ (∀ k, k < u → of k = nI (oF ft k j)) ∧ v2 = fdF ft x j
theorem M_83 {ft : Nat → Bool} {j : Nat} {S' : SMo} {of' tr2 : Nat → Int32} (h3 : r 4 = nI u) (h1 : u ≤ 4) (hf1 : ft j = true) (ih2 : Mo_setMany S' = nI (fb_ct ft j)) (ih3 : Mo_someOf S' = soF ft j) (ih4 : Mo_allOf S' = alF ft u j) (k : SMo → (Nat → Int32) → (Nat → Int32) → Int32 → Int32 → Option (Int32 × SMo × (Nat → Int32) × (Nat → Int32))) (x w : Int32) : b_X10_seekSets_83 og on r told x k S' of' tr2 w (nI j) = k (sk3 S' (nI (fb_ct ft (j + 1))) (soF ft (j + 1)) (alF ft u (j + 1))) (fun k => if k < u then of' k + bI (bt (nI j) k) else of' k) tr2 w (nI (j + 1)) := by
  have e := M_116 (S := sk3 S' (nI (fb_ct ft (j + 1))) (soF ft (j + 1)) (alF ft u (j + 1))) (of := of') (tr := tr2) (og := og) (on := on) (told := told) (s := j) h3 h1 k x w
  have e1 : nI (fb_ct ft (j + 1)) = Mo_setMany S' + 1 := by
    rw [ih2, fb_ct_succ, hf1]
    exact (nI_1 _).symm
  have e2 : soF ft (j + 1) = Mo_someOf S' ||| nI j := by
    rw [ih3, soF_s, if_pos hf1]
  have e3 : alF ft u (j + 1) = Mo_allOf S' &&& nI j := by
    rw [ih4, alF_s, if_pos hf1]
  rw [← e]
  unfold b_X10_seekSets_83
  rw [e1, e2, e3]
  unfold sk3
  rw [i0]
theorem SI_step {ft : Nat → Bool} {j : Nat} {S S' : SMo} {of' : Nat → Int32} {w x : Int32} (hf1 : ft j = true) (h : SQ S S') (ih5 : ∀ k, k < u → of' k = nI (oF ft k j)) (hw : w = fdF ft x (j + 1)) : SI S (sk3 S' (nI (fb_ct ft (j + 1))) (soF ft (j + 1)) (alF ft u (j + 1))) (fun k => if k < u then of' k + bI (bt (nI j) k) else of' k) w ft u (j + 1) x := by
  refine ⟨h, rfl, rfl, rfl, fun k hk => ?_, hw⟩
  show (if k < u then of' k + bI (bt (nI j) k) else of' k) = nI (oF ft k (j + 1))
  rw [if_pos hk, ih5 k hk]
  unfold oF
  rw [fb_ct_succ, hf1, Bool.true_and]
  cases bt (nI j) k
  · exact Int32.add_zero _
  · exact nI_add _ 1
theorem M_48 {N : Nat} (hNe : N = 2 ^ u) (h : EM r on og told n m u ev sv fk rw' vals) (x : Int32) {ft : Nat → Bool} (hft : ft = ftB told rw' vals ev sv fk u) {S S0 : SMo} {of0 tr0 : Nat → Int32} (hI0 : SI S S0 of0 m1 ft u 0 x) : ∃ q, zl5 (b_X10_seekSets_48 og on r told x) FU S0 of0 tr0 m1 (nI 0) = some q ∧ SQ S q.2.1 ∧ Mo_setMany q.2.1 = nI (fb_ct ft N) ∧ Mo_someOf q.2.1 = soF ft N ∧ Mo_allOf q.2.1 = (if fb_ct ft N = 0 then nI 0 else alF ft u N) ∧ (∀ k, k < u → q.2.2.1 k = nI (oF ft k N)) ∧ q.1 = fdF ft x N := by
  obtain ⟨W0, h1, h2, h3, h4, h5, h6⟩ := id h
  have hN := pw_16 h1
  have hpw := pw_u h1
  rw [← hNe] at hN hpw
  refine zl5_ex (f := b_X10_seekSets_48 og on r told x) N 0 (fun j S' of' tr' v2 => SI S S' of' v2 ft u j x) (fun q => SQ S q.2.1 ∧ Mo_setMany q.2.1 = nI (fb_ct ft N) ∧ Mo_someOf q.2.1 = soF ft N ∧ Mo_allOf q.2.1 = (if fb_ct ft N = 0 then nI 0 else alF ft u N) ∧ (∀ k, k < u → q.2.2.1 k = nI (oF ft k N)) ∧ q.1 = fdF ft x N) (by omega) (Nat.zero_le _) hI0 (fun k j S' of' tr' v2 hj hI => ?_) (fun k S' of' tr' v2 hI => ?_)
  · obtain ⟨ih1, ih2, ih3, ih4, ih5, ih6⟩ := hI
    have hct := fb_ct_le ft j
    have b1 : ¬ N ≤ j := by omega
    obtain ⟨tr2, hw⟩ := M_wrongBy (S := S') (tr := tr') h (nI j)
    unfold b_X10_seekSets_48
    cases z : wv told rw' vals ev (cx told sv fk u (nI j)) with
    | none =>
      rw [z] at hw
      have hw' : f_X10_wrongBy S' og on r told tr' (nI j) = some (m2, tr2) := hw
      have hf1 : ft j = true := by
        rw [hft]
        unfold ftB
        rw [z]
        rfl
      have hsets := M_83 (og := og) (on := on) (told := told) (of' := of') (tr2 := tr2) h3 h1 hf1 ih2 ih3 ih4 k x
      by_cases y : nI (fb_ct ft j) = x
      · refine .inr ⟨_, _, tr2, nI j, SI_step hf1 ih1 ih5 (by rw [fdF_s, if_pos hf1, if_pos y]), ?_⟩
        simp (disch := omega) only [h3, hpw, b1, hw', ih2, y, hsets, ↓lm1, ↓lm2, i0, i1, i2, i3, i4, i5, i6, i7, i8, i9, i10, i12, i16, i20, i24, i31, i32, i44, i48, i57, i59, i63, i64, i74, i75, i90, i96, i97, i99, i100, i122, i139, i140, i144, i192, i200, i240, i255, i304, i309, i310, i311, i323, i324, i325, i899, i900, i975, i999, i5200, i4875, i65536, i65537, i15, ob_some, nI_add, nI_clamp, zn_zib, zn_eq, zn_lt, zn_le, m2_lt, m2_le, lt_m2, le_m2, eq_m2, m2_eq, m1_lt, m1_le, lt_m1, le_m1, eq_m1, m1_eq, m1_m2, m2_m1, m2_lt_m1, bI_0, bI_1, bI_t, bI_f, bI_bo, nI0_bo, nI1_bo, if_true, if_false, ite_true, ite_false, Nat.zero_add, Nat.not_lt_zero, Nat.zero_le, not_true_eq_false, not_false_eq_true, or_false, false_or, true_or, or_true, and_true, true_and, Bool.false_eq_true, Bool.true_eq_false, reduceCtorEq, eq_self]
      · refine .inr ⟨_, _, tr2, v2, SI_step hf1 ih1 ih5 (by rw [fdF_s, if_pos hf1, if_neg y]; exact ih6), ?_⟩
        simp (disch := omega) only [h3, hpw, b1, hw', ih2, y, hsets, ↓lm1, ↓lm2, i0, i1, i2, i3, i4, i5, i6, i7, i8, i9, i10, i12, i16, i20, i24, i31, i32, i44, i48, i57, i59, i63, i64, i74, i75, i90, i96, i97, i99, i100, i122, i139, i140, i144, i192, i200, i240, i255, i304, i309, i310, i311, i323, i324, i325, i899, i900, i975, i999, i5200, i4875, i65536, i65537, i15, ob_some, nI_add, nI_clamp, zn_zib, zn_eq, zn_lt, zn_le, m2_lt, m2_le, lt_m2, le_m2, eq_m2, m2_eq, m1_lt, m1_le, lt_m1, le_m1, eq_m1, m1_eq, m1_m2, m2_m1, m2_lt_m1, bI_0, bI_1, bI_t, bI_f, bI_bo, nI0_bo, nI1_bo, if_true, if_false, ite_true, ite_false, Nat.zero_add, Nat.not_lt_zero, Nat.zero_le, not_true_eq_false, not_false_eq_true, or_false, false_or, true_or, or_true, and_true, true_and, Bool.false_eq_true, Bool.true_eq_false, reduceCtorEq, eq_self]
    | some a =>
      rw [z] at hw
      have hw' : f_X10_wrongBy S' og on r told tr' (nI j) = some (nI a, tr2) := hw
      have ha : a < ev := (fi_some z).1
      have hf1 : ft j = false := by
        rw [hft]
        unfold ftB
        rw [z]
        rfl
      have hf2 : ¬ ft j = true := by rw [hf1]; decide
      refine .inr ⟨S', of', tr2, v2, ⟨ih1, by rw [fb_ct_succ, hf1]; exact ih2, by rw [soF_s, if_neg hf2]; exact ih3, by rw [alF_s, if_neg hf2]; exact ih4, fun k hk => ?_, by rw [fdF_s, if_neg hf2]; exact ih6⟩, ?_⟩
      · unfold oF
        rw [fb_ct_succ, hf1, Bool.false_and]
        exact ih5 k hk
      · simp (disch := omega) only [h3, hpw, b1, hw', ↓lm1, ↓lm2, i0, i1, i2, i3, i4, i5, i6, i7, i8, i9, i10, i12, i16, i20, i24, i31, i32, i44, i48, i57, i59, i63, i64, i74, i75, i90, i96, i97, i99, i100, i122, i139, i140, i144, i192, i200, i240, i255, i304, i309, i310, i311, i323, i324, i325, i899, i900, i975, i999, i5200, i4875, i65536, i65537, i15, ob_some, nI_add, nI_clamp, zn_zib, zn_eq, zn_lt, zn_le, m2_lt, m2_le, lt_m2, le_m2, eq_m2, m2_eq, m1_lt, m1_le, lt_m1, le_m1, eq_m1, m1_eq, m1_m2, m2_m1, m2_lt_m1, bI_0, bI_1, bI_t, bI_f, bI_bo, nI0_bo, nI1_bo, if_true, if_false, ite_true, ite_false, Nat.zero_add, Nat.not_lt_zero, Nat.zero_le, not_true_eq_false, not_false_eq_true, or_false, false_or, true_or, or_true, and_true, true_and, Bool.false_eq_true, Bool.true_eq_false, reduceCtorEq, eq_self]
  · obtain ⟨ih1, ih2, ih3, ih4, ih5, ih6⟩ := hI
    have hct := fb_ct_le ft N
    have b1 : N ≤ N := Nat.le_refl _
    unfold b_X10_seekSets_48
    by_cases y : fb_ct ft N = 0
    · have hal : Mo_allOf (sMo_allOf S' (nI 0)) = (if fb_ct ft N = 0 then nI 0 else alF ft u N) := by
        rw [if_pos y]
        rfl
      refine ⟨(v2, sMo_allOf S' (nI 0), of', tr'), ?_, ih1, ih2, ih3, hal, ih5, ih6⟩
      simp (disch := omega) only [h3, hpw, b1, ih2, y, ↓lm1, ↓lm2, i0, i1, i2, i3, i4, i5, i6, i7, i8, i9, i10, i12, i16, i20, i24, i31, i32, i44, i48, i57, i59, i63, i64, i74, i75, i90, i96, i97, i99, i100, i122, i139, i140, i144, i192, i200, i240, i255, i304, i309, i310, i311, i323, i324, i325, i899, i900, i975, i999, i5200, i4875, i65536, i65537, i15, ob_some, nI_add, nI_clamp, zn_zib, zn_eq, zn_lt, zn_le, m2_lt, m2_le, lt_m2, le_m2, eq_m2, m2_eq, m1_lt, m1_le, lt_m1, le_m1, eq_m1, m1_eq, m1_m2, m2_m1, m2_lt_m1, bI_0, bI_1, bI_t, bI_f, bI_bo, nI0_bo, nI1_bo, if_true, if_false, ite_true, ite_false, Nat.zero_add, Nat.not_lt_zero, Nat.zero_le, not_true_eq_false, not_false_eq_true, or_false, false_or, true_or, or_true, and_true, true_and, Bool.false_eq_true, Bool.true_eq_false, reduceCtorEq, eq_self]
      unfold sMo_allOf
      rw [ih2, y]
    · have hal : Mo_allOf S' = (if fb_ct ft N = 0 then nI 0 else alF ft u N) := by
        rw [if_neg y]
        exact ih4
      refine ⟨(v2, S', of', tr'), ?_, ih1, ih2, ih3, hal, ih5, ih6⟩
      simp (disch := omega) only [h3, hpw, b1, ih2, y, ↓lm1, ↓lm2, i0, i1, i2, i3, i4, i5, i6, i7, i8, i9, i10, i12, i16, i20, i24, i31, i32, i44, i48, i57, i59, i63, i64, i74, i75, i90, i96, i97, i99, i100, i122, i139, i140, i144, i192, i200, i240, i255, i304, i309, i310, i311, i323, i324, i325, i899, i900, i975, i999, i5200, i4875, i65536, i65537, i15, ob_some, nI_add, nI_clamp, zn_zib, zn_eq, zn_lt, zn_le, m2_lt, m2_le, lt_m2, le_m2, eq_m2, m2_eq, m1_lt, m1_le, lt_m1, le_m1, eq_m1, m1_eq, m1_m2, m2_m1, m2_lt_m1, bI_0, bI_1, bI_t, bI_f, bI_bo, nI0_bo, nI1_bo, if_true, if_false, ite_true, ite_false, Nat.zero_add, Nat.not_lt_zero, Nat.zero_le, not_true_eq_false, not_false_eq_true, or_false, false_or, true_or, or_true, and_true, true_and, Bool.false_eq_true, Bool.true_eq_false, reduceCtorEq, eq_self]
theorem M_seekSets (h : EM r on og told n m u ev sv fk rw' vals) (x : Int32) : ∃ f S' of' tr', f_X10_seekSets S of og on r told tr x = some (f, S', of', tr') ∧ SKS S S' of' f (ftB told rw' vals ev sv fk u) u x := by
  obtain ⟨N, hNe⟩ : ∃ N, N = 2 ^ u := ⟨_, rfl⟩
  obtain ⟨ft, hft⟩ : ∃ ft, ft = ftB told rw' vals ev sv fk u := ⟨_, rfl⟩
  unfold SKS
  rw [← hft, ← hNe]
  obtain ⟨W0, h1, h2, h3, h4, h5, h6⟩ := id h
  have hpw := pw_u h1
  rw [← hNe] at hpw
  have zero : ∃ q, zl5 (b_X10_seekSets_28 og on r told x) FU (sk3 S (nI 0) (nI 0) (nI N - nI 1)) of tr m1 (nI 0) = some q ∧ SQ S q.2.1 ∧ Mo_setMany q.2.1 = nI (fb_ct ft N) ∧ Mo_someOf q.2.1 = soF ft N ∧ Mo_allOf q.2.1 = (if fb_ct ft N = 0 then nI 0 else alF ft u N) ∧ (∀ k, k < u → q.2.2.1 k = nI (oF ft k N)) ∧ q.1 = fdF ft x N := by
    refine zl5_ex (f := b_X10_seekSets_28 og on r told x) 4 0 (fun j S' of' tr' v2 => S' = sk3 S (nI 0) (nI 0) (nI N - nI 1) ∧ v2 = m1 ∧ ∀ k, k < j → of' k = nI 0) (fun q => SQ S q.2.1 ∧ Mo_setMany q.2.1 = nI (fb_ct ft N) ∧ Mo_someOf q.2.1 = soF ft N ∧ Mo_allOf q.2.1 = (if fb_ct ft N = 0 then nI 0 else alF ft u N) ∧ (∀ k, k < u → q.2.2.1 k = nI (oF ft k N)) ∧ q.1 = fdF ft x N) (by omega) (Nat.zero_le _) ⟨rfl, rfl, fun k hk => absurd hk (Nat.not_lt_zero k)⟩ (fun k j S' of' tr' v2 hj hI => ?_) (fun k S' of' tr' v2 hI => ?_)
    · obtain ⟨ih1, ih2, ih3⟩ := hI
      have b1 : ¬ 4 ≤ j := by omega
      refine .inr ⟨S', upd of' j (nI 0), tr', v2, ⟨ih1, ih2, fun k hk => ?_⟩, ?_⟩
      · by_cases z : k = j
        · rw [z, upd_eq]
        · rw [upd_ne z]
          exact ih3 k (by omega)
      · unfold b_X10_seekSets_28
        simp (disch := omega) only [b1, ↓lm1, ↓lm2, i0, i1, i2, i3, i4, i5, i6, i7, i8, i9, i10, i12, i16, i20, i24, i31, i32, i44, i48, i57, i59, i63, i64, i74, i75, i90, i96, i97, i99, i100, i122, i139, i140, i144, i192, i200, i240, i255, i304, i309, i310, i311, i323, i324, i325, i899, i900, i975, i999, i5200, i4875, i65536, i65537, i15, ob_some, nI_add, nI_clamp, zn_zib, zn_eq, zn_lt, zn_le, m2_lt, m2_le, lt_m2, le_m2, eq_m2, m2_eq, m1_lt, m1_le, lt_m1, le_m1, eq_m1, m1_eq, m1_m2, m2_m1, m2_lt_m1, bI_0, bI_1, bI_t, bI_f, bI_bo, nI0_bo, nI1_bo, if_true, if_false, ite_true, ite_false, Nat.zero_add, Nat.not_lt_zero, Nat.zero_le, not_true_eq_false, not_false_eq_true, or_false, false_or, true_or, or_true, and_true, true_and, Bool.false_eq_true, Bool.true_eq_false, reduceCtorEq, eq_self]
    · obtain ⟨ih1, ih2, ih3⟩ := hI
      have b1 : (4 : Int32) ≤ nI 4 := by decide
      unfold b_X10_seekSets_28
      rw [if_pos b1, ih1, ih2]
      have ha : Mo_allOf (sk3 S (nI 0) (nI 0) (nI N - nI 1)) = alF ft u 0 := by
        show nI N - nI 1 = nI (2 ^ u) - nI 1
        rw [hNe]
      exact M_48 hNe h x hft ⟨⟨rfl, rfl, rfl, rfl, rfl, rfl, rfl, rfl⟩, rfl, rfl, ha, fun k hk => ih3 k (by omega), rfl⟩
  obtain ⟨⟨f, S', of', tr'⟩, q1, q2⟩ := zero
  refine ⟨f, S', of', tr', ?_, q2⟩
  rw [← q1]
  unfold f_X10_seekSets sk3
  simp (disch := omega) only [h3, hpw, ↓lm1, ↓lm2, i0, i1, i2, i3, i4, i5, i6, i7, i8, i9, i10, i12, i16, i20, i24, i31, i32, i44, i48, i57, i59, i63, i64, i74, i75, i90, i96, i97, i99, i100, i122, i139, i140, i144, i192, i200, i240, i255, i304, i309, i310, i311, i323, i324, i325, i899, i900, i975, i999, i5200, i4875, i65536, i65537, i15, ob_some, nI_add, nI_clamp, zn_zib, zn_eq, zn_lt, zn_le, m2_lt, m2_le, lt_m2, le_m2, eq_m2, m2_eq, m1_lt, m1_le, lt_m1, le_m1, eq_m1, m1_eq, m1_m2, m2_m1, m2_lt_m1, bI_0, bI_1, bI_t, bI_f, bI_bo, nI0_bo, nI1_bo, if_true, if_false, ite_true, ite_false, Nat.zero_add, Nat.not_lt_zero, Nat.zero_le, not_true_eq_false, not_false_eq_true, or_false, false_or, true_or, or_true, and_true, true_and, Bool.false_eq_true, Bool.true_eq_false, reduceCtorEq, eq_self]
end
