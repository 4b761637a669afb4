/-! the greatest common measure, by two loops -/
theorem rem_half {a b r k : Nat} (hb : 0 < b) (hr : r = a % b) (h0 : 0 < r) (hk : b < 2 ^ (k + 1)) : b % r < 2 ^ k := by
  have h1 : r < b := by rw [hr]; exact Nat.mod_lt _ hb
  have h2 : b % r < r := Nat.mod_lt _ h0
  have h3 : r + b % r ≤ b := by
    have h4 := Nat.div_add_mod b r
    have h5 : 1 ≤ b / r := (Nat.one_le_div_iff h0).mpr (by omega)
    have h6 : r * 1 ≤ r * (b / r) := Nat.mul_le_mul_left r h5
    omega
  have h7 : 2 ^ (k + 1) = 2 ^ k * 2 := Nat.pow_succ ..
  omega
theorem lN0 : (0 : Int64) = lN 0 := rfl
theorem lN_ne0 {a : Nat} (h : a < 2 ^ 63) (h0 : 0 < a) : ¬ lN a = (0 : Int64) := by
  rw [lN0, pk_lEQ h (by omega)]
  omega
theorem lc_0 {a : Nat} (h : a < 2 ^ 63) : (lg_cmp (lN a) (0 : Int64) = 0) = (a = 0) := by
  refine propext ((lcmp0 _).trans ?_)
  rw [lN0, pk_lEQ h (by omega)]
theorem T_gcd (x0 x2 : Int64) : ∀ (k a b v fu : Nat), b < 2 ^ k → a < 2 ^ 62 → b < 2 ^ 62 → v + 2 * k + 1 < 200 → 2 * k + 1 < fu → zl3 (b_X1_commonDivisor_9 x0 x2) fu (lN a) (lN b) (nI v) = some (lN (Nat.gcd a b)) := by
  intro k
  induction k with
  | zero =>
    intro a b v fu hb ha hb2 hv hf
    obtain ⟨fu, rfl⟩ : ∃ m, fu = m + 1 := ⟨fu - 1, by omega⟩
    have e : b = 0 := by omega
    subst e
    have b1 : ¬ (200 : Int32) ≤ nI v := by
      show ¬ nI 200 ≤ nI v
      rw [zn_le (by omega) (by omega)]
      omega
    rw [zl3_s]
    unfold b_X1_commonDivisor_9
    rw [if_neg b1, if_pos (by rw [lc_0 (by omega)]), Nat.gcd_zero_right]
  | succ k ih =>
    intro a b v fu hb ha hb2 hv hf
    obtain ⟨fu, rfl⟩ : ∃ m, fu = m + 1 + 1 := ⟨fu - 2, by omega⟩
    have b1 : ¬ (200 : Int32) ≤ nI v := by
      show ¬ nI 200 ≤ nI v
      rw [zn_le (by omega) (by omega)]
      omega
    have b2 : ¬ (200 : Int32) ≤ nI (v + 1) := by
      show ¬ nI 200 ≤ nI (v + 1)
      rw [zn_le (by omega) (by omega)]
      omega
    by_cases z : b = 0
    · subst z
      rw [zl3_s]
      unfold b_X1_commonDivisor_9
      rw [if_neg b1, if_pos (by rw [lc_0 (by omega)]), Nat.gcd_zero_right]
    · have s1 : zl3 (b_X1_commonDivisor_9 x0 x2) (fu + 1 + 1) (lN a) (lN b) (nI v) = zl3 (b_X1_commonDivisor_9 x0 x2) (fu + 1) (lN b) (lN (a % b)) (nI (v + 1)) := by
        rw [zl3_s]
        generalize zl3 (b_X1_commonDivisor_9 x0 x2) (fu + 1) = G
        unfold b_X1_commonDivisor_9
        rw [if_neg b1, if_neg (by rw [lc_0 (by omega)]; exact z), if_neg (lN_ne0 (by omega) (by omega)), pk_lRem (by omega) (by omega) (by omega), nI_1]
      have hr : a % b < b := Nat.mod_lt _ (by omega)
      have g1 : Nat.gcd a b = Nat.gcd b (a % b) := by rw [Nat.gcd_comm a b, Nat.gcd_rec b a, Nat.gcd_comm]
      rw [s1, g1]
      by_cases y : a % b = 0
      · rw [y, zl3_s]
        unfold b_X1_commonDivisor_9
        rw [if_neg b2, if_pos (by rw [lc_0 (by omega)]), Nat.gcd_zero_right]
      · have s2 : zl3 (b_X1_commonDivisor_9 x0 x2) (fu + 1) (lN b) (lN (a % b)) (nI (v + 1)) = zl3 (b_X1_commonDivisor_9 x0 x2) fu (lN (a % b)) (lN (b % (a % b))) (nI (v + 1 + 1)) := by
          rw [zl3_s]
          generalize zl3 (b_X1_commonDivisor_9 x0 x2) fu = G
          unfold b_X1_commonDivisor_9
          rw [if_neg b2, if_neg (by rw [lc_0 (by omega)]; exact y), if_neg (lN_ne0 (by omega) (by omega)), pk_lRem (by omega) (by omega) (by omega), nI_1]
        have hh := rem_half (a := a) (b := b) (r := a % b) (k := k) (by omega) rfl (by omega) hb
        have hm2 : b % (a % b) < a % b := Nat.mod_lt _ (by omega)
        have g2 : Nat.gcd b (a % b) = Nat.gcd (a % b) (b % (a % b)) := by rw [Nat.gcd_comm b (a % b), Nat.gcd_rec (a % b) b, Nat.gcd_comm]
        rw [s2, g2]
        exact ih (a % b) (b % (a % b)) (v + 1 + 1) fu hh (by omega) (by omega) (by omega) (by omega)
theorem M_gcd (x0 x2 : Int64) (x4 : Int32) : ∀ (k a b fu : Nat), b < 2 ^ k → a < 2 ^ 62 → b < 2 ^ 62 → 2 * k + 1 < fu → 0 < Nat.gcd a b → zl2 (b_X10_lowest_6 x0 x2 x4) fu (lN a) (lN b) = some ((if x4 = 0 then x0 else x2) / lN (Nat.gcd a b)) := by
  have endc : ∀ (a fu : Nat), a < 2 ^ 62 → 0 < a → ∀ G, b_X10_lowest_6 x0 x2 x4 G (lN a) (lN 0) = some ((if x4 = 0 then x0 else x2) / lN a) := fun a fu ha h0 G => by
    unfold b_X10_lowest_6
    rw [if_pos (by rw [lc_0 (by omega)])]
    by_cases q : x4 = 0
    · rw [if_pos q, if_neg (lN_ne0 (by omega) h0), if_pos q]
    · rw [if_neg q, if_neg (lN_ne0 (by omega) h0), if_neg q]
  intro k
  induction k with
  | zero =>
    intro a b fu hb ha hb2 hf hg
    obtain ⟨fu, rfl⟩ : ∃ m, fu = m + 1 := ⟨fu - 1, by omega⟩
    have e : b = 0 := by omega
    subst e
    rw [Nat.gcd_zero_right] at hg ⊢
    rw [zl2_s]
    exact endc a fu ha hg _
  | succ k ih =>
    intro a b fu hb ha hb2 hf hg
    obtain ⟨fu, rfl⟩ : ∃ m, fu = m + 1 + 1 := ⟨fu - 2, by omega⟩
    by_cases z : b = 0
    · subst z
      rw [Nat.gcd_zero_right] at hg ⊢
      rw [zl2_s]
      exact endc a fu ha hg _
    · have s1 : zl2 (b_X10_lowest_6 x0 x2 x4) (fu + 1 + 1) (lN a) (lN b) = zl2 (b_X10_lowest_6 x0 x2 x4) (fu + 1) (lN b) (lN (a % b)) := by
        rw [zl2_s]
        generalize zl2 (b_X10_lowest_6 x0 x2 x4) (fu + 1) = G
        unfold b_X10_lowest_6
        rw [if_neg (by rw [lc_0 (by omega)]; exact z), if_neg (lN_ne0 (by omega) (by omega)), pk_lRem (by omega) (by omega) (by omega)]
      have hr : a % b < b := Nat.mod_lt _ (by omega)
      have g1 : Nat.gcd a b = Nat.gcd b (a % b) := by rw [Nat.gcd_comm a b, Nat.gcd_rec b a, Nat.gcd_comm]
      rw [g1] at hg
      rw [s1, g1]
      by_cases y : a % b = 0
      · rw [y] at hg ⊢
        rw [Nat.gcd_zero_right] at hg ⊢
        rw [zl2_s]
        exact endc b fu hb2 hg _
      · have s2 : zl2 (b_X10_lowest_6 x0 x2 x4) (fu + 1) (lN b) (lN (a % b)) = zl2 (b_X10_lowest_6 x0 x2 x4) fu (lN (a % b)) (lN (b % (a % b))) := by
          rw [zl2_s]
          generalize zl2 (b_X10_lowest_6 x0 x2 x4) fu = G
          unfold b_X10_lowest_6
          rw [if_neg (by rw [lc_0 (by omega)]; exact y), if_neg (lN_ne0 (by omega) (by omega)), pk_lRem (by omega) (by omega) (by omega)]
        have hh := rem_half (a := a) (b := b) (r := a % b) (k := k) (by omega) rfl (by omega) hb
        have hm2 : b % (a % b) < a % b := Nat.mod_lt _ (by omega)
        have g2 : Nat.gcd b (a % b) = Nat.gcd (a % b) (b % (a % b)) := by rw [Nat.gcd_comm b (a % b), Nat.gcd_rec (a % b) b, Nat.gcd_comm]
        rw [g2] at hg
        rw [s2, g2]
        exact ih (a % b) (b % (a % b)) fu hh (by omega) (by omega) (by omega) hg
/-- both sides' lowest terms -/
theorem low_both {up dn : Nat} (hu : up < 2 ^ 62) (hd : dn < 2 ^ 62) (h0 : 0 < dn) (x4 : Int32) : ∃ y, f_X1_inLowestTerms (lN up) (lN dn) x4 = some y ∧ f_X10_lowest (lN up) (lN dn) x4 = some y := by
  have hg : 0 < Nat.gcd up dn := Nat.gcd_pos_of_pos_right _ h0
  have hgl : Nat.gcd up dn ≤ dn := Nat.gcd_le_right _ h0
  have h1 : f_X1_commonDivisor (lN up) (lN dn) = some (lN (Nat.gcd up dn)) := T_gcd (lN up) (lN dn) 62 up dn 0 FU hd hu hd (by omega) (by unfold FU; omega)
  have h2 : f_X10_lowest (lN up) (lN dn) x4 = some ((if x4 = 0 then lN up else lN dn) / lN (Nat.gcd dn up)) := M_gcd (lN up) (lN dn) x4 62 dn up FU hu hd hu (by unfold FU; omega) (by rw [Nat.gcd_comm]; exact hg)
  refine ⟨(if x4 = 0 then lN up else lN dn) / lN (Nat.gcd up dn), ?_, by rw [h2, Nat.gcd_comm]⟩
  have hc : ¬ lg_cmp (lN (Nat.gcd up dn)) (0 : Int64) ≤ 0 := by
    have hlt : lN (Nat.gcd up dn) > (0 : Int64) := by
      rw [gt_iff_lt, lN0, pk_lLT (by omega) (by omega)]
      exact hg
    unfold lg_cmp
    rw [if_pos hlt]
    decide
  unfold f_X1_inLowestTerms b_X1_inLowestTerms_17
  rw [h1, ob_some]
  by_cases q : x4 = 0
  · rw [if_pos q, if_neg hc, if_neg (lN_ne0 (by omega) hg), if_pos q]
  · rw [if_neg q, if_neg hc, if_neg (lN_ne0 (by omega) hg), if_neg q]
