/-! folds of sets, of greatest, of best -/
def an (p : Nat → Bool) : Nat → Bool
  | 0 => false
  | n + 1 => an p n || p n
theorem an_s (p : Nat → Bool) (n : Nat) : an p (n + 1) = (an p n || p n) := rfl
theorem an_iff {p : Nat → Bool} : ∀ {n : Nat}, an p n = true ↔ ∃ k, k < n ∧ p k = true
  | 0 => ⟨fun h => (by cases h), fun ⟨k, hk, _⟩ => absurd hk (Nat.not_lt_zero k)⟩
  | n + 1 => by
    rw [an_s, Bool.or_eq_true, an_iff]
    exact ⟨fun h => h.elim (fun ⟨k, hk, e⟩ => ⟨k, by omega, e⟩) (fun e => ⟨n, by omega, e⟩), fun ⟨k, hk, e⟩ => if q : k = n then .inr (q ▸ e) else .inl ⟨k, by omega, e⟩⟩
theorem an_cong {p q : Nat → Bool} : ∀ {n : Nat}, (∀ k, k < n → p k = q k) → an p n = an q n
  | 0, _ => rfl
  | n + 1, h => by rw [an_s, an_s, an_cong (fun k hk => h k (by omega)), h n (by omega)]
def orL (z : Int64) (p : Nat → Bool) (g : Nat → Int64) : Nat → Int64
  | 0 => z
  | n + 1 => if p n then orL z p g n ||| g n else orL z p g n
theorem orL_s (z : Int64) (p : Nat → Bool) (g : Nat → Int64) (n : Nat) : orL z p g (n + 1) = if p n then orL z p g n ||| g n else orL z p g n := rfl
theorem lb_orL (z : Int64) (p : Nat → Bool) (g : Nat → Int64) (t : Nat) : ∀ n, lb (orL z p g n) t = (lb z t || an (fun w => p w && lb (g w) t) n)
  | 0 => by
    show lb z t = (lb z t || false)
    rw [Bool.or_false]
  | n + 1 => by
    rw [orL_s, an_s]
    cases h : p n
    · simp only [Bool.false_eq_true, if_false, lb_orL z p g t n, Bool.false_and, Bool.or_false]
    · simp only [if_true, lb_or, lb_orL z p g t n, Bool.true_and, Bool.or_assoc]
def eo : Option Nat → Int32
  | none => m2
  | some a => nI a
theorem eo_n : eo none = m2 := rfl
theorem eo_s (a : Nat) : eo (some a) = nI a := rfl
def mxo (p : Nat → Bool) (g : Nat → Nat) : Nat → Option Nat
  | 0 => none
  | n + 1 => if p n then (match mxo p g n with
    | none => some (g n)
    | some a => if a < g n then some (g n) else some a) else mxo p g n
theorem mxo_s (p : Nat → Bool) (g : Nat → Nat) (n : Nat) : mxo p g (n + 1) = if p n then (match mxo p g n with
    | none => some (g n)
    | some a => if a < g n then some (g n) else some a) else mxo p g n := rfl
theorem mxo_none {p : Nat → Bool} {g : Nat → Nat} : ∀ {n : Nat}, mxo p g n = none → ∀ k, k < n → p k = false
  | 0, _, k, hk => absurd hk (Nat.not_lt_zero k)
  | n + 1, h, k, hk => by
    rw [mxo_s] at h
    cases hp : p n
    · rw [hp] at h
      by_cases e : k = n
      · rw [e, hp]
      · exact mxo_none h k (by omega)
    · rw [hp] at h
      cases hm : mxo p g n with
      | none =>
        rw [hm] at h
        cases h
      | some a =>
        rw [hm] at h
        dsimp only at h
        rw [if_pos rfl] at h
        split at h <;> cases h
theorem mxo_some {p : Nat → Bool} {g : Nat → Nat} : ∀ {n a : Nat}, mxo p g n = some a → (∃ k, k < n ∧ p k = true ∧ g k = a) ∧ ∀ k, k < n → p k = true → g k ≤ a
  | 0, a, h => by cases h
  | n + 1, a, h => by
    rw [mxo_s] at h
    cases hp : p n
    · rw [hp] at h
      obtain ⟨⟨k, hk, e1, e2⟩, h3⟩ := mxo_some h
      refine ⟨⟨k, by omega, e1, e2⟩, fun j hj hpj => ?_⟩
      by_cases e : j = n
      · rw [e, hp] at hpj
        cases hpj
      · exact h3 j (by omega) hpj
    · rw [hp, if_pos rfl] at h
      cases hm : mxo p g n with
      | none =>
        rw [hm] at h
        dsimp only at h
        cases h
        refine ⟨⟨n, by omega, hp, rfl⟩, fun j hj hpj => ?_⟩
        by_cases e : j = n
        · rw [e]
          exact Nat.le_refl _
        · rw [mxo_none hm j (by omega)] at hpj
          cases hpj
      | some b =>
        rw [hm] at h
        dsimp only at h
        obtain ⟨⟨k, hk, e1, e2⟩, h3⟩ := mxo_some hm
        split at h
        · cases h
          refine ⟨⟨n, by omega, hp, rfl⟩, fun j hj hpj => ?_⟩
          by_cases e : j = n
          · rw [e]
            exact Nat.le_refl _
          · have := h3 j (by omega) hpj
            omega
        · cases h
          refine ⟨⟨k, by omega, e1, e2⟩, fun j hj hpj => ?_⟩
          by_cases e : j = n
          · rw [e]
            omega
          · exact h3 j (by omega) hpj
theorem mxo_eq {p : Nat → Bool} {g : Nat → Nat} {n a : Nat} (h1 : ∃ k, k < n ∧ p k = true ∧ g k = a) (h2 : ∀ k, k < n → p k = true → g k ≤ a) : mxo p g n = some a := by
  obtain ⟨k, hk, e1, e2⟩ := h1
  cases hm : mxo p g n with
  | none =>
    rw [mxo_none hm k hk] at e1
    cases e1
  | some b =>
    obtain ⟨⟨j, hj, f1, f2⟩, h3⟩ := mxo_some hm
    have a1 := h2 j hj f1
    have a2 := h3 k hk e1
    congr 1
    omega
theorem mxo_eqn {p : Nat → Bool} {g : Nat → Nat} {n : Nat} (h : ∀ k, k < n → p k = false) : mxo p g n = none := by
  cases hm : mxo p g n with
  | none => rfl
  | some b =>
    obtain ⟨⟨j, hj, f1, f2⟩, h3⟩ := mxo_some hm
    rw [h j hj] at f1
    cases f1
theorem mxo_cong {p q : Nat → Bool} {g : Nat → Nat} {n : Nat} (h : ∀ k, k < n → p k = q k) : mxo p g n = mxo q g n := by
  cases hm : mxo p g n with
  | none => exact (mxo_eqn (fun k hk => by rw [← h k hk]; exact mxo_none hm k hk)).symm
  | some b =>
    obtain ⟨⟨j, hj, f1, f2⟩, h3⟩ := mxo_some hm
    exact (mxo_eq ⟨j, hj, by rw [← h j hj]; exact f1, f2⟩ (fun k hk e => h3 k hk (by rw [h k hk]; exact e))).symm
def bst (st : Nat → Int32) (P : Nat → Bool) : Nat → Option Nat
  | 0 => none
  | v + 1 => match bst st P v with
    | none => if P v then some v else none
    | some b => if P v && decide (od st b < od st v) then some v else some b
theorem bst_s (st : Nat → Int32) (P : Nat → Bool) (v : Nat) : bst st P (v + 1) = match bst st P v with
    | none => if P v then some v else none
    | some b => if P v && decide (od st b < od st v) then some v else some b := rfl
theorem bst_none {st : Nat → Int32} {P : Nat → Bool} : ∀ {n : Nat}, bst st P n = none → ∀ k, k < n → P k = false
  | 0, _, k, hk => absurd hk (Nat.not_lt_zero k)
  | n + 1, h, k, hk => by
    rw [bst_s] at h
    cases hm : bst st P n with
    | none =>
      rw [hm] at h
      dsimp only at h
      by_cases e : k = n
      · subst e
        cases hp : P k
        · rfl
        · rw [hp] at h
          cases h
      · exact bst_none hm k (by omega)
    | some b =>
      rw [hm] at h
      dsimp only at h
      split at h <;> cases h
theorem bst_some {st : Nat → Int32} {P : Nat → Bool} : ∀ {n b : Nat}, bst st P n = some b → (b < n ∧ P b = true) ∧ ∀ k, k < n → P k = true → od st k ≤ od st b
  | 0, b, h => by cases h
  | n + 1, b, h => by
    rw [bst_s] at h
    cases hm : bst st P n with
    | none =>
      rw [hm] at h
      dsimp only at h
      cases hp : P n
      · rw [hp] at h
        cases h
      · rw [hp] at h
        cases h
        refine ⟨⟨by omega, hp⟩, fun k hk hpk => ?_⟩
        by_cases e : k = n
        · rw [e]
          exact Nat.le_refl _
        · rw [bst_none hm k (by omega)] at hpk
          cases hpk
    | some a =>
      rw [hm] at h
      dsimp only at h
      obtain ⟨⟨h1, h2⟩, h3⟩ := bst_some hm
      split at h
      · rename_i q
        rw [Bool.and_eq_true, decide_eq_true_eq] at q
        cases h
        refine ⟨⟨by omega, q.1⟩, fun k hk hpk => ?_⟩
        by_cases e : k = n
        · rw [e]
          exact Nat.le_refl _
        · have := h3 k (by omega) hpk
          omega
      · rename_i q
        rw [Bool.and_eq_true, decide_eq_true_eq] at q
        cases h
        refine ⟨⟨by omega, h2⟩, fun k hk hpk => ?_⟩
        by_cases e : k = n
        · subst e
          have : ¬ od st b < od st k := fun z => q ⟨hpk, z⟩
          omega
        · exact h3 k (by omega) hpk
theorem bst_eq {st : Nat → Int32} {P : Nat → Bool} {n b : Nat} (hb : b < n) (h : P b = true) (h2 : ∀ k, k < n → P k = true → k ≠ b → od st k < od st b) : bst st P n = some b := by
  cases hm : bst st P n with
  | none =>
    rw [bst_none hm b hb] at h
    cases h
  | some a =>
    obtain ⟨⟨h3, h4⟩, h5⟩ := bst_some hm
    by_cases e : a = b
    · rw [e]
    · have a1 := h2 a h3 h4 e
      have a2 := h5 b hb h
      omega
theorem bst_eqn {st : Nat → Int32} {P : Nat → Bool} {n : Nat} (h : ∀ k, k < n → P k = false) : bst st P n = none := by
  cases hm : bst st P n with
  | none => rfl
  | some b =>
    obtain ⟨⟨h1, h2⟩, h3⟩ := bst_some hm
    rw [h b h1] at h2
    cases h2
theorem bst_cong {st : Nat → Int32} {P Q : Nat → Bool} : ∀ {n : Nat}, (∀ k, k < n → P k = Q k) → bst st P n = bst st Q n
  | 0, _ => rfl
  | n + 1, h => by rw [bst_s, bst_s, bst_cong (fun k hk => h k (by omega)), h n (by omega)]
