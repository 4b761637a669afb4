/-! loops that count -/
theorem zl1_up {B : Type} {f : (Int32 → Option B) → Int32 → Option B} (N i0 : Nat) (I : Nat → Prop) (R : Option B) (hN : N < 6000) (hi : i0 ≤ N) (h0 : I i0) (hs : ∀ (k : Int32 → Option B) (i : Nat), i < N → I i → f k (nI i) = R ∨ I (i + 1) ∧ f k (nI i) = k (nI (i + 1))) (he : ∀ (k : Int32 → Option B), I N → f k (nI N) = R) : zl1 f FU (nI i0) = R := by
  have key : ∀ (j i : Nat), i + j = N → I i → ∀ fu, j < fu → zl1 f fu (nI i) = R := by
    intro j
    induction j with
    | zero =>
      intro i hi q fu hf
      obtain ⟨fu, rfl⟩ : ∃ m, fu = m + 1 := ⟨fu - 1, by omega⟩
      have e : i = N := by omega
      subst e
      exact he _ q
    | succ j ih =>
      intro i hi q fu hf
      obtain ⟨fu, rfl⟩ : ∃ m, fu = m + 1 := ⟨fu - 1, by omega⟩
      rcases hs (zl1 f fu) i (by omega) q with h | ⟨q2, h⟩
      · exact h
      · exact h.trans (ih (i + 1) (by omega) q2 fu (by omega))
  exact key (N - i0) i0 (by omega) h0 FU (by unfold FU; omega)
theorem zl1_dn {B : Type} {f : (Int32 → Option B) → Int32 → Option B} (N : Nat) (I : Nat → Prop) (R : Option B)  (hN : N < 5999) (h0 : I N) (hs : ∀ (k : Int32 → Option B) (i : Nat), i < N → I (i + 1) → f k (nI i) = R ∨ I i ∧ f k (nI i) = k (nI i + (-1))) (he : ∀ (k : Int32 → Option B), I 0 → f k (-1) = R) : zl1 f FU (nI N - 1) = R := by
  have key : ∀ (j : Nat), j ≤ N → I j → ∀ fu, j < fu → zl1 f fu (nI j + (-1)) = R := by
    intro j
    induction j with
    | zero =>
      intro hi q fu hf
      obtain ⟨fu, rfl⟩ : ∃ m, fu = m + 1 := ⟨fu - 1, by omega⟩
      exact he _ q
    | succ j ih =>
      intro hi q fu hf
      obtain ⟨fu, rfl⟩ : ∃ m, fu = m + 1 := ⟨fu - 1, by omega⟩
      rw [pk_m1]
      rcases hs (zl1 f fu) j (by omega) q with h | ⟨q2, h⟩
      · exact h
      · exact h.trans (ih (by omega) q2 fu (by omega))
  have e : nI N - 1 = nI N + (-1) := by rw [Int32.sub_eq_add_neg]
  rw [e]
  exact key N (Nat.le_refl _) h0 FU (by unfold FU; omega)
theorem zl2_up {A1 B : Type} {f : (A1 → Int32 → Option B) → A1 → Int32 → Option B} (N i0 : Nat) (I : Nat → A1 → Prop) (R : Option B) {c1 : A1} (hN : N < 6000) (hi : i0 ≤ N) (h0 : I i0 c1) (hs : ∀ (k : A1 → Int32 → Option B) (i : Nat) (a1 : A1), i < N → I i a1 → f k a1 (nI i) = R ∨ ∃ b1 : A1, I (i + 1) b1 ∧ f k a1 (nI i) = k b1 (nI (i + 1))) (he : ∀ (k : A1 → Int32 → Option B) (a1 : A1), I N a1 → f k a1 (nI N) = R) : zl2 f FU c1 (nI i0) = R := by
  have key : ∀ (j i : Nat) (a1 : A1), i + j = N → I i a1 → ∀ fu, j < fu → zl2 f fu a1 (nI i) = R := by
    intro j
    induction j with
    | zero =>
      intro i a1 hi q fu hf
      obtain ⟨fu, rfl⟩ : ∃ m, fu = m + 1 := ⟨fu - 1, by omega⟩
      have e : i = N := by omega
      subst e
      exact he _ a1 q
    | succ j ih =>
      intro i a1 hi q fu hf
      obtain ⟨fu, rfl⟩ : ∃ m, fu = m + 1 := ⟨fu - 1, by omega⟩
      rcases hs (zl2 f fu) i a1 (by omega) q with h | ⟨b1, q2, h⟩
      · exact h
      · exact h.trans (ih (i + 1) b1 (by omega) q2 fu (by omega))
  exact key (N - i0) i0 c1 (by omega) h0 FU (by unfold FU; omega)
theorem zl2_fold {A1 B : Type} {f : (A1 → Int32 → Option B) → A1 → Int32 → Option B} (N : Nat) (F1 : Nat → A1) (R : Option B) (hN : N < 6000) (hs : ∀ (k : A1 → Int32 → Option B) (i : Nat), i < N → f k (F1 i) (nI i) = k (F1 (i + 1)) (nI (i + 1))) (he : ∀ (k : A1 → Int32 → Option B), f k (F1 N) (nI N) = R) : zl2 f FU (F1 0) (nI 0) = R :=
  zl2_up N 0 (fun i a1 => a1 = F1 i) R hN (Nat.zero_le _) rfl (fun k i a1 hi q => by
    subst q
    exact .inr ⟨_, rfl, hs k i hi⟩) (fun k a1 q => by
    subst q
    exact he k)
theorem zl2_dn {A1 B : Type} {f : (A1 → Int32 → Option B) → A1 → Int32 → Option B} (N : Nat) (I : Nat → A1 → Prop) (R : Option B) {c1 : A1} (hN : N < 5999) (h0 : I N c1) (hs : ∀ (k : A1 → Int32 → Option B) (i : Nat) (a1 : A1), i < N → I (i + 1) a1 → f k a1 (nI i) = R ∨ ∃ b1 : A1, I i b1 ∧ f k a1 (nI i) = k b1 (nI i + (-1))) (he : ∀ (k : A1 → Int32 → Option B) (a1 : A1), I 0 a1 → f k a1 (-1) = R) : zl2 f FU c1 (nI N - 1) = R := by
  have key : ∀ (j : Nat) (a1 : A1), j ≤ N → I j a1 → ∀ fu, j < fu → zl2 f fu a1 (nI j + (-1)) = R := by
    intro j
    induction j with
    | zero =>
      intro a1 hi q fu hf
      obtain ⟨fu, rfl⟩ : ∃ m, fu = m + 1 := ⟨fu - 1, by omega⟩
      exact he _ a1 q
    | succ j ih =>
      intro a1 hi q fu hf
      obtain ⟨fu, rfl⟩ : ∃ m, fu = m + 1 := ⟨fu - 1, by omega⟩
      rw [pk_m1]
      rcases hs (zl2 f fu) j a1 (by omega) q with h | ⟨b1, q2, h⟩
      · exact h
      · exact h.trans (ih b1 (by omega) q2 fu (by omega))
  have e : nI N - 1 = nI N + (-1) := by rw [Int32.sub_eq_add_neg]
  rw [e]
  exact key N c1 (Nat.le_refl _) h0 FU (by unfold FU; omega)
theorem zl3_up {A1 A2 B : Type} {f : (A1 → A2 → Int32 → Option B) → A1 → A2 → Int32 → Option B} (N i0 : Nat) (I : Nat → A1 → A2 → Prop) (R : Option B) {c1 : A1} {c2 : A2} (hN : N < 6000) (hi : i0 ≤ N) (h0 : I i0 c1 c2) (hs : ∀ (k : A1 → A2 → Int32 → Option B) (i : Nat) (a1 : A1) (a2 : A2), i < N → I i a1 a2 → f k a1 a2 (nI i) = R ∨ ∃ b1 : A1, ∃ b2 : A2, I (i + 1) b1 b2 ∧ f k a1 a2 (nI i) = k b1 b2 (nI (i + 1))) (he : ∀ (k : A1 → A2 → Int32 → Option B) (a1 : A1) (a2 : A2), I N a1 a2 → f k a1 a2 (nI N) = R) : zl3 f FU c1 c2 (nI i0) = R := by
  have key : ∀ (j i : Nat) (a1 : A1) (a2 : A2), i + j = N → I i a1 a2 → ∀ fu, j < fu → zl3 f fu a1 a2 (nI i) = R := by
    intro j
    induction j with
    | zero =>
      intro i a1 a2 hi q fu hf
      obtain ⟨fu, rfl⟩ : ∃ m, fu = m + 1 := ⟨fu - 1, by omega⟩
      have e : i = N := by omega
      subst e
      exact he _ a1 a2 q
    | succ j ih =>
      intro i a1 a2 hi q fu hf
      obtain ⟨fu, rfl⟩ : ∃ m, fu = m + 1 := ⟨fu - 1, by omega⟩
      rcases hs (zl3 f fu) i a1 a2 (by omega) q with h | ⟨b1, b2, q2, h⟩
      · exact h
      · exact h.trans (ih (i + 1) b1 b2 (by omega) q2 fu (by omega))
  exact key (N - i0) i0 c1 c2 (by omega) h0 FU (by unfold FU; omega)
theorem zl3_fold {A1 A2 B : Type} {f : (A1 → A2 → Int32 → Option B) → A1 → A2 → Int32 → Option B} (N : Nat) (F1 : Nat → A1) (F2 : Nat → A2) (R : Option B) (hN : N < 6000) (hs : ∀ (k : A1 → A2 → Int32 → Option B) (i : Nat), i < N → f k (F1 i) (F2 i) (nI i) = k (F1 (i + 1)) (F2 (i + 1)) (nI (i + 1))) (he : ∀ (k : A1 → A2 → Int32 → Option B), f k (F1 N) (F2 N) (nI N) = R) : zl3 f FU (F1 0) (F2 0) (nI 0) = R :=
  zl3_up N 0 (fun i a1 a2 => a1 = F1 i ∧ a2 = F2 i) R hN (Nat.zero_le _) ⟨rfl, rfl⟩ (fun k i a1 a2 hi q => by
    obtain ⟨rfl, rfl⟩ := q
    exact .inr ⟨_, _, ⟨rfl, rfl⟩, hs k i hi⟩) (fun k a1 a2 q => by
    obtain ⟨rfl, rfl⟩ := q
    exact he k)
theorem zl3_dn {A1 A2 B : Type} {f : (A1 → A2 → Int32 → Option B) → A1 → A2 → Int32 → Option B} (N : Nat) (I : Nat → A1 → A2 → Prop) (R : Option B) {c1 : A1} {c2 : A2} (hN : N < 5999) (h0 : I N c1 c2) (hs : ∀ (k : A1 → A2 → Int32 → Option B) (i : Nat) (a1 : A1) (a2 : A2), i < N → I (i + 1) a1 a2 → f k a1 a2 (nI i) = R ∨ ∃ b1 : A1, ∃ b2 : A2, I i b1 b2 ∧ f k a1 a2 (nI i) = k b1 b2 (nI i + (-1))) (he : ∀ (k : A1 → A2 → Int32 → Option B) (a1 : A1) (a2 : A2), I 0 a1 a2 → f k a1 a2 (-1) = R) : zl3 f FU c1 c2 (nI N - 1) = R := by
  have key : ∀ (j : Nat) (a1 : A1) (a2 : A2), j ≤ N → I j a1 a2 → ∀ fu, j < fu → zl3 f fu a1 a2 (nI j + (-1)) = R := by
    intro j
    induction j with
    | zero =>
      intro a1 a2 hi q fu hf
      obtain ⟨fu, rfl⟩ : ∃ m, fu = m + 1 := ⟨fu - 1, by omega⟩
      exact he _ a1 a2 q
    | succ j ih =>
      intro a1 a2 hi q fu hf
      obtain ⟨fu, rfl⟩ : ∃ m, fu = m + 1 := ⟨fu - 1, by omega⟩
      rw [pk_m1]
      rcases hs (zl3 f fu) j a1 a2 (by omega) q with h | ⟨b1, b2, q2, h⟩
      · exact h
      · exact h.trans (ih b1 b2 (by omega) q2 fu (by omega))
  have e : nI N - 1 = nI N + (-1) := by rw [Int32.sub_eq_add_neg]
  rw [e]
  exact key N c1 c2 (Nat.le_refl _) h0 FU (by unfold FU; omega)
theorem zl4_up {A1 A2 A3 B : Type} {f : (A1 → A2 → A3 → Int32 → Option B) → A1 → A2 → A3 → Int32 → Option B} (N i0 : Nat) (I : Nat → A1 → A2 → A3 → Prop) (R : Option B) {c1 : A1} {c2 : A2} {c3 : A3} (hN : N < 6000) (hi : i0 ≤ N) (h0 : I i0 c1 c2 c3) (hs : ∀ (k : A1 → A2 → A3 → Int32 → Option B) (i : Nat) (a1 : A1) (a2 : A2) (a3 : A3), i < N → I i a1 a2 a3 → f k a1 a2 a3 (nI i) = R ∨ ∃ b1 : A1, ∃ b2 : A2, ∃ b3 : A3, I (i + 1) b1 b2 b3 ∧ f k a1 a2 a3 (nI i) = k b1 b2 b3 (nI (i + 1))) (he : ∀ (k : A1 → A2 → A3 → Int32 → Option B) (a1 : A1) (a2 : A2) (a3 : A3), I N a1 a2 a3 → f k a1 a2 a3 (nI N) = R) : zl4 f FU c1 c2 c3 (nI i0) = R := by
  have key : ∀ (j i : Nat) (a1 : A1) (a2 : A2) (a3 : A3), i + j = N → I i a1 a2 a3 → ∀ fu, j < fu → zl4 f fu a1 a2 a3 (nI i) = R := by
    intro j
    induction j with
    | zero =>
      intro i a1 a2 a3 hi q fu hf
      obtain ⟨fu, rfl⟩ : ∃ m, fu = m + 1 := ⟨fu - 1, by omega⟩
      have e : i = N := by omega
      subst e
      exact he _ a1 a2 a3 q
    | succ j ih =>
      intro i a1 a2 a3 hi q fu hf
      obtain ⟨fu, rfl⟩ : ∃ m, fu = m + 1 := ⟨fu - 1, by omega⟩
      rcases hs (zl4 f fu) i a1 a2 a3 (by omega) q with h | ⟨b1, b2, b3, q2, h⟩
      · exact h
      · exact h.trans (ih (i + 1) b1 b2 b3 (by omega) q2 fu (by omega))
  exact key (N - i0) i0 c1 c2 c3 (by omega) h0 FU (by unfold FU; omega)
theorem zl4_fold {A1 A2 A3 B : Type} {f : (A1 → A2 → A3 → Int32 → Option B) → A1 → A2 → A3 → Int32 → Option B} (N : Nat) (F1 : Nat → A1) (F2 : Nat → A2) (F3 : Nat → A3) (R : Option B) (hN : N < 6000) (hs : ∀ (k : A1 → A2 → A3 → Int32 → Option B) (i : Nat), i < N → f k (F1 i) (F2 i) (F3 i) (nI i) = k (F1 (i + 1)) (F2 (i + 1)) (F3 (i + 1)) (nI (i + 1))) (he : ∀ (k : A1 → A2 → A3 → Int32 → Option B), f k (F1 N) (F2 N) (F3 N) (nI N) = R) : zl4 f FU (F1 0) (F2 0) (F3 0) (nI 0) = R :=
  zl4_up N 0 (fun i a1 a2 a3 => a1 = F1 i ∧ a2 = F2 i ∧ a3 = F3 i) R hN (Nat.zero_le _) ⟨rfl, rfl, rfl⟩ (fun k i a1 a2 a3 hi q => by
    obtain ⟨rfl, rfl, rfl⟩ := q
    exact .inr ⟨_, _, _, ⟨rfl, rfl, rfl⟩, hs k i hi⟩) (fun k a1 a2 a3 q => by
    obtain ⟨rfl, rfl, rfl⟩ := q
    exact he k)
theorem zl4_dn {A1 A2 A3 B : Type} {f : (A1 → A2 → A3 → Int32 → Option B) → A1 → A2 → A3 → Int32 → Option B} (N : Nat) (I : Nat → A1 → A2 → A3 → Prop) (R : Option B) {c1 : A1} {c2 : A2} {c3 : A3} (hN : N < 5999) (h0 : I N c1 c2 c3) (hs : ∀ (k : A1 → A2 → A3 → Int32 → Option B) (i : Nat) (a1 : A1) (a2 : A2) (a3 : A3), i < N → I (i + 1) a1 a2 a3 → f k a1 a2 a3 (nI i) = R ∨ ∃ b1 : A1, ∃ b2 : A2, ∃ b3 : A3, I i b1 b2 b3 ∧ f k a1 a2 a3 (nI i) = k b1 b2 b3 (nI i + (-1))) (he : ∀ (k : A1 → A2 → A3 → Int32 → Option B) (a1 : A1) (a2 : A2) (a3 : A3), I 0 a1 a2 a3 → f k a1 a2 a3 (-1) = R) : zl4 f FU c1 c2 c3 (nI N - 1) = R := by
  have key : ∀ (j : Nat) (a1 : A1) (a2 : A2) (a3 : A3), j ≤ N → I j a1 a2 a3 → ∀ fu, j < fu → zl4 f fu a1 a2 a3 (nI j + (-1)) = R := by
    intro j
    induction j with
    | zero =>
      intro a1 a2 a3 hi q fu hf
      obtain ⟨fu, rfl⟩ : ∃ m, fu = m + 1 := ⟨fu - 1, by omega⟩
      exact he _ a1 a2 a3 q
    | succ j ih =>
      intro a1 a2 a3 hi q fu hf
      obtain ⟨fu, rfl⟩ : ∃ m, fu = m + 1 := ⟨fu - 1, by omega⟩
      rw [pk_m1]
      rcases hs (zl4 f fu) j a1 a2 a3 (by omega) q with h | ⟨b1, b2, b3, q2, h⟩
      · exact h
      · exact h.trans (ih b1 b2 b3 (by omega) q2 fu (by omega))
  have e : nI N - 1 = nI N + (-1) := by rw [Int32.sub_eq_add_neg]
  rw [e]
  exact key N c1 c2 c3 (Nat.le_refl _) h0 FU (by unfold FU; omega)
theorem zl5_up {A1 A2 A3 A4 B : Type} {f : (A1 → A2 → A3 → A4 → Int32 → Option B) → A1 → A2 → A3 → A4 → Int32 → Option B} (N i0 : Nat) (I : Nat → A1 → A2 → A3 → A4 → Prop) (R : Option B) {c1 : A1} {c2 : A2} {c3 : A3} {c4 : A4} (hN : N < 6000) (hi : i0 ≤ N) (h0 : I i0 c1 c2 c3 c4) (hs : ∀ (k : A1 → A2 → A3 → A4 → Int32 → Option B) (i : Nat) (a1 : A1) (a2 : A2) (a3 : A3) (a4 : A4), i < N → I i a1 a2 a3 a4 → f k a1 a2 a3 a4 (nI i) = R ∨ ∃ b1 : A1, ∃ b2 : A2, ∃ b3 : A3, ∃ b4 : A4, I (i + 1) b1 b2 b3 b4 ∧ f k a1 a2 a3 a4 (nI i) = k b1 b2 b3 b4 (nI (i + 1))) (he : ∀ (k : A1 → A2 → A3 → A4 → Int32 → Option B) (a1 : A1) (a2 : A2) (a3 : A3) (a4 : A4), I N a1 a2 a3 a4 → f k a1 a2 a3 a4 (nI N) = R) : zl5 f FU c1 c2 c3 c4 (nI i0) = R := by
  have key : ∀ (j i : Nat) (a1 : A1) (a2 : A2) (a3 : A3) (a4 : A4), i + j = N → I i a1 a2 a3 a4 → ∀ fu, j < fu → zl5 f fu a1 a2 a3 a4 (nI i) = R := by
    intro j
    induction j with
    | zero =>
      intro i a1 a2 a3 a4 hi q fu hf
      obtain ⟨fu, rfl⟩ : ∃ m, fu = m + 1 := ⟨fu - 1, by omega⟩
      have e : i = N := by omega
      subst e
      exact he _ a1 a2 a3 a4 q
    | succ j ih =>
      intro i a1 a2 a3 a4 hi q fu hf
      obtain ⟨fu, rfl⟩ : ∃ m, fu = m + 1 := ⟨fu - 1, by omega⟩
      rcases hs (zl5 f fu) i a1 a2 a3 a4 (by omega) q with h | ⟨b1, b2, b3, b4, q2, h⟩
      · exact h
      · exact h.trans (ih (i + 1) b1 b2 b3 b4 (by omega) q2 fu (by omega))
  exact key (N - i0) i0 c1 c2 c3 c4 (by omega) h0 FU (by unfold FU; omega)
theorem zl5_fold {A1 A2 A3 A4 B : Type} {f : (A1 → A2 → A3 → A4 → Int32 → Option B) → A1 → A2 → A3 → A4 → Int32 → Option B} (N : Nat) (F1 : Nat → A1) (F2 : Nat → A2) (F3 : Nat → A3) (F4 : Nat → A4) (R : Option B) (hN : N < 6000) (hs : ∀ (k : A1 → A2 → A3 → A4 → Int32 → Option B) (i : Nat), i < N → f k (F1 i) (F2 i) (F3 i) (F4 i) (nI i) = k (F1 (i + 1)) (F2 (i + 1)) (F3 (i + 1)) (F4 (i + 1)) (nI (i + 1))) (he : ∀ (k : A1 → A2 → A3 → A4 → Int32 → Option B), f k (F1 N) (F2 N) (F3 N) (F4 N) (nI N) = R) : zl5 f FU (F1 0) (F2 0) (F3 0) (F4 0) (nI 0) = R :=
  zl5_up N 0 (fun i a1 a2 a3 a4 => a1 = F1 i ∧ a2 = F2 i ∧ a3 = F3 i ∧ a4 = F4 i) R hN (Nat.zero_le _) ⟨rfl, rfl, rfl, rfl⟩ (fun k i a1 a2 a3 a4 hi q => by
    obtain ⟨rfl, rfl, rfl, rfl⟩ := q
    exact .inr ⟨_, _, _, _, ⟨rfl, rfl, rfl, rfl⟩, hs k i hi⟩) (fun k a1 a2 a3 a4 q => by
    obtain ⟨rfl, rfl, rfl, rfl⟩ := q
    exact he k)
theorem zl5_dn {A1 A2 A3 A4 B : Type} {f : (A1 → A2 → A3 → A4 → Int32 → Option B) → A1 → A2 → A3 → A4 → Int32 → Option B} (N : Nat) (I : Nat → A1 → A2 → A3 → A4 → Prop) (R : Option B) {c1 : A1} {c2 : A2} {c3 : A3} {c4 : A4} (hN : N < 5999) (h0 : I N c1 c2 c3 c4) (hs : ∀ (k : A1 → A2 → A3 → A4 → Int32 → Option B) (i : Nat) (a1 : A1) (a2 : A2) (a3 : A3) (a4 : A4), i < N → I (i + 1) a1 a2 a3 a4 → f k a1 a2 a3 a4 (nI i) = R ∨ ∃ b1 : A1, ∃ b2 : A2, ∃ b3 : A3, ∃ b4 : A4, I i b1 b2 b3 b4 ∧ f k a1 a2 a3 a4 (nI i) = k b1 b2 b3 b4 (nI i + (-1))) (he : ∀ (k : A1 → A2 → A3 → A4 → Int32 → Option B) (a1 : A1) (a2 : A2) (a3 : A3) (a4 : A4), I 0 a1 a2 a3 a4 → f k a1 a2 a3 a4 (-1) = R) : zl5 f FU c1 c2 c3 c4 (nI N - 1) = R := by
  have key : ∀ (j : Nat) (a1 : A1) (a2 : A2) (a3 : A3) (a4 : A4), j ≤ N → I j a1 a2 a3 a4 → ∀ fu, j < fu → zl5 f fu a1 a2 a3 a4 (nI j + (-1)) = R := by
    intro j
    induction j with
    | zero =>
      intro a1 a2 a3 a4 hi q fu hf
      obtain ⟨fu, rfl⟩ : ∃ m, fu = m + 1 := ⟨fu - 1, by omega⟩
      exact he _ a1 a2 a3 a4 q
    | succ j ih =>
      intro a1 a2 a3 a4 hi q fu hf
      obtain ⟨fu, rfl⟩ : ∃ m, fu = m + 1 := ⟨fu - 1, by omega⟩
      rw [pk_m1]
      rcases hs (zl5 f fu) j a1 a2 a3 a4 (by omega) q with h | ⟨b1, b2, b3, b4, q2, h⟩
      · exact h
      · exact h.trans (ih b1 b2 b3 b4 (by omega) q2 fu (by omega))
  have e : nI N - 1 = nI N + (-1) := by rw [Int32.sub_eq_add_neg]
  rw [e]
  exact key N c1 c2 c3 c4 (Nat.le_refl _) h0 FU (by unfold FU; omega)
theorem zl6_up {A1 A2 A3 A4 A5 B : Type} {f : (A1 → A2 → A3 → A4 → A5 → Int32 → Option B) → A1 → A2 → A3 → A4 → A5 → Int32 → Option B} (N i0 : Nat) (I : Nat → A1 → A2 → A3 → A4 → A5 → Prop) (R : Option B) {c1 : A1} {c2 : A2} {c3 : A3} {c4 : A4} {c5 : A5} (hN : N < 6000) (hi : i0 ≤ N) (h0 : I i0 c1 c2 c3 c4 c5) (hs : ∀ (k : A1 → A2 → A3 → A4 → A5 → Int32 → Option B) (i : Nat) (a1 : A1) (a2 : A2) (a3 : A3) (a4 : A4) (a5 : A5), i < N → I i a1 a2 a3 a4 a5 → f k a1 a2 a3 a4 a5 (nI i) = R ∨ ∃ b1 : A1, ∃ b2 : A2, ∃ b3 : A3, ∃ b4 : A4, ∃ b5 : A5, I (i + 1) b1 b2 b3 b4 b5 ∧ f k a1 a2 a3 a4 a5 (nI i) = k b1 b2 b3 b4 b5 (nI (i + 1))) (he : ∀ (k : A1 → A2 → A3 → A4 → A5 → Int32 → Option B) (a1 : A1) (a2 : A2) (a3 : A3) (a4 : A4) (a5 : A5), I N a1 a2 a3 a4 a5 → f k a1 a2 a3 a4 a5 (nI N) = R) : zl6 f FU c1 c2 c3 c4 c5 (nI i0) = R := by
  have key : ∀ (j i : Nat) (a1 : A1) (a2 : A2) (a3 : A3) (a4 : A4) (a5 : A5), i + j = N → I i a1 a2 a3 a4 a5 → ∀ fu, j < fu → zl6 f fu a1 a2 a3 a4 a5 (nI i) = R := by
    intro j
    induction j with
    | zero =>
      intro i a1 a2 a3 a4 a5 hi q fu hf
      obtain ⟨fu, rfl⟩ : ∃ m, fu = m + 1 := ⟨fu - 1, by omega⟩
      have e : i = N := by omega
      subst e
      exact he _ a1 a2 a3 a4 a5 q
    | succ j ih =>
      intro i a1 a2 a3 a4 a5 hi q fu hf
      obtain ⟨fu, rfl⟩ : ∃ m, fu = m + 1 := ⟨fu - 1, by omega⟩
      rcases hs (zl6 f fu) i a1 a2 a3 a4 a5 (by omega) q with h | ⟨b1, b2, b3, b4, b5, q2, h⟩
      · exact h
      · exact h.trans (ih (i + 1) b1 b2 b3 b4 b5 (by omega) q2 fu (by omega))
  exact key (N - i0) i0 c1 c2 c3 c4 c5 (by omega) h0 FU (by unfold FU; omega)
theorem zl6_fold {A1 A2 A3 A4 A5 B : Type} {f : (A1 → A2 → A3 → A4 → A5 → Int32 → Option B) → A1 → A2 → A3 → A4 → A5 → Int32 → Option B} (N : Nat) (F1 : Nat → A1) (F2 : Nat → A2) (F3 : Nat → A3) (F4 : Nat → A4) (F5 : Nat → A5) (R : Option B) (hN : N < 6000) (hs : ∀ (k : A1 → A2 → A3 → A4 → A5 → Int32 → Option B) (i : Nat), i < N → f k (F1 i) (F2 i) (F3 i) (F4 i) (F5 i) (nI i) = k (F1 (i + 1)) (F2 (i + 1)) (F3 (i + 1)) (F4 (i + 1)) (F5 (i + 1)) (nI (i + 1))) (he : ∀ (k : A1 → A2 → A3 → A4 → A5 → Int32 → Option B), f k (F1 N) (F2 N) (F3 N) (F4 N) (F5 N) (nI N) = R) : zl6 f FU (F1 0) (F2 0) (F3 0) (F4 0) (F5 0) (nI 0) = R :=
  zl6_up N 0 (fun i a1 a2 a3 a4 a5 => a1 = F1 i ∧ a2 = F2 i ∧ a3 = F3 i ∧ a4 = F4 i ∧ a5 = F5 i) R hN (Nat.zero_le _) ⟨rfl, rfl, rfl, rfl, rfl⟩ (fun k i a1 a2 a3 a4 a5 hi q => by
    obtain ⟨rfl, rfl, rfl, rfl, rfl⟩ := q
    exact .inr ⟨_, _, _, _, _, ⟨rfl, rfl, rfl, rfl, rfl⟩, hs k i hi⟩) (fun k a1 a2 a3 a4 a5 q => by
    obtain ⟨rfl, rfl, rfl, rfl, rfl⟩ := q
    exact he k)
theorem zl6_dn {A1 A2 A3 A4 A5 B : Type} {f : (A1 → A2 → A3 → A4 → A5 → Int32 → Option B) → A1 → A2 → A3 → A4 → A5 → Int32 → Option B} (N : Nat) (I : Nat → A1 → A2 → A3 → A4 → A5 → Prop) (R : Option B) {c1 : A1} {c2 : A2} {c3 : A3} {c4 : A4} {c5 : A5} (hN : N < 5999) (h0 : I N c1 c2 c3 c4 c5) (hs : ∀ (k : A1 → A2 → A3 → A4 → A5 → Int32 → Option B) (i : Nat) (a1 : A1) (a2 : A2) (a3 : A3) (a4 : A4) (a5 : A5), i < N → I (i + 1) a1 a2 a3 a4 a5 → f k a1 a2 a3 a4 a5 (nI i) = R ∨ ∃ b1 : A1, ∃ b2 : A2, ∃ b3 : A3, ∃ b4 : A4, ∃ b5 : A5, I i b1 b2 b3 b4 b5 ∧ f k a1 a2 a3 a4 a5 (nI i) = k b1 b2 b3 b4 b5 (nI i + (-1))) (he : ∀ (k : A1 → A2 → A3 → A4 → A5 → Int32 → Option B) (a1 : A1) (a2 : A2) (a3 : A3) (a4 : A4) (a5 : A5), I 0 a1 a2 a3 a4 a5 → f k a1 a2 a3 a4 a5 (-1) = R) : zl6 f FU c1 c2 c3 c4 c5 (nI N - 1) = R := by
  have key : ∀ (j : Nat) (a1 : A1) (a2 : A2) (a3 : A3) (a4 : A4) (a5 : A5), j ≤ N → I j a1 a2 a3 a4 a5 → ∀ fu, j < fu → zl6 f fu a1 a2 a3 a4 a5 (nI j + (-1)) = R := by
    intro j
    induction j with
    | zero =>
      intro a1 a2 a3 a4 a5 hi q fu hf
      obtain ⟨fu, rfl⟩ : ∃ m, fu = m + 1 := ⟨fu - 1, by omega⟩
      exact he _ a1 a2 a3 a4 a5 q
    | succ j ih =>
      intro a1 a2 a3 a4 a5 hi q fu hf
      obtain ⟨fu, rfl⟩ : ∃ m, fu = m + 1 := ⟨fu - 1, by omega⟩
      rw [pk_m1]
      rcases hs (zl6 f fu) j a1 a2 a3 a4 a5 (by omega) q with h | ⟨b1, b2, b3, b4, b5, q2, h⟩
      · exact h
      · exact h.trans (ih b1 b2 b3 b4 b5 (by omega) q2 fu (by omega))
  have e : nI N - 1 = nI N + (-1) := by rw [Int32.sub_eq_add_neg]
  rw [e]
  exact key N c1 c2 c3 c4 c5 (Nat.le_refl _) h0 FU (by unfold FU; omega)
theorem zl7_up {A1 A2 A3 A4 A5 A6 B : Type} {f : (A1 → A2 → A3 → A4 → A5 → A6 → Int32 → Option B) → A1 → A2 → A3 → A4 → A5 → A6 → Int32 → Option B} (N i0 : Nat) (I : Nat → A1 → A2 → A3 → A4 → A5 → A6 → Prop) (R : Option B) {c1 : A1} {c2 : A2} {c3 : A3} {c4 : A4} {c5 : A5} {c6 : A6} (hN : N < 6000) (hi : i0 ≤ N) (h0 : I i0 c1 c2 c3 c4 c5 c6) (hs : ∀ (k : A1 → A2 → A3 → A4 → A5 → A6 → Int32 → Option B) (i : Nat) (a1 : A1) (a2 : A2) (a3 : A3) (a4 : A4) (a5 : A5) (a6 : A6), i < N → I i a1 a2 a3 a4 a5 a6 → f k a1 a2 a3 a4 a5 a6 (nI i) = R ∨ ∃ b1 : A1, ∃ b2 : A2, ∃ b3 : A3, ∃ b4 : A4, ∃ b5 : A5, ∃ b6 : A6, I (i + 1) b1 b2 b3 b4 b5 b6 ∧ f k a1 a2 a3 a4 a5 a6 (nI i) = k b1 b2 b3 b4 b5 b6 (nI (i + 1))) (he : ∀ (k : A1 → A2 → A3 → A4 → A5 → A6 → Int32 → Option B) (a1 : A1) (a2 : A2) (a3 : A3) (a4 : A4) (a5 : A5) (a6 : A6), I N a1 a2 a3 a4 a5 a6 → f k a1 a2 a3 a4 a5 a6 (nI N) = R) : zl7 f FU c1 c2 c3 c4 c5 c6 (nI i0) = R := by
  have key : ∀ (j i : Nat) (a1 : A1) (a2 : A2) (a3 : A3) (a4 : A4) (a5 : A5) (a6 : A6), i + j = N → I i a1 a2 a3 a4 a5 a6 → ∀ fu, j < fu → zl7 f fu a1 a2 a3 a4 a5 a6 (nI i) = R := by
    intro j
    induction j with
    | zero =>
      intro i a1 a2 a3 a4 a5 a6 hi q fu hf
      obtain ⟨fu, rfl⟩ : ∃ m, fu = m + 1 := ⟨fu - 1, by omega⟩
      have e : i = N := by omega
      subst e
      exact he _ a1 a2 a3 a4 a5 a6 q
    | succ j ih =>
      intro i a1 a2 a3 a4 a5 a6 hi q fu hf
      obtain ⟨fu, rfl⟩ : ∃ m, fu = m + 1 := ⟨fu - 1, by omega⟩
      rcases hs (zl7 f fu) i a1 a2 a3 a4 a5 a6 (by omega) q with h | ⟨b1, b2, b3, b4, b5, b6, q2, h⟩
      · exact h
      · exact h.trans (ih (i + 1) b1 b2 b3 b4 b5 b6 (by omega) q2 fu (by omega))
  exact key (N - i0) i0 c1 c2 c3 c4 c5 c6 (by omega) h0 FU (by unfold FU; omega)
theorem zl7_fold {A1 A2 A3 A4 A5 A6 B : Type} {f : (A1 → A2 → A3 → A4 → A5 → A6 → Int32 → Option B) → A1 → A2 → A3 → A4 → A5 → A6 → Int32 → Option B} (N : Nat) (F1 : Nat → A1) (F2 : Nat → A2) (F3 : Nat → A3) (F4 : Nat → A4) (F5 : Nat → A5) (F6 : Nat → A6) (R : Option B) (hN : N < 6000) (hs : ∀ (k : A1 → A2 → A3 → A4 → A5 → A6 → Int32 → Option B) (i : Nat), i < N → f k (F1 i) (F2 i) (F3 i) (F4 i) (F5 i) (F6 i) (nI i) = k (F1 (i + 1)) (F2 (i + 1)) (F3 (i + 1)) (F4 (i + 1)) (F5 (i + 1)) (F6 (i + 1)) (nI (i + 1))) (he : ∀ (k : A1 → A2 → A3 → A4 → A5 → A6 → Int32 → Option B), f k (F1 N) (F2 N) (F3 N) (F4 N) (F5 N) (F6 N) (nI N) = R) : zl7 f FU (F1 0) (F2 0) (F3 0) (F4 0) (F5 0) (F6 0) (nI 0) = R :=
  zl7_up N 0 (fun i a1 a2 a3 a4 a5 a6 => a1 = F1 i ∧ a2 = F2 i ∧ a3 = F3 i ∧ a4 = F4 i ∧ a5 = F5 i ∧ a6 = F6 i) R hN (Nat.zero_le _) ⟨rfl, rfl, rfl, rfl, rfl, rfl⟩ (fun k i a1 a2 a3 a4 a5 a6 hi q => by
    obtain ⟨rfl, rfl, rfl, rfl, rfl, rfl⟩ := q
    exact .inr ⟨_, _, _, _, _, _, ⟨rfl, rfl, rfl, rfl, rfl, rfl⟩, hs k i hi⟩) (fun k a1 a2 a3 a4 a5 a6 q => by
    obtain ⟨rfl, rfl, rfl, rfl, rfl, rfl⟩ := q
    exact he k)
theorem zl7_dn {A1 A2 A3 A4 A5 A6 B : Type} {f : (A1 → A2 → A3 → A4 → A5 → A6 → Int32 → Option B) → A1 → A2 → A3 → A4 → A5 → A6 → Int32 → Option B} (N : Nat) (I : Nat → A1 → A2 → A3 → A4 → A5 → A6 → Prop) (R : Option B) {c1 : A1} {c2 : A2} {c3 : A3} {c4 : A4} {c5 : A5} {c6 : A6} (hN : N < 5999) (h0 : I N c1 c2 c3 c4 c5 c6) (hs : ∀ (k : A1 → A2 → A3 → A4 → A5 → A6 → Int32 → Option B) (i : Nat) (a1 : A1) (a2 : A2) (a3 : A3) (a4 : A4) (a5 : A5) (a6 : A6), i < N → I (i + 1) a1 a2 a3 a4 a5 a6 → f k a1 a2 a3 a4 a5 a6 (nI i) = R ∨ ∃ b1 : A1, ∃ b2 : A2, ∃ b3 : A3, ∃ b4 : A4, ∃ b5 : A5, ∃ b6 : A6, I i b1 b2 b3 b4 b5 b6 ∧ f k a1 a2 a3 a4 a5 a6 (nI i) = k b1 b2 b3 b4 b5 b6 (nI i + (-1))) (he : ∀ (k : A1 → A2 → A3 → A4 → A5 → A6 → Int32 → Option B) (a1 : A1) (a2 : A2) (a3 : A3) (a4 : A4) (a5 : A5) (a6 : A6), I 0 a1 a2 a3 a4 a5 a6 → f k a1 a2 a3 a4 a5 a6 (-1) = R) : zl7 f FU c1 c2 c3 c4 c5 c6 (nI N - 1) = R := by
  have key : ∀ (j : Nat) (a1 : A1) (a2 : A2) (a3 : A3) (a4 : A4) (a5 : A5) (a6 : A6), j ≤ N → I j a1 a2 a3 a4 a5 a6 → ∀ fu, j < fu → zl7 f fu a1 a2 a3 a4 a5 a6 (nI j + (-1)) = R := by
    intro j
    induction j with
    | zero =>
      intro a1 a2 a3 a4 a5 a6 hi q fu hf
      obtain ⟨fu, rfl⟩ : ∃ m, fu = m + 1 := ⟨fu - 1, by omega⟩
      exact he _ a1 a2 a3 a4 a5 a6 q
    | succ j ih =>
      intro a1 a2 a3 a4 a5 a6 hi q fu hf
      obtain ⟨fu, rfl⟩ : ∃ m, fu = m + 1 := ⟨fu - 1, by omega⟩
      rw [pk_m1]
      rcases hs (zl7 f fu) j a1 a2 a3 a4 a5 a6 (by omega) q with h | ⟨b1, b2, b3, b4, b5, b6, q2, h⟩
      · exact h
      · exact h.trans (ih b1 b2 b3 b4 b5 b6 (by omega) q2 fu (by omega))
  have e : nI N - 1 = nI N + (-1) := by rw [Int32.sub_eq_add_neg]
  rw [e]
  exact key N c1 c2 c3 c4 c5 c6 (Nat.le_refl _) h0 FU (by unfold FU; omega)
