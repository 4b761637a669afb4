/-! loops that count, and what holds of their answer -/
theorem zl1_ex {B : Type} {f : (Int32 → Option B) → Int32 → Option B} (N i0 : Nat) (I : Nat → Prop) (Q : B → Prop)  (hN : N < 6000) (hi : i0 ≤ N) (h0 : I i0) (hs : ∀ (k : Int32 → Option B) (i : Nat), i < N → I i → (∃ r, f k (nI i) = some r ∧ Q r) ∨ I (i + 1) ∧ f k (nI i) = k (nI (i + 1))) (he : ∀ (k : Int32 → Option B), I N → ∃ r, f k (nI N) = some r ∧ Q r) : ∃ r, zl1 f FU (nI i0) = some r ∧ Q r := by
  have key : ∀ (j i : Nat), i + j = N → I i → ∀ fu, j < fu → ∃ r, zl1 f fu (nI i) = some r ∧ Q r := by
    intro j
    induction j with
    | zero =>
      intro i hi q fu hf
      obtain ⟨fu, rfl⟩ : ∃ m, fu = m + 1 := ⟨fu - 1, by omega⟩
      have e : i = N := by omega
      subst e
      exact he _ q
    | succ j ih =>
      intro i hi q fu hf
      obtain ⟨fu, rfl⟩ : ∃ m, fu = m + 1 := ⟨fu - 1, by omega⟩
      rcases hs (zl1 f fu) i (by omega) q with h | ⟨q2, h⟩
      · exact h
      · obtain ⟨r, h1, h2⟩ := ih (i + 1) (by omega) q2 fu (by omega)
        exact ⟨r, h.trans h1, h2⟩
  exact key (N - i0) i0 (by omega) h0 FU (by unfold FU; omega)
theorem zl2_ex {A1 B : Type} {f : (A1 → Int32 → Option B) → A1 → Int32 → Option B} (N i0 : Nat) (I : Nat → A1 → Prop) (Q : B → Prop) {c1 : A1} (hN : N < 6000) (hi : i0 ≤ N) (h0 : I i0 c1) (hs : ∀ (k : A1 → Int32 → Option B) (i : Nat) (a1 : A1), i < N → I i a1 → (∃ r, f k a1 (nI i) = some r ∧ Q r) ∨ ∃ b1 : A1, I (i + 1) b1 ∧ f k a1 (nI i) = k b1 (nI (i + 1))) (he : ∀ (k : A1 → Int32 → Option B) (a1 : A1), I N a1 → ∃ r, f k a1 (nI N) = some r ∧ Q r) : ∃ r, zl2 f FU c1 (nI i0) = some r ∧ Q r := by
  have key : ∀ (j i : Nat) (a1 : A1), i + j = N → I i a1 → ∀ fu, j < fu → ∃ r, zl2 f fu a1 (nI i) = some r ∧ Q r := by
    intro j
    induction j with
    | zero =>
      intro i a1 hi q fu hf
      obtain ⟨fu, rfl⟩ : ∃ m, fu = m + 1 := ⟨fu - 1, by omega⟩
      have e : i = N := by omega
      subst e
      exact he _ a1 q
    | succ j ih =>
      intro i a1 hi q fu hf
      obtain ⟨fu, rfl⟩ : ∃ m, fu = m + 1 := ⟨fu - 1, by omega⟩
      rcases hs (zl2 f fu) i a1 (by omega) q with h | ⟨b1, q2, h⟩
      · exact h
      · obtain ⟨r, h1, h2⟩ := ih (i + 1) b1 (by omega) q2 fu (by omega)
        exact ⟨r, h.trans h1, h2⟩
  exact key (N - i0) i0 c1 (by omega) h0 FU (by unfold FU; omega)
theorem zl3_ex {A1 A2 B : Type} {f : (A1 → A2 → Int32 → Option B) → A1 → A2 → Int32 → Option B} (N i0 : Nat) (I : Nat → A1 → A2 → Prop) (Q : B → Prop) {c1 : A1} {c2 : A2} (hN : N < 6000) (hi : i0 ≤ N) (h0 : I i0 c1 c2) (hs : ∀ (k : A1 → A2 → Int32 → Option B) (i : Nat) (a1 : A1) (a2 : A2), i < N → I i a1 a2 → (∃ r, f k a1 a2 (nI i) = some r ∧ Q r) ∨ ∃ b1 : A1, ∃ b2 : A2, I (i + 1) b1 b2 ∧ f k a1 a2 (nI i) = k b1 b2 (nI (i + 1))) (he : ∀ (k : A1 → A2 → Int32 → Option B) (a1 : A1) (a2 : A2), I N a1 a2 → ∃ r, f k a1 a2 (nI N) = some r ∧ Q r) : ∃ r, zl3 f FU c1 c2 (nI i0) = some r ∧ Q r := by
  have key : ∀ (j i : Nat) (a1 : A1) (a2 : A2), i + j = N → I i a1 a2 → ∀ fu, j < fu → ∃ r, zl3 f fu a1 a2 (nI i) = some r ∧ Q r := by
    intro j
    induction j with
    | zero =>
      intro i a1 a2 hi q fu hf
      obtain ⟨fu, rfl⟩ : ∃ m, fu = m + 1 := ⟨fu - 1, by omega⟩
      have e : i = N := by omega
      subst e
      exact he _ a1 a2 q
    | succ j ih =>
      intro i a1 a2 hi q fu hf
      obtain ⟨fu, rfl⟩ : ∃ m, fu = m + 1 := ⟨fu - 1, by omega⟩
      rcases hs (zl3 f fu) i a1 a2 (by omega) q with h | ⟨b1, b2, q2, h⟩
      · exact h
      · obtain ⟨r, h1, h2⟩ := ih (i + 1) b1 b2 (by omega) q2 fu (by omega)
        exact ⟨r, h.trans h1, h2⟩
  exact key (N - i0) i0 c1 c2 (by omega) h0 FU (by unfold FU; omega)
theorem zl4_ex {A1 A2 A3 B : Type} {f : (A1 → A2 → A3 → Int32 → Option B) → A1 → A2 → A3 → Int32 → Option B} (N i0 : Nat) (I : Nat → A1 → A2 → A3 → Prop) (Q : B → Prop) {c1 : A1} {c2 : A2} {c3 : A3} (hN : N < 6000) (hi : i0 ≤ N) (h0 : I i0 c1 c2 c3) (hs : ∀ (k : A1 → A2 → A3 → Int32 → Option B) (i : Nat) (a1 : A1) (a2 : A2) (a3 : A3), i < N → I i a1 a2 a3 → (∃ r, f k a1 a2 a3 (nI i) = some r ∧ Q r) ∨ ∃ b1 : A1, ∃ b2 : A2, ∃ b3 : A3, I (i + 1) b1 b2 b3 ∧ f k a1 a2 a3 (nI i) = k b1 b2 b3 (nI (i + 1))) (he : ∀ (k : A1 → A2 → A3 → Int32 → Option B) (a1 : A1) (a2 : A2) (a3 : A3), I N a1 a2 a3 → ∃ r, f k a1 a2 a3 (nI N) = some r ∧ Q r) : ∃ r, zl4 f FU c1 c2 c3 (nI i0) = some r ∧ Q r := by
  have key : ∀ (j i : Nat) (a1 : A1) (a2 : A2) (a3 : A3), i + j = N → I i a1 a2 a3 → ∀ fu, j < fu → ∃ r, zl4 f fu a1 a2 a3 (nI i) = some r ∧ Q r := by
    intro j
    induction j with
    | zero =>
      intro i a1 a2 a3 hi q fu hf
      obtain ⟨fu, rfl⟩ : ∃ m, fu = m + 1 := ⟨fu - 1, by omega⟩
      have e : i = N := by omega
      subst e
      exact he _ a1 a2 a3 q
    | succ j ih =>
      intro i a1 a2 a3 hi q fu hf
      obtain ⟨fu, rfl⟩ : ∃ m, fu = m + 1 := ⟨fu - 1, by omega⟩
      rcases hs (zl4 f fu) i a1 a2 a3 (by omega) q with h | ⟨b1, b2, b3, q2, h⟩
      · exact h
      · obtain ⟨r, h1, h2⟩ := ih (i + 1) b1 b2 b3 (by omega) q2 fu (by omega)
        exact ⟨r, h.trans h1, h2⟩
  exact key (N - i0) i0 c1 c2 c3 (by omega) h0 FU (by unfold FU; omega)
theorem zl5_ex {A1 A2 A3 A4 B : Type} {f : (A1 → A2 → A3 → A4 → Int32 → Option B) → A1 → A2 → A3 → A4 → Int32 → Option B} (N i0 : Nat) (I : Nat → A1 → A2 → A3 → A4 → Prop) (Q : B → Prop) {c1 : A1} {c2 : A2} {c3 : A3} {c4 : A4} (hN : N < 6000) (hi : i0 ≤ N) (h0 : I i0 c1 c2 c3 c4) (hs : ∀ (k : A1 → A2 → A3 → A4 → Int32 → Option B) (i : Nat) (a1 : A1) (a2 : A2) (a3 : A3) (a4 : A4), i < N → I i a1 a2 a3 a4 → (∃ r, f k a1 a2 a3 a4 (nI i) = some r ∧ Q r) ∨ ∃ b1 : A1, ∃ b2 : A2, ∃ b3 : A3, ∃ b4 : A4, I (i + 1) b1 b2 b3 b4 ∧ f k a1 a2 a3 a4 (nI i) = k b1 b2 b3 b4 (nI (i + 1))) (he : ∀ (k : A1 → A2 → A3 → A4 → Int32 → Option B) (a1 : A1) (a2 : A2) (a3 : A3) (a4 : A4), I N a1 a2 a3 a4 → ∃ r, f k a1 a2 a3 a4 (nI N) = some r ∧ Q r) : ∃ r, zl5 f FU c1 c2 c3 c4 (nI i0) = some r ∧ Q r := by
  have key : ∀ (j i : Nat) (a1 : A1) (a2 : A2) (a3 : A3) (a4 : A4), i + j = N → I i a1 a2 a3 a4 → ∀ fu, j < fu → ∃ r, zl5 f fu a1 a2 a3 a4 (nI i) = some r ∧ Q r := by
    intro j
    induction j with
    | zero =>
      intro i a1 a2 a3 a4 hi q fu hf
      obtain ⟨fu, rfl⟩ : ∃ m, fu = m + 1 := ⟨fu - 1, by omega⟩
      have e : i = N := by omega
      subst e
      exact he _ a1 a2 a3 a4 q
    | succ j ih =>
      intro i a1 a2 a3 a4 hi q fu hf
      obtain ⟨fu, rfl⟩ : ∃ m, fu = m + 1 := ⟨fu - 1, by omega⟩
      rcases hs (zl5 f fu) i a1 a2 a3 a4 (by omega) q with h | ⟨b1, b2, b3, b4, q2, h⟩
      · exact h
      · obtain ⟨r, h1, h2⟩ := ih (i + 1) b1 b2 b3 b4 (by omega) q2 fu (by omega)
        exact ⟨r, h.trans h1, h2⟩
  exact key (N - i0) i0 c1 c2 c3 c4 (by omega) h0 FU (by unfold FU; omega)
theorem zl6_ex {A1 A2 A3 A4 A5 B : Type} {f : (A1 → A2 → A3 → A4 → A5 → Int32 → Option B) → A1 → A2 → A3 → A4 → A5 → Int32 → Option B} (N i0 : Nat) (I : Nat → A1 → A2 → A3 → A4 → A5 → Prop) (Q : B → Prop) {c1 : A1} {c2 : A2} {c3 : A3} {c4 : A4} {c5 : A5} (hN : N < 6000) (hi : i0 ≤ N) (h0 : I i0 c1 c2 c3 c4 c5) (hs : ∀ (k : A1 → A2 → A3 → A4 → A5 → Int32 → Option B) (i : Nat) (a1 : A1) (a2 : A2) (a3 : A3) (a4 : A4) (a5 : A5), i < N → I i a1 a2 a3 a4 a5 → (∃ r, f k a1 a2 a3 a4 a5 (nI i) = some r ∧ Q r) ∨ ∃ b1 : A1, ∃ b2 : A2, ∃ b3 : A3, ∃ b4 : A4, ∃ b5 : A5, I (i + 1) b1 b2 b3 b4 b5 ∧ f k a1 a2 a3 a4 a5 (nI i) = k b1 b2 b3 b4 b5 (nI (i + 1))) (he : ∀ (k : A1 → A2 → A3 → A4 → A5 → Int32 → Option B) (a1 : A1) (a2 : A2) (a3 : A3) (a4 : A4) (a5 : A5), I N a1 a2 a3 a4 a5 → ∃ r, f k a1 a2 a3 a4 a5 (nI N) = some r ∧ Q r) : ∃ r, zl6 f FU c1 c2 c3 c4 c5 (nI i0) = some r ∧ Q r := by
  have key : ∀ (j i : Nat) (a1 : A1) (a2 : A2) (a3 : A3) (a4 : A4) (a5 : A5), i + j = N → I i a1 a2 a3 a4 a5 → ∀ fu, j < fu → ∃ r, zl6 f fu a1 a2 a3 a4 a5 (nI i) = some r ∧ Q r := by
    intro j
    induction j with
    | zero =>
      intro i a1 a2 a3 a4 a5 hi q fu hf
      obtain ⟨fu, rfl⟩ : ∃ m, fu = m + 1 := ⟨fu - 1, by omega⟩
      have e : i = N := by omega
      subst e
      exact he _ a1 a2 a3 a4 a5 q
    | succ j ih =>
      intro i a1 a2 a3 a4 a5 hi q fu hf
      obtain ⟨fu, rfl⟩ : ∃ m, fu = m + 1 := ⟨fu - 1, by omega⟩
      rcases hs (zl6 f fu) i a1 a2 a3 a4 a5 (by omega) q with h | ⟨b1, b2, b3, b4, b5, q2, h⟩
      · exact h
      · obtain ⟨r, h1, h2⟩ := ih (i + 1) b1 b2 b3 b4 b5 (by omega) q2 fu (by omega)
        exact ⟨r, h.trans h1, h2⟩
  exact key (N - i0) i0 c1 c2 c3 c4 c5 (by omega) h0 FU (by unfold FU; omega)
theorem zl7_ex {A1 A2 A3 A4 A5 A6 B : Type} {f : (A1 → A2 → A3 → A4 → A5 → A6 → Int32 → Option B) → A1 → A2 → A3 → A4 → A5 → A6 → Int32 → Option B} (N i0 : Nat) (I : Nat → A1 → A2 → A3 → A4 → A5 → A6 → Prop) (Q : B → Prop) {c1 : A1} {c2 : A2} {c3 : A3} {c4 : A4} {c5 : A5} {c6 : A6} (hN : N < 6000) (hi : i0 ≤ N) (h0 : I i0 c1 c2 c3 c4 c5 c6) (hs : ∀ (k : A1 → A2 → A3 → A4 → A5 → A6 → Int32 → Option B) (i : Nat) (a1 : A1) (a2 : A2) (a3 : A3) (a4 : A4) (a5 : A5) (a6 : A6), i < N → I i a1 a2 a3 a4 a5 a6 → (∃ r, f k a1 a2 a3 a4 a5 a6 (nI i) = some r ∧ Q r) ∨ ∃ b1 : A1, ∃ b2 : A2, ∃ b3 : A3, ∃ b4 : A4, ∃ b5 : A5, ∃ b6 : A6, I (i + 1) b1 b2 b3 b4 b5 b6 ∧ f k a1 a2 a3 a4 a5 a6 (nI i) = k b1 b2 b3 b4 b5 b6 (nI (i + 1))) (he : ∀ (k : A1 → A2 → A3 → A4 → A5 → A6 → Int32 → Option B) (a1 : A1) (a2 : A2) (a3 : A3) (a4 : A4) (a5 : A5) (a6 : A6), I N a1 a2 a3 a4 a5 a6 → ∃ r, f k a1 a2 a3 a4 a5 a6 (nI N) = some r ∧ Q r) : ∃ r, zl7 f FU c1 c2 c3 c4 c5 c6 (nI i0) = some r ∧ Q r := by
  have key : ∀ (j i : Nat) (a1 : A1) (a2 : A2) (a3 : A3) (a4 : A4) (a5 : A5) (a6 : A6), i + j = N → I i a1 a2 a3 a4 a5 a6 → ∀ fu, j < fu → ∃ r, zl7 f fu a1 a2 a3 a4 a5 a6 (nI i) = some r ∧ Q r := by
    intro j
    induction j with
    | zero =>
      intro i a1 a2 a3 a4 a5 a6 hi q fu hf
      obtain ⟨fu, rfl⟩ : ∃ m, fu = m + 1 := ⟨fu - 1, by omega⟩
      have e : i = N := by omega
      subst e
      exact he _ a1 a2 a3 a4 a5 a6 q
    | succ j ih =>
      intro i a1 a2 a3 a4 a5 a6 hi q fu hf
      obtain ⟨fu, rfl⟩ : ∃ m, fu = m + 1 := ⟨fu - 1, by omega⟩
      rcases hs (zl7 f fu) i a1 a2 a3 a4 a5 a6 (by omega) q with h | ⟨b1, b2, b3, b4, b5, b6, q2, h⟩
      · exact h
      · obtain ⟨r, h1, h2⟩ := ih (i + 1) b1 b2 b3 b4 b5 b6 (by omega) q2 fu (by omega)
        exact ⟨r, h.trans h1, h2⟩
  exact key (N - i0) i0 c1 c2 c3 c4 c5 c6 (by omega) h0 FU (by unfold FU; omega)
theorem zl8_ex {A1 A2 A3 A4 A5 A6 A7 B : Type} {f : (A1 → A2 → A3 → A4 → A5 → A6 → A7 → Int32 → Option B) → A1 → A2 → A3 → A4 → A5 → A6 → A7 → Int32 → Option B} (N i0 : Nat) (I : Nat → A1 → A2 → A3 → A4 → A5 → A6 → A7 → Prop) (Q : B → Prop) {c1 : A1} {c2 : A2} {c3 : A3} {c4 : A4} {c5 : A5} {c6 : A6} {c7 : A7} (hN : N < 6000) (hi : i0 ≤ N) (h0 : I i0 c1 c2 c3 c4 c5 c6 c7) (hs : ∀ (k : A1 → A2 → A3 → A4 → A5 → A6 → A7 → Int32 → Option B) (i : Nat) (a1 : A1) (a2 : A2) (a3 : A3) (a4 : A4) (a5 : A5) (a6 : A6) (a7 : A7), i < N → I i a1 a2 a3 a4 a5 a6 a7 → (∃ r, f k a1 a2 a3 a4 a5 a6 a7 (nI i) = some r ∧ Q r) ∨ ∃ b1 : A1, ∃ b2 : A2, ∃ b3 : A3, ∃ b4 : A4, ∃ b5 : A5, ∃ b6 : A6, ∃ b7 : A7, I (i + 1) b1 b2 b3 b4 b5 b6 b7 ∧ f k a1 a2 a3 a4 a5 a6 a7 (nI i) = k b1 b2 b3 b4 b5 b6 b7 (nI (i + 1))) (he : ∀ (k : A1 → A2 → A3 → A4 → A5 → A6 → A7 → Int32 → Option B) (a1 : A1) (a2 : A2) (a3 : A3) (a4 : A4) (a5 : A5) (a6 : A6) (a7 : A7), I N a1 a2 a3 a4 a5 a6 a7 → ∃ r, f k a1 a2 a3 a4 a5 a6 a7 (nI N) = some r ∧ Q r) : ∃ r, zl8 f FU c1 c2 c3 c4 c5 c6 c7 (nI i0) = some r ∧ Q r := by
  have key : ∀ (j i : Nat) (a1 : A1) (a2 : A2) (a3 : A3) (a4 : A4) (a5 : A5) (a6 : A6) (a7 : A7), i + j = N → I i a1 a2 a3 a4 a5 a6 a7 → ∀ fu, j < fu → ∃ r, zl8 f fu a1 a2 a3 a4 a5 a6 a7 (nI i) = some r ∧ Q r := by
    intro j
    induction j with
    | zero =>
      intro i a1 a2 a3 a4 a5 a6 a7 hi q fu hf
      obtain ⟨fu, rfl⟩ : ∃ m, fu = m + 1 := ⟨fu - 1, by omega⟩
      have e : i = N := by omega
      subst e
      exact he _ a1 a2 a3 a4 a5 a6 a7 q
    | succ j ih =>
      intro i a1 a2 a3 a4 a5 a6 a7 hi q fu hf
      obtain ⟨fu, rfl⟩ : ∃ m, fu = m + 1 := ⟨fu - 1, by omega⟩
      rcases hs (zl8 f fu) i a1 a2 a3 a4 a5 a6 a7 (by omega) q with h | ⟨b1, b2, b3, b4, b5, b6, b7, q2, h⟩
      · exact h
      · obtain ⟨r, h1, h2⟩ := ih (i + 1) b1 b2 b3 b4 b5 b6 b7 (by omega) q2 fu (by omega)
        exact ⟨r, h.trans h1, h2⟩
  exact key (N - i0) i0 c1 c2 c3 c4 c5 c6 c7 (by omega) h0 FU (by unfold FU; omega)
theorem zl9_ex {A1 A2 A3 A4 A5 A6 A7 A8 B : Type} {f : (A1 → A2 → A3 → A4 → A5 → A6 → A7 → A8 → Int32 → Option B) → A1 → A2 → A3 → A4 → A5 → A6 → A7 → A8 → Int32 → Option B} (N i0 : Nat) (I : Nat → A1 → A2 → A3 → A4 → A5 → A6 → A7 → A8 → Prop) (Q : B → Prop) {c1 : A1} {c2 : A2} {c3 : A3} {c4 : A4} {c5 : A5} {c6 : A6} {c7 : A7} {c8 : A8} (hN : N < 6000) (hi : i0 ≤ N) (h0 : I i0 c1 c2 c3 c4 c5 c6 c7 c8) (hs : ∀ (k : A1 → A2 → A3 → A4 → A5 → A6 → A7 → A8 → Int32 → Option B) (i : Nat) (a1 : A1) (a2 : A2) (a3 : A3) (a4 : A4) (a5 : A5) (a6 : A6) (a7 : A7) (a8 : A8), i < N → I i a1 a2 a3 a4 a5 a6 a7 a8 → (∃ r, f k a1 a2 a3 a4 a5 a6 a7 a8 (nI i) = some r ∧ Q r) ∨ ∃ b1 : A1, ∃ b2 : A2, ∃ b3 : A3, ∃ b4 : A4, ∃ b5 : A5, ∃ b6 : A6, ∃ b7 : A7, ∃ b8 : A8, I (i + 1) b1 b2 b3 b4 b5 b6 b7 b8 ∧ f k a1 a2 a3 a4 a5 a6 a7 a8 (nI i) = k b1 b2 b3 b4 b5 b6 b7 b8 (nI (i + 1))) (he : ∀ (k : A1 → A2 → A3 → A4 → A5 → A6 → A7 → A8 → Int32 → Option B) (a1 : A1) (a2 : A2) (a3 : A3) (a4 : A4) (a5 : A5) (a6 : A6) (a7 : A7) (a8 : A8), I N a1 a2 a3 a4 a5 a6 a7 a8 → ∃ r, f k a1 a2 a3 a4 a5 a6 a7 a8 (nI N) = some r ∧ Q r) : ∃ r, zl9 f FU c1 c2 c3 c4 c5 c6 c7 c8 (nI i0) = some r ∧ Q r := by
  have key : ∀ (j i : Nat) (a1 : A1) (a2 : A2) (a3 : A3) (a4 : A4) (a5 : A5) (a6 : A6) (a7 : A7) (a8 : A8), i + j = N → I i a1 a2 a3 a4 a5 a6 a7 a8 → ∀ fu, j < fu → ∃ r, zl9 f fu a1 a2 a3 a4 a5 a6 a7 a8 (nI i) = some r ∧ Q r := by
    intro j
    induction j with
    | zero =>
      intro i a1 a2 a3 a4 a5 a6 a7 a8 hi q fu hf
      obtain ⟨fu, rfl⟩ : ∃ m, fu = m + 1 := ⟨fu - 1, by omega⟩
      have e : i = N := by omega
      subst e
      exact he _ a1 a2 a3 a4 a5 a6 a7 a8 q
    | succ j ih =>
      intro i a1 a2 a3 a4 a5 a6 a7 a8 hi q fu hf
      obtain ⟨fu, rfl⟩ : ∃ m, fu = m + 1 := ⟨fu - 1, by omega⟩
      rcases hs (zl9 f fu) i a1 a2 a3 a4 a5 a6 a7 a8 (by omega) q with h | ⟨b1, b2, b3, b4, b5, b6, b7, b8, q2, h⟩
      · exact h
      · obtain ⟨r, h1, h2⟩ := ih (i + 1) b1 b2 b3 b4 b5 b6 b7 b8 (by omega) q2 fu (by omega)
        exact ⟨r, h.trans h1, h2⟩
  exact key (N - i0) i0 c1 c2 c3 c4 c5 c6 c7 c8 (by omega) h0 FU (by unfold FU; omega)
theorem zl10_ex {A1 A2 A3 A4 A5 A6 A7 A8 A9 B : Type} {f : (A1 → A2 → A3 → A4 → A5 → A6 → A7 → A8 → A9 → Int32 → Option B) → A1 → A2 → A3 → A4 → A5 → A6 → A7 → A8 → A9 → Int32 → Option B} (N i0 : Nat) (I : Nat → A1 → A2 → A3 → A4 → A5 → A6 → A7 → A8 → A9 → Prop) (Q : B → Prop) {c1 : A1} {c2 : A2} {c3 : A3} {c4 : A4} {c5 : A5} {c6 : A6} {c7 : A7} {c8 : A8} {c9 : A9} (hN : N < 6000) (hi : i0 ≤ N) (h0 : I i0 c1 c2 c3 c4 c5 c6 c7 c8 c9) (hs : ∀ (k : A1 → A2 → A3 → A4 → A5 → A6 → A7 → A8 → A9 → Int32 → Option B) (i : Nat) (a1 : A1) (a2 : A2) (a3 : A3) (a4 : A4) (a5 : A5) (a6 : A6) (a7 : A7) (a8 : A8) (a9 : A9), i < N → I i a1 a2 a3 a4 a5 a6 a7 a8 a9 → (∃ r, f k a1 a2 a3 a4 a5 a6 a7 a8 a9 (nI i) = some r ∧ Q r) ∨ ∃ b1 : A1, ∃ b2 : A2, ∃ b3 : A3, ∃ b4 : A4, ∃ b5 : A5, ∃ b6 : A6, ∃ b7 : A7, ∃ b8 : A8, ∃ b9 : A9, I (i + 1) b1 b2 b3 b4 b5 b6 b7 b8 b9 ∧ f k a1 a2 a3 a4 a5 a6 a7 a8 a9 (nI i) = k b1 b2 b3 b4 b5 b6 b7 b8 b9 (nI (i + 1))) (he : ∀ (k : A1 → A2 → A3 → A4 → A5 → A6 → A7 → A8 → A9 → Int32 → Option B) (a1 : A1) (a2 : A2) (a3 : A3) (a4 : A4) (a5 : A5) (a6 : A6) (a7 : A7) (a8 : A8) (a9 : A9), I N a1 a2 a3 a4 a5 a6 a7 a8 a9 → ∃ r, f k a1 a2 a3 a4 a5 a6 a7 a8 a9 (nI N) = some r ∧ Q r) : ∃ r, zl10 f FU c1 c2 c3 c4 c5 c6 c7 c8 c9 (nI i0) = some r ∧ Q r := by
  have key : ∀ (j i : Nat) (a1 : A1) (a2 : A2) (a3 : A3) (a4 : A4) (a5 : A5) (a6 : A6) (a7 : A7) (a8 : A8) (a9 : A9), i + j = N → I i a1 a2 a3 a4 a5 a6 a7 a8 a9 → ∀ fu, j < fu → ∃ r, zl10 f fu a1 a2 a3 a4 a5 a6 a7 a8 a9 (nI i) = some r ∧ Q r := by
    intro j
    induction j with
    | zero =>
      intro i a1 a2 a3 a4 a5 a6 a7 a8 a9 hi q fu hf
      obtain ⟨fu, rfl⟩ : ∃ m, fu = m + 1 := ⟨fu - 1, by omega⟩
      have e : i = N := by omega
      subst e
      exact he _ a1 a2 a3 a4 a5 a6 a7 a8 a9 q
    | succ j ih =>
      intro i a1 a2 a3 a4 a5 a6 a7 a8 a9 hi q fu hf
      obtain ⟨fu, rfl⟩ : ∃ m, fu = m + 1 := ⟨fu - 1, by omega⟩
      rcases hs (zl10 f fu) i a1 a2 a3 a4 a5 a6 a7 a8 a9 (by omega) q with h | ⟨b1, b2, b3, b4, b5, b6, b7, b8, b9, q2, h⟩
      · exact h
      · obtain ⟨r, h1, h2⟩ := ih (i + 1) b1 b2 b3 b4 b5 b6 b7 b8 b9 (by omega) q2 fu (by omega)
        exact ⟨r, h.trans h1, h2⟩
  exact key (N - i0) i0 c1 c2 c3 c4 c5 c6 c7 c8 c9 (by omega) h0 FU (by unfold FU; omega)
