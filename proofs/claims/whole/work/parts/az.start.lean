/-! the start -/
theorem g_fill {N : Nat} (hN : N ≤ 48) : ∃ g, f_J7_fill_53178 N (fun _ => 0) (-2 : Int32) = some g ∧ ∀ k, k < N → g k = m2 := by
  obtain ⟨g, e, -, k⟩ := J_fill N hN (-2 : Int32) N 0 FU (fun _ => 0) (by omega) (by unfold FU; omega)
  refine ⟨g, ?_, fun i hi => k i (by omega) hi⟩
  unfold f_J7_fill_53178
  exact e
def S0M : SMo := mkMo (0) (0) (0) (0) (0) (0) (0) (0) (0) (-1) (0) (0) (0) (0) (0) (0) (0) (0) (0) (0) (0) (0) (0) (0)
theorem IV_start {g1 g2 : Nat → Int32} (h1 : ∀ k, k < 6 → g1 k = m2) (h2 : ∀ k, k < 48 → g2 k = m2) : IV (S0X g1 g2).1 (S0X g1 g2).2.2.1 (S0X g1 g2).2.2.2.2.2.2.2.1 (S0X g1 g2).2.2.2.2.2.2.2.2 (S0X g1 g2).2.1 (S0X g1 g2).2.2.2.2.2.2.1 S0M (fun _ => 0) (fun _ => 0) (fun _ => 0) (fun _ => 0) (fun _ => 0) (fun _ => 0) (fun _ => 0) (fun _ => 0) 1000 := by
  refine ⟨Or.inl ⟨⟨rfl, rfl, rfl, rfl, rfl, rfl, h1, h2⟩, ⟨rfl, rfl, ⟨0, by decide, rfl⟩, rfl, rfl⟩⟩, Or.inl ⟨rfl, rfl, rfl, rfl⟩, rfl, rfl, fun x => ?_, ⟨0, fun _ => 0, by decide, rfl, rfl, fun i hi => absurd hi (Nat.not_lt_zero i)⟩, fun _ => rfl⟩
  exact absurd x (by decide)
