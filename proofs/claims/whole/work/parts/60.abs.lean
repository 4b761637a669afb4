/-! longs as sets, going on -/
theorem lb_ext {x y : Int64} (h : ∀ i, i < 64 → lb x i = lb y i) : x = y := wb_inj (BitVec.eq_of_getLsbD_eq (fun i hi => h i hi))
theorem lb_big {x : Int64} {i : Nat} (h : 64 ≤ i) : lb x i = false := BitVec.getLsbD_of_ge _ _ h
theorem lb_0 (i : Nat) : lb 0 i = false := by
  unfold lb
  simp
theorem lb_or (x y : Int64) (i : Nat) : lb (x ||| y) i = (lb x i || lb y i) := by
  unfold lb
  simp
theorem lb_and (x y : Int64) (i : Nat) : lb (x &&& y) i = (lb x i && lb y i) := by
  unfold lb
  simp
theorem lb_xor (x y : Int64) (i : Nat) : lb (x ^^^ y) i = (lb x i ^^ lb y i) := by
  unfold lb
  simp
theorem lb_m1 {i : Nat} (h : i < 64) : lb (-1) i = true := by
  have : ∀ j : Fin 64, lb (-1) j.1 = true := by decide
  exact this ⟨i, h⟩
theorem lb_one {k : Nat} (hk : k < 64) (i : Nat) : lb (jlshl 1 (nI k)) i = decide (i = k) := by
  by_cases hi : i < 64
  · have : ∀ a b : Fin 64, lb (jlshl 1 (nI a.1)) b.1 = decide (b.1 = a.1) := by decide +kernel
    exact this ⟨k, hk⟩ ⟨i, hi⟩
  · rw [lb_big (by omega)]
    have : i ≠ k := by omega
    simp [this]
theorem bitOf_nI {k : Nat} (hk : k < 64) : f_X6_bitOf (nI k) = some (jlshl 1 (nI k)) := by
  unfold f_X6_bitOf
  rw [if_pos (nI_pos' (by omega))]
theorem bitOf_neg {x : Int32} (h : x < 0) : f_X6_bitOf x = some 0 := by
  unfold f_X6_bitOf
  rw [if_neg (fun q => absurd h (Int32.not_lt.mpr q))]
