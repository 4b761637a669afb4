section
variable {R R2 : SRows} {S : SMo} {r st st' : Nat → Int32} {n m c b : Nat}
def SU (S S' : SMo) : Prop := Mo_trouble S' = Mo_trouble S ∧ Mo_taped S' = Mo_taped S ∧ Mo_fault S' = Mo_fault S ∧ Mo_place S' = Mo_place S ∧ Mo_hasStore S' = Mo_hasStore S ∧ Mo_images S' = Mo_images S ∧ Mo_ring S' = Mo_ring S
theorem keep_become {Hi : SHi} {P : SPool} {und kpt : Nat → Int32} (F : FR R st n m c b) (H : HR Hi P S und kpt n m c b) (tr : Nat → Int32) : ∃ Hi' P' S' st1 und', f_X4_keep R Hi P = some (Hi', P') ∧ f_X10_become S st tr und = some (S', st1, und') ∧ (∀ i, i < 325 → st1 i = tr i) ∧ HR Hi' P' S' und' kpt n m c b ∧ SU S S' := by
  obtain ⟨a, i, nw, ha, hi, hnw, e1, e2, e3, e4, e5, h1, h2⟩ := H
  have hst1 : ∀ k, k < 325 → fb_put st (fun j => tr (0 + j)) 0 325 k = tr k := fun k hk => by rw [put_in hk, Nat.zero_add]
  obtain ⟨nw', hnw', enw⟩ : ∃ nw', nw' < 16 ∧ nw' = (nw + 1) % 16 := ⟨_, Nat.mod_lt _ (by omega), rfl⟩
  obtain ⟨R', t1, t2⟩ := X6_takeOverF (P.1 nw') F
  obtain ⟨a', ea'⟩ : ∃ a', a' = (if a + 1 < 16 then a + 1 else 16) := ⟨_, rfl⟩
  have hkeep : f_X4_keep R Hi P = some (mkHi (nI a') (nI i) (nI nw'), (va_up P.1 nw' R', P.2)) := by
    have k22 : ∀ u, u < 16 → u = nw' → b_X4_keep_22 R Hi P (nI u) = some (mkHi (nI a') (nI i) (nI nw'), (va_up P.1 nw' R', P.2)) := fun u hu eu => by
      subst eu
      unfold b_X4_keep_22
      by_cases q : a + 1 < 16
      · simp (disch := omega) only [e1, e2, t1, q, ↓lm1, ↓lm2, i0, i1, i2, i3, i4, i5, i6, i7, i8, i9, i10, i12, i16, i20, i24, i31, i32, i44, i48, i57, i59, i63, i64, i74, i75, i90, i96, i97, i99, i100, i122, i139, i140, i144, i192, i200, i240, i255, i304, i309, i310, i311, i323, i324, i325, i899, i900, i975, i999, i5200, i4875, i65536, i65537, i15, ob_some, nI_add, nI_clamp, zn_zib, zn_eq, zn_lt, zn_le, m2_lt, m2_le, lt_m2, le_m2, eq_m2, m2_eq, m1_lt, m1_le, lt_m1, le_m1, eq_m1, m1_eq, m1_m2, m2_m1, m2_lt_m1, bI_0, bI_1, bI_t, bI_f, bI_bo, nI0_bo, nI1_bo, if_true, if_false, ite_true, ite_false, Nat.zero_add, Nat.not_lt_zero, Nat.zero_le, not_true_eq_false, not_false_eq_true, or_false, false_or, true_or, or_true, and_true, true_and, Bool.false_eq_true, Bool.true_eq_false, reduceCtorEq, eq_self]
        rw [ea', if_pos q]
      · simp (disch := omega) only [e1, e2, t1, q, ↓lm1, ↓lm2, i0, i1, i2, i3, i4, i5, i6, i7, i8, i9, i10, i12, i16, i20, i24, i31, i32, i44, i48, i57, i59, i63, i64, i74, i75, i90, i96, i97, i99, i100, i122, i139, i140, i144, i192, i200, i240, i255, i304, i309, i310, i311, i323, i324, i325, i899, i900, i975, i999, i5200, i4875, i65536, i65537, i15, ob_some, nI_add, nI_clamp, zn_zib, zn_eq, zn_lt, zn_le, m2_lt, m2_le, lt_m2, le_m2, eq_m2, m2_eq, m1_lt, m1_le, lt_m1, le_m1, eq_m1, m1_eq, m1_m2, m2_m1, m2_lt_m1, bI_0, bI_1, bI_t, bI_f, bI_bo, nI0_bo, nI1_bo, if_true, if_false, ite_true, ite_false, Nat.zero_add, Nat.not_lt_zero, Nat.zero_le, not_true_eq_false, not_false_eq_true, or_false, false_or, true_or, or_true, and_true, true_and, Bool.false_eq_true, Bool.true_eq_false, reduceCtorEq, eq_self]
        rw [ea', if_neg q]
    unfold f_X4_keep
    rw [e3]
    have e : nI nw + 1 = nI (nw + 1) := nI_1 nw
    rw [e]
    by_cases q : 16 ≤ nw + 1
    · have q2 : (16 : Int32) ≤ nI (nw + 1) := by
        show nI 16 ≤ nI (nw + 1)
        rw [zn_le (by omega) (by omega)]
        exact q
      rw [if_pos q2]
      exact k22 0 (by omega) (by omega)
    · have q2 : ¬ (16 : Int32) ≤ nI (nw + 1) := by
        show ¬ nI 16 ≤ nI (nw + 1)
        rw [zn_le (by omega) (by omega)]
        exact q
      rw [if_neg q2]
      exact k22 (nw + 1) (by omega) (by omega)
  have pool : ∀ j, j < 16 → (va_up P.1 nw' R') ((nw' + 16 - j) % 16) = if j = 0 then R' else P.1 ((nw + 16 - (j - 1)) % 16) := fun j hj => by
    unfold va_up
    by_cases q : j = 0
    · have : (nw' + 16 - j) % 16 = nw' := by omega
      rw [this, if_pos rfl, if_pos q]
    · have e : (nw' + 16 - j) % 16 = (nw + 16 - (j - 1)) % 16 := by omega
      have ne : ¬ (nw' + 16 - j) % 16 = nw' := by omega
      rw [if_neg ne, if_neg q, e]
  by_cases q : a = 16
  · subst q
    have hb := M_become_50 (S := sMo_undos S (nI 15)) (st := st) (a := 15) (by omega) tr (fb_put und (fun j => und (j + 325)) 0 4875) rfl
    refine ⟨_, _, _, _, _, hkeep, (M_become_sh e4 tr und).trans hb, hst1, ⟨16, i, nw', by omega, hi, hnw', by rw [ea']; rfl, rfl, rfl, rfl, e5, fun j hj => ?_, h2⟩, ⟨rfl, rfl, rfl, rfl, rfl, rfl, rfl⟩⟩
    show FR ((va_up P.1 nw' R') ((nw' + 16 - j) % 16)) _ n m c b
    rw [pool j hj]
    by_cases z : j = 0
    · rw [if_pos z]
      refine FR_congr (fun k hk => ?_) t2
      subst z
      have e : 0 + (325 * (16 - 1 - 0) + k - 325 * 15) = k := by omega
      exact (fb_put_in (by omega) (by omega)).trans (congrArg st e)
    · rw [if_neg z]
      refine FR_congr (fun k hk => ?_) (h1 (j - 1) (by omega))
      have e : 325 * (16 - 1 - j) + k - 0 + 325 = 325 * (16 - 1 - (j - 1)) + k := by omega
      exact (fb_put_out (by omega)).trans ((fb_put_in (by omega) (by omega)).trans (congrArg und e))
  · have hb := M_become_50 (S := S) (st := st) (a := a) (by omega) tr und e4
    have hbe : f_X10_become S st tr und = b_X10_become_50 tr S st und := by
      unfold f_X10_become
      have ne : ¬ Mo_undos S = 16 := by
        rw [e4]
        show ¬ nI a = nI 16
        rw [zn_eq (by omega) (by omega)]
        exact q
      rw [if_neg ne]
    have ea2 : a' = a + 1 := by rw [ea']; split <;> omega
    refine ⟨_, _, _, _, _, hkeep, hbe.trans hb, hst1, ⟨a + 1, i, nw', by omega, hi, hnw', by rw [ea2]; rfl, rfl, rfl, rfl, e5, fun j hj => ?_, h2⟩, ⟨rfl, rfl, rfl, rfl, rfl, rfl, rfl⟩⟩
    show FR ((va_up P.1 nw' R') ((nw' + 16 - j) % 16)) _ n m c b
    rw [pool j (by omega)]
    by_cases z : j = 0
    · rw [if_pos z]
      refine FR_congr (fun k hk => ?_) t2
      subst z
      have e : 0 + (325 * (a + 1 - 1 - 0) + k - 325 * a) = k := by omega
      exact (fb_put_in (by omega) (by omega)).trans (congrArg st e)
    · rw [if_neg z]
      refine FR_congr (fun k hk => ?_) (h1 (j - 1) (by omega))
      have e : 325 * (a + 1 - 1 - j) + k = 325 * (a - 1 - (j - 1)) + k := by omega
      exact (fb_put_out (by omega)).trans (congrArg und e)
end
