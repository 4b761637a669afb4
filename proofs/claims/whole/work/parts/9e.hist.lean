/-! what can be undone, and the images -/
def FR (R : SRows) (st : Nat → Int32) (n m c b : Nat) : Prop := RC R st n m c ∧ IS st n ∧ MK st b
def HR (Hi : SHi) (P : SPool) (S : SMo) (und kpt : Nat → Int32) (n m c b : Nat) : Prop := ∃ a i nw : Nat, a ≤ 16 ∧ i ≤ 3 ∧ nw < 16 ∧ Hi_actCount Hi = nI a ∧ Hi_imageCount Hi = nI i ∧ Hi_newest Hi = nI nw ∧ Mo_undos S = nI a ∧ Mo_images S = nI i ∧ (∀ j, j < a → FR (P.1 ((nw + 16 - j) % 16)) (fun k => und (325 * (a - 1 - j) + k)) n m c b) ∧ (∀ j, j < i → FR (P.2 j) (fun k => kpt (325 * j + k)) n m c b)
section
variable {R R2 : SRows} {S : SMo} {r st st' : Nat → Int32} {n m c b : Nat}
theorem FR_congr (h : ∀ i, i < 325 → st' i = st i) (H : FR R st n m c b) : FR R st' n m c b := ⟨RC_congr h H.1, IS_congr h (WS_n (RC_W H.1)).2.1 H.2.1, MK_congr h H.2.2⟩
theorem FR_mono {b' : Nat} (h : b ≤ b') (hb : b' < 2 ^ 29) (H : FR R st n m c b) : FR R st n m c b' := ⟨H.1, H.2.1, MK_mono h hb H.2.2⟩
theorem X6_takeOver (A B : SRows) : ∃ R', f_X6_takeOver A B = some R' ∧ ∀ st n m c, RC B st n m c → RC R' st n m c := by
  refine ⟨_, rfl, fun st n m c H => ?_⟩
  have e0 : (0 : Int32).toNatClampNeg = 0 := by decide
  have e6 : (6 : Int32).toNatClampNeg = 6 := by decide
  have e48 : (48 : Int32).toNatClampNeg = 48 := by decide
  rw [e0, e6, e48]
  have c6 : ∀ {f g : Nat → Int32} {j : Nat}, j < 6 → va_cpy f g 0 0 6 j = f j := fun {f g j} hj => by rw [pk_cpy_in (by omega) (by omega)]; congr 1; omega
  have c6L : ∀ {f g : Nat → Int64} {j : Nat}, j < 6 → va_cpy f g 0 0 6 j = f j := fun {f g j} hj => by rw [pk_cpy_in (by omega) (by omega)]; congr 1; omega
  have c48 : ∀ {f g : Nat → Int32} {j : Nat}, j < 48 → va_cpy f g 0 0 48 j = f j := fun {f g j} hj => by rw [pk_cpy_in (by omega) (by omega)]; congr 1; omega
  refine ⟨RC_W H, RC_c H, (kRows_ring).trans (RC_ring H), (kRows_rowCount).trans (RC_rc H), (kRows_crash).trans (RC_cr H), (kRows_nextStamp).trans (RC_nx H), fun t ht => RC_t H ht, fun w hw => ?_, fun v hv => ?_, ?_⟩
  · have h := RC_w H hw
    unfold RW at h ⊢
    rw [kRows_stamps, kRows_held, kRows_lostSlots, c6 hw, c6L hw]
    exact h
  · have h := RC_v H hv
    unfold RV at h ⊢
    rw [kRows_rowsOf, kRows_values, kRows_froms, kRows_tills, c48 hv, c48 hv, c48 hv, c48 hv]
    exact h
  · obtain ⟨cN, md, a1, a2, a3, a4, a5⟩ := RC_o H
    refine ⟨cN, md, (kRows_count).trans a1, a2, fun i hi => ?_, a4, a5⟩
    rw [kRows_made, c48 (by omega)]
    exact a3 i hi
theorem X6_takeOverF (A : SRows) {B : SRows} (H : FR B st n m c b) : ∃ R', f_X6_takeOver A B = some R' ∧ FR R' st n m c b := by
  obtain ⟨R', h1, h2⟩ := X6_takeOver A B
  exact ⟨R', h1, h2 _ _ _ _ H.1, H.2.1, H.2.2⟩
def bcU (S : SMo) (a : Nat) : SMo := sMo_undos S (nI a)
theorem M_become_50 {a : Nat} (ha : a < 16) (tr und : Nat → Int32) (hu : Mo_undos S = nI a) : b_X10_become_50 tr S st und = some (sMo_undos S (nI (a + 1)), fb_put st (fun j => tr (0 + j)) 0 325, fb_put und (fun j => st (0 + j)) (325 * a) 325) := by
  unfold b_X10_become_50
  have h1 : f_X10_copy 325 5200 st und (nI 0) (nI (325 * a)) (nI 325) = some (fb_put und (fun j => st (0 + j)) (325 * a) 325) := M_copy (p := 325) (q := 5200) (a := 0) (d := 325 * a) (k := 325) st und (by omega) (by omega) (by omega) (by omega)
  have h2 : f_X10_copy 325 325 tr st (nI 0) (nI 0) (nI 325) = some (fb_put st (fun j => tr (0 + j)) 0 325) := M_copy (p := 325) (q := 325) (a := 0) (d := 0) (k := 325) tr st (by omega) (by omega) (by omega) (by omega)
  simp (disch := omega) only [hu, pk_mul, h1, h2, ↓lm1, ↓lm2, i0, i1, i2, i3, i4, i5, i6, i7, i8, i9, i10, i12, i16, i20, i24, i31, i32, i44, i48, i57, i59, i63, i64, i74, i75, i90, i96, i97, i99, i100, i122, i139, i140, i144, i192, i200, i240, i255, i304, i309, i310, i311, i323, i324, i325, i899, i900, i975, i999, i5200, i4875, i65536, i65537, i15, ob_some, nI_add, nI_clamp, zn_zib, zn_eq, zn_lt, zn_le, m2_lt, m2_le, lt_m2, le_m2, eq_m2, m2_eq, m1_lt, m1_le, lt_m1, le_m1, eq_m1, m1_eq, m1_m2, m2_m1, m2_lt_m1, bI_0, bI_1, bI_t, bI_f, bI_bo, nI0_bo, nI1_bo, if_true, if_false, ite_true, ite_false, Nat.zero_add, Nat.not_lt_zero, Nat.zero_le, not_true_eq_false, not_false_eq_true, or_false, false_or, true_or, or_true, and_true, true_and, Bool.false_eq_true, Bool.true_eq_false, reduceCtorEq, eq_self]
  rfl
theorem M_become_sh (hu : Mo_undos S = nI 16) (tr und : Nat → Int32) : f_X10_become S st tr und = b_X10_become_50 tr (sMo_undos S (nI 15)) st (fb_put und (fun j => und (j + 325)) 0 4875) := by
  unfold f_X10_become
  have q : Mo_undos S = 16 := hu
  rw [if_pos q]
  refine Eq.trans ?_ (zl4_fold (f := b_X10_become_11 tr) 4875 (fun _ => S) (fun _ => st) (fun i => fb_put und (fun j => und (j + 325)) 0 i) _ (by omega) (fun k i hi => ?_) (fun k => ?_))
  · rw [fb_put_0]
    rfl
  · have h1 : ¬ 4875 ≤ i := by omega
    have e2 : fb_put und (fun j => und (j + 325)) 0 i (i + 325) = und (i + 325) := fb_put_out (by omega)
    have e3 := fb_put_succ und (fun j => und (j + 325)) 0 i
    rw [Nat.zero_add] at e3
    unfold b_X10_become_11
    rw [← e3]
    simp (disch := omega) only [h1, e2, ↓lm1, ↓lm2, i0, i1, i2, i3, i4, i5, i6, i7, i8, i9, i10, i12, i16, i20, i24, i31, i32, i44, i48, i57, i59, i63, i64, i74, i75, i90, i96, i97, i99, i100, i122, i139, i140, i144, i192, i200, i240, i255, i304, i309, i310, i311, i323, i324, i325, i899, i900, i975, i999, i5200, i4875, i65536, i65537, i15, ob_some, nI_add, nI_clamp, zn_zib, zn_eq, zn_lt, zn_le, m2_lt, m2_le, lt_m2, le_m2, eq_m2, m2_eq, m1_lt, m1_le, lt_m1, le_m1, eq_m1, m1_eq, m1_m2, m2_m1, m2_lt_m1, bI_0, bI_1, bI_t, bI_f, bI_bo, nI0_bo, nI1_bo, if_true, if_false, ite_true, ite_false, Nat.zero_add, Nat.not_lt_zero, Nat.zero_le, not_true_eq_false, not_false_eq_true, or_false, false_or, true_or, or_true, and_true, true_and, Bool.false_eq_true, Bool.true_eq_false, reduceCtorEq, eq_self]
  · unfold b_X10_become_11
    have q2 : (4875 : Int32) ≤ nI 4875 := by decide
    rw [if_pos q2, hu]
    rfl
end
