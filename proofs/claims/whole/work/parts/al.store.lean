/-! a store, as a call -/
theorem fct_f : ∀ n, fb_ct (fun _ => false) n = 0
  | 0 => rfl
  | n + 1 => by
    rw [fb_ct_succ, fct_f n]
    rfl
section
variable {R : SRows} {st : Nat → Int32} {n m c : Nat}
theorem RO_ct2 (H : RC R st n m c) : Rows_count R = nI (fb_ct (lv st) 48) := by
  obtain ⟨cN, md, a1, a2, a3, a4, a5⟩ := RC_o H
  have key : ∀ k, k ≤ cN → fb_ct (fun v => an (fun i => decide (md i = v)) k) 48 = k := by
    intro k
    induction k with
    | zero => exact fun _ => fct_f 48
    | succ k ih =>
      intro hk
      have h1 := fb_ct_one (p := fun v => an (fun i => decide (md i = v)) k) (a := md k) (n := 48) (a3 k (by omega)).2.1 (by
        cases z : an (fun i => decide (md i = md k)) k
        · rfl
        · obtain ⟨i, hi, e⟩ := an_iff.mp z
          have e := of_decide_eq_true e
          have h2 := a4 i k hi (by omega)
          rw [e] at h2
          omega)
      rw [ih (by omega)] at h1
      exact h1
  rw [a1, ← key cN (Nat.le_refl _)]
  congr 1
  refine fb_ct_cong (fun v hv => ?_)
  cases z : lv st v
  · cases y : an (fun i => decide (md i = v)) cN
    · rfl
    · obtain ⟨i, hi, e⟩ := an_iff.mp y
      have e := of_decide_eq_true e
      have h3 := (a3 i hi).2.2
      rw [e] at h3
      exact absurd (of_decide_eq_false z) (fun w => w h3)
  · obtain ⟨i, hi, e⟩ := a5 v hv (of_decide_eq_true z)
    exact an_iff.mpr ⟨i, hi, decide_eq_true e⟩
theorem M_versionsOf (W : WS st n m) : f_X10_versionsOf st = some (nI (fb_ct (lv st) 48)) := by
  have hm := WS_m W
  unfold f_X10_versionsOf
  rw [← cI_ct]
  refine Eq.trans ?_ (zl2_fold (f := b_X10_versionsOf_4 st) 48 (cI (lv st)) _ (by omega) (fun k i hi => ?_) (fun k => ?_))
  · rfl
  · have b1 : ¬ 48 ≤ i := by omega
    unfold b_X10_versionsOf_4
    rw [cI_s]
    rcases WS_l W hi with e | ⟨r, hr, e⟩
    · have l0 : 0 ≤ 0 := Nat.le_refl 0
      simp (disch := omega) only [b1, e, lv_f e, l0, add_n0, ↓lm1, ↓lm2, i0, i1, i2, i3, i4, i5, i6, i7, i8, i9, i10, i12, i16, i20, i24, i31, i32, i44, i48, i57, i59, i63, i64, i74, i75, i90, i96, i97, i99, i100, i122, i139, i140, i144, i192, i200, i240, i255, i304, i309, i310, i311, i323, i324, i325, i899, i900, i975, i999, i5200, i4875, i65536, i65537, i15, ob_some, nI_add, nI_clamp, zn_zib, zn_eq, zn_lt, zn_le, m2_lt, m2_le, lt_m2, le_m2, eq_m2, m2_eq, m1_lt, m1_le, lt_m1, le_m1, eq_m1, m1_eq, m1_m2, m2_m1, m2_lt_m1, bI_0, bI_1, bI_t, bI_f, bI_bo, nI0_bo, nI1_bo, if_true, if_false, ite_true, ite_false, Nat.zero_add, Nat.not_lt_zero, Nat.zero_le, not_true_eq_false, not_false_eq_true, or_false, false_or, true_or, or_true, and_true, true_and, Bool.false_eq_true, Bool.true_eq_false, reduceCtorEq, eq_self]
    · have l0 : ¬ r + 1 ≤ 0 := by omega
      simp (disch := omega) only [b1, e, lv_t e (by omega : r < 100), l0, ↓lm1, ↓lm2, i0, i1, i2, i3, i4, i5, i6, i7, i8, i9, i10, i12, i16, i20, i24, i31, i32, i44, i48, i57, i59, i63, i64, i74, i75, i90, i96, i97, i99, i100, i122, i139, i140, i144, i192, i200, i240, i255, i304, i309, i310, i311, i323, i324, i325, i899, i900, i975, i999, i5200, i4875, i65536, i65537, i15, ob_some, nI_add, nI_clamp, zn_zib, zn_eq, zn_lt, zn_le, m2_lt, m2_le, lt_m2, le_m2, eq_m2, m2_eq, m1_lt, m1_le, lt_m1, le_m1, eq_m1, m1_eq, m1_m2, m2_m1, m2_lt_m1, bI_0, bI_1, bI_t, bI_f, bI_bo, nI0_bo, nI1_bo, if_true, if_false, ite_true, ite_false, Nat.zero_add, Nat.not_lt_zero, Nat.zero_le, not_true_eq_false, not_false_eq_true, or_false, false_or, true_or, or_true, and_true, true_and, Bool.false_eq_true, Bool.true_eq_false, reduceCtorEq, eq_self]
  · have b1 : (48 : Int32) ≤ nI 48 := by decide
    unfold b_X10_versionsOf_4
    rw [if_pos b1]
end
section
variable {S : SMo} {fr lt mk og oq on ow r rd sl st tl tp : Nat → Int32} {x : Int32}
theorem M_i39 : ∀ (j i fu : Nat) (fr : Nat → Int32), i + j = 140 → j < fu → ∃ fr', zl14 (b_X10_store_39 tp x) fu S fr lt mk og oq on ow r rd sl st tl (nI i) = zl14 (b_X10_store_61 tp x) FU S fr' lt mk og oq on ow r rd sl st tl (nI 0) ∧ (∀ k, k < i → fr' k = fr k) ∧ ∀ k, i ≤ k → k < 140 → fr' k = nI 0 := by
  intro j
  induction j with
  | zero =>
    intro i fu fr hi hf
    obtain ⟨fu, rfl⟩ : ∃ m, fu = m + 1 := ⟨fu - 1, by omega⟩
    have h1 : (140 : Int32) ≤ nI i := by
      show nI 140 ≤ nI i
      rw [zn_le (by omega) (by omega)]
      omega
    refine ⟨fr, ?_, fun k _ => rfl, fun k h2 h3 => by omega⟩
    rw [zl14_s]
    unfold b_X10_store_39
    rw [if_pos h1]
    rfl
  | succ j ih =>
    intro i fu fr hi hf
    obtain ⟨fu, rfl⟩ : ∃ m, fu = m + 1 := ⟨fu - 1, by omega⟩
    have h1 : ¬ (140 : Int32) ≤ nI i := by
      show ¬ nI 140 ≤ nI i
      rw [zn_le (by omega) (by omega)]
      omega
    obtain ⟨g, g1, g2, g3⟩ := ih (i + 1) fu (upd fr i (nI 0)) (by omega) (by omega)
    refine ⟨g, ?_, fun k hk => (g2 k (by omega)).trans (upd_ne (by omega)), fun k h2 h3 => ?_⟩
    · rw [← g1, zl14_s]
      generalize zl14 (b_X10_store_39 tp x) fu = G
      unfold b_X10_store_39
      rw [if_neg h1, if_pos (nI_in (by omega) (by omega)), nI_clamp (by omega), nI_1]
      rfl
    · by_cases z : k = i
      · rw [z, g2 i (by omega)]
        exact upd_eq
      · exact g3 k (by omega) h3
theorem M_i61 : ∀ (j i fu : Nat) (rd : Nat → Int32), i + j = 325 → j < fu → ∃ rd', zl14 (b_X10_store_61 tp x) fu S fr lt mk og oq on ow r rd sl st tl (nI i) = zl14 (b_X10_store_100 tp x) FU S fr lt mk og oq on ow r rd' sl st tl (nI 0) ∧ (∀ k, k < i → rd' k = rd k) ∧ ∀ k, i ≤ k → k < 325 → rd' k = if 304 ≤ k ∧ k ≤ 309 then m1 else nI 0 := by
  intro j
  induction j with
  | zero =>
    intro i fu rd hi hf
    obtain ⟨fu, rfl⟩ : ∃ m, fu = m + 1 := ⟨fu - 1, by omega⟩
    have h1 : (325 : Int32) ≤ nI i := by
      show nI 325 ≤ nI i
      rw [zn_le (by omega) (by omega)]
      omega
    refine ⟨rd, ?_, fun k _ => rfl, fun k h2 h3 => by omega⟩
    rw [zl14_s]
    unfold b_X10_store_61
    rw [if_pos h1]
    rfl
  | succ j ih =>
    intro i fu rd hi hf
    obtain ⟨fu, rfl⟩ : ∃ m, fu = m + 1 := ⟨fu - 1, by omega⟩
    have h1 : ¬ (325 : Int32) ≤ nI i := by
      show ¬ nI 325 ≤ nI i
      rw [zn_le (by omega) (by omega)]
      omega
    have hin : f_X10_in (nI i) (304 : Int32) (309 : Int32) = some (bI (decide (304 ≤ i) && decide (i ≤ 309))) := M_in2 (a := i) (b := 304) (c := 309) (by omega) (by omega) (by omega)
    obtain ⟨g, g1, g2, g3⟩ := ih (i + 1) fu (upd rd i (if 304 ≤ i ∧ i ≤ 309 then m1 else nI 0)) (by omega) (by omega)
    refine ⟨g, ?_, fun k hk => (g2 k (by omega)).trans (upd_ne (by omega)), fun k h2 h3 => ?_⟩
    · rw [← g1, zl14_s]
      generalize zl14 (b_X10_store_61 tp x) fu = G
      unfold b_X10_store_61
      rw [if_neg h1, hin, ob_some]
      by_cases y : 304 ≤ i ∧ i ≤ 309
      · rw [decide_eq_true y.1, decide_eq_true y.2, if_neg (by decide), if_pos (nI_in (by omega) (by omega)), nI_clamp (by omega), nI_1, if_pos y]
        rfl
      · have e : (decide (304 ≤ i) && decide (i ≤ 309)) = false := by
          by_cases y1 : 304 ≤ i
          · rw [decide_eq_true y1, decide_eq_false (by omega)]
            rfl
          · rw [decide_eq_false y1]
            rfl
        rw [e, if_pos (by decide), if_pos (nI_in (by omega) (by omega)), nI_clamp (by omega), nI_1, if_neg y]
        rfl
    · by_cases z : k = i
      · rw [z, g2 i (by omega)]
        exact upd_eq
      · exact g3 k (by omega) h3
theorem M_i100 : ∀ (j i fu : Nat) (ow : Nat → Int32), i + j = 64 → j < fu → ∃ ow', zl14 (b_X10_store_100 tp x) fu S fr lt mk og oq on ow r rd sl st tl (nI i) = zl14 (b_X10_store_121 tp x) FU S fr lt mk og oq on ow' r rd sl st tl (nI 0) := by
  intro j
  induction j with
  | zero =>
    intro i fu ow hi hf
    obtain ⟨fu, rfl⟩ : ∃ m, fu = m + 1 := ⟨fu - 1, by omega⟩
    have h1 : (64 : Int32) ≤ nI i := by
      show nI 64 ≤ nI i
      rw [zn_le (by omega) (by omega)]
      omega
    refine ⟨ow, ?_⟩
    rw [zl14_s]
    unfold b_X10_store_100
    rw [if_pos h1]
    rfl
  | succ j ih =>
    intro i fu ow hi hf
    obtain ⟨fu, rfl⟩ : ∃ m, fu = m + 1 := ⟨fu - 1, by omega⟩
    have h1 : ¬ (64 : Int32) ≤ nI i := by
      show ¬ nI 64 ≤ nI i
      rw [zn_le (by omega) (by omega)]
      omega
    obtain ⟨g, g1⟩ := ih (i + 1) fu (upd ow i (nI 0)) (by omega) (by omega)
    refine ⟨g, ?_⟩
    rw [← g1, zl14_s]
    generalize zl14 (b_X10_store_100 tp x) fu = G
    unfold b_X10_store_100
    rw [if_neg h1, if_pos (nI_in (by omega) (by omega)), nI_clamp (by omega), nI_1]
    rfl
theorem M_i121 : ∀ (j i fu : Nat) (sl : Nat → Int32), i + j = 12 → j < fu → ∃ sl', zl14 (b_X10_store_121 tp x) fu S fr lt mk og oq on ow r rd sl st tl (nI i) = (f_X10_step (sMo_end (sMo_size S x) (nI 0)) lt tp).bind (fun q12 => (f_X10_readLine q12.1 fr q12.2 mk oq ow rd sl' tp).bind (fun q13 => MRun tp x FU q13 og on r st tl)) := by
  intro j
  induction j with
  | zero =>
    intro i fu sl hi hf
    obtain ⟨fu, rfl⟩ : ∃ m, fu = m + 1 := ⟨fu - 1, by omega⟩
    have h1 : (12 : Int32) ≤ nI i := by
      show nI 12 ≤ nI i
      rw [zn_le (by omega) (by omega)]
      omega
    refine ⟨sl, ?_⟩
    rw [zl14_s]
    unfold b_X10_store_121
    rw [if_pos h1]
    rfl
  | succ j ih =>
    intro i fu sl hi hf
    obtain ⟨fu, rfl⟩ : ∃ m, fu = m + 1 := ⟨fu - 1, by omega⟩
    have h1 : ¬ (12 : Int32) ≤ nI i := by
      show ¬ nI 12 ≤ nI i
      rw [zn_le (by omega) (by omega)]
      omega
    obtain ⟨g, g1⟩ := ih (i + 1) fu (upd sl i (nI 0)) (by omega) (by omega)
    refine ⟨g, ?_⟩
    rw [← g1, zl14_s]
    generalize zl14 (b_X10_store_121 tp x) fu = G
    unfold b_X10_store_121
    rw [if_neg h1, if_pos (nI_in (by omega) (by omega)), nI_clamp (by omega), nI_1]
    rfl
variable {X : MXt}
theorem M235_f (hf : Mo_failed X.1 = nI 1) : b_X10_store_235 tp x X.1 X.2.1 X.2.2.1 X.2.2.2.1 og X.2.2.2.2.1 on X.2.2.2.2.2.1 r X.2.2.2.2.2.2.1 X.2.2.2.2.2.2.2 st tl = some (m1, sMo_trouble (sMo_ring X.1 (r 0)) (nI 4), X.2.1, X.2.2.1, X.2.2.2.1, og, X.2.2.2.2.1, on, X.2.2.2.2.2.1, r, X.2.2.2.2.2.2.1, X.2.2.2.2.2.2.2, st, tl) := by
  have h' : ¬ Mo_failed X.1 = 0 := by rw [hf]; decide
  have z0' : (0 : Int32).toNatClampNeg = 0 := by decide
  unfold b_X10_store_235
  rw [if_neg h', if_pos (by decide), z0', M_no, ob_some]
  rfl
theorem M208_f (hf : Mo_failed X.1 = nI 1) : b_X10_store_208 tp x X.1 X.2.1 X.2.2.1 X.2.2.2.1 og X.2.2.2.2.1 on X.2.2.2.2.2.1 r X.2.2.2.2.2.2.1 X.2.2.2.2.2.2.2 st tl = some (m1, sMo_trouble (sMo_ring X.1 (r 0)) (nI 4), X.2.1, X.2.2.1, X.2.2.2.1, og, X.2.2.2.2.1, on, X.2.2.2.2.2.1, r, X.2.2.2.2.2.2.1, X.2.2.2.2.2.2.2, st, tl) := by
  have h' : ¬ Mo_failed X.1 = 0 := by rw [hf]; decide
  unfold b_X10_store_208
  rw [if_neg h', M235_f hf]
theorem M185_f (hf : Mo_failed X.1 = nI 1) : M185 tp x X og on r st tl = some (m1, sMo_trouble (sMo_ring X.1 (r 0)) (nI 4), X.2.1, X.2.2.1, X.2.2.2.1, og, X.2.2.2.2.1, on, X.2.2.2.2.2.1, r, X.2.2.2.2.2.2.1, X.2.2.2.2.2.2.2, st, tl) := by
  have h' : ¬ Mo_failed X.1 = 0 := by rw [hf]; decide
  unfold M185 b_X10_store_185
  rw [if_neg h', M208_f hf]
theorem M185_t (hf : Mo_failed X.1 = nI 0) (ht : ¬ Mo_token X.1 = nI 0) : M185 tp x X og on r st tl = some (m1, sMo_trouble (sMo_ring (wrS X.1 (nI 1) (Mo_at X.1)) (r 0)) (nI 4), X.2.1, X.2.2.1, X.2.2.2.1, og, X.2.2.2.2.1, on, X.2.2.2.2.2.1, r, X.2.2.2.2.2.2.1, X.2.2.2.2.2.2.2, st, tl) := by
  have h' : Mo_failed X.1 = 0 := hf
  have ht' : ¬ Mo_token X.1 = 0 := ht
  have h2 := M208_f (X := (wrS X.1 (nI 1) (Mo_at X.1), X.2)) (tp := tp) (x := x) (og := og) (on := on) (r := r) (st := st) (tl := tl) rfl
  unfold M185 b_X10_store_185
  rw [if_pos h', if_neg ht', M_wrong hf, ob_some]
  exact h2
theorem cp_all (p : Nat) (hp : p ≤ 325) (f g : Nat → Int32) : f_X10_copy p p f g (0 : Int32) (0 : Int32) (nI p) = some (fb_put g (fun j => f (0 + j)) 0 p) := M_copy (p := p) (q := p) (a := 0) (d := 0) (k := p) f g (by omega) (by omega) (by omega) (by omega)
theorem cp_in {p : Nat} {f g : Nat → Int32} {i : Nat} (hi : i < p) : fb_put g (fun j => f (0 + j)) 0 p i = f i := by
  rw [fb_put_in (by omega) (by omega), Nat.zero_add, Nat.sub_zero]
theorem M185_ok {n m : Nat} (hf : Mo_failed X.1 = nI 0) (ht : Mo_token X.1 = nI 0) (h7 : X.2.1 7 = nI 1) (W : WS X.2.2.2.2.2.2.1 n m) : M185 tp x X og on r st tl = some (nI (fb_ct (lv X.2.2.2.2.2.2.1) 48), sMo_images (sMo_undos (sMo_hasStore X.1 (nI 1)) (nI 0)) (nI 0), X.2.1, X.2.2.1, X.2.2.2.1, fb_put og (fun j => X.2.2.2.2.1 (0 + j)) 0 8, X.2.2.2.2.1, fb_put on (fun j => X.2.2.2.2.2.1 (0 + j)) 0 64, X.2.2.2.2.2.1, fb_put r (fun j => X.2.1 (0 + j)) 0 140, X.2.2.2.2.2.2.1, X.2.2.2.2.2.2.2, fb_put st (fun j => X.2.2.2.2.2.2.1 (0 + j)) 0 325, fb_put tl (fun j => X.2.2.2.2.2.2.1 (0 + j)) 0 325) := by
  have h' : Mo_failed X.1 = 0 := hf
  have ht' : Mo_token X.1 = 0 := ht
  have c1 : f_X10_copy 140 140 X.2.1 r (0 : Int32) (0 : Int32) (140 : Int32) = some (fb_put r (fun j => X.2.1 (0 + j)) 0 140) := cp_all 140 (by omega) _ _
  have c2 : f_X10_copy 325 325 X.2.2.2.2.2.2.1 tl (0 : Int32) (0 : Int32) (325 : Int32) = some (fb_put tl (fun j => X.2.2.2.2.2.2.1 (0 + j)) 0 325) := cp_all 325 (by omega) _ _
  have c3 : f_X10_copy 325 325 X.2.2.2.2.2.2.1 st (0 : Int32) (0 : Int32) (325 : Int32) = some (fb_put st (fun j => X.2.2.2.2.2.2.1 (0 + j)) 0 325) := cp_all 325 (by omega) _ _
  have c4 : f_X10_copy 64 64 X.2.2.2.2.2.1 on (0 : Int32) (0 : Int32) (64 : Int32) = some (fb_put on (fun j => X.2.2.2.2.2.1 (0 + j)) 0 64) := cp_all 64 (by omega) _ _
  have c5 : f_X10_copy 8 8 X.2.2.2.2.1 og (0 : Int32) (0 : Int32) (8 : Int32) = some (fb_put og (fun j => X.2.2.2.2.1 (0 + j)) 0 8) := cp_all 8 (by omega) _ _
  have W2 : WS (fb_put st (fun j => X.2.2.2.2.2.2.1 (0 + j)) 0 325) n m := WS_congr (fun i hi => cp_in hi) W
  have c6 := M_versionsOf W2
  have c7 : fb_ct (lv (fb_put st (fun j => X.2.2.2.2.2.2.1 (0 + j)) 0 325)) 48 = fb_ct (lv X.2.2.2.2.2.2.1) 48 := fb_ct_cong (fun v hv => by
    unfold lv
    rw [cp_in (by omega)])
  have h7' : ¬ X.2.1 7 = 0 := by rw [h7]; decide
  unfold M185 b_X10_store_185
  rw [if_pos h', if_pos ht']
  unfold b_X10_store_208
  rw [if_pos h', if_pos (by decide), z7, if_neg h7']
  unfold b_X10_store_235
  rw [if_pos h', c1, ob_some, c2, ob_some, c3, ob_some, c4, ob_some, c5, ob_some, c6, ob_some, c7]
  rfl
end
