/-! the calls: room when frozen, what one frees -/
section
variable {T : SSR} {R : SRows} {S : SMo} {r st st' : Nat → Int32} {n m c b : Nat}
def QT (T : SSR) (S : SMo) (a : Option (Int32 × SSR)) (b : Option (Int32 × SMo × (Nat → Int32))) : Prop := ∃ x q S' t, a = some (x, sSR_troubleNumber T q) ∧ b = some (x, S', t) ∧ SA S S' q
def QTT (T : SSR) (S : SMo) (a : Option (Int32 × SSR)) (b : Option (Int32 × SMo × (Nat → Int32) × (Nat → Int32))) : Prop := ∃ x q S' t u, a = some (x, sSR_troubleNumber T q) ∧ b = some (x, S', t, u) ∧ SA S S' q
theorem t_roomFrozen (h : QQ R S r st b) (mk tr : Nat → Int32) : QTT T S (f_X9_roomFrozen T R) (f_X10_roomFrozen S mk st tr) := by
  obtain ⟨hs, g1, g2, g3⟩ := g_has (T := T) h
  have g2 : Mo_hasStore (AN S) = bI hs := g2
  unfold f_X9_roomFrozen f_X10_roomFrozen
  cases hs
  · exact ⟨m1, nI 1, _, mk, tr, by simp (disch := omega) only [g1, M_anew, M_no, X9_ans, X9_ref, M_why0, M_why10, M_why11, ↓lm1, ↓lm2, i0, i1, i2, i3, i4, i5, i6, i7, i8, i9, i10, i12, i16, i20, i24, i31, i32, i44, i48, i57, i59, i63, i64, i74, i75, i90, i96, i97, i99, i100, i122, i139, i140, i144, i192, i200, i240, i255, i304, i309, i310, i311, i323, i324, i325, i899, i900, i975, i999, i5200, i4875, i65536, i65537, i15, ob_some, nI_add, nI_clamp, zn_zib, zn_eq, zn_lt, zn_le, m2_lt, m2_le, lt_m2, le_m2, eq_m2, m2_eq, m1_lt, m1_le, lt_m1, le_m1, eq_m1, m1_eq, m1_m2, m2_m1, m2_lt_m1, bI_0, bI_1, bI_t, bI_f, bI_bo, nI0_bo, nI1_bo, if_true, if_false, ite_true, ite_false, Nat.zero_add, Nat.not_lt_zero, Nat.zero_le, not_true_eq_false, not_false_eq_true, or_false, false_or, true_or, or_true, and_true, true_and, Bool.false_eq_true, Bool.true_eq_false, reduceCtorEq, eq_self], by simp (disch := omega) only [g2, M_anew, M_no, X9_ans, X9_ref, M_why0, M_why10, M_why11, ↓lm1, ↓lm2, i0, i1, i2, i3, i4, i5, i6, i7, i8, i9, i10, i12, i16, i20, i24, i31, i32, i44, i48, i57, i59, i63, i64, i74, i75, i90, i96, i97, i99, i100, i122, i139, i140, i144, i192, i200, i240, i255, i304, i309, i310, i311, i323, i324, i325, i899, i900, i975, i999, i5200, i4875, i65536, i65537, i15, ob_some, nI_add, nI_clamp, zn_zib, zn_eq, zn_lt, zn_le, m2_lt, m2_le, lt_m2, le_m2, eq_m2, m2_eq, m1_lt, m1_le, lt_m1, le_m1, eq_m1, m1_eq, m1_m2, m2_m1, m2_lt_m1, bI_0, bI_1, bI_t, bI_f, bI_bo, nI0_bo, nI1_bo, if_true, if_false, ite_true, ite_false, Nat.zero_add, Nat.not_lt_zero, Nat.zero_le, not_true_eq_false, not_false_eq_true, or_false, false_or, true_or, or_true, and_true, true_and, Bool.false_eq_true, Bool.true_eq_false, reduceCtorEq, eq_self], SA_no S (nI 1)⟩
  · obtain ⟨n, m, c, hq⟩ := g3 rfl
    have W := Q1_W hq
    have hn := WS_n W
    have hcp : f_X10_copy 325 325 st tr (nI 0) (nI 0) (nI 325) = some (fb_put tr (fun j => st (0 + j)) 0 325) := M_copy (p := 325) (q := 325) (a := 0) (d := 0) (k := 325) st tr (by omega) (by omega) (by omega) (by omega)
    have hag : ∀ i, i < 325 → fb_put tr (fun j => st (0 + j)) 0 325 i = st i := fun i hi => by rw [put_in hi, Nat.zero_add]
    generalize fb_put tr (fun j => st (0 + j)) 0 325 = t0 at hcp hag
    have H0 := RC_congr hag (Q1_H hq)
    have W0 := RC_W H0
    have hg := Q1_g hq
    obtain ⟨U, hU, hU2⟩ := X6_inUseWhenFrozen H0
    have hrm := X6_roomBeside H0 U hU2
    have hc1 := M_clearOn (S := AN S) hg W0 mk
    have W1 := clS_WS W0
    have hc2 := M_freezeOn (S := AN S) hg W1 (fun v => if v < 48 then bI (dp t0 n v) else mk v)
    have W2 := frS_WS W1
    have hro := M_roomOf (S := AN S) hg W2
    have h2 : ∀ i, 192 ≤ i → frS (clS t0 n) n 48 i = t0 i := fun i hi => by rw [frS_out (by omega) (by omega), clS_out (by omega)]
    have eq : rmI t0 n (iuf t0 n) = (if (fi (fun w => !rn (frS (clS t0 n) n 48) w) 6).isSome then (match mxo (iu (frS (clS t0 n) n 48)) (ag (frS (clS t0 n) n 48) n) n with
      | none => m2
      | some a => nI (n / 2 - a)) else nI 0) := by
      rw [room_eq W0 (fun t ht => by unfold iuf; rw [ht, Bool.or_true]), hi_rn h2, hi_ag h2, mxo_cong (fun t ht => iu_frozen W0 ht)]
      rfl
    have hro := hro.trans (congrArg some eq.symm)
    exact ⟨rmI t0 n (iuf t0 n), nI 0, AN S, _, _, by simp (disch := omega) only [g1, hU, hrm, M_anew, M_no, X9_ans, X9_ref, M_why0, M_why10, M_why11, ↓lm1, ↓lm2, i0, i1, i2, i3, i4, i5, i6, i7, i8, i9, i10, i12, i16, i20, i24, i31, i32, i44, i48, i57, i59, i63, i64, i74, i75, i90, i96, i97, i99, i100, i122, i139, i140, i144, i192, i200, i240, i255, i304, i309, i310, i311, i323, i324, i325, i899, i900, i975, i999, i5200, i4875, i65536, i65537, i15, ob_some, nI_add, nI_clamp, zn_zib, zn_eq, zn_lt, zn_le, m2_lt, m2_le, lt_m2, le_m2, eq_m2, m2_eq, m1_lt, m1_le, lt_m1, le_m1, eq_m1, m1_eq, m1_m2, m2_m1, m2_lt_m1, bI_0, bI_1, bI_t, bI_f, bI_bo, nI0_bo, nI1_bo, if_true, if_false, ite_true, ite_false, Nat.zero_add, Nat.not_lt_zero, Nat.zero_le, not_true_eq_false, not_false_eq_true, or_false, false_or, true_or, or_true, and_true, true_and, Bool.false_eq_true, Bool.true_eq_false, reduceCtorEq, eq_self], by simp (disch := omega) only [g2, hcp, hc1, hc2, hro, M_anew, M_no, X9_ans, X9_ref, M_why0, M_why10, M_why11, ↓lm1, ↓lm2, i0, i1, i2, i3, i4, i5, i6, i7, i8, i9, i10, i12, i16, i20, i24, i31, i32, i44, i48, i57, i59, i63, i64, i74, i75, i90, i96, i97, i99, i100, i122, i139, i140, i144, i192, i200, i240, i255, i304, i309, i310, i311, i323, i324, i325, i899, i900, i975, i999, i5200, i4875, i65536, i65537, i15, ob_some, nI_add, nI_clamp, zn_zib, zn_eq, zn_lt, zn_le, m2_lt, m2_le, lt_m2, le_m2, eq_m2, m2_eq, m1_lt, m1_le, lt_m1, le_m1, eq_m1, m1_eq, m1_m2, m2_m1, m2_lt_m1, bI_0, bI_1, bI_t, bI_f, bI_bo, nI0_bo, nI1_bo, if_true, if_false, ite_true, ite_false, Nat.zero_add, Nat.not_lt_zero, Nat.zero_le, not_true_eq_false, not_false_eq_true, or_false, false_or, true_or, or_true, and_true, true_and, Bool.false_eq_true, Bool.true_eq_false, reduceCtorEq, eq_self]; rfl, SA_AN S⟩
theorem hbx_end (W : WS st n m) {w s : Nat} (hw : w < 6) (E : EN st st' n w s 3) (hs : s < n) {t : Nat} (ht : t < 64) : hbx st' m2 t = hbx st (nI w) t := by
  have hn := WS_n W
  unfold hbx
  refine an_cong (fun u hu => ?_)
  rw [decide_eq_false (by rw [eq_m2 (by omega)]; exact id), Bool.not_false, Bool.true_and]
  by_cases q : u = w
  · subst q
    unfold hb
    rw [rn_f E.2.2.1, decide_eq_true rfl]
    rfl
  · have e1 : st' (304 + u) = st (304 + u) := E.1 _ (by omega) (by omega) (by omega) (by omega) (by omega)
    rw [decide_eq_false (by rw [zn_eq (by omega) (by omega)]; exact q), Bool.not_false, Bool.true_and]
    unfold hb rn
    rw [e1, sb_eq (E.1 (311 + 2 * u) (by omega) (by omega) (by omega) (by omega) (by omega)) (E.1 (312 + 2 * u) (by omega) (by omega) (by omega) (by omega) (by omega)) ht]
theorem dead_end (W : WS st n m) (I : IS st n) {w s : Nat} (hw : w < 6) (hs : s < n) (es : st (304 + w) = nI s) (E : EN st st' n w s 3) : cI (fun v => lv st' v && dd st' (gn st') (stl st' n m2) v) 48 = cI (fun v => lv st v && dd st (gnw st w) (stl st n (nI w)) v) 48 := by
  have hn := WS_n W
  have e0 : ∀ i, i ≠ 240 + s → i ≠ 304 + w → i ≠ 311 + 2 * w → i ≠ 312 + 2 * w → i ≠ 310 → st' i = st i := E.1
  have hnx : nx st' = nx st := EN_nx hw (by omega) E
  have hag : ag st' n = ag st n := by
    funext t
    unfold ag
    rw [hnx]
  have hhz : hz st' n m2 = hz st n (nI w) := by
    unfold hz Mx
    rw [hag, hnx, mxo_cong (fun t ht => hbx_end W hw E hs (by omega : t < 64))]
  have h1s := I.1 w hw s hs es
  have hgn : ∀ t, t < n → gn st' t = gnw st w t := fun t ht => by
    unfold gnw gn
    by_cases q : t = s
    · rw [q, E.2.1, es, decide_eq_true rfl, decide_eq_true rfl, Bool.or_true]
    · rw [e0 (240 + t) (by omega) (by omega) (by omega) (by omega) (by omega), es, decide_eq_false (p := nI s = nI t) (by rw [zn_eq (by omega) (by omega)]; omega), Bool.or_false]
  have hst : ∀ t, t < n → stl st' n m2 t = stl st n (nI w) t := fun t ht => by
    unfold stl
    rw [hhz]
    by_cases q : t = s
    · have a1 : dn st' t = false := by
        unfold dn
        rw [q, E.2.1]
        decide
      have a2 : dn st t = false := by
        unfold dn
        rw [q, h1s]
        decide
      rw [a1, a2]
    · have a1 : dn st' t = dn st t := by
        unfold dn
        rw [e0 (240 + t) (by omega) (by omega) (by omega) (by omega) (by omega)]
      rw [a1]
  refine cI_cong (fun v hv => ?_)
  have a0 : lv st' v = lv st v := by
    unfold lv
    rw [e0 v (by omega) (by omega) (by omega) (by omega) (by omega)]
  have a1 : frI st' v = frI st v := by
    unfold frI
    rw [a0, e0 (96 + v) (by omega) (by omega) (by omega) (by omega) (by omega)]
  have a2 : tlI st' v = tlI st v := by
    unfold tlI
    rw [a0, e0 (144 + v) (by omega) (by omega) (by omega) (by omega) (by omega)]
  unfold dd
  rw [a0, a1, a2, has_cong hgn (by omega) (frI_ok W hv), has_cong hst (by omega) (tlI_ok W hv)]
theorem t_frees (h : QQ R S r st b) (tr : Nat → Int32) (x : Int32) : QT T S (f_X9_frees T R x) (f_X10_frees S st tr x) := by
  obtain ⟨q, k1, k2, k3⟩ := g_slot h x
  unfold f_X9_frees f_X10_frees
  cases q
  · exact ⟨m1, nI 1, _, tr, by simp (disch := omega) only [k1, M_anew, M_no, X9_ans, X9_ref, M_why0, M_why10, M_why11, ↓lm1, ↓lm2, i0, i1, i2, i3, i4, i5, i6, i7, i8, i9, i10, i12, i16, i20, i24, i31, i32, i44, i48, i57, i59, i63, i64, i74, i75, i90, i96, i97, i99, i100, i122, i139, i140, i144, i192, i200, i240, i255, i304, i309, i310, i311, i323, i324, i325, i899, i900, i975, i999, i5200, i4875, i65536, i65537, i15, ob_some, nI_add, nI_clamp, zn_zib, zn_eq, zn_lt, zn_le, m2_lt, m2_le, lt_m2, le_m2, eq_m2, m2_eq, m1_lt, m1_le, lt_m1, le_m1, eq_m1, m1_eq, m1_m2, m2_m1, m2_lt_m1, bI_0, bI_1, bI_t, bI_f, bI_bo, nI0_bo, nI1_bo, if_true, if_false, ite_true, ite_false, Nat.zero_add, Nat.not_lt_zero, Nat.zero_le, not_true_eq_false, not_false_eq_true, or_false, false_or, true_or, or_true, and_true, true_and, Bool.false_eq_true, Bool.true_eq_false, reduceCtorEq, eq_self], by simp (disch := omega) only [k2, M_anew, M_no, X9_ans, X9_ref, M_why0, M_why10, M_why11, ↓lm1, ↓lm2, i0, i1, i2, i3, i4, i5, i6, i7, i8, i9, i10, i12, i16, i20, i24, i31, i32, i44, i48, i57, i59, i63, i64, i74, i75, i90, i96, i97, i99, i100, i122, i139, i140, i144, i192, i200, i240, i255, i304, i309, i310, i311, i323, i324, i325, i899, i900, i975, i999, i5200, i4875, i65536, i65537, i15, ob_some, nI_add, nI_clamp, zn_zib, zn_eq, zn_lt, zn_le, m2_lt, m2_le, lt_m2, le_m2, eq_m2, m2_eq, m1_lt, m1_le, lt_m1, le_m1, eq_m1, m1_eq, m1_m2, m2_m1, m2_lt_m1, bI_0, bI_1, bI_t, bI_f, bI_bo, nI0_bo, nI1_bo, if_true, if_false, ite_true, ite_false, Nat.zero_add, Nat.not_lt_zero, Nat.zero_le, not_true_eq_false, not_false_eq_true, or_false, false_or, true_or, or_true, and_true, true_and, Bool.false_eq_true, Bool.true_eq_false, reduceCtorEq, eq_self], SA_no S (nI 1)⟩
  · obtain ⟨n, m, c, w, hq, hw, rfl, hr⟩ := k3 rfl
    have W := Q1_W hq
    have hn := WS_n W
    have hcp : f_X10_copy 325 325 st tr (nI 0) (nI 0) (nI 325) = some (fb_put tr (fun j => st (0 + j)) 0 325) := M_copy (p := 325) (q := 325) (a := 0) (d := 0) (k := 325) st tr (by omega) (by omega) (by omega) (by omega)
    have hag : ∀ i, i < 325 → fb_put tr (fun j => st (0 + j)) 0 325 i = st i := fun i hi => by rw [put_in hi, Nat.zero_add]
    generalize fb_put tr (fun j => st (0 + j)) 0 325 = t0 at hcp hag
    have H0 := RC_congr hag (Q1_H hq)
    have W0 := RC_W H0
    have I0 := IS_congr hag (by omega) (Q1_I hq)
    have hr0 : rn t0 w = true := by
      unfold rn
      rw [hag _ (by omega)]
      exact hr
    obtain ⟨s, hs, es⟩ := run_s W0 hw hr0
    have hE := enS_EN (st := t0) (n := n) (w := w) (s := s) (d := 3) hw (by omega)
    have he := M_endOn (d := 3) W0 hw hs es
    have hd1 := M_deadOf (S := AN S) (Q1_g hq) (EN_WS W0 hw hs (by omega) hE)
    rw [dead_end W0 I0 hw hs es hE] at hd1
    have hd2 := M_deadOf (S := AN S) (Q1_g hq) W
    have hc1 := X6_countDeadW H0 hw hr0
    have hc2 := X6_countDead (Q1_H hq)
    exact ⟨_, nI 0, AN S, _, by simp (disch := omega) only [k1, hc1, hc2, M_anew, M_no, X9_ans, X9_ref, M_why0, M_why10, M_why11, ↓lm1, ↓lm2, i0, i1, i2, i3, i4, i5, i6, i7, i8, i9, i10, i12, i16, i20, i24, i31, i32, i44, i48, i57, i59, i63, i64, i74, i75, i90, i96, i97, i99, i100, i122, i139, i140, i144, i192, i200, i240, i255, i304, i309, i310, i311, i323, i324, i325, i899, i900, i975, i999, i5200, i4875, i65536, i65537, i15, ob_some, nI_add, nI_clamp, zn_zib, zn_eq, zn_lt, zn_le, m2_lt, m2_le, lt_m2, le_m2, eq_m2, m2_eq, m1_lt, m1_le, lt_m1, le_m1, eq_m1, m1_eq, m1_m2, m2_m1, m2_lt_m1, bI_0, bI_1, bI_t, bI_f, bI_bo, nI0_bo, nI1_bo, if_true, if_false, ite_true, ite_false, Nat.zero_add, Nat.not_lt_zero, Nat.zero_le, not_true_eq_false, not_false_eq_true, or_false, false_or, true_or, or_true, and_true, true_and, Bool.false_eq_true, Bool.true_eq_false, reduceCtorEq, eq_self]; rfl, by simp (disch := omega) only [k2, hcp, he, hd1, hd2, M_anew, M_no, X9_ans, X9_ref, M_why0, M_why10, M_why11, ↓lm1, ↓lm2, i0, i1, i2, i3, i4, i5, i6, i7, i8, i9, i10, i12, i16, i20, i24, i31, i32, i44, i48, i57, i59, i63, i64, i74, i75, i90, i96, i97, i99, i100, i122, i139, i140, i144, i192, i200, i240, i255, i304, i309, i310, i311, i323, i324, i325, i899, i900, i975, i999, i5200, i4875, i65536, i65537, i15, ob_some, nI_add, nI_clamp, zn_zib, zn_eq, zn_lt, zn_le, m2_lt, m2_le, lt_m2, le_m2, eq_m2, m2_eq, m1_lt, m1_le, lt_m1, le_m1, eq_m1, m1_eq, m1_m2, m2_m1, m2_lt_m1, bI_0, bI_1, bI_t, bI_f, bI_bo, nI0_bo, nI1_bo, if_true, if_false, ite_true, ite_false, Nat.zero_add, Nat.not_lt_zero, Nat.zero_le, not_true_eq_false, not_false_eq_true, or_false, false_or, true_or, or_true, and_true, true_and, Bool.false_eq_true, Bool.true_eq_false, reduceCtorEq, eq_self]; rfl, SA_AN S⟩
end
