/-! acts: a writer begins, in the class -/
section
variable {R : SRows} {st st' : Nat → Int32} {n m c : Nat}
theorem BG_RC (H : RC R st n m c) {w : Nat} (hw : w < 6) (B : BG st st' n w) {R' : SRows}
    (e1 : Rows_ring R' = Rows_ring R) (e2 : Rows_rowCount R' = Rows_rowCount R) (e3 : Rows_crash R' = Rows_crash R) (e4 : Rows_nextStamp R' = nI ((nx st + 1) % n)) (e5 : Rows_count R' = Rows_count R) (e6 : ∀ k, k < 32 → bt (Rows_lostSlots R') k = (bt (Rows_lostSlots R) k && !decide (k = w)))
    (e7 : ∀ t, t < 64 → lb (Rows_runningStamps R') t = (lb (Rows_runningStamps R) t || decide (t = nx st))) (e8 : ∀ t, t < 64 → lb (Rows_doneStamps R') t = (lb (Rows_doneStamps R) t && !decide (t = nx st))) (e9 : ∀ t, t < 64 → lb (Rows_goneStamps R') t = (lb (Rows_goneStamps R) t && !decide (t = nx st)))
    (e10 : Rows_stamps R' = upd (Rows_stamps R) w (nI (nx st))) {hx : Int64} (e11 : Rows_held R' = vp_updL (Rows_held R) w hx) (e11b : ∀ t, t < 64 → lb hx t = (lb (Rows_runningStamps R) t || decide (t = nx st))) (e12 : Rows_rowsOf R' = Rows_rowsOf R) (e13 : Rows_values R' = Rows_values R) (e14 : Rows_froms R' = Rows_froms R) (e15 : Rows_tills R' = Rows_tills R) (e16 : Rows_made R' = Rows_made R) (hl0 : bt (st 310) w = false) : RC R' st' n m c := by
  have W := RC_W H
  have hn := WS_n W
  have hnx := WS_nx W
  have W' := BG_WS W hw B
  obtain ⟨h0, h1, h2, h3, h4⟩ := B
  refine ⟨W', RC_c H, by rw [e1]; exact RC_ring H, by rw [e2]; exact RC_rc H, by rw [e3]; exact RC_cr H, by rw [e4, h3], fun t ht => ?_, fun u hu => ?_, fun v hv => ?_, ?_⟩
  · unfold RT
    rw [e7 t ht, e8 t ht, e9 t ht, (RC_t H ht).1, (RC_t H ht).2.1, (RC_t H ht).2.2]
    by_cases q : t = nx st
    · rw [q, h2, decide_eq_true (rfl : nx st = nx st)]
      simp (disch := omega) only [zn_eq, Bool.or_true, Bool.not_true, Bool.and_false]
      exact ⟨rfl, rfl, rfl⟩
    · rw [h0 (240 + t) (by omega) (by omega) (by omega) (by omega) (by omega), decide_eq_false q, Bool.or_false, Bool.not_false, Bool.and_true, Bool.and_true]
      exact ⟨rfl, rfl, rfl⟩
  · have e310 : st' 310 = st 310 := h0 _ (by omega) (by omega) (by omega) (by omega) (by omega)
    by_cases q : u = w
    · subst q
      refine .inr ⟨nx st, hnx.1, h1, by rw [e10, upd_eq], fun t ht => ?_, ?_⟩
      · rw [e11, updL_eq, e11b t ht, h4 t ht, RC_ru H ht]
      · rw [e6 u (by omega), decide_eq_true rfl, Bool.not_true, Bool.and_false, e310, hl0]
    · have hu' : st' (304 + u) = st (304 + u) := h0 _ (by omega) (by omega) (by omega) (by omega) (by omega)
      unfold RW
      rw [hu', e10, e11, e6 u (by omega), upd_ne q, updL_ne q, e310, decide_eq_false q, Bool.not_false, Bool.and_true]
      rcases RC_w H hu with a | ⟨z, hz, a1, a2, a3, a4⟩
      · exact .inl a
      · exact .inr ⟨z, hz, a1, a2, fun t ht => by rw [sb_eq (h0 (311 + 2 * u) (by omega) (by omega) (by omega) (by omega) (by omega)) (h0 (312 + 2 * u) (by omega) (by omega) (by omega) (by omega) (by omega)) ht]; exact a3 t ht, a4⟩
  · exact RV_eq (h0 _ (by omega) (by omega) (by omega) (by omega) (by omega)) (h0 _ (by omega) (by omega) (by omega) (by omega) (by omega)) (h0 _ (by omega) (by omega) (by omega) (by omega) (by omega)) (h0 _ (by omega) (by omega) (by omega) (by omega) (by omega)) (by rw [e12]) (by rw [e13]) (by rw [e14]) (by rw [e15]) (RC_v H hv)
  · exact RO_eq (fun v hv => h0 _ (by omega) (by omega) (by omega) (by omega) (by omega)) (fun v hv => h0 _ (by omega) (by omega) (by omega) (by omega) (by omega)) e5 e16 (RC_o H)
theorem X6_beginWriter (H : RC R st n m c) (I : IS st n) {w : Nat} (hf : fi (fun w => !rn st w) 6 = some w) : ∃ R', f_X6_beginWriter R = some (nI w, R') ∧ ∀ st', BG st st' n w → RC R' st' n m c := by
  have W := RC_W H
  have hn := WS_n W
  have hnx := WS_nx W
  obtain ⟨hw, hw2, -⟩ := fi_some hf
  have hfree : st (304 + w) = m1 := by
    rcases WS_w W hw with e | ⟨s, hs, e⟩
    · exact e
    · rw [rn_t e (by omega)] at hw2
      cases hw2
  have hl0 := (I.2.2.2.2.2.1 w hw hfree).2.2
  have hb : ∀ t, lb (jlshl 1 (nI (nx st))) t = decide (t = nx st) := fun t => lb_one (by omega) t
  refine ⟨mkRows (Rows_ring R) (Rows_rowCount R) (Rows_crash R) (nI ((nx st + 1) % n)) (Rows_count R) (Rows_lostSlots R &&& ((nI 1 <<< (nI w &&& nI 31)) ^^^ m1)) (Rows_runningStamps R ||| jlshl 1 (nI (nx st))) (Rows_doneStamps R &&& (jlshl 1 (nI (nx st)) ^^^ (-1))) (Rows_goneStamps R &&& (jlshl 1 (nI (nx st)) ^^^ (-1))) (upd (Rows_stamps R) w (nI (nx st))) (vp_updL (Rows_held R) w (Rows_runningStamps R ||| jlshl 1 (nI (nx st)))) (Rows_rowsOf R) (Rows_values R) (Rows_froms R) (Rows_tills R) (Rows_made R), ?_, fun st' B => ?_⟩
  · unfold f_X6_beginWriter
    have hne : ¬ nI w = -2 := by
      have : ¬ nI w = m2 := by rw [eq_m2 (by omega)]; exact id
      exact this
    rw [X6_firstFreeSlot H, hf, ob_some, eo_s, if_neg hne, RC_ring H, RC_nx H, hnx.2]
    simp (disch := omega) only [zn_zib, nI_clamp, if_true]
    have e1 : nI (nx st) + 1 = nI (nx st + 1) := nI_1 _
    rw [e1]
    by_cases q : n ≤ nx st + 1
    · have q2 : nI n ≤ nI (nx st + 1) := by rw [zn_le (by omega) (by omega)]; exact q
      rw [if_pos q2, show (nx st + 1) % n = 0 by rw [show nx st + 1 = n by omega, Nat.mod_self]]
      rfl
    · have q2 : ¬ nI n ≤ nI (nx st + 1) := by rw [zn_le (by omega) (by omega)]; exact q
      rw [if_neg q2, Nat.mod_eq_of_lt (by omega)]
      rfl
  · exact BG_RC H hw B rfl rfl rfl rfl rfl (fun k hk => by rw [kRows_lostSlots, bt_clr _ (by omega) hk]) (fun t ht => by rw [kRows_runningStamps, lb_or, hb]) (fun t ht => by rw [kRows_doneStamps, lb_and, lb_not ht, hb]) (fun t ht => by rw [kRows_goneStamps, lb_and, lb_not ht, hb]) rfl rfl (fun t ht => by rw [lb_or, hb]) rfl rfl rfl rfl rfl hl0
end
