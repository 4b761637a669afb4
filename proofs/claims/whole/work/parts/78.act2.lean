/-! acts: a writer ends, in the class -/
section
variable {R : SRows} {st st' : Nat → Int32} {n m c : Nat}
theorem EN_RC (H : RC R st n m c) (I : IS st n) {w s d : Nat} (hw : w < 6) (hs : s < n) (es : st (304 + w) = nI s) (hd : d = 2 ∨ d = 3) (E : EN st st' n w s d) {R' : SRows}
    (e1 : Rows_ring R' = Rows_ring R) (e2 : Rows_rowCount R' = Rows_rowCount R) (e3 : Rows_crash R' = Rows_crash R) (e4 : Rows_nextStamp R' = Rows_nextStamp R) (e5 : Rows_count R' = Rows_count R) (e6 : Rows_lostSlots R' = Rows_lostSlots R)
    (e7 : ∀ t, t < 64 → lb (Rows_runningStamps R') t = (lb (Rows_runningStamps R) t && !decide (t = s))) (e8 : ∀ t, t < 64 → lb (Rows_doneStamps R') t = (lb (Rows_doneStamps R) t || (decide (d = 2) && decide (t = s)))) (e9 : ∀ t, t < 64 → lb (Rows_goneStamps R') t = (lb (Rows_goneStamps R) t || (decide (d = 3) && decide (t = s))))
    (e10 : Rows_stamps R' = upd (Rows_stamps R) w m2) (e11 : Rows_held R' = vp_updL (Rows_held R) w 0) (e12 : Rows_rowsOf R' = Rows_rowsOf R) (e13 : Rows_values R' = Rows_values R) (e14 : Rows_froms R' = Rows_froms R) (e15 : Rows_tills R' = Rows_tills R) (e16 : Rows_made R' = Rows_made R) : RC R' st' n m c := by
  have W := RC_W H
  have hn := WS_n W
  have W' := EN_WS W hw hs (by omega) E
  have h1s := I.1 w hw s hs es
  obtain ⟨h0, h1, h2, h3, h4, h5⟩ := E
  refine ⟨W', RC_c H, by rw [e1]; exact RC_ring H, by rw [e2]; exact RC_rc H, by rw [e3]; exact RC_cr H, ?_, fun t ht => ?_, fun u hu => ?_, fun v hv => ?_, ?_⟩
  · rw [e4, RC_nx H, h0 323 (by omega) (by omega) (by omega) (by omega) (by omega)]
  · unfold RT
    rw [e7 t ht, e8 t ht, e9 t ht, (RC_t H ht).1, (RC_t H ht).2.1, (RC_t H ht).2.2]
    by_cases q : t = s
    · subst q
      rw [h1, h1s]
      rcases hd with rfl | rfl <;> simp (disch := omega) only [zn_eq] <;> decide
    · rw [h0 (240 + t) (by omega) (by omega) (by omega) (by omega) (by omega), decide_eq_false q, Bool.and_false, Bool.and_false, Bool.or_false, Bool.or_false, Bool.not_false, Bool.and_true]
      exact ⟨rfl, rfl, rfl⟩
  · by_cases q : u = w
    · subst q
      exact .inl ⟨h2, by rw [e10, upd_eq], by rw [e11, updL_eq]⟩
    · have hu' : st' (304 + u) = st (304 + u) := h0 _ (by omega) (by omega) (by omega) (by omega) (by omega)
      unfold RW
      rw [hu', e10, e11, e6, upd_ne q, updL_ne q, h5 u (by omega), decide_eq_false q, Bool.not_false, Bool.and_true]
      rcases RC_w H hu with a | ⟨z, hz, a1, a2, a3, a4⟩
      · exact .inl a
      · exact .inr ⟨z, hz, a1, a2, fun t ht => by rw [sb_eq (h0 (311 + 2 * u) (by omega) (by omega) (by omega) (by omega) (by omega)) (h0 (312 + 2 * u) (by omega) (by omega) (by omega) (by omega) (by omega)) ht]; exact a3 t ht, a4⟩
  · exact RV_eq (h0 _ (by omega) (by omega) (by omega) (by omega) (by omega)) (h0 _ (by omega) (by omega) (by omega) (by omega) (by omega)) (h0 _ (by omega) (by omega) (by omega) (by omega) (by omega)) (h0 _ (by omega) (by omega) (by omega) (by omega) (by omega)) (by rw [e12]) (by rw [e13]) (by rw [e14]) (by rw [e15]) (RC_v H hv)
  · exact RO_eq (fun v hv => h0 _ (by omega) (by omega) (by omega) (by omega) (by omega)) (fun v hv => h0 _ (by omega) (by omega) (by omega) (by omega) (by omega)) e5 e16 (RC_o H)
theorem X6_endWriter (H : RC R st n m c) (I : IS st n) {w s : Nat} (hw : w < 6) (hs : s < n) (es : st (304 + w) = nI s) (dB : Bool) : ∃ R', f_X6_endWriter R (nI w) (bI dB) = some (nI s, R') ∧ ∀ st', EN st st' n w s (if dB then 2 else 3) → RC R' st' n m c := by
  have hn := WS_n (RC_W H)
  have est : Rows_stamps R w = nI s := by
    rcases RC_w H hw with ⟨e, -⟩ | ⟨t, ht, e, e2, -⟩
    · rw [es, eq_m1 (by omega)] at e
      cases e
    · rw [es, zn_eq (by omega) (by omega)] at e
      rw [e2, e]
  have hb : ∀ t, lb (jlshl 1 (nI s)) t = decide (t = s) := fun t => lb_one (by omega) t
  have h0 : ¬ bI true = 0 := by decide
  have h1 : bI false = 0 := rfl
  cases dB
  · refine ⟨mkRows (Rows_ring R) (Rows_rowCount R) (Rows_crash R) (Rows_nextStamp R) (Rows_count R) (Rows_lostSlots R) (Rows_runningStamps R &&& (jlshl 1 (nI s) ^^^ (-1))) (Rows_doneStamps R) (Rows_goneStamps R ||| jlshl 1 (nI s)) (upd (Rows_stamps R) w (-2)) (vp_updL (Rows_held R) w 0) (Rows_rowsOf R) (Rows_values R) (Rows_froms R) (Rows_tills R) (Rows_made R), ?_, fun st' E => ?_⟩
    · unfold f_X6_endWriter
      rw [X6_runs H hw, rn_t es (by omega), ob_some, if_neg h0]
      simp (disch := omega) only [zn_zib, nI_clamp, if_true, est]
      rw [if_pos h1]
    · exact EN_RC H I hw hs es (.inr rfl) E rfl rfl rfl rfl rfl rfl (fun t ht => by rw [kRows_runningStamps, lb_and, lb_not ht, hb]) (fun t ht => by rw [kRows_doneStamps, decide_eq_false (by decide), Bool.false_and, Bool.or_false]) (fun t ht => by rw [kRows_goneStamps, lb_or, hb, decide_eq_true (rfl : 3 = 3), Bool.true_and]) rfl rfl rfl rfl rfl rfl rfl
  · refine ⟨mkRows (Rows_ring R) (Rows_rowCount R) (Rows_crash R) (Rows_nextStamp R) (Rows_count R) (Rows_lostSlots R) (Rows_runningStamps R &&& (jlshl 1 (nI s) ^^^ (-1))) (Rows_doneStamps R ||| jlshl 1 (nI s)) (Rows_goneStamps R) (upd (Rows_stamps R) w (-2)) (vp_updL (Rows_held R) w 0) (Rows_rowsOf R) (Rows_values R) (Rows_froms R) (Rows_tills R) (Rows_made R), ?_, fun st' E => ?_⟩
    · unfold f_X6_endWriter
      rw [X6_runs H hw, rn_t es (by omega), ob_some, if_neg h0]
      simp (disch := omega) only [zn_zib, nI_clamp, if_true, est]
      rw [if_neg h0]
    · exact EN_RC H I hw hs es (.inl rfl) E rfl rfl rfl rfl rfl rfl (fun t ht => by rw [kRows_runningStamps, lb_and, lb_not ht, hb]) (fun t ht => by rw [kRows_doneStamps, lb_or, hb, decide_eq_true (rfl : 2 = 2), Bool.true_and]) (fun t ht => by rw [kRows_goneStamps, decide_eq_false (by decide), Bool.false_and, Bool.or_false]) rfl rfl rfl rfl rfl rfl rfl
end
