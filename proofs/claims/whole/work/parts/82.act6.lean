/-! acts: what a put or a drop changes -/
def lostS (st : Nat → Int32) (w : Nat) : Nat → Int32 := upd st 310 (st 310 ||| (nI 1 <<< (nI w &&& nI 31)))
def valS (st : Nat → Int32) (v k : Nat) : Nat → Int32 := upd st (48 + v) (nI k)
def tillS (st : Nat → Int32) (v : Nat) (x : Int32) : Nat → Int32 := upd st (144 + v) x
def newS (st : Nat → Int32) (r k : Nat) (x : Int32) (u : Nat) : Nat → Int32 := upd (upd (upd (upd (upd (upd st u (nI (r + 1))) (48 + u) (nI k)) (96 + u) x) (144 + u) m2) (192 + u) (st 324)) 324 (st 324 + nI 1)
def MK (st : Nat → Int32) (b : Nat) : Prop := b < 2 ^ 29 ∧ ∃ k, st 324 = nI k ∧ k ≤ b ∧ ∀ v, v < 48 → st v ≠ nI 0 → od st v < k
section
variable {R : SRows} {st st' : Nat → Int32} {n m c b : Nat}
theorem IS_frame (I : IS st n) (h : ∀ i, 240 ≤ i → i ≤ 323 → st' i = st i) (h5 : ∀ v, v < 48 → ∀ s, s < n → st' v ≠ nI 0 → st' (96 + v) = nI s → st (240 + s) ≠ nI 0) (hn : n ≤ 64) : IS st' n := by
  have hag : ∀ t, ag st' n t = ag st n t := fun t => by
    unfold ag nx
    rw [h 323 (by omega) (by omega)]
  obtain ⟨i1, i2, i3, i4, i5, i6, i7, i8⟩ := I
  refine ⟨fun u hu t ht e => ?_, fun t ht e => ?_, fun u u' hu hu' hne e => ?_, fun u hu t ht e => ?_, fun v hv t ht e1 e2 => ?_, fun u hu e => ?_, fun u hu t ht1 ht2 => ?_, fun u hu t ht e => ?_⟩
  · rw [h _ (by omega) (by omega)] at e ⊢
    exact i1 u hu t ht e
  · rw [h _ (by omega) (by omega)] at e
    obtain ⟨u, hu, e2⟩ := i2 t ht e
    exact ⟨u, hu, by rw [h _ (by omega) (by omega)]; exact e2⟩
  · rw [h _ (by omega) (by omega), h _ (by omega) (by omega)] at e
    rw [h _ (by omega) (by omega)]
    exact i3 u u' hu hu' hne e
  · rw [h _ (by omega) (by omega)] at e
    rw [hag]
    exact i4 u hu t ht e
  · rw [h (240 + t) (by omega) (by omega)]
    exact h5 v hv t ht e1 e2
  · rw [h _ (by omega) (by omega)] at e
    rw [h (311 + 2 * u) (by omega) (by omega), h (312 + 2 * u) (by omega) (by omega), h 310 (by omega) (by omega)]
    exact i6 u hu e
  · rw [sb_eq (h (311 + 2 * u) (by omega) (by omega)) (h (312 + 2 * u) (by omega) (by omega)) ht2]
    exact i7 u hu t ht1 ht2
  · rw [h _ (by omega) (by omega)] at e
    rw [sb_eq (h (311 + 2 * u) (by omega) (by omega)) (h (312 + 2 * u) (by omega) (by omega)) (by omega)]
    exact i8 u hu t ht e
theorem bt_set (x : Int32) {w k : Nat} (hw : w < 32) (hk : k < 32) : bt (x ||| (nI 1 <<< (nI w &&& nI 31))) k = (bt x k || decide (k = w)) := by
  rw [b_or, bt_bit hw hk]
theorem lost_all (H : RC R st n m c) (I : IS st n) (K : MK st b) {w : Nat} (hw : w < 6) (hr : rn st w = true) {R' : SRows} (e : R' = mkRows (Rows_ring R) (Rows_rowCount R) (Rows_crash R) (Rows_nextStamp R) (Rows_count R) (Rows_lostSlots R ||| (nI 1 <<< (nI w &&& nI 31))) (Rows_runningStamps R) (Rows_doneStamps R) (Rows_goneStamps R) (Rows_stamps R) (Rows_held R) (Rows_rowsOf R) (Rows_values R) (Rows_froms R) (Rows_tills R) (Rows_made R)) : RC R' (lostS st w) n m c ∧ IS (lostS st w) n ∧ MK (lostS st w) b := by
  have W := RC_W H
  have hn := WS_n W
  have g : ∀ i, i ≠ 310 → lostS st w i = st i := fun i hi => upd_ne hi
  have g2 : ∀ k, k < 6 → bt (lostS st w 310) k = (bt (st 310) k || decide (k = w)) := fun k hk => by
    unfold lostS
    rw [upd_eq, bt_set _ (by omega) (by omega)]
  have W' : WS (lostS st w) n m := by
    refine ⟨W.1, by rw [g _ (by omega)]; exact WS_x W, fun v hv => WV_eq (g _ (by omega)) (g _ (by omega)) (g _ (by omega)) (g _ (by omega)) (g _ (by omega)) (WS_v W hv), fun t ht => by rw [g _ (by omega)]; exact WS_t W ht, fun u hu => by rw [g _ (by omega)]; exact WS_w W hu⟩
  subst e
  refine ⟨⟨W', RC_c H, (kRows_ring).trans (RC_ring H), (kRows_rowCount).trans (RC_rc H), (kRows_crash).trans (RC_cr H), ?_, fun t ht => ?_, fun u hu => ?_, fun v hv => ?_, ?_⟩, ?_, ?_⟩
  · rw [kRows_nextStamp, g _ (by omega)]
    exact RC_nx H
  · unfold RT
    rw [g _ (by omega)]
    exact RC_t H ht
  · unfold RW
    rw [g _ (by omega), kRows_lostSlots, bt_set _ (by omega) (by omega), g2 u hu]
    rcases RC_w H hu with a | ⟨z, hz, a1, a2, a3, a4⟩
    · exact .inl a
    · exact .inr ⟨z, hz, a1, a2, fun t ht => by rw [sb_eq (g _ (by omega)) (g _ (by omega)) ht]; exact a3 t ht, by rw [a4]⟩
  · exact RV_eq (R := R) (g _ (by omega)) (g _ (by omega)) (g _ (by omega)) (g _ (by omega)) rfl rfl rfl rfl (RC_v H hv)
  · exact RO_eq (R := R) (fun v hv => g _ (by omega)) (fun v hv => g _ (by omega)) rfl rfl (RC_o H)
  · have hag : ∀ t, ag (lostS st w) n t = ag st n t := fun t => by
      unfold ag nx
      rw [g 323 (by omega)]
    obtain ⟨i1, i2, i3, i4, i5, i6, i7, i8⟩ := I
    refine ⟨fun u hu t ht e => ?_, fun t ht e => ?_, fun u u' hu hu' hne e => ?_, fun u hu t ht e => ?_, fun v hv t ht e1 e2 => ?_, fun u hu e => ?_, fun u hu t ht1 ht2 => ?_, fun u hu t ht e => ?_⟩
    · rw [g _ (by omega)] at e ⊢
      exact i1 u hu t ht e
    · rw [g _ (by omega)] at e
      obtain ⟨u, hu, e2⟩ := i2 t ht e
      exact ⟨u, hu, by rw [g _ (by omega)]; exact e2⟩
    · rw [g _ (by omega), g _ (by omega)] at e
      rw [g _ (by omega)]
      exact i3 u u' hu hu' hne e
    · rw [g _ (by omega)] at e
      rw [hag]
      exact i4 u hu t ht e
    · rw [g _ (by omega)] at e1 e2 ⊢
      exact i5 v hv t ht e1 e2
    · rw [g _ (by omega)] at e
      rw [g _ (by omega), g _ (by omega), g2 u hu]
      obtain ⟨a1, a2, a3⟩ := i6 u hu e
      have hne : ¬ u = w := fun z => by
        rw [z] at e
        rw [rn_f e] at hr
        cases hr
      exact ⟨a1, a2, by rw [a3, decide_eq_false hne]; rfl⟩
    · rw [sb_eq (g _ (by omega)) (g _ (by omega)) ht2]
      exact i7 u hu t ht1 ht2
    · rw [g _ (by omega)] at e
      rw [sb_eq (g _ (by omega)) (g _ (by omega)) (by omega)]
      exact i8 u hu t ht e
  · obtain ⟨kb, k, h1, h2, h3⟩ := K
    refine ⟨kb, k, by rw [g _ (by omega)]; exact h1, h2, fun v hv hl => ?_⟩
    rw [g _ (by omega)] at hl
    have : od (lostS st w) v = od st v := by
      unfold od
      rw [g _ (by omega)]
    rw [this]
    exact h3 v hv hl
theorem val_all (H : RC R st n m c) (I : IS st n) (K : MK st b) {v k : Nat} (hv : v < 48) (hk : k ≤ 999) {R' : SRows} (e : R' = mkRows (Rows_ring R) (Rows_rowCount R) (Rows_crash R) (Rows_nextStamp R) (Rows_count R) (Rows_lostSlots R) (Rows_runningStamps R) (Rows_doneStamps R) (Rows_goneStamps R) (Rows_stamps R) (Rows_held R) (Rows_rowsOf R) (upd (Rows_values R) v (nI k)) (Rows_froms R) (Rows_tills R) (Rows_made R)) : RC R' (valS st v k) n m c ∧ IS (valS st v k) n ∧ MK (valS st v k) b := by
  have W := RC_W H
  have hn := WS_n W
  have g : ∀ i, i ≠ 48 + v → valS st v k i = st i := fun i hi => upd_ne hi
  have W' : WS (valS st v k) n m := by
    refine ⟨W.1, by rw [g _ (by omega)]; exact WS_x W, fun u hu => ?_, fun t ht => by rw [g _ (by omega)]; exact WS_t W ht, fun u hu => by rw [g _ (by omega)]; exact WS_w W hu⟩
    by_cases q : u = v
    · obtain ⟨a1, a2, a3, a4, a5⟩ := WS_v W hu
      unfold WV
      rw [g _ (by omega), g (96 + u) (by omega), g (144 + u) (by omega), g (192 + u) (by omega)]
      exact ⟨a1, ⟨k, hk, by rw [q]; exact upd_eq⟩, a3, a4, a5⟩
    · exact WV_eq (g _ (by omega)) (g _ (by omega)) (g _ (by omega)) (g _ (by omega)) (g _ (by omega)) (WS_v W hu)
  subst e
  refine ⟨⟨W', RC_c H, (kRows_ring).trans (RC_ring H), (kRows_rowCount).trans (RC_rc H), (kRows_crash).trans (RC_cr H), ?_, fun t ht => ?_, fun u hu => ?_, fun u hu => ?_, ?_⟩, ?_, ?_⟩
  · rw [kRows_nextStamp, g _ (by omega)]
    exact RC_nx H
  · unfold RT
    rw [g _ (by omega)]
    exact RC_t H ht
  · unfold RW
    rw [g _ (by omega), g 310 (by omega)]
    rcases RC_w H hu with a | ⟨z, hz, a1, a2, a3, a4⟩
    · exact .inl a
    · exact .inr ⟨z, hz, a1, a2, fun t ht => by rw [sb_eq (g _ (by omega)) (g _ (by omega)) ht]; exact a3 t ht, a4⟩
  · by_cases q : u = v
    · subst q
      unfold RV
      rw [g u (by omega), g (96 + u) (by omega), g (144 + u) (by omega)]
      rcases RC_v H hu with a | ⟨r, hr, a1, a2, a3, a4, a5⟩
      · exact .inl a
      · exact .inr ⟨r, hr, a1, a2, by rw [kRows_values, upd_eq]; exact upd_eq.symm, a4, a5⟩
    · exact RV_eq (R := R) (g _ (by omega)) (g _ (by omega)) (g _ (by omega)) (g _ (by omega)) rfl (by rw [kRows_values, upd_ne q]) rfl rfl (RC_v H hu)
  · exact RO_eq (R := R) (fun v hv => g _ (by omega)) (fun v hv => g _ (by omega)) rfl rfl (RC_o H)
  · exact IS_frame I (fun i h1 h2 => g _ (by omega)) (fun u hu s hs e1 e2 => I.2.2.2.2.1 u hu s hs (by rw [← g u (by omega)]; exact e1) (by rw [← g (96 + u) (by omega)]; exact e2)) (by omega)
  · obtain ⟨kb, j, h1, h2, h3⟩ := K
    refine ⟨kb, j, by rw [g _ (by omega)]; exact h1, h2, fun u hu hl => ?_⟩
    rw [g _ (by omega)] at hl
    have : od (valS st v k) u = od st u := by
      unfold od
      rw [g _ (by omega)]
    rw [this]
    exact h3 u hu hl
theorem till_all (H : RC R st n m c) (I : IS st n) (K : MK st b) {v s : Nat} (hv : v < 48) (hs : s < n) {R' : SRows} (e : R' = mkRows (Rows_ring R) (Rows_rowCount R) (Rows_crash R) (Rows_nextStamp R) (Rows_count R) (Rows_lostSlots R) (Rows_runningStamps R) (Rows_doneStamps R) (Rows_goneStamps R) (Rows_stamps R) (Rows_held R) (Rows_rowsOf R) (Rows_values R) (Rows_froms R) (upd (Rows_tills R) v (nI s)) (Rows_made R)) : RC R' (tillS st v (nI s)) n m c ∧ IS (tillS st v (nI s)) n ∧ MK (tillS st v (nI s)) b := by
  have W := RC_W H
  have hn := WS_n W
  have g : ∀ i, i ≠ 144 + v → tillS st v (nI s) i = st i := fun i hi => upd_ne hi
  have W' : WS (tillS st v (nI s)) n m := by
    refine ⟨W.1, by rw [g _ (by omega)]; exact WS_x W, fun u hu => ?_, fun t ht => by rw [g _ (by omega)]; exact WS_t W ht, fun u hu => by rw [g _ (by omega)]; exact WS_w W hu⟩
    by_cases q : u = v
    · obtain ⟨a1, a2, a3, a4, a5⟩ := WS_v W hu
      unfold WV
      rw [g _ (by omega), g (48 + u) (by omega), g (96 + u) (by omega), g (192 + u) (by omega)]
      exact ⟨a1, a2, a3, .inr ⟨s, hs, by rw [q]; exact upd_eq⟩, a5⟩
    · exact WV_eq (g _ (by omega)) (g _ (by omega)) (g _ (by omega)) (g _ (by omega)) (g _ (by omega)) (WS_v W hu)
  subst e
  refine ⟨⟨W', RC_c H, (kRows_ring).trans (RC_ring H), (kRows_rowCount).trans (RC_rc H), (kRows_crash).trans (RC_cr H), ?_, fun t ht => ?_, fun u hu => ?_, fun u hu => ?_, ?_⟩, ?_, ?_⟩
  · rw [kRows_nextStamp, g _ (by omega)]
    exact RC_nx H
  · unfold RT
    rw [g _ (by omega)]
    exact RC_t H ht
  · unfold RW
    rw [g _ (by omega), g 310 (by omega)]
    rcases RC_w H hu with a | ⟨z, hz, a1, a2, a3, a4⟩
    · exact .inl a
    · exact .inr ⟨z, hz, a1, a2, fun t ht => by rw [sb_eq (g _ (by omega)) (g _ (by omega)) ht]; exact a3 t ht, a4⟩
  · by_cases q : u = v
    · subst q
      unfold RV
      rw [g u (by omega), g (96 + u) (by omega), g (48 + u) (by omega)]
      rcases RC_v H hu with a | ⟨r, hr, a1, a2, a3, a4, a5⟩
      · exact .inl a
      · exact .inr ⟨r, hr, a1, a2, a3, a4, by rw [kRows_tills, upd_eq]; exact upd_eq.symm⟩
    · exact RV_eq (R := R) (g _ (by omega)) (g _ (by omega)) (g _ (by omega)) (g _ (by omega)) rfl rfl rfl (by rw [kRows_tills, upd_ne q]) (RC_v H hu)
  · exact RO_eq (R := R) (fun v hv => g _ (by omega)) (fun v hv => g _ (by omega)) rfl rfl (RC_o H)
  · exact IS_frame I (fun i h1 h2 => g _ (by omega)) (fun u hu s hs e1 e2 => I.2.2.2.2.1 u hu s hs (by rw [← g u (by omega)]; exact e1) (by rw [← g (96 + u) (by omega)]; exact e2)) (by omega)
  · obtain ⟨kb, j, h1, h2, h3⟩ := K
    refine ⟨kb, j, by rw [g _ (by omega)]; exact h1, h2, fun u hu hl => ?_⟩
    rw [g _ (by omega)] at hl
    have : od (tillS st v (nI s)) u = od st u := by
      unfold od
      rw [g _ (by omega)]
    rw [this]
    exact h3 u hu hl
end
