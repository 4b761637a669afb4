/-! acts: a writer begins: what stays so -/
theorem gon_succ {n s x : Nat} (hs : s < n) (hx : x < n) (h : gon n s x + 1 < n) : gon n s ((x + 1) % n) = gon n s x + 1 := by
  rw [gon_le hs hx] at h ⊢
  by_cases q : x + 1 = n
  · rw [q, Nat.mod_self, gon_le hs (by omega)]
    split at h <;> split <;> omega
  · rw [Nat.mod_eq_of_lt (by omega), gon_le hs (by omega)]
    split at h <;> split <;> omega
section
variable {R : SRows} {S : SMo} {st st' : Nat → Int32} {n m c : Nat}
theorem BG_WS (W : WS st n m) {w : Nat} (hw : w < 6) (B : BG st st' n w) : WS st' n m := by
  have hn := WS_n W
  have hx := WS_nx W
  obtain ⟨h0, h1, h2, h3, h4⟩ := B
  refine ⟨W.1, ⟨(nx st + 1) % n, Nat.mod_lt _ (by omega), h3⟩, fun v hv => WV_eq (h0 _ (by omega) (by omega) (by omega) (by omega) (by omega)) (h0 _ (by omega) (by omega) (by omega) (by omega) (by omega)) (h0 _ (by omega) (by omega) (by omega) (by omega) (by omega)) (h0 _ (by omega) (by omega) (by omega) (by omega) (by omega)) (h0 _ (by omega) (by omega) (by omega) (by omega) (by omega)) (WS_v W hv), fun t ht => ?_, fun u hu => ?_⟩
  · by_cases q : t = nx st
    · rw [q]
      exact ⟨1, by omega, h2⟩
    · rw [h0 _ (by omega) (by omega) (by omega) (by omega) (by omega)]
      exact WS_t W ht
  · by_cases q : u = w
    · rw [q]
      exact .inr ⟨nx st, hx.1, h1⟩
    · rw [h0 _ (by omega) (by omega) (by omega) (by omega) (by omega)]
      exact WS_w W hu
theorem BG_IS (W : WS st n m) (I : IS st n) (hcb : cbB st n = true) {w : Nat} (hw : w < 6) (hfree : st (304 + w) = m1) (B : BG st st' n w) : IS st' n := by
  have hn := WS_n W
  have hx := WS_nx W
  have hag : ∀ u, u < 6 → ∀ t, t < n → st (304 + u) = nI t → ag st n t < n / 2 := fun u hu t ht e => by
    have hiu : iu st t = true := by
      unfold iu
      rw [hbx_iff.mpr ⟨u, hu, by unfold hb; rw [rn_t e (by omega), e, decide_eq_true rfl, Bool.or_true]; rfl⟩]
      rfl
    unfold cbB at hcb
    rw [Bool.and_eq_true] at hcb
    cases hm : mxo (iu st) (ag st n) n with
    | none =>
      rw [mxo_none hm t ht] at hiu
      cases hiu
    | some a =>
      rw [hm] at hcb
      have := decide_eq_true_eq.mp hcb.2
      have := (mxo_some hm).2 t ht hiu
      omega
  obtain ⟨h0, h1, h2, h3, h4⟩ := B
  obtain ⟨i1, i2, i3, i4, i5, i6, i7, i8⟩ := I
  have hnx' : nx st' = (nx st + 1) % n := by
    unfold nx at h3 ⊢
    rw [h3, nI_clamp]
    have := Nat.mod_lt ((st 323).toNatClampNeg + 1) (by omega : 0 < n)
    omega
  have slot : ∀ u, u < 6 → u ≠ w → st' (304 + u) = st (304 + u) := fun u hu hne => h0 _ (by omega) (by omega) (by omega) (by omega) (by omega)
  have stat : ∀ t, t < 64 → t ≠ nx st → st' (240 + t) = st (240 + t) := fun t ht hne => h0 _ (by omega) (by omega) (by omega) (by omega) (by omega)
  have notm : ∀ x : Nat, x < 64 → ¬ m1 = nI x := fun x hx => by rw [m1_eq (by omega)]; exact id
  have fresh : ∀ u, u < 6 → ¬ st (304 + u) = nI (nx st) := fun u hu e => by
    have := (i4 u hu _ hx.1 e).1
    unfold ag at this
    rw [gon_self hx.1] at this
    omega
  refine ⟨fun u hu t ht e => ?_, fun t ht e => ?_, fun u u' hu hu' hne e => ?_, fun u hu t ht e => ?_, fun v hv t ht e1 e2 => ?_, fun u hu e => ?_, fun u hu t ht1 ht2 => ?_, fun u hu t ht e => ?_⟩
  · by_cases q2 : t = nx st
    · rw [q2, h2]
    · rw [stat t (by omega) q2]
      by_cases q : u = w
      · rw [q, h1, zn_eq (by omega) (by omega)] at e
        omega
      · rw [slot u hu q] at e
        exact i1 u hu t ht e
  · by_cases q : t = nx st
    · exact ⟨w, hw, by rw [q]; exact h1⟩
    · rw [stat t ht q] at e
      obtain ⟨u, hu, e2⟩ := i2 t ht e
      by_cases q2 : u = w
      · rw [q2, hfree] at e2
        exact absurd e2 (notm t ht)
      · exact ⟨u, hu, by rw [slot u hu q2]; exact e2⟩
  · by_cases q : u = w
    · have q2 : u' ≠ w := fun z => hne (by rw [q, z])
      rw [q, h1, slot u' hu' q2] at e
      exact absurd e.symm (fresh u' hu')
    · by_cases q2 : u' = w
      · rw [q2, h1, slot u hu q] at e
        exact absurd e (fresh u hu)
      · rw [slot u hu q, slot u' hu' q2] at e
        rw [slot u hu q]
        exact i3 u u' hu hu' hne e
  · unfold ag
    rw [hnx']
    by_cases q : u = w
    · rw [q, h1, zn_eq (by omega) (by omega)] at e
      rw [← e, gon_succ hx.1 hx.1 (by rw [gon_self hx.1]; omega), gon_self hx.1]
      omega
    · rw [slot u hu q] at e
      have a1 := hag u hu t ht e
      have a2 := i4 u hu t ht e
      unfold ag at a1 a2
      rw [gon_succ ht hx.1 (by omega)]
      omega
  · rw [h0 v (by omega) (by omega) (by omega) (by omega) (by omega)] at e1
    rw [h0 (96 + v) (by omega) (by omega) (by omega) (by omega) (by omega)] at e2
    by_cases q : t = nx st
    · rw [q, h2, ne_eq, zn_eq (by omega) (by omega)]
      omega
    · rw [stat t (by omega) q]
      exact i5 v hv t ht e1 e2
  · by_cases q : u = w
    · rw [q, h1, eq_m1 (by omega)] at e
      cases e
    · rw [slot u hu q] at e
      obtain ⟨a1, a2, a3⟩ := i6 u hu e
      rw [h0 (311 + 2 * u) (by omega) (by omega) (by omega) (by omega) (by omega), h0 (312 + 2 * u) (by omega) (by omega) (by omega) (by omega) (by omega), h0 310 (by omega) (by omega) (by omega) (by omega) (by omega)]
      exact ⟨a1, a2, a3⟩
  · by_cases q : u = w
    · rw [q, h4 t ht2]
      cases hru : ru st t
      · rfl
      · obtain ⟨k, hk, e2⟩ := i2 t ht2 (decide_eq_true_eq.mp hru)
        rcases WS_w W hk with e3 | ⟨s, hs, e3⟩
        · rw [e3] at e2
          exact absurd e2 (notm t (by omega))
        · rw [e3, zn_eq (by omega) (by omega)] at e2
          omega
    · rw [sb_eq (h0 (311 + 2 * u) (by omega) (by omega) (by omega) (by omega) (by omega)) (h0 (312 + 2 * u) (by omega) (by omega) (by omega) (by omega) (by omega)) ht2]
      exact i7 u hu t ht1 ht2
  · by_cases q : u = w
    · rw [q, h1, zn_eq (by omega) (by omega)] at e
      rw [q, h4 t (by omega), ← e]
      cases hru : ru st (nx st)
      · rfl
      · obtain ⟨k, hk, e2⟩ := i2 (nx st) (by omega) (decide_eq_true_eq.mp hru)
        exact absurd e2 (fresh k hk)
    · rw [slot u hu q] at e
      rw [sb_eq (h0 (311 + 2 * u) (by omega) (by omega) (by omega) (by omega) (by omega)) (h0 (312 + 2 * u) (by omega) (by omega) (by omega) (by omega) (by omega)) (by omega)]
      exact i8 u hu t ht e
end
