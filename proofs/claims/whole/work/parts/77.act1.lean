/-! acts: a writer ends -/
theorem upd_eq {f : Nat → Int32} {k : Nat} {x : Int32} : upd f k x k = x := pk_us
theorem upd_ne {f : Nat → Int32} {k j : Nat} {x : Int32} (h : j ≠ k) : upd f k x j = f j := pk_un h
theorem updL_eq {f : Nat → Int64} {k : Nat} {x : Int64} : vp_updL f k x k = x := pk_uLs
theorem updL_ne {f : Nat → Int64} {k j : Nat} {x : Int64} (h : j ≠ k) : vp_updL f k x j = f j := pk_uLn h
def EN (st st' : Nat → Int32) (n w s d : Nat) : Prop := (∀ i, i ≠ 240 + s → i ≠ 304 + w → i ≠ 311 + 2 * w → i ≠ 312 + 2 * w → i ≠ 310 → st' i = st i) ∧ st' (240 + s) = nI d ∧ st' (304 + w) = m1 ∧ st' (311 + 2 * w) = nI 0 ∧ st' (312 + 2 * w) = nI 0 ∧ ∀ k, k < 32 → bt (st' 310) k = (bt (st 310) k && !decide (k = w))
theorem bt_clr (x : Int32) {w k : Nat} (hw : w < 32) (hk : k < 32) : bt (x &&& ((nI 1 <<< (nI w &&& nI 31)) ^^^ m1)) k = (bt x k && !decide (k = w)) := by
  have h1 : bt m1 k = true := b_m1 k hk
  rw [b_and, b_xor, h1, bt_bit hw hk]
  cases decide (k = w) <;> rfl
def enT (st : Nat → Int32) (w s d : Nat) : Nat → Int32 := upd (upd (upd (upd st (240 + s) (nI d)) (304 + w) m1) (311 + 2 * w) (nI 0)) (311 + 2 * w + 1) (nI 0)
def enS (st : Nat → Int32) (w s d : Nat) : Nat → Int32 := upd (enT st w s d) 310 (enT st w s d 310 &&& ((nI 1 <<< (nI w &&& nI 31)) ^^^ m1))
theorem M_endOn {st : Nat → Int32} {n m : Nat} (W : WS st n m) {w s d : Nat} (hw : w < 6) (hs : s < n) (es : st (304 + w) = nI s) : f_X10_endOn st (nI w) (nI d) = some (nI s, enS st w s d) := by
  have hn := WS_n W
  unfold f_X10_endOn
  simp (disch := omega) only [es, pk_mul, ↓lm1, ↓lm2, i0, i1, i2, i3, i4, i5, i6, i7, i8, i9, i10, i12, i16, i20, i24, i31, i32, i44, i48, i57, i59, i63, i64, i74, i75, i90, i96, i97, i99, i100, i122, i139, i140, i144, i192, i200, i240, i255, i304, i309, i310, i311, i323, i324, i325, i899, i900, i975, i999, i5200, i4875, i65536, i65537, i15, ob_some, nI_add, nI_clamp, zn_zib, zn_eq, zn_lt, zn_le, m2_lt, m2_le, lt_m2, le_m2, eq_m2, m2_eq, m1_lt, m1_le, lt_m1, le_m1, eq_m1, m1_eq, m1_m2, m2_m1, m2_lt_m1, bI_0, bI_1, bI_t, bI_f, bI_bo, nI0_bo, nI1_bo, if_true, if_false, ite_true, ite_false, Nat.zero_add, Nat.not_lt_zero, Nat.zero_le, not_true_eq_false, not_false_eq_true, or_false, false_or, true_or, or_true, and_true, true_and, Bool.false_eq_true, Bool.true_eq_false, reduceCtorEq, eq_self]
  rfl
theorem enS_EN {st : Nat → Int32} {n w s d : Nat} (hw : w < 6) (hs : s < 64) : EN st (enS st w s d) n w s d := by
  unfold enS
  have h310 : enT st w s d 310 = st 310 := by
    unfold enT
    rw [upd_ne (by omega), upd_ne (by omega), upd_ne (by omega), upd_ne (by omega)]
  refine ⟨fun i h1 h2 h3 h4 h5 => ?_, ?_, ?_, ?_, ?_, fun k hk => ?_⟩
  · rw [upd_ne h5]
    unfold enT
    rw [upd_ne (by omega), upd_ne h3, upd_ne h2, upd_ne h1]
  · rw [upd_ne (by omega)]
    unfold enT
    rw [upd_ne (by omega), upd_ne (by omega), upd_ne (by omega), upd_eq]
  · rw [upd_ne (by omega)]
    unfold enT
    rw [upd_ne (by omega), upd_ne (by omega), upd_eq]
  · rw [upd_ne (by omega)]
    unfold enT
    rw [upd_ne (by omega), upd_eq]
  · rw [upd_ne (by omega)]
    unfold enT
    rw [show 312 + 2 * w = 311 + 2 * w + 1 by omega, upd_eq]
  · rw [upd_eq, h310, bt_clr _ (by omega) hk]
section
variable {R : SRows} {st st' : Nat → Int32} {n m c : Nat}
theorem sb_eq {w : Nat} (h1 : st' (311 + 2 * w) = st (311 + 2 * w)) (h2 : st' (312 + 2 * w) = st (312 + 2 * w)) {t : Nat} (ht : t < 64) : sb st' w t = sb st w t := by
  unfold sb
  by_cases q : t < 32
  · rw [show 311 + 2 * w + t / 32 = 311 + 2 * w by omega, h1]
  · rw [show 311 + 2 * w + t / 32 = 312 + 2 * w by omega, h2]
theorem WV_eq {v : Nat} (h0 : st' v = st v) (h1 : st' (48 + v) = st (48 + v)) (h2 : st' (96 + v) = st (96 + v)) (h3 : st' (144 + v) = st (144 + v)) (h4 : st' (192 + v) = st (192 + v)) (h : WV st n m v) : WV st' n m v := by
  unfold WV at h ⊢
  rw [h0, h1, h2, h3, h4]
  exact h
theorem RO_eq {R' : SRows} (h0 : ∀ v, v < 48 → st' v = st v) (h4 : ∀ v, v < 48 → st' (192 + v) = st (192 + v)) (hc : Rows_count R' = Rows_count R) (hm : Rows_made R' = Rows_made R) (h : RO R st) : RO R' st' := by
  obtain ⟨cN, md, a1, a2, a3, a4, a5⟩ := h
  have ho : ∀ v, v < 48 → od st' v = od st v := fun v hv => by unfold od; rw [h4 v hv]
  refine ⟨cN, md, by rw [hc, a1], a2, fun i hi => ?_, fun i j h1 h2 => ?_, fun v hv h => a5 v hv (by rw [← h0 v hv]; exact h)⟩
  · obtain ⟨b1, b2, b3⟩ := a3 i hi
    exact ⟨by rw [hm, b1], b2, by rw [h0 _ b2]; exact b3⟩
  · rw [ho _ (a3 i (by omega)).2.1, ho _ (a3 j h2).2.1]
    exact a4 i j h1 h2
theorem RV_eq {R' : SRows} {v : Nat} (h0 : st' v = st v) (h1 : st' (48 + v) = st (48 + v)) (h2 : st' (96 + v) = st (96 + v)) (h3 : st' (144 + v) = st (144 + v)) (e0 : Rows_rowsOf R' v = Rows_rowsOf R v) (e1 : Rows_values R' v = Rows_values R v) (e2 : Rows_froms R' v = Rows_froms R v) (e3 : Rows_tills R' v = Rows_tills R v) (h : RV R st m v) : RV R' st' m v := by
  unfold RV at h ⊢
  rw [h0, h1, h2, h3, e0, e1, e2, e3]
  exact h
theorem EN_WS (W : WS st n m) {w s d : Nat} (hw : w < 6) (hs : s < n) (hd : d < 4) (E : EN st st' n w s d) : WS st' n m := by
  have hn := WS_n W
  obtain ⟨h0, h1, h2, h3, h4, h5⟩ := E
  refine ⟨W.1, ?_, fun v hv => WV_eq (h0 _ (by omega) (by omega) (by omega) (by omega) (by omega)) (h0 _ (by omega) (by omega) (by omega) (by omega) (by omega)) (h0 _ (by omega) (by omega) (by omega) (by omega) (by omega)) (h0 _ (by omega) (by omega) (by omega) (by omega) (by omega)) (h0 _ (by omega) (by omega) (by omega) (by omega) (by omega)) (WS_v W hv), fun t ht => ?_, fun u hu => ?_⟩
  · rw [h0 323 (by omega) (by omega) (by omega) (by omega) (by omega)]
    exact WS_x W
  · by_cases q : t = s
    · rw [q]
      exact ⟨d, hd, h1⟩
    · rw [h0 _ (by omega) (by omega) (by omega) (by omega) (by omega)]
      exact WS_t W ht
  · by_cases q : u = w
    · rw [q]
      exact .inl h2
    · rw [h0 _ (by omega) (by omega) (by omega) (by omega) (by omega)]
      exact WS_w W hu
theorem EN_nx {w s d : Nat} (hw : w < 6) (hs : s < 64) (E : EN st st' n w s d) : nx st' = nx st := by
  unfold nx
  rw [E.1 323 (by omega) (by omega) (by omega) (by omega) (by omega)]
theorem EN_IS (W : WS st n m) (I : IS st n) {w s d : Nat} (hw : w < 6) (hs : s < n) (es : st (304 + w) = nI s) (hd : d = 2 ∨ d = 3) (E : EN st st' n w s d) : IS st' n := by
  have hn := WS_n W
  have hag : ∀ t, ag st' n t = ag st n t := fun t => by
    unfold ag nx
    rw [E.1 323 (by omega) (by omega) (by omega) (by omega) (by omega)]
  obtain ⟨h0, h1, h2, h3, h4, h5⟩ := E
  obtain ⟨i1, i2, i3, i4, i5, i6, i7, i8⟩ := I
  have slot : ∀ u, u < 6 → u ≠ w → st' (304 + u) = st (304 + u) := fun u hu hne => h0 _ (by omega) (by omega) (by omega) (by omega) (by omega)
  have stat : ∀ t, t < 64 → t ≠ s → st' (240 + t) = st (240 + t) := fun t ht hne => h0 _ (by omega) (by omega) (by omega) (by omega) (by omega)
  have notm : ∀ x : Nat, x < 64 → ¬ m1 = nI x := fun x hx => by rw [m1_eq (by omega)]; exact id
  refine ⟨fun u hu t ht e => ?_, fun t ht e => ?_, fun u u' hu hu' hne e => ?_, fun u hu t ht e => ?_, fun v hv t ht e1 e2 => ?_, fun u hu e => ?_, fun u hu t ht1 ht2 => ?_, fun u hu t ht e => ?_⟩
  · by_cases q : u = w
    · rw [q, h2] at e
      exact absurd e (notm t (by omega))
    · rw [slot u hu q] at e
      have hne : t ≠ s := fun z => by
        have := i3 u w hu hw q (by rw [e, es, z])
        rw [e] at this
        exact absurd this.symm (notm t (by omega))
      rw [stat t (by omega) hne]
      exact i1 u hu t ht e
  · by_cases q : t = s
    · rw [q, h1, zn_eq (by omega) (by omega)] at e
      omega
    · rw [stat t ht q] at e
      obtain ⟨u, hu, e2⟩ := i2 t ht e
      have hne : u ≠ w := fun z => by
        rw [z, es, zn_eq (by omega) (by omega)] at e2
        omega
      exact ⟨u, hu, by rw [slot u hu hne]; exact e2⟩
  · by_cases q : u = w
    · rw [q, h2]
    · by_cases q2 : u' = w
      · rw [e, q2, h2]
      · rw [slot u hu q, slot u' hu' q2] at e
        rw [slot u hu q]
        exact i3 u u' hu hu' hne e
  · by_cases q : u = w
    · rw [q, h2] at e
      exact absurd e (notm t (by omega))
    · rw [slot u hu q] at e
      rw [hag]
      exact i4 u hu t ht e
  · rw [h0 v (by omega) (by omega) (by omega) (by omega) (by omega)] at e1
    rw [h0 (96 + v) (by omega) (by omega) (by omega) (by omega) (by omega)] at e2
    by_cases q : t = s
    · rw [q, h1]
      intro z
      rw [zn_eq (by omega) (by omega)] at z
      omega
    · rw [stat t (by omega) q]
      exact i5 v hv t ht e1 e2
  · by_cases q : u = w
    · rw [q]
      exact ⟨h3, h4, by rw [h5 w (by omega), decide_eq_true rfl]; simp⟩
    · rw [slot u hu q] at e
      obtain ⟨a1, a2, a3⟩ := i6 u hu e
      rw [h0 (311 + 2 * u) (by omega) (by omega) (by omega) (by omega) (by omega), h0 (312 + 2 * u) (by omega) (by omega) (by omega) (by omega) (by omega)]
      exact ⟨a1, a2, by rw [h5 u (by omega), a3]; rfl⟩
  · by_cases q : u = w
    · rw [q]
      unfold sb
      have z : st' (311 + 2 * w + t / 32) = nI 0 := by
        by_cases q : t < 32
        · rw [show 311 + 2 * w + t / 32 = 311 + 2 * w by omega, h3]
        · rw [show 311 + 2 * w + t / 32 = 312 + 2 * w by omega, h4]
      rw [z]
      exact b_0 _
    · rw [sb_eq (h0 (311 + 2 * u) (by omega) (by omega) (by omega) (by omega) (by omega)) (h0 (312 + 2 * u) (by omega) (by omega) (by omega) (by omega) (by omega)) ht2]
      exact i7 u hu t ht1 ht2
  · by_cases q : u = w
    · rw [q, h2] at e
      exact absurd e (notm t (by omega))
    · rw [slot u hu q] at e
      rw [sb_eq (h0 (311 + 2 * u) (by omega) (by omega) (by omega) (by omega) (by omega)) (h0 (312 + 2 * u) (by omega) (by omega) (by omega) (by omega) (by omega)) (by omega)]
      exact i8 u hu t ht e
end
