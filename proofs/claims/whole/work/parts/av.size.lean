section
variable {T : SSR} {E : SEv} {Hi : SHi} {P : SPool} {R : SRows} {Tp : STape} {S S' : SMo} {r on og tl st und kpt tp : Nat → Int32} {n m c b : Nat}
theorem t_size (hb : b < 2 ^ 29) (h : IV T E Hi P R Tp S r on og tl st und kpt tp b) (D : SRd) (x : Int32) : ∃ a S', f_X9_size T E Hi D R Tp x = some a ∧ f_X10_size S r st x = some (a, S') ∧ IV T E Hi P R Tp S' r on og tl st und kpt tp b := by
  have hI := IV_SQ (S' := sMo_thrown S (nI 0)) hb h ⟨rfl, rfl, rfl, rfl, rfl, rfl, rfl, rfl⟩
  obtain ⟨hTA, hER, h1, h2, h3, ⟨z, kf, z1, z2, z3, z4⟩, h7⟩ := id h
  suffices hs : ∃ a, f_X9_size T E Hi D R Tp x = some a ∧ f_X10_size S r st x = some (a, sMo_thrown S (nI 0)) by
    obtain ⟨a, a1, a2⟩ := hs
    exact ⟨a, sMo_thrown S (nI 0), a1, a2, hI⟩
  by_cases q9 : x = 9
  · subst q9
    refine ⟨nI z, ?_, ?_⟩
    · unfold f_X9_size
      rw [if_neg (by decide), if_neg (by decide), if_neg (by decide), if_neg (by decide), if_neg (by decide), if_neg (by decide), if_neg (by decide), if_neg (by decide), if_neg (by decide), if_pos rfl, z2]
    · unfold f_X10_size
      rw [if_pos rfl, z3]
      unfold sMo_thrown
      rw [z3]
      rfl
  · have ecl : ∀ (v0 v1 v2 v3 v4 v5 v6 v7 v8 : Int32), Rows_ring R = v0 → Rows_rowCount R = v1 → Rows_crash R = v2 → Rows_count R = v3 → (f_X6_runningSlots R).bind (fun q1 => (f_J6_bitCount_0f7a4 q1).bind (fun q2 => some q2)) = some v4 → Ev_unsureCount E = v5 → Ev_seenCount E = v6 → Hi_actCount Hi = v7 → Hi_imageCount Hi = v8 → f_X9_size T E Hi D R Tp x = some (if x = 0 then v0 else if x = 1 then v1 else if x = 2 then v2 else if x = 3 then v3 else if x = 4 then v4 else if x = 5 then v5 else if x = 6 then v6 else if x = 7 then v7 else if x = 8 then v8 else m1) := fun v0 v1 v2 v3 v4 v5 v6 v7 v8 e0 e1 e2 e3 e4 e5 e6 e7 e8 => by
      unfold f_X9_size
      rw [e0, e1, e2, e3, e4, e5, e6, e7, e8, if_neg q9]
      by_cases y0 : x = 0
      · rw [if_pos y0, if_pos y0]
      · rw [if_neg y0, if_neg y0]
        by_cases y1 : x = 1
        · rw [if_pos y1, if_pos y1]
        · rw [if_neg y1, if_neg y1]
          by_cases y2 : x = 2
          · rw [if_pos y2, if_pos y2]
          · rw [if_neg y2, if_neg y2]
            by_cases y3 : x = 3
            · rw [if_pos y3, if_pos y3]
            · rw [if_neg y3, if_neg y3]
              by_cases y4 : x = 4
              · rw [if_pos y4, if_pos y4]
              · rw [if_neg y4, if_neg y4]
                by_cases y5 : x = 5
                · rw [if_pos y5, if_pos y5]
                · rw [if_neg y5, if_neg y5]
                  by_cases y6 : x = 6
                  · rw [if_pos y6, if_pos y6]
                  · rw [if_neg y6, if_neg y6]
                    by_cases y7 : x = 7
                    · rw [if_pos y7, if_pos y7]
                    · rw [if_neg y7, if_neg y7]
                      by_cases y8 : x = 8
                      · rw [if_pos y8, if_pos y8]
                      · rw [if_neg y8, if_neg y8]
                        rfl
    rcases id hTA with ⟨h0, g0⟩ | ⟨n, m, c, hq, hh⟩
    · have eE : Ev_unsureCount E = nI 0 ∧ Ev_seenCount E = nI 0 := by
        rcases hER with ⟨-, -, e1, e2⟩ | ⟨e, -⟩
        · exact ⟨e1, e2⟩
        · rw [h0.1] at e
          exact absurd e (by decide)
      have hr0 : (f_X6_runningSlots R).bind (fun q1 => (f_J6_bitCount_0f7a4 q1).bind (fun q2 => some q2)) = some (nI 0) := by
        rw [X6_run0 h0.2.2.2.2.2.2.1, ob_some, J_bits, ob_some, fct_f]
      have e := ecl (nI 0) (nI 0) (nI 0) (nI 0) (nI 0) (nI 0) (nI 0) (nI 0) (nI 0) h0.2.2.1 h0.2.2.2.1 h0.2.2.2.2.1 h0.2.2.2.2.2.1 hr0 eE.1 eE.2 g0.1 g0.2.1
      refine ⟨_, e, ?_⟩
      have hs0 : Mo_hasStore S = 0 := h0.1
      have hin := M_in (x := x) (by omega : 9 < 2 ^ 30)
      have ez : nI 9 - nI 1 = nI 8 := by decide
      rw [ez] at hin
      unfold f_X10_size
      rw [if_neg q9, if_pos hs0]
      rcases ix_cases x (by omega : 9 < 2 ^ 30) with ⟨f0, f1⟩ | ⟨f0, a, ha, rfl⟩
      · rw [f0] at hin
        have hin' : f_X10_in x (0 : Int32) (8 : Int32) = some (nI 0) := hin
        have ne : ∀ k, k < 9 → ¬ x = nI k := fun k hk y => by
          rw [y, zn_lt (by omega) (by omega), zn_le (by omega) (by omega)] at f1
          omega
        have n0 : ¬ x = 0 := ne 0 (by omega)
        have n1 : ¬ x = 1 := ne 1 (by omega)
        have n2 : ¬ x = 2 := ne 2 (by omega)
        have n3 : ¬ x = 3 := ne 3 (by omega)
        have n4 : ¬ x = 4 := ne 4 (by omega)
        have n5 : ¬ x = 5 := ne 5 (by omega)
        have n6 : ¬ x = 6 := ne 6 (by omega)
        have n7 : ¬ x = 7 := ne 7 (by omega)
        have n8 : ¬ x = 8 := ne 8 (by omega)
        rw [if_neg n0, if_neg n1, if_neg n2, if_neg n3, if_neg n4, if_neg n5, if_neg n6, if_neg n7, if_neg n8, hin', ob_some, if_pos z0e]
        rfl
      · rw [f0] at hin
        have hin' : f_X10_in (nI a) (0 : Int32) (8 : Int32) = some (nI 1) := hin
        rw [hin', ob_some, if_neg z1e]
        have ev : (if nI a = 0 then nI 0 else if nI a = 1 then nI 0 else if nI a = 2 then nI 0 else if nI a = 3 then nI 0 else if nI a = 4 then nI 0 else if nI a = 5 then nI 0 else if nI a = 6 then nI 0 else if nI a = 7 then nI 0 else if nI a = 8 then nI 0 else m1) = nI 0 := by
          have tb : ∀ j : Fin 9, (if nI j.1 = 0 then nI 0 else if nI j.1 = 1 then nI 0 else if nI j.1 = 2 then nI 0 else if nI j.1 = 3 then nI 0 else if nI j.1 = 4 then nI 0 else if nI j.1 = 5 then nI 0 else if nI j.1 = 6 then nI 0 else if nI j.1 = 7 then nI 0 else if nI j.1 = 8 then nI 0 else m1) = nI 0 := by decide +kernel
          exact tb ⟨a, ha⟩
        rw [ev]
        rfl
    · obtain ⟨aa, ii, nw, k1, k2, k3, k4, k5, k6, k7, k8, k9, k10⟩ := hh
      have H := Q1_H hq
      have W := RC_W H
      obtain ⟨n', m', u, ev, sv, fk, rw', vals, e1, e2⟩ := ER_yes hER hq.1
      have hr1 : (f_X6_runningSlots R).bind (fun q1 => (f_J6_bitCount_0f7a4 q1).bind (fun q2 => some q2)) = some (nI (fb_ct (rn st) 6)) := by
        rw [X6_runningSlots H, ob_some, J_bits, ob_some]
      have e := ecl (nI n) (nI m) (nI c) (nI (fb_ct (lv st) 48)) (nI (fb_ct (rn st) 6)) (nI u) (nI ev) (nI aa) (nI ii) (RC_ring H) (RC_rc H) (RC_cr H) (RO_ct2 H) hr1 e2.1 e2.2.1 k4 k5
      refine ⟨_, e, ?_⟩
      have hs0 : ¬ Mo_hasStore S = 0 := by rw [hq.1]; decide
      have y0' : (0 : Int32).toNatClampNeg = 0 := by decide
      have y1' : (1 : Int32).toNatClampNeg = 1 := by decide
      have y3' : (3 : Int32).toNatClampNeg = 3 := by decide
      have y4' : (4 : Int32).toNatClampNeg = 4 := by decide
      have y5' : (5 : Int32).toNatClampNeg = 5 := by decide
      unfold f_X10_size
      rw [if_neg q9, if_neg hs0]
      by_cases y0 : x = 0
      · rw [if_pos y0, if_pos y0, if_pos (by decide), y0', hq.2.2.1]
        rfl
      · rw [if_neg y0, if_neg y0]
        by_cases y1 : x = 1
        · rw [if_pos y1, if_pos y1, if_pos (by decide), y1', hq.2.2.2.1]
          rfl
        · rw [if_neg y1, if_neg y1]
          by_cases y2 : x = 2
          · rw [if_pos y2, if_pos y2, if_pos (by decide), y3', hq.2.2.2.2.1]
            rfl
          · rw [if_neg y2, if_neg y2]
            by_cases y3 : x = 3
            · rw [if_pos y3, if_pos y3, M_versionsOf W, ob_some]
              rfl
            · rw [if_neg y3, if_neg y3]
              by_cases y4 : x = 4
              · rw [if_pos y4, if_pos y4, M_runMany W, ob_some]
                rfl
              · rw [if_neg y4, if_neg y4]
                by_cases y5 : x = 5
                · rw [if_pos y5, if_pos y5, if_pos (by decide), y4', e1.2.2.2.1]
                  rfl
                · rw [if_neg y5, if_neg y5]
                  by_cases y6 : x = 6
                  · rw [if_pos y6, if_pos y6, if_pos (by decide), y5', e1.2.2.2.2.1]
                    rfl
                  · rw [if_neg y6, if_neg y6]
                    by_cases y7 : x = 7
                    · rw [if_pos y7, if_pos y7]
                      unfold sMo_thrown
                      rw [k7]
                      rfl
                    · rw [if_neg y7, if_neg y7]
                      by_cases y8 : x = 8
                      · rw [if_pos y8, if_pos y8]
                        unfold sMo_thrown
                        rw [k8]
                        rfl
                      · rw [if_neg y8, if_neg y8]
                        rfl
theorem M_ledL (W : WS st n m) (h1 : r 1 = nI m) (hs : Mo_hasStore S = nI 1) (x : Int32) : ∀ (j k fu : Nat) (q : Int32), k + j = m → j < fu → zl3 (b_X10_led_4 r st x) fu S q (nI k) = some (if nthR (fun r => (bst st (sp st (dn st) r) 48).isNone) m x (j + 1) k q = m2 then nI 0 else nthR (fun r => (bst st (sp st (dn st) r) 48).isNone) m x (j + 1) k q, sMo_thrown S (if nthR (fun r => (bst st (sp st (dn st) r) 48).isNone) m x (j + 1) k q = m2 then nI 1 else nI 0)) := by
  have hm := WS_m W
  have hs0 : ¬ Mo_hasStore S = 0 := by rw [hs]; decide
  have y1' : (1 : Int32).toNatClampNeg = 1 := by decide
  have z11 : zib (1 : Int32) 140 := by decide
  intro j
  induction j with
  | zero =>
    intro k fu q hk hf
    obtain ⟨fu, rfl⟩ : ∃ m, fu = m + 1 := ⟨fu - 1, by omega⟩
    have e : nthR (fun r => (bst st (sp st (dn st) r) 48).isNone) m x (0 + 1) k q = m2 := by
      rw [nthR_s, if_neg (by omega)]
    have b1 : nI m ≤ nI k := by rw [zn_le (by omega) (by omega)]; omega
    have h1' : r (1 : Int32).toNatClampNeg = nI m := h1
    rw [e, if_pos rfl, if_pos rfl, zl3_s]
    generalize zl3 (b_X10_led_4 r st x) fu = G
    unfold b_X10_led_4
    rw [if_neg hs0, if_pos z11, h1', if_pos b1]
    rfl
  | succ j ih =>
    intro k fu q hk hf
    obtain ⟨fu, rfl⟩ : ∃ m, fu = m + 1 := ⟨fu - 1, by omega⟩
    have h1' : r (1 : Int32).toNatClampNeg = nI m := h1
    have b1 : ¬ nI m ≤ nI k := by rw [zn_le (by omega) (by omega)]; omega
    have hseen := M_seenIn (S := S) (x := m1) (who_fresh W) W (by omega : k < m)
    have hseen' : f_X10_seenIn S st (-1 : Int32) (nI k) = some (eo (bst st (sp st (dn st) k) 48)) := hseen
    have es : zl3 (b_X10_led_4 r st x) (fu + 1) S q (nI k) = (if eo (bst st (sp st (dn st) k) 48) < 0 then (if q = x then some (nI k, sMo_thrown S (nI 0)) else zl3 (b_X10_led_4 r st x) fu S (q + nI 1) (nI (k + 1))) else zl3 (b_X10_led_4 r st x) fu S q (nI (k + 1))) := by
      rw [zl3_s]
      generalize zl3 (b_X10_led_4 r st x) fu = G
      unfold b_X10_led_4
      rw [if_neg hs0, if_pos z11, h1', if_neg b1, hseen', ob_some, nI_1]
      rfl
    have hkm : k < m := by omega
    rw [es]
    cases z : bst st (sp st (dn st) k) 48 with
    | none =>
      have en : eo (none : Option Nat) < 0 := by decide
      have en2 : nthR (fun r => (bst st (sp st (dn st) r) 48).isNone) m x (j + 1 + 1) k q = (if q = x then nI k else nthR (fun r => (bst st (sp st (dn st) r) 48).isNone) m x (j + 1) (k + 1) (q + nI 1)) := by
        have z' : (bst st (sp st (dn st) k) 48).isNone = true := by rw [z]; rfl
        rw [nthR_s, if_pos hkm, if_pos z']
      rw [if_pos en, en2]
      by_cases y : q = x
      · rw [if_pos y, if_pos y]
        have nk : ¬ nI k = m2 := by rw [eq_m2 (by omega)]; exact not_false
        rw [if_neg nk, if_neg nk]
      · rw [if_neg y, if_neg y]
        exact ih (k + 1) fu (q + nI 1) (by omega) (by omega)
    | some v =>
      have hv : v < 48 := by
        obtain ⟨⟨h2, -⟩, -⟩ := bst_some z
        exact h2
      have en : ¬ eo (some v) < 0 := by
        show ¬ nI v < nI 0
        rw [zn_lt (by omega) (by omega)]
        omega
      have en2 : nthR (fun r => (bst st (sp st (dn st) r) 48).isNone) m x (j + 1 + 1) k q = nthR (fun r => (bst st (sp st (dn st) r) 48).isNone) m x (j + 1) (k + 1) q := by
        have z' : ¬ (bst st (sp st (dn st) k) 48).isNone = true := by rw [z]; exact Bool.false_ne_true
        rw [nthR_s, if_pos hkm, if_neg z']
      rw [if_neg en, en2]
      exact ih (k + 1) fu q (by omega) (by omega)
theorem t_led (hb : b < 2 ^ 29) (h : IV T E Hi P R Tp S r on og tl st und kpt tp b) (x : Int32) : ∃ a S', f_X6_emptyRow R x = some a ∧ f_X10_led S r st x = some (if a = m2 then nI 0 else a, S') ∧ Mo_thrown S' = (if a = m2 then nI 1 else nI 0) ∧ IV T E Hi P R Tp S' r on og tl st und kpt tp b := by
  rcases id h.1 with ⟨h0, g0⟩ | ⟨n, m, c, hq, hh⟩
  · refine ⟨m2, sMo_thrown S (nI 1), ?_, ?_, by rw [if_pos rfl]; rfl, IV_SQ hb h ⟨rfl, rfl, rfl, rfl, rfl, rfl, rfl, rfl⟩⟩
    · have eF : FU = 5999 + 1 := rfl
      have b1 : (nI 0 : Int32) ≤ 0 := by decide
      unfold f_X6_emptyRow
      rw [eF, zl2_s]
      unfold b_X6_emptyRow_4
      rw [h0.2.2.2.1, if_pos b1]
      rfl
    · have eF : FU = 5999 + 1 := rfl
      have hs0 : Mo_hasStore S = 0 := h0.1
      unfold f_X10_led
      rw [eF, zl3_s, if_pos rfl]
      unfold b_X10_led_4
      rw [if_pos hs0]
      rfl
  · have H := Q1_H hq
    have W := RC_W H
    have hm := WS_m W
    have e1 := X6_emptyRow H x
    have e2 : f_X10_led S r st x = _ := M_ledL W hq.2.2.2.1 hq.1 x m 0 FU (nI 0) (by omega) (by unfold FU; omega)
    exact ⟨_, _, e1, e2, rfl, IV_SQ hb h ⟨rfl, rfl, rfl, rfl, rfl, rfl, rfl, rfl⟩⟩
end
