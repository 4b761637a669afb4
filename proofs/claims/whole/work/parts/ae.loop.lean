/-! all lines of a text -/
section
variable {T : STape} {S S' : SMo} {D : SRd} {E : SEv} {R : SRows} {lt tp fr mk oq ow rd rd' sl : Nat → Int32} {kf : Nat → Nat} {L p p0 e n m c b : Nat} {mr : Option MXt}
theorem M_sl_again (hf : Mo_failed S = nI 0) (h7 : fr 7 = nI 1) : f_X10_storeLine S fr lt rd tp = some (wrS S (nI 3) (Mo_at S), fr, lt, rd) := by
  have hf' : ¬ Mo_failed (wrS S 3 (Mo_at S)) = 0 := by
    show ¬ nI 1 = (0 : Int32)
    decide
  unfold f_X10_storeLine b_X10_storeLine_19
  rw [if_pos (by decide), z7, h7, if_neg (by decide), M_wrong hf, ob_some, if_neg hf']
  rfl
theorem any_line (C : CX T S tp kf L) (hk : TK T S lt kf L p) (P : NSt D E R S fr rd ∨ ∃ n m c, PS D E R S fr oq ow rd sl kf n m c b) (hb : b + 1 < 2 ^ 29) : LO D E R T S (f_X10_readLine S fr lt mk oq ow rd sl tp) kf L p b := by
  have hf := C.2.2.2.2.2
  have hst := hk.1.trans hk.2.1.symm
  obtain ⟨q, w1, w2, w3⟩ := TK_words C.1 C.2.1 C.2.2.1 hf hk
  have hres := T_reserved (fun x hx => (w1 x hx).1)
  have hw2 : ∀ x, x < 15 → f_X10_isWord S lt x = some (bI (q x)) := fun x hx => (w1 x hx).2
  cases z : fi q 11 with
  | none =>
    rw [z] at hres
    have hn := fi_none z
    rw [M_rl_bad hf hw2 (fun x hx => hn x (by omega))]
    exact LO_bad (wrS S (nI 1) (Mo_at S), fr, lt, mk, oq, ow, rd, sl) (T_rl_none hres) rfl ⟨TE_rfl T, FM_wr _ _ _, rfl, rfl, hst⟩
  | some j =>
    rw [z] at hres
    obtain ⟨j1, j2, -⟩ := fi_some z
    obtain ⟨e, hw⟩ := w3 j j2
    have hj : f_X10_isWord S lt j = some (nI 1) := by
      rw [hw2 j (by omega), j2]
      rfl
    have g : ∀ x, x < 11 → x ≠ j → f_X10_isWord S lt x = some (nI 0) := fun x hx hne => by
      rw [hw2 x (by omega)]
      cases y : q x
      · rfl
      · exact absurd (w2 x j (by omega) (by omega) y j2) hne
    by_cases h10 : j = 10
    · subst h10
      have hn : ∀ x, x < 10 → q x = false := fun x hx => by
        cases y : q x
        · rfl
        · have := w2 x 10 (by omega) (by omega) y j2
          omega
      rw [M_rl_bad hf hw2 hn]
      exact LO_bad (wrS S (nI 1) (Mo_at S), fr, lt, mk, oq, ow, rd, sl) (T_rl_10 hres) rfl ⟨TE_rfl T, FM_wr _ _ _, rfl, rfl, hst⟩
    · rcases P with P | ⟨n, m, c, P⟩
      · by_cases h0 : j = 0
        · subst h0
          exact line_0 C hw hres hj P hb
        · have hcl := T_rl_ns (D := D) (E := E) (R := R) (by omega) (by omega) hres P.2.2.1
          have h7 := P.2.2.2.2.2.2.2.1 7 (by omega)
          have h6 := P.2.2.2.2.2.2.2.1 6 (by omega)
          have h4 := P.2.2.2.2.2.2.2.1 4 (by omega)
          have hm : f_X10_readLine S fr lt mk oq ow rd sl tp = some (wrS S (nI 6) (Mo_at S), fr, lt, mk, oq, ow, rd, sl) := by
            have hjj : j = 1 ∨ j = 2 ∨ j = 3 ∨ j = 4 ∨ j = 5 ∨ j = 6 ∨ j = 7 ∨ j = 8 ∨ j = 9 := by omega
            rcases hjj with rfl | rfl | rfl | rfl | rfl | rfl | rfl | rfl | rfl
            · exact M_rlns_1 hf hj g h7 h6 h4
            · exact M_rlns_2 hf hj g h7 h6 h4
            · exact M_rlns_3 hf hj g h7 h6 h4
            · exact M_rlns_4 hf hj g h7 h6 h4
            · exact M_rlns_5 hf hj g h7 h6 h4
            · exact M_rlns_6 hf hj g h7 h6 h4
            · exact M_rlns_7 hf hj g h7 h6 h4
            · exact M_rlns_8 hf hj g h7 h6 h4
            · exact M_rlns_9 hf hj g h7 h6 h4
          rw [hm]
          exact LO_bad (wrS S (nI 6) (Mo_at S), fr, lt, mk, oq, ow, rd, sl) hcl rfl ⟨TE_rfl T, FM_wr _ _ _, rfl, rfl, hst⟩
      · have hring := PS_ring P
        have h7 : fr 7 = nI 1 := by
          obtain ⟨kn, u, ev, po, le, rw', -, -, hd, -⟩ := P
          exact hd.2.2.2
        have hjj : j = 0 ∨ j = 1 ∨ j = 2 ∨ j = 3 ∨ j = 4 ∨ j = 5 ∨ j = 6 ∨ j = 7 ∨ j = 8 ∨ j = 9 := by omega
        rcases hjj with rfl | rfl | rfl | rfl | rfl | rfl | rfl | rfl | rfl | rfl
        · rw [M_rl_0 hf hj, M_sl_again hf h7]
          exact LO_bad (wrS S (nI 3) (Mo_at S), fr, lt, mk, oq, ow, rd, sl) (T_rl_0s hres hring) rfl ⟨TE_rfl T, FM_wr _ _ _, rfl, rfl, hst⟩
        · exact line_1 C hk hw hres hj g P hb
        · exact line_2 C hw hres hj g P hb
        · exact line_3 C hw hres hj g P hb
        · exact line_45 true C hw P hb (T_rl_4 hres hring) (fun y D1 h1 h2 => T_da_4 h1 h2) (M_rl_4 hf hj g h7)
        · exact line_45 false C hw P hb (T_rl_5 hres hring) (fun y D1 h1 h2 => T_da_5 h1 h2) (M_rl_5 hf hj g h7)
        · exact line_6 C hw hres hj g P hb
        · exact line_7 C hw hres hj g P hb
        · exact line_8 C hk hw hres hj g P hb
        · exact line_9 C hk hw hres hj g P hb
end
def MRun (tp : Nat → Int32) (x1 : Int32) (fu : Nat) (X : MXt) (og on r st tl : Nat → Int32) : Option (Int32 × SMo × (Nat → Int32) × (Nat → Int32) × (Nat → Int32) × (Nat → Int32) × (Nat → Int32) × (Nat → Int32) × (Nat → Int32) × (Nat → Int32) × (Nat → Int32) × (Nat → Int32) × (Nat → Int32) × (Nat → Int32)) := zl13 (b_X10_store_158 tp x1) fu X.1 X.2.1 X.2.2.1 X.2.2.2.1 og X.2.2.2.2.1 on X.2.2.2.2.2.1 r X.2.2.2.2.2.2.1 X.2.2.2.2.2.2.2 st tl
def M185 (tp : Nat → Int32) (x1 : Int32) (X : MXt) (og on r st tl : Nat → Int32) : Option (Int32 × SMo × (Nat → Int32) × (Nat → Int32) × (Nat → Int32) × (Nat → Int32) × (Nat → Int32) × (Nat → Int32) × (Nat → Int32) × (Nat → Int32) × (Nat → Int32) × (Nat → Int32) × (Nat → Int32) × (Nat → Int32)) := b_X10_store_185 tp x1 X.1 X.2.1 X.2.2.1 X.2.2.2.1 og X.2.2.2.2.1 on X.2.2.2.2.2.1 r X.2.2.2.2.2.2.1 X.2.2.2.2.2.2.2 st tl
section
variable {T T' T2 : STape} {S S' S2 : SMo} {D D' : SRd} {E : SEv} {R : SRows} {lt tp fr mk oq ow rd rd' sl og on r st tl : Nat → Int32} {kf : Nat → Nat} {L p p0 e n m c b : Nat} {x1 : Int32} {fu : Nat} {X Y : MXt}
theorem MRun_s : MRun tp x1 (fu + 1) X og on r st tl = b_X10_store_158 tp x1 (zl13 (b_X10_store_158 tp x1) fu) X.1 X.2.1 X.2.2.1 X.2.2.2.1 og X.2.2.2.2.1 on X.2.2.2.2.2.1 r X.2.2.2.2.2.2.1 X.2.2.2.2.2.2.2 st tl := rfl
theorem MRun_f (h : Mo_failed X.1 = nI 1) : MRun tp x1 (fu + 1) X og on r st tl = M185 tp x1 X og on r st tl := by
  have h' : ¬ Mo_failed X.1 = 0 := by rw [h]; decide
  rw [MRun_s]
  unfold b_X10_store_158
  rw [if_neg h']
  rfl
theorem MRun_t (h : Mo_failed X.1 = nI 0) (ht : ¬ Mo_token X.1 = nI 59) : MRun tp x1 (fu + 1) X og on r st tl = M185 tp x1 X og on r st tl := by
  have h' : Mo_failed X.1 = 0 := h
  have ht' : ¬ Mo_token X.1 = 59 := ht
  rw [MRun_s]
  unfold b_X10_store_158
  rw [if_pos h', if_neg ht']
  rfl
theorem MRun_go {S1 : SMo} {lt1 : Nat → Int32} (h : Mo_failed X.1 = nI 0) (ht : Mo_token X.1 = nI 59) (hs : f_X10_step X.1 X.2.2.1 tp = some (S1, lt1)) (hr : f_X10_readLine S1 X.2.1 lt1 X.2.2.2.1 X.2.2.2.2.1 X.2.2.2.2.2.1 X.2.2.2.2.2.2.1 X.2.2.2.2.2.2.2 tp = some Y) : MRun tp x1 (fu + 1) X og on r st tl = MRun tp x1 fu Y og on r st tl := by
  have h' : Mo_failed X.1 = 0 := h
  have ht' : Mo_token X.1 = 59 := ht
  rw [MRun_s]
  unfold b_X10_store_158
  rw [if_pos h', if_pos ht', hs, ob_some, hr, ob_some]
  rfl
theorem T_49_cf {k : SRd → SEv → SRows → STape → Int32 → Option (Int32 × SRd × SEv × SRows × STape)} {v : Nat} (hv : v ≤ L) (hL : L ≤ 900) (h : CF D E R T D' T') : ∃ E' R', b_X5_readStore_49 (nI L) k D E R T (nI v) = some (nI 0, D', E', R', T') := by
  have b1 : ¬ nI L < nI v := by rw [zn_lt (by omega) (by omega)]; omega
  obtain ⟨E', R', h | ⟨D1, R1, D2, h1, h2, h3⟩⟩ := h
  · refine ⟨E', R', ?_⟩
    unfold b_X5_readStore_49
    rw [if_neg b1, h, ob_some, if_pos z0e]
    rfl
  · refine ⟨E', R', ?_⟩
    unfold b_X5_readStore_49
    rw [if_neg b1, h1, ob_some, if_neg z1e, h2, ob_some, if_pos z0e, T_fail, ob_some, if_pos zb0, h3]
    rfl
theorem FO_pre (h : TE T T2) (g : FM S S2) (f : FO D T2 T' S2 S') : FO D T T' S S' := by
  rcases f with f | f
  · exact .inl ⟨TE_trans h f.1, FM_trans g f.2.1, f.2.2⟩
  · exact .inr ⟨TE_trans h f.1, FM_trans g f.2.1, f.2.2⟩
theorem PS_SE (P : PS D E R S fr oq ow rd sl kf n m c b) (h : SE S S') : PS D E R S' fr oq ow rd sl kf n m c b := by
  obtain ⟨kn, u, ev, po, le, rw', f1, f2, hd, rg, hx⟩ := P
  exact ⟨kn, u, ev, po, le, rw', f1, (SE_fault h).trans f2, hd, (SE_ring h).trans rg, hx⟩
theorem LO_some {mr : Option MXt} (h : LO D E R T S mr kf L p b) : ∃ X, mr = some X := by
  rcases h with ⟨D1, E1, R1, T1, D2, R2, p', n', m', c', X, -, -, h, -⟩ | ⟨D', T', X, -, h, -⟩
  · exact ⟨X, h⟩
  · exact ⟨X, h⟩
theorem run_all (hL : L ≤ 900) : ∀ (k : Nat) (D : SRd) (E : SEv) (R : SRows) (T : STape) (S : SMo) (fr lt mk oq ow rd sl : Nat → Int32) (p v b fu fu2 : Nat) (X : MXt), L - p < k → v ≤ p → CX T S tp kf L → TK T S lt kf L p → (NSt D E R S fr rd ∨ ∃ n m c, PS D E R S fr oq ow rd sl kf n m c b) → b + (L - p) + 1 < 2 ^ 29 → L - p < fu → L - p < fu2 → f_X10_readLine S fr lt mk oq ow rd sl tp = some X →
    (∃ D' E' R' T' n m c b', ∃ Y : MXt, zl5 (b_X5_readStore_49 (nI L)) fu D E R T (nI v) = (f_X5_tellUnsure D' E').bind (fun q5 => some (nI 1, D', q5, R', T')) ∧ (∀ og on r st tl, MRun tp (nI L) fu2 X og on r st tl = M185 tp (nI L) Y og on r st tl) ∧ TE T T' ∧ FM S Y.1 ∧ Mo_failed Y.1 = nI 0 ∧ Mo_token Y.1 = nI 0 ∧ PS D' E' R' Y.1 Y.2.1 Y.2.2.2.2.1 Y.2.2.2.2.2.1 Y.2.2.2.2.2.2.1 Y.2.2.2.2.2.2.2 kf n m c b' ∧ b' ≤ b + (L - p) + 1) ∨
    (∃ D' E' R' T', ∃ Y : MXt, zl5 (b_X5_readStore_49 (nI L)) fu D E R T (nI v) = some (nI 0, D', E', R', T') ∧ (∀ og on r st tl, MRun tp (nI L) fu2 X og on r st tl = M185 tp (nI L) Y og on r st tl) ∧ FO D' T T' S Y.1) := by
  intro k
  induction k with
  | zero =>
    intro D E R T S fr lt mk oq ow rd sl p v b fu fu2 X hk
    exact absurd hk (Nat.not_lt_zero _)
  | succ k ih =>
    intro D E R T S fr lt mk oq ow rd sl p v b fu fu2 X hk hv C hT hP hb hf1 hf2 hX
    obtain ⟨fu, rfl⟩ : ∃ m, fu = m + 1 := ⟨fu - 1, by omega⟩
    obtain ⟨fu2, rfl⟩ : ∃ m, fu2 = m + 1 := ⟨fu2 - 1, by omega⟩
    have hpL := hT.2.2.1
    have hlo := any_line (mk := mk) C hT hP (by omega)
    rw [hX] at hlo
    have b1 : ¬ nI L < nI v := by rw [zn_lt (by omega) (by omega)]; omega
    have es : zl5 (b_X5_readStore_49 (nI L)) (fu + 1) D E R T (nI v) = b_X5_readStore_49 (nI L) (zl5 (b_X5_readStore_49 (nI L)) fu) D E R T (nI v) := rfl
    rw [es]
    rcases hlo with ⟨D1, E1, R1, T1, D2, R2, p', n', m', c', X', h1, h2, h3, h4, h5, h6, h7, h8, h9, h10⟩ | ⟨D', T', X', h1, h2, h3⟩
    · cases Option.some.inj h3
      rcases h9 with ⟨hT1, hE | hS⟩
      · refine .inl ⟨D2, E1, R2, T1, n', m', c', b + 1, X, ?_, fun og on r st tl => MRun_t h6 (by rw [hE.2]; decide), h4, h5, h6, hE.2, h10, by omega⟩
        have hk0 : Tape_kind T1 = 0 := hE.1
        unfold b_X5_readStore_49
        rw [if_neg b1, h1, ob_some, if_neg z1e, h2, ob_some, if_neg z1e, if_pos hk0]
        rfl
      · have C1 : CX T1 X.1 tp kf L := by
          obtain ⟨c1, c2, c3, c4, c5, c6⟩ := C
          refine ⟨?_, c2, h4.2.1.trans c3, h7.trans c4, h4.1.trans c5, h6⟩
          rw [h4.2.2]
          exact c1
        obtain ⟨S1, lt1, g1, ⟨T2, p2, a1, a2, a3, a4⟩, g3⟩ := go_s (lt := X.2.2.1) C1 hS
        have C2 : CX T2 S1 tp kf L := CX_TE C1 a4 g3
        have P2 := PS_SE h10 g3
        have hp2 := a2.2.2.1
        obtain ⟨Y, hY⟩ := LO_some (any_line (mk := X.2.2.2.1) C2 a2 (.inr ⟨n', m', c', P2⟩) (by omega))
        have hcl : b_X5_readStore_49 (nI L) (zl5 (b_X5_readStore_49 (nI L)) fu) D E R T (nI v) = zl5 (b_X5_readStore_49 (nI L)) fu D2 E1 R2 T2 (nI (v + 1)) := by
          have hk0 : ¬ Tape_kind T1 = 0 := by rw [hS.1]; decide
          have ev : nI v + 1 = nI (v + 1) := nI_1 v
          generalize zl5 (b_X5_readStore_49 (nI L)) fu = G
          unfold b_X5_readStore_49
          rw [if_neg b1, h1, ob_some, if_neg z1e, h2, ob_some, if_neg z1e, if_neg hk0, a1, ob_some, ev]
        have hmo : ∀ og on r st tl, MRun tp (nI L) (fu2 + 1) X og on r st tl = MRun tp (nI L) fu2 Y og on r st tl := fun og on r st tl => MRun_go h6 hS.2.1 g1 hY
        have te := TE_trans h4 a4
        have fm := FM_trans h5 (SE_FM g3)
        rw [hcl]
        rcases ih D2 E1 R2 T2 S1 X.2.1 lt1 X.2.2.2.1 X.2.2.2.2.1 X.2.2.2.2.2.1 X.2.2.2.2.2.2.1 X.2.2.2.2.2.2.2 p2 (v + 1) (b + 1) fu fu2 Y (by omega) (by omega) C2 a2 (.inr ⟨n', m', c', P2⟩) (by omega) (by omega) (by omega) hY with ⟨D3, E3, R3, T3, n3, m3, c3, b3, Z, k1, k2, k3, k4, k5, k6, k7, k8⟩ | ⟨D3, E3, R3, T3, Z, k1, k2, k3⟩
        · exact .inl ⟨D3, E3, R3, T3, n3, m3, c3, b3, Z, k1, fun og on r st tl => (hmo og on r st tl).trans (k2 og on r st tl), TE_trans te k3, FM_trans fm k4, k5, k6, k7, by omega⟩
        · exact .inr ⟨D3, E3, R3, T3, Z, k1, fun og on r st tl => (hmo og on r st tl).trans (k2 og on r st tl), FO_pre te fm k3⟩
    · cases Option.some.inj h2
      obtain ⟨E', R', hc⟩ := T_49_cf (k := zl5 (b_X5_readStore_49 (nI L)) fu) (v := v) (by omega) hL h1
      refine .inr ⟨D', E', R', T', X, hc, fun og on r st tl => ?_, h3⟩
      rcases h3 with h3 | h3
      · exact MRun_f h3.2.2.1
      · exact MRun_t h3.2.2.1 h3.2.2.2.1.2
end
