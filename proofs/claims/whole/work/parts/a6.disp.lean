/-! what a line begins with, on both sides -/
def dHd (D : SRd) (x : Option Nat) : SRd := mkRd (Rd_fault D) (Rd_place D) (Rd_nameCount D) (Rd_names D) (Rd_nameStamps D) (Rd_nameSlots D) (Rd_unsureNames D) (Rd_unsureCount D) x (Rd_name D) (Rd_row D) (Rd_whole D)
section
variable {T : STape} {S : SMo} {D : SRd} {E : SEv} {R : SRows} {lt tp fr mk od ow rd sl : Nat → Int32} {q : Nat → Bool}
theorem z0e : nI 0 = (0 : Int32) := rfl
theorem z1e : ¬ nI 1 = (0 : Int32) := by decide
theorem zb0 : zbo (nI 0) := .inl rfl
theorem T_stored (h : ¬ Rows_ring R = nI 0) : f_X5_isStored D R = some (nI 1) := by
  have h' : ¬ Rows_ring R = 0 := h
  unfold f_X5_isStored
  rw [if_neg h']
  rfl
theorem T_unstored (h : Rows_ring R = nI 0) : f_X5_isStored D R = some (nI 0) := by
  have h' : Rows_ring R = 0 := h
  unfold f_X5_isStored
  rw [if_pos h']
  rfl
theorem T_rl_none (hr : f_X7_reserved T = some none) : f_X5_readLine D E R T = some (nI 0, flD (dHd D none) (nI 1) (Tape_start T), E, R, T) := by
  unfold f_X5_readLine
  rw [hr, ob_some, if_pos rfl, T_fail, ob_some, if_pos zb0]
  rfl
theorem T_rl_10 (hr : f_X7_reserved T = some (some 10)) : f_X5_readLine D E R T = some (nI 0, flD (dHd D (some 10)) (nI 1) (Tape_start T), E, R, T) := by
  unfold f_X5_readLine
  rw [hr, ob_some, if_neg (by decide), if_pos (by decide), if_pos rfl, T_fail, ob_some, if_pos zb0]
  rfl
theorem T_rl_0s (hr : f_X7_reserved T = some (some 0)) (h : ¬ Rows_ring R = nI 0) : f_X5_readLine D E R T = some (nI 0, flD (dHd D (some 0)) (nI 3) (Tape_start T), E, R, T) := by
  unfold f_X5_readLine
  rw [hr, ob_some, if_neg (by decide), if_pos (by decide), if_neg (by decide), if_pos (by decide), if_pos (by decide), T_stored h, ob_some, if_neg (by decide), T_fail, ob_some, if_pos zb0]
  rfl
theorem T_rl_0 (hr : f_X7_reserved T = some (some 0)) (h : Rows_ring R = nI 0) : f_X5_readLine D E R T = (f_X5_readHead (dHd D (some 0)) R T).bind (fun q20 => if zbo q20.1 then some (q20.1, q20.2.1, E, q20.2.2.1, q20.2.2.2) else none) := by
  unfold f_X5_readLine
  rw [hr, ob_some, if_neg (by decide), if_pos (by decide), if_neg (by decide), if_pos (by decide), if_pos (by decide), T_unstored h, ob_some, if_pos (by decide)]
  rfl
theorem T_rl_ns {j : Nat} (hj : 1 ≤ j) (hj2 : j < 10) (hr : f_X7_reserved T = some (some j)) (h : Rows_ring R = nI 0) : f_X5_readLine D E R T = some (nI 0, flD (dHd D (some j)) (nI 6) (Tape_start T), E, R, T) := by
  have e1 : ¬ (some j = (none : Option Nat)) := fun z => by cases z
  have e2 : (some j).getD 0 < 11 := Nat.lt_trans hj2 (by decide)
  have e3 : ¬ (some j = some 10) := fun z => by cases z; omega
  have e4 : ¬ (some j = some 0) := fun z => by cases z; omega
  unfold f_X5_readLine
  rw [hr, ob_some, if_neg e1, if_pos e2, if_neg e3, if_pos e2, if_neg e4, T_unstored h, ob_some, if_pos (by decide), T_fail, ob_some, if_pos zb0]
  rfl
theorem T_rl_1 (hr : f_X7_reserved T = some (some 1)) (h : ¬ Rows_ring R = nI 0) : f_X5_readLine D E R T = (f_X5_readBegin (dHd D (some 1)) T).bind (fun q7 => if zbo q7.1 then some (q7.1, q7.2.1, E, R, q7.2.2) else none) := by
  have ho : f_Jx29ce0_ordinal_8abf5 ((some 1).getD 0) = some (nI 1) := by decide +kernel
  unfold f_X5_readLine
  rw [hr, ob_some, if_neg (by decide), if_pos (by decide), if_neg (by decide), if_pos (by decide), if_neg (by decide), T_stored h, ob_some, if_neg (by decide), if_pos (by decide), ho, ob_some, if_pos (by decide), if_pos (by decide)]
  rfl
theorem T_rl_2 (hr : f_X7_reserved T = some (some 2)) (h : ¬ Rows_ring R = nI 0) : f_X5_readLine D E R T = (f_X5_takeRunning (dHd D (some 2)) T).bind (fun q8 => if q8.1 = 0 then some ((0 : Int32), q8.2.1, E, R, q8.2.2) else (f_X5_takeRow q8.2.1 R q8.2.2).bind (fun q9 => if q9.1 = 0 then some ((0 : Int32), q9.2.1, E, R, q9.2.2) else (f_X5_takeWhole q9.2.1 q9.2.2 (0 : Int32) (999 : Int32)).bind (fun q10 => if q10.1 = 0 then some ((0 : Int32), q10.2.1, E, R, q10.2.2) else (f_X5_takeLineEnd q10.2.1 q10.2.2).bind (fun q11 => if q11.1 = 0 then some ((0 : Int32), q11.2.1, E, R, q11.2.2) else some ((1 : Int32), q11.2.1, E, R, q11.2.2))))) := by
  have ho : f_Jx29ce0_ordinal_8abf5 ((some 2).getD 0) = some (nI 2) := by decide +kernel
  unfold f_X5_readLine
  rw [hr, ob_some, if_neg (by decide), if_pos (by decide), if_neg (by decide), if_pos (by decide), if_neg (by decide), T_stored h, ob_some, if_neg (by decide), if_pos (by decide), ho, ob_some, if_pos (by decide), if_neg (by decide), if_pos (by decide)]
  rfl
theorem T_rl_3 (hr : f_X7_reserved T = some (some 3)) (h : ¬ Rows_ring R = nI 0) : f_X5_readLine D E R T = (f_X5_takeRunning (dHd D (some 3)) T).bind (fun q12 => if q12.1 = 0 then some ((0 : Int32), q12.2.1, E, R, q12.2.2) else (f_X5_takeRow q12.2.1 R q12.2.2).bind (fun q13 => if q13.1 = 0 then some ((0 : Int32), q13.2.1, E, R, q13.2.2) else (f_X5_takeLineEnd q13.2.1 q13.2.2).bind (fun q14 => if q14.1 = 0 then some ((0 : Int32), q14.2.1, E, R, q14.2.2) else some ((1 : Int32), q14.2.1, E, R, q14.2.2)))) := by
  have ho : f_Jx29ce0_ordinal_8abf5 ((some 3).getD 0) = some (nI 3) := by decide +kernel
  unfold f_X5_readLine
  rw [hr, ob_some, if_neg (by decide), if_pos (by decide), if_neg (by decide), if_pos (by decide), if_neg (by decide), T_stored h, ob_some, if_neg (by decide), if_pos (by decide), ho, ob_some, if_pos (by decide), if_neg (by decide), if_neg (by decide), if_pos (by decide)]
  rfl
theorem T_rl_4 (hr : f_X7_reserved T = some (some 4)) (h : ¬ Rows_ring R = nI 0) : f_X5_readLine D E R T = b_X5_readLine_202 (dHd D (some 4)) E R T := by
  have ho : f_Jx29ce0_ordinal_8abf5 ((some 4).getD 0) = some (nI 4) := by decide +kernel
  unfold f_X5_readLine
  rw [hr, ob_some, if_neg (by decide), if_pos (by decide), if_neg (by decide), if_pos (by decide), if_neg (by decide), T_stored h, ob_some, if_neg (by decide), if_pos (by decide), ho, ob_some, if_pos (by decide), if_neg (by decide), if_neg (by decide), if_neg (by decide), if_pos (by decide)]
  rfl
theorem T_rl_5 (hr : f_X7_reserved T = some (some 5)) (h : ¬ Rows_ring R = nI 0) : f_X5_readLine D E R T = b_X5_readLine_202 (dHd D (some 5)) E R T := by
  have ho : f_Jx29ce0_ordinal_8abf5 ((some 5).getD 0) = some (nI 5) := by decide +kernel
  unfold f_X5_readLine
  rw [hr, ob_some, if_neg (by decide), if_pos (by decide), if_neg (by decide), if_pos (by decide), if_neg (by decide), T_stored h, ob_some, if_neg (by decide), if_pos (by decide), ho, ob_some, if_pos (by decide), if_neg (by decide), if_neg (by decide), if_neg (by decide), if_neg (by decide), if_pos (by decide)]
  rfl
theorem T_rl_6 (hr : f_X7_reserved T = some (some 6)) (h : ¬ Rows_ring R = nI 0) : f_X5_readLine D E R T = (f_X5_takeLineEnd (dHd D (some 6)) T).bind (fun q17 => if zbo q17.1 then some (q17.1, q17.2.1, E, R, q17.2.2) else none) := by
  have ho : f_Jx29ce0_ordinal_8abf5 ((some 6).getD 0) = some (nI 6) := by decide +kernel
  unfold f_X5_readLine
  rw [hr, ob_some, if_neg (by decide), if_pos (by decide), if_neg (by decide), if_pos (by decide), if_neg (by decide), T_stored h, ob_some, if_neg (by decide), if_pos (by decide), ho, ob_some, if_pos (by decide), if_neg (by decide), if_neg (by decide), if_neg (by decide), if_neg (by decide), if_neg (by decide), if_neg (by decide), if_neg (by decide)]
  rfl
theorem T_rl_7 (hr : f_X7_reserved T = some (some 7)) (h : ¬ Rows_ring R = nI 0) : f_X5_readLine D E R T = (f_X5_takeLineEnd (dHd D (some 7)) T).bind (fun q17 => if zbo q17.1 then some (q17.1, q17.2.1, E, R, q17.2.2) else none) := by
  have ho : f_Jx29ce0_ordinal_8abf5 ((some 7).getD 0) = some (nI 7) := by decide +kernel
  unfold f_X5_readLine
  rw [hr, ob_some, if_neg (by decide), if_pos (by decide), if_neg (by decide), if_pos (by decide), if_neg (by decide), T_stored h, ob_some, if_neg (by decide), if_pos (by decide), ho, ob_some, if_pos (by decide), if_neg (by decide), if_neg (by decide), if_neg (by decide), if_neg (by decide), if_neg (by decide), if_neg (by decide), if_neg (by decide)]
  rfl
theorem T_rl_8 (hr : f_X7_reserved T = some (some 8)) (h : ¬ Rows_ring R = nI 0) : f_X5_readLine D E R T = (f_X5_readUnsure (dHd D (some 8)) T).bind (fun q15 => if zbo q15.1 then some (q15.1, q15.2.1, E, R, q15.2.2) else none) := by
  have ho : f_Jx29ce0_ordinal_8abf5 ((some 8).getD 0) = some (nI 8) := by decide +kernel
  unfold f_X5_readLine
  rw [hr, ob_some, if_neg (by decide), if_pos (by decide), if_neg (by decide), if_pos (by decide), if_neg (by decide), T_stored h, ob_some, if_neg (by decide), if_pos (by decide), ho, ob_some, if_pos (by decide), if_neg (by decide), if_neg (by decide), if_neg (by decide), if_neg (by decide), if_neg (by decide), if_pos (by decide)]
  rfl
theorem T_rl_9 (hr : f_X7_reserved T = some (some 9)) (h : ¬ Rows_ring R = nI 0) : f_X5_readLine D E R T = (f_X5_readSeen (dHd D (some 9)) E R T).bind (fun q16 => if zbo q16.1 then some (q16.1, q16.2.1, q16.2.2.1, R, q16.2.2.2) else none) := by
  have ho : f_Jx29ce0_ordinal_8abf5 ((some 9).getD 0) = some (nI 9) := by decide +kernel
  unfold f_X5_readLine
  rw [hr, ob_some, if_neg (by decide), if_pos (by decide), if_neg (by decide), if_pos (by decide), if_neg (by decide), T_stored h, ob_some, if_neg (by decide), if_pos (by decide), ho, ob_some, if_pos (by decide), if_neg (by decide), if_neg (by decide), if_neg (by decide), if_neg (by decide), if_neg (by decide), if_neg (by decide), if_pos (by decide)]
  rfl
theorem z7 : (7 : Int32).toNatClampNeg = 7 := by decide
theorem z6 : (6 : Int32).toNatClampNeg = 6 := by decide
theorem z4 : (4 : Int32).toNatClampNeg = 4 := by decide
theorem M_107f (hf : Mo_failed S = nI 1) : b_X10_readLine_107 tp S fr lt mk od ow rd sl = some (S, fr, lt, mk, od, ow, rd, sl) := by
  unfold b_X10_readLine_107
  rw [M_isWord_failed hf, ob_some, if_pos z0e, M_isWord_failed hf, ob_some, if_pos z0e, M_isWord_failed hf, ob_some, if_pos z0e, M_isWord_failed hf, ob_some, if_pos z0e, M_isWord_failed hf, ob_some, if_pos z0e, M_isWord_failed hf, ob_some, if_pos z0e, M_isWord_failed hf, ob_some, if_pos z0e, M_isWord_failed hf, ob_some, if_pos z0e, M_isWord_failed hf, ob_some, if_pos z0e]
theorem M_87f (hf : Mo_failed S = nI 1) : b_X10_readLine_87 tp S fr lt mk od ow rd sl = some (S, fr, lt, mk, od, ow, rd, sl) := by
  unfold b_X10_readLine_87
  rw [if_pos (by decide), M_wrong_f hf, ob_some, M_107f hf, ite_self]
theorem M_59f (hf : Mo_failed S = nI 1) : b_X10_readLine_59 tp S fr lt mk od ow rd sl = some (S, fr, lt, mk, od, ow, rd, sl) := by
  unfold b_X10_readLine_59
  rw [M_isWord_failed hf, ob_some, if_pos z0e, M_87f hf]
theorem M_38f (hf : Mo_failed S = nI 1) : b_X10_readLine_38 tp S fr lt mk od ow rd sl = some (S, fr, lt, mk, od, ow, rd, sl) := by
  unfold b_X10_readLine_38
  rw [M_isWord_failed hf, ob_some, if_pos z0e, M_59f hf]
theorem M_38 (h : f_X10_isWord S lt 1 = some (nI 0)) : b_X10_readLine_38 tp S fr lt mk od ow rd sl = b_X10_readLine_59 tp S fr lt mk od ow rd sl := by
  unfold b_X10_readLine_38
  rw [h, ob_some, if_pos z0e]
theorem M_59 (h : f_X10_isWord S lt 8 = some (nI 0)) : b_X10_readLine_59 tp S fr lt mk od ow rd sl = b_X10_readLine_87 tp S fr lt mk od ow rd sl := by
  unfold b_X10_readLine_59
  rw [h, ob_some, if_pos z0e]
theorem M_87 (h : fr 7 = nI 1) : b_X10_readLine_87 tp S fr lt mk od ow rd sl = b_X10_readLine_107 tp S fr lt mk od ow rd sl := by
  unfold b_X10_readLine_87
  rw [if_pos (by decide), z7, h, if_neg z1e]
theorem M_87n (hf : Mo_failed S = nI 0) (h : fr 7 = nI 0) : b_X10_readLine_87 tp S fr lt mk od ow rd sl = some (wrS S (nI 6) (Mo_at S), fr, lt, mk, od, ow, rd, sl) := by
  unfold b_X10_readLine_87
  rw [if_pos (by decide), z7, h, if_pos z0e, M_wrong hf, ob_some, M_107f (S := wrS S 6 (Mo_at S)) rfl]
  rfl
theorem M_38k {k : Nat} (h : f_X10_isWord S lt 1 = some (nI 1)) (h6 : fr 6 = nI k) (hk : k < 12) : b_X10_readLine_38 tp S fr lt mk od ow rd sl = b_X10_readLine_59 tp S fr lt mk od ow rd sl := by
  have hn : ¬ nI k = (12 : Int32) := by
    show ¬ nI k = nI 12
    rw [zn_eq (by omega) (by omega)]
    omega
  unfold b_X10_readLine_38
  rw [h, ob_some, if_neg z1e, if_pos (by decide), z6, h6, if_neg hn]
theorem M_59k {k : Nat} (h : f_X10_isWord S lt 8 = some (nI 1)) (h4 : fr 4 = nI k) (hk : k < 4) : b_X10_readLine_59 tp S fr lt mk od ow rd sl = b_X10_readLine_87 tp S fr lt mk od ow rd sl := by
  have hn : ¬ nI k = (4 : Int32) := by
    show ¬ nI k = nI 4
    rw [zn_eq (by omega) (by omega)]
    omega
  unfold b_X10_readLine_59
  rw [h, ob_some, if_neg z1e, if_pos (by decide), z4, h4, if_neg hn]
theorem M_rl_bad (hf : Mo_failed S = nI 0) (h : ∀ x, x < 15 → f_X10_isWord S lt x = some (bI (q x))) (hq : ∀ x, x < 10 → q x = false) : f_X10_readLine S fr lt mk od ow rd sl tp = some (wrS S (nI 1) (Mo_at S), fr, lt, mk, od, ow, rd, sl) := by
  have h0 : f_X10_isWord S lt 0 = some (nI 0) := by rw [h 0 (by omega), hq 0 (by omega)]; rfl
  have hL : f_X10_isLine S lt = some (nI 0) := by
    rw [M_isLine h, hq 0 (by omega), hq 1 (by omega), hq 2 (by omega), hq 3 (by omega), hq 4 (by omega), hq 5 (by omega), hq 6 (by omega), hq 7 (by omega), hq 8 (by omega), hq 9 (by omega)]
    rfl
  have hf' : Mo_failed S = 0 := hf
  unfold f_X10_readLine
  rw [if_pos hf', h0, ob_some, if_pos z0e, hL, ob_some, if_pos z0e, M_wrong hf, ob_some, M_38f (S := wrS S 1 (Mo_at S)) rfl]
  rfl
theorem M_rl_0 (hf : Mo_failed S = nI 0) (h : f_X10_isWord S lt 0 = some (nI 1)) : f_X10_readLine S fr lt mk od ow rd sl tp = (f_X10_storeLine S fr lt rd tp).bind (fun q27 => some (q27.1, q27.2.1, q27.2.2.1, mk, od, ow, q27.2.2.2, sl)) := by
  have hf' : Mo_failed S = 0 := hf
  unfold f_X10_readLine
  rw [if_pos hf', h, ob_some, if_neg z1e]
theorem M_rl_38 (hf : Mo_failed S = nI 0) (h : f_X10_isWord S lt 0 = some (nI 0)) (hL : f_X10_isLine S lt = some (nI 1)) : f_X10_readLine S fr lt mk od ow rd sl tp = b_X10_readLine_38 tp S fr lt mk od ow rd sl := by
  have hf' : Mo_failed S = 0 := hf
  unfold f_X10_readLine
  rw [if_pos hf', h, ob_some, if_pos z0e, hL, ob_some, if_neg z1e]
theorem M_isL {j : Nat} (hj0 : 1 ≤ j) (hj9 : j < 10) (hj : f_X10_isWord S lt j = some (nI 1)) (g : ∀ x, x < 11 → x ≠ j → f_X10_isWord S lt x = some (nI 0)) : f_X10_isLine S lt = some (nI 1) := by
  have hh : ∀ x, x < 11 → f_X10_isWord S lt x = some (bI (decide (x = j))) := fun x hx => by
    by_cases z : x = j
    · rw [decide_eq_true z, z, hj]
      rfl
    · rw [decide_eq_false z, g x hx z]
      rfl
  have hb : ∀ k : Fin 10, 1 ≤ k.1 → (decide (0 = k.1) || (decide (1 = k.1) || (decide (2 = k.1) || (decide (3 = k.1) || (decide (4 = k.1) || (decide (5 = k.1) || (decide (6 = k.1) || (decide (7 = k.1) || (decide (8 = k.1) || decide (9 = k.1)))))))))) = true := by decide
  unfold f_X10_isLine
  simp only [hh 0 (by omega), hh 1 (by omega), hh 2 (by omega), hh 3 (by omega), hh 4 (by omega), hh 5 (by omega), hh 6 (by omega), hh 7 (by omega), hh 8 (by omega), hh 9 (by omega), ob_some]
  refine (ch_if _ _ _ (ch_if _ _ _ (ch_if _ _ _ (ch_if _ _ _ (ch_if _ _ _ (ch_if _ _ _ (ch_if _ _ _ (ch_if _ _ _ (ch_if _ _ _ (ch_last _)))))))))).trans ?_
  rw [hb ⟨j, hj9⟩ hj0]
  rfl
theorem M_rl_1 (hf : Mo_failed S = nI 0) (hj : f_X10_isWord S lt 1 = some (nI 1)) (g : ∀ x, x < 11 → x ≠ 1 → f_X10_isWord S lt x = some (nI 0)) (h7 : fr 7 = nI 1) {kn : Nat} (h6 : fr 6 = nI kn) (hk : kn < 12) : f_X10_readLine S fr lt mk od ow rd sl tp = (f_X10_beginLine S fr lt ow rd sl tp).bind (fun q18 => some (q18.1, q18.2.1, q18.2.2.1, mk, od, q18.2.2.2.1, q18.2.2.2.2.1, q18.2.2.2.2.2)) := by
  have g0 : f_X10_isWord S lt 0 = some (nI 0) := g 0 (by omega) (by omega)
  have g1 : f_X10_isWord S lt 1 = some (nI 1) := hj
  have g2 : f_X10_isWord S lt 2 = some (nI 0) := g 2 (by omega) (by omega)
  have g3 : f_X10_isWord S lt 3 = some (nI 0) := g 3 (by omega) (by omega)
  have g4 : f_X10_isWord S lt 4 = some (nI 0) := g 4 (by omega) (by omega)
  have g5 : f_X10_isWord S lt 5 = some (nI 0) := g 5 (by omega) (by omega)
  have g6 : f_X10_isWord S lt 6 = some (nI 0) := g 6 (by omega) (by omega)
  have g7 : f_X10_isWord S lt 7 = some (nI 0) := g 7 (by omega) (by omega)
  have g8 : f_X10_isWord S lt 8 = some (nI 0) := g 8 (by omega) (by omega)
  have g9 : f_X10_isWord S lt 9 = some (nI 0) := g 9 (by omega) (by omega)
  rw [M_rl_38 hf g0 (M_isL (by omega) (by omega) hj g), M_38k g1 h6 hk, M_59 g8, M_87 h7]
  unfold b_X10_readLine_107
  rw [g1, ob_some, if_neg z1e]
theorem M_rlns_1 (hf : Mo_failed S = nI 0) (hj : f_X10_isWord S lt 1 = some (nI 1)) (g : ∀ x, x < 11 → x ≠ 1 → f_X10_isWord S lt x = some (nI 0)) (h7 : fr 7 = nI 0) (h6 : fr 6 = nI 0) (h4 : fr 4 = nI 0) : f_X10_readLine S fr lt mk od ow rd sl tp = some (wrS S (nI 6) (Mo_at S), fr, lt, mk, od, ow, rd, sl) := by
  have g0 : f_X10_isWord S lt 0 = some (nI 0) := g 0 (by omega) (by omega)
  have g1 : f_X10_isWord S lt 1 = some (nI 1) := hj
  have g2 : f_X10_isWord S lt 2 = some (nI 0) := g 2 (by omega) (by omega)
  have g3 : f_X10_isWord S lt 3 = some (nI 0) := g 3 (by omega) (by omega)
  have g4 : f_X10_isWord S lt 4 = some (nI 0) := g 4 (by omega) (by omega)
  have g5 : f_X10_isWord S lt 5 = some (nI 0) := g 5 (by omega) (by omega)
  have g6 : f_X10_isWord S lt 6 = some (nI 0) := g 6 (by omega) (by omega)
  have g7 : f_X10_isWord S lt 7 = some (nI 0) := g 7 (by omega) (by omega)
  have g8 : f_X10_isWord S lt 8 = some (nI 0) := g 8 (by omega) (by omega)
  have g9 : f_X10_isWord S lt 9 = some (nI 0) := g 9 (by omega) (by omega)
  rw [M_rl_38 hf g0 (M_isL (by omega) (by omega) hj g), M_38k g1 h6 (by omega), M_59 g8, M_87n hf h7]
theorem M_rl_2 (hf : Mo_failed S = nI 0) (hj : f_X10_isWord S lt 2 = some (nI 1)) (g : ∀ x, x < 11 → x ≠ 2 → f_X10_isWord S lt x = some (nI 0)) (h7 : fr 7 = nI 1) : f_X10_readLine S fr lt mk od ow rd sl tp = (f_X10_putLine S fr lt rd sl tp (nI 1)).bind (fun q17 => some (q17.1, fr, q17.2.1, mk, od, ow, q17.2.2, sl)) := by
  have g0 : f_X10_isWord S lt 0 = some (nI 0) := g 0 (by omega) (by omega)
  have g1 : f_X10_isWord S lt 1 = some (nI 0) := g 1 (by omega) (by omega)
  have g2 : f_X10_isWord S lt 2 = some (nI 1) := hj
  have g3 : f_X10_isWord S lt 3 = some (nI 0) := g 3 (by omega) (by omega)
  have g4 : f_X10_isWord S lt 4 = some (nI 0) := g 4 (by omega) (by omega)
  have g5 : f_X10_isWord S lt 5 = some (nI 0) := g 5 (by omega) (by omega)
  have g6 : f_X10_isWord S lt 6 = some (nI 0) := g 6 (by omega) (by omega)
  have g7 : f_X10_isWord S lt 7 = some (nI 0) := g 7 (by omega) (by omega)
  have g8 : f_X10_isWord S lt 8 = some (nI 0) := g 8 (by omega) (by omega)
  have g9 : f_X10_isWord S lt 9 = some (nI 0) := g 9 (by omega) (by omega)
  rw [M_rl_38 hf g0 (M_isL (by omega) (by omega) hj g), M_38 g1, M_59 g8, M_87 h7]
  unfold b_X10_readLine_107
  rw [g1, ob_some, if_pos z0e, g2, ob_some, if_neg z1e]
  rfl
theorem M_rlns_2 (hf : Mo_failed S = nI 0) (hj : f_X10_isWord S lt 2 = some (nI 1)) (g : ∀ x, x < 11 → x ≠ 2 → f_X10_isWord S lt x = some (nI 0)) (h7 : fr 7 = nI 0) (h6 : fr 6 = nI 0) (h4 : fr 4 = nI 0) : f_X10_readLine S fr lt mk od ow rd sl tp = some (wrS S (nI 6) (Mo_at S), fr, lt, mk, od, ow, rd, sl) := by
  have g0 : f_X10_isWord S lt 0 = some (nI 0) := g 0 (by omega) (by omega)
  have g1 : f_X10_isWord S lt 1 = some (nI 0) := g 1 (by omega) (by omega)
  have g2 : f_X10_isWord S lt 2 = some (nI 1) := hj
  have g3 : f_X10_isWord S lt 3 = some (nI 0) := g 3 (by omega) (by omega)
  have g4 : f_X10_isWord S lt 4 = some (nI 0) := g 4 (by omega) (by omega)
  have g5 : f_X10_isWord S lt 5 = some (nI 0) := g 5 (by omega) (by omega)
  have g6 : f_X10_isWord S lt 6 = some (nI 0) := g 6 (by omega) (by omega)
  have g7 : f_X10_isWord S lt 7 = some (nI 0) := g 7 (by omega) (by omega)
  have g8 : f_X10_isWord S lt 8 = some (nI 0) := g 8 (by omega) (by omega)
  have g9 : f_X10_isWord S lt 9 = some (nI 0) := g 9 (by omega) (by omega)
  rw [M_rl_38 hf g0 (M_isL (by omega) (by omega) hj g), M_38 g1, M_59 g8, M_87n hf h7]
theorem M_rl_3 (hf : Mo_failed S = nI 0) (hj : f_X10_isWord S lt 3 = some (nI 1)) (g : ∀ x, x < 11 → x ≠ 3 → f_X10_isWord S lt x = some (nI 0)) (h7 : fr 7 = nI 1) : f_X10_readLine S fr lt mk od ow rd sl tp = (f_X10_putLine S fr lt rd sl tp (nI 0)).bind (fun q16 => some (q16.1, fr, q16.2.1, mk, od, ow, q16.2.2, sl)) := by
  have g0 : f_X10_isWord S lt 0 = some (nI 0) := g 0 (by omega) (by omega)
  have g1 : f_X10_isWord S lt 1 = some (nI 0) := g 1 (by omega) (by omega)
  have g2 : f_X10_isWord S lt 2 = some (nI 0) := g 2 (by omega) (by omega)
  have g3 : f_X10_isWord S lt 3 = some (nI 1) := hj
  have g4 : f_X10_isWord S lt 4 = some (nI 0) := g 4 (by omega) (by omega)
  have g5 : f_X10_isWord S lt 5 = some (nI 0) := g 5 (by omega) (by omega)
  have g6 : f_X10_isWord S lt 6 = some (nI 0) := g 6 (by omega) (by omega)
  have g7 : f_X10_isWord S lt 7 = some (nI 0) := g 7 (by omega) (by omega)
  have g8 : f_X10_isWord S lt 8 = some (nI 0) := g 8 (by omega) (by omega)
  have g9 : f_X10_isWord S lt 9 = some (nI 0) := g 9 (by omega) (by omega)
  rw [M_rl_38 hf g0 (M_isL (by omega) (by omega) hj g), M_38 g1, M_59 g8, M_87 h7]
  unfold b_X10_readLine_107
  rw [g1, ob_some, if_pos z0e, g2, ob_some, if_pos z0e, g3, ob_some, if_neg z1e]
  rfl
theorem M_rlns_3 (hf : Mo_failed S = nI 0) (hj : f_X10_isWord S lt 3 = some (nI 1)) (g : ∀ x, x < 11 → x ≠ 3 → f_X10_isWord S lt x = some (nI 0)) (h7 : fr 7 = nI 0) (h6 : fr 6 = nI 0) (h4 : fr 4 = nI 0) : f_X10_readLine S fr lt mk od ow rd sl tp = some (wrS S (nI 6) (Mo_at S), fr, lt, mk, od, ow, rd, sl) := by
  have g0 : f_X10_isWord S lt 0 = some (nI 0) := g 0 (by omega) (by omega)
  have g1 : f_X10_isWord S lt 1 = some (nI 0) := g 1 (by omega) (by omega)
  have g2 : f_X10_isWord S lt 2 = some (nI 0) := g 2 (by omega) (by omega)
  have g3 : f_X10_isWord S lt 3 = some (nI 1) := hj
  have g4 : f_X10_isWord S lt 4 = some (nI 0) := g 4 (by omega) (by omega)
  have g5 : f_X10_isWord S lt 5 = some (nI 0) := g 5 (by omega) (by omega)
  have g6 : f_X10_isWord S lt 6 = some (nI 0) := g 6 (by omega) (by omega)
  have g7 : f_X10_isWord S lt 7 = some (nI 0) := g 7 (by omega) (by omega)
  have g8 : f_X10_isWord S lt 8 = some (nI 0) := g 8 (by omega) (by omega)
  have g9 : f_X10_isWord S lt 9 = some (nI 0) := g 9 (by omega) (by omega)
  rw [M_rl_38 hf g0 (M_isL (by omega) (by omega) hj g), M_38 g1, M_59 g8, M_87n hf h7]
theorem M_rl_4 (hf : Mo_failed S = nI 0) (hj : f_X10_isWord S lt 4 = some (nI 1)) (g : ∀ x, x < 11 → x ≠ 4 → f_X10_isWord S lt x = some (nI 0)) (h7 : fr 7 = nI 1) : f_X10_readLine S fr lt mk od ow rd sl tp = (f_X10_endLine S fr lt rd sl tp (nI 2)).bind (fun q15 => some (q15.1, fr, q15.2.1, mk, od, ow, q15.2.2.1, q15.2.2.2)) := by
  have g0 : f_X10_isWord S lt 0 = some (nI 0) := g 0 (by omega) (by omega)
  have g1 : f_X10_isWord S lt 1 = some (nI 0) := g 1 (by omega) (by omega)
  have g2 : f_X10_isWord S lt 2 = some (nI 0) := g 2 (by omega) (by omega)
  have g3 : f_X10_isWord S lt 3 = some (nI 0) := g 3 (by omega) (by omega)
  have g4 : f_X10_isWord S lt 4 = some (nI 1) := hj
  have g5 : f_X10_isWord S lt 5 = some (nI 0) := g 5 (by omega) (by omega)
  have g6 : f_X10_isWord S lt 6 = some (nI 0) := g 6 (by omega) (by omega)
  have g7 : f_X10_isWord S lt 7 = some (nI 0) := g 7 (by omega) (by omega)
  have g8 : f_X10_isWord S lt 8 = some (nI 0) := g 8 (by omega) (by omega)
  have g9 : f_X10_isWord S lt 9 = some (nI 0) := g 9 (by omega) (by omega)
  rw [M_rl_38 hf g0 (M_isL (by omega) (by omega) hj g), M_38 g1, M_59 g8, M_87 h7]
  unfold b_X10_readLine_107
  rw [g1, ob_some, if_pos z0e, g2, ob_some, if_pos z0e, g3, ob_some, if_pos z0e, g4, ob_some, if_neg z1e]
  rfl
theorem M_rlns_4 (hf : Mo_failed S = nI 0) (hj : f_X10_isWord S lt 4 = some (nI 1)) (g : ∀ x, x < 11 → x ≠ 4 → f_X10_isWord S lt x = some (nI 0)) (h7 : fr 7 = nI 0) (h6 : fr 6 = nI 0) (h4 : fr 4 = nI 0) : f_X10_readLine S fr lt mk od ow rd sl tp = some (wrS S (nI 6) (Mo_at S), fr, lt, mk, od, ow, rd, sl) := by
  have g0 : f_X10_isWord S lt 0 = some (nI 0) := g 0 (by omega) (by omega)
  have g1 : f_X10_isWord S lt 1 = some (nI 0) := g 1 (by omega) (by omega)
  have g2 : f_X10_isWord S lt 2 = some (nI 0) := g 2 (by omega) (by omega)
  have g3 : f_X10_isWord S lt 3 = some (nI 0) := g 3 (by omega) (by omega)
  have g4 : f_X10_isWord S lt 4 = some (nI 1) := hj
  have g5 : f_X10_isWord S lt 5 = some (nI 0) := g 5 (by omega) (by omega)
  have g6 : f_X10_isWord S lt 6 = some (nI 0) := g 6 (by omega) (by omega)
  have g7 : f_X10_isWord S lt 7 = some (nI 0) := g 7 (by omega) (by omega)
  have g8 : f_X10_isWord S lt 8 = some (nI 0) := g 8 (by omega) (by omega)
  have g9 : f_X10_isWord S lt 9 = some (nI 0) := g 9 (by omega) (by omega)
  rw [M_rl_38 hf g0 (M_isL (by omega) (by omega) hj g), M_38 g1, M_59 g8, M_87n hf h7]
theorem M_rl_5 (hf : Mo_failed S = nI 0) (hj : f_X10_isWord S lt 5 = some (nI 1)) (g : ∀ x, x < 11 → x ≠ 5 → f_X10_isWord S lt x = some (nI 0)) (h7 : fr 7 = nI 1) : f_X10_readLine S fr lt mk od ow rd sl tp = (f_X10_endLine S fr lt rd sl tp (nI 3)).bind (fun q14 => some (q14.1, fr, q14.2.1, mk, od, ow, q14.2.2.1, q14.2.2.2)) := by
  have g0 : f_X10_isWord S lt 0 = some (nI 0) := g 0 (by omega) (by omega)
  have g1 : f_X10_isWord S lt 1 = some (nI 0) := g 1 (by omega) (by omega)
  have g2 : f_X10_isWord S lt 2 = some (nI 0) := g 2 (by omega) (by omega)
  have g3 : f_X10_isWord S lt 3 = some (nI 0) := g 3 (by omega) (by omega)
  have g4 : f_X10_isWord S lt 4 = some (nI 0) := g 4 (by omega) (by omega)
  have g5 : f_X10_isWord S lt 5 = some (nI 1) := hj
  have g6 : f_X10_isWord S lt 6 = some (nI 0) := g 6 (by omega) (by omega)
  have g7 : f_X10_isWord S lt 7 = some (nI 0) := g 7 (by omega) (by omega)
  have g8 : f_X10_isWord S lt 8 = some (nI 0) := g 8 (by omega) (by omega)
  have g9 : f_X10_isWord S lt 9 = some (nI 0) := g 9 (by omega) (by omega)
  rw [M_rl_38 hf g0 (M_isL (by omega) (by omega) hj g), M_38 g1, M_59 g8, M_87 h7]
  unfold b_X10_readLine_107
  rw [g1, ob_some, if_pos z0e, g2, ob_some, if_pos z0e, g3, ob_some, if_pos z0e, g4, ob_some, if_pos z0e, g5, ob_some, if_neg z1e]
  rfl
theorem M_rlns_5 (hf : Mo_failed S = nI 0) (hj : f_X10_isWord S lt 5 = some (nI 1)) (g : ∀ x, x < 11 → x ≠ 5 → f_X10_isWord S lt x = some (nI 0)) (h7 : fr 7 = nI 0) (h6 : fr 6 = nI 0) (h4 : fr 4 = nI 0) : f_X10_readLine S fr lt mk od ow rd sl tp = some (wrS S (nI 6) (Mo_at S), fr, lt, mk, od, ow, rd, sl) := by
  have g0 : f_X10_isWord S lt 0 = some (nI 0) := g 0 (by omega) (by omega)
  have g1 : f_X10_isWord S lt 1 = some (nI 0) := g 1 (by omega) (by omega)
  have g2 : f_X10_isWord S lt 2 = some (nI 0) := g 2 (by omega) (by omega)
  have g3 : f_X10_isWord S lt 3 = some (nI 0) := g 3 (by omega) (by omega)
  have g4 : f_X10_isWord S lt 4 = some (nI 0) := g 4 (by omega) (by omega)
  have g5 : f_X10_isWord S lt 5 = some (nI 1) := hj
  have g6 : f_X10_isWord S lt 6 = some (nI 0) := g 6 (by omega) (by omega)
  have g7 : f_X10_isWord S lt 7 = some (nI 0) := g 7 (by omega) (by omega)
  have g8 : f_X10_isWord S lt 8 = some (nI 0) := g 8 (by omega) (by omega)
  have g9 : f_X10_isWord S lt 9 = some (nI 0) := g 9 (by omega) (by omega)
  rw [M_rl_38 hf g0 (M_isL (by omega) (by omega) hj g), M_38 g1, M_59 g8, M_87n hf h7]
theorem M_rl_6 (hf : Mo_failed S = nI 0) (hj : f_X10_isWord S lt 6 = some (nI 1)) (g : ∀ x, x < 11 → x ≠ 6 → f_X10_isWord S lt x = some (nI 0)) (h7 : fr 7 = nI 1) : f_X10_readLine S fr lt mk od ow rd sl tp = (f_X10_allLine S lt mk rd tp (nI 1)).bind (fun q13 => some (q13.1, fr, q13.2.1, q13.2.2.1, od, ow, q13.2.2.2, sl)) := by
  have g0 : f_X10_isWord S lt 0 = some (nI 0) := g 0 (by omega) (by omega)
  have g1 : f_X10_isWord S lt 1 = some (nI 0) := g 1 (by omega) (by omega)
  have g2 : f_X10_isWord S lt 2 = some (nI 0) := g 2 (by omega) (by omega)
  have g3 : f_X10_isWord S lt 3 = some (nI 0) := g 3 (by omega) (by omega)
  have g4 : f_X10_isWord S lt 4 = some (nI 0) := g 4 (by omega) (by omega)
  have g5 : f_X10_isWord S lt 5 = some (nI 0) := g 5 (by omega) (by omega)
  have g6 : f_X10_isWord S lt 6 = some (nI 1) := hj
  have g7 : f_X10_isWord S lt 7 = some (nI 0) := g 7 (by omega) (by omega)
  have g8 : f_X10_isWord S lt 8 = some (nI 0) := g 8 (by omega) (by omega)
  have g9 : f_X10_isWord S lt 9 = some (nI 0) := g 9 (by omega) (by omega)
  rw [M_rl_38 hf g0 (M_isL (by omega) (by omega) hj g), M_38 g1, M_59 g8, M_87 h7]
  unfold b_X10_readLine_107
  rw [g1, ob_some, if_pos z0e, g2, ob_some, if_pos z0e, g3, ob_some, if_pos z0e, g4, ob_some, if_pos z0e, g5, ob_some, if_pos z0e, g6, ob_some, if_neg z1e]
  rfl
theorem M_rlns_6 (hf : Mo_failed S = nI 0) (hj : f_X10_isWord S lt 6 = some (nI 1)) (g : ∀ x, x < 11 → x ≠ 6 → f_X10_isWord S lt x = some (nI 0)) (h7 : fr 7 = nI 0) (h6 : fr 6 = nI 0) (h4 : fr 4 = nI 0) : f_X10_readLine S fr lt mk od ow rd sl tp = some (wrS S (nI 6) (Mo_at S), fr, lt, mk, od, ow, rd, sl) := by
  have g0 : f_X10_isWord S lt 0 = some (nI 0) := g 0 (by omega) (by omega)
  have g1 : f_X10_isWord S lt 1 = some (nI 0) := g 1 (by omega) (by omega)
  have g2 : f_X10_isWord S lt 2 = some (nI 0) := g 2 (by omega) (by omega)
  have g3 : f_X10_isWord S lt 3 = some (nI 0) := g 3 (by omega) (by omega)
  have g4 : f_X10_isWord S lt 4 = some (nI 0) := g 4 (by omega) (by omega)
  have g5 : f_X10_isWord S lt 5 = some (nI 0) := g 5 (by omega) (by omega)
  have g6 : f_X10_isWord S lt 6 = some (nI 1) := hj
  have g7 : f_X10_isWord S lt 7 = some (nI 0) := g 7 (by omega) (by omega)
  have g8 : f_X10_isWord S lt 8 = some (nI 0) := g 8 (by omega) (by omega)
  have g9 : f_X10_isWord S lt 9 = some (nI 0) := g 9 (by omega) (by omega)
  rw [M_rl_38 hf g0 (M_isL (by omega) (by omega) hj g), M_38 g1, M_59 g8, M_87n hf h7]
theorem M_rl_7 (hf : Mo_failed S = nI 0) (hj : f_X10_isWord S lt 7 = some (nI 1)) (g : ∀ x, x < 11 → x ≠ 7 → f_X10_isWord S lt x = some (nI 0)) (h7 : fr 7 = nI 1) : f_X10_readLine S fr lt mk od ow rd sl tp = (f_X10_allLine S lt mk rd tp (nI 0)).bind (fun q12 => some (q12.1, fr, q12.2.1, q12.2.2.1, od, ow, q12.2.2.2, sl)) := by
  have g0 : f_X10_isWord S lt 0 = some (nI 0) := g 0 (by omega) (by omega)
  have g1 : f_X10_isWord S lt 1 = some (nI 0) := g 1 (by omega) (by omega)
  have g2 : f_X10_isWord S lt 2 = some (nI 0) := g 2 (by omega) (by omega)
  have g3 : f_X10_isWord S lt 3 = some (nI 0) := g 3 (by omega) (by omega)
  have g4 : f_X10_isWord S lt 4 = some (nI 0) := g 4 (by omega) (by omega)
  have g5 : f_X10_isWord S lt 5 = some (nI 0) := g 5 (by omega) (by omega)
  have g6 : f_X10_isWord S lt 6 = some (nI 0) := g 6 (by omega) (by omega)
  have g7 : f_X10_isWord S lt 7 = some (nI 1) := hj
  have g8 : f_X10_isWord S lt 8 = some (nI 0) := g 8 (by omega) (by omega)
  have g9 : f_X10_isWord S lt 9 = some (nI 0) := g 9 (by omega) (by omega)
  rw [M_rl_38 hf g0 (M_isL (by omega) (by omega) hj g), M_38 g1, M_59 g8, M_87 h7]
  unfold b_X10_readLine_107
  rw [g1, ob_some, if_pos z0e, g2, ob_some, if_pos z0e, g3, ob_some, if_pos z0e, g4, ob_some, if_pos z0e, g5, ob_some, if_pos z0e, g6, ob_some, if_pos z0e, g7, ob_some, if_neg z1e]
  rfl
theorem M_rlns_7 (hf : Mo_failed S = nI 0) (hj : f_X10_isWord S lt 7 = some (nI 1)) (g : ∀ x, x < 11 → x ≠ 7 → f_X10_isWord S lt x = some (nI 0)) (h7 : fr 7 = nI 0) (h6 : fr 6 = nI 0) (h4 : fr 4 = nI 0) : f_X10_readLine S fr lt mk od ow rd sl tp = some (wrS S (nI 6) (Mo_at S), fr, lt, mk, od, ow, rd, sl) := by
  have g0 : f_X10_isWord S lt 0 = some (nI 0) := g 0 (by omega) (by omega)
  have g1 : f_X10_isWord S lt 1 = some (nI 0) := g 1 (by omega) (by omega)
  have g2 : f_X10_isWord S lt 2 = some (nI 0) := g 2 (by omega) (by omega)
  have g3 : f_X10_isWord S lt 3 = some (nI 0) := g 3 (by omega) (by omega)
  have g4 : f_X10_isWord S lt 4 = some (nI 0) := g 4 (by omega) (by omega)
  have g5 : f_X10_isWord S lt 5 = some (nI 0) := g 5 (by omega) (by omega)
  have g6 : f_X10_isWord S lt 6 = some (nI 0) := g 6 (by omega) (by omega)
  have g7 : f_X10_isWord S lt 7 = some (nI 1) := hj
  have g8 : f_X10_isWord S lt 8 = some (nI 0) := g 8 (by omega) (by omega)
  have g9 : f_X10_isWord S lt 9 = some (nI 0) := g 9 (by omega) (by omega)
  rw [M_rl_38 hf g0 (M_isL (by omega) (by omega) hj g), M_38 g1, M_59 g8, M_87n hf h7]
theorem M_rl_8 (hf : Mo_failed S = nI 0) (hj : f_X10_isWord S lt 8 = some (nI 1)) (g : ∀ x, x < 11 → x ≠ 8 → f_X10_isWord S lt x = some (nI 0)) (h7 : fr 7 = nI 1) {u : Nat} (h4 : fr 4 = nI u) (hu : u < 4) : f_X10_readLine S fr lt mk od ow rd sl tp = (f_X10_unsureLine S fr lt sl tp).bind (fun q11 => some (q11.1, q11.2.1, q11.2.2, mk, od, ow, rd, sl)) := by
  have g0 : f_X10_isWord S lt 0 = some (nI 0) := g 0 (by omega) (by omega)
  have g1 : f_X10_isWord S lt 1 = some (nI 0) := g 1 (by omega) (by omega)
  have g2 : f_X10_isWord S lt 2 = some (nI 0) := g 2 (by omega) (by omega)
  have g3 : f_X10_isWord S lt 3 = some (nI 0) := g 3 (by omega) (by omega)
  have g4 : f_X10_isWord S lt 4 = some (nI 0) := g 4 (by omega) (by omega)
  have g5 : f_X10_isWord S lt 5 = some (nI 0) := g 5 (by omega) (by omega)
  have g6 : f_X10_isWord S lt 6 = some (nI 0) := g 6 (by omega) (by omega)
  have g7 : f_X10_isWord S lt 7 = some (nI 0) := g 7 (by omega) (by omega)
  have g8 : f_X10_isWord S lt 8 = some (nI 1) := hj
  have g9 : f_X10_isWord S lt 9 = some (nI 0) := g 9 (by omega) (by omega)
  rw [M_rl_38 hf g0 (M_isL (by omega) (by omega) hj g), M_38 g1, M_59k g8 h4 hu, M_87 h7]
  unfold b_X10_readLine_107
  rw [g1, ob_some, if_pos z0e, g2, ob_some, if_pos z0e, g3, ob_some, if_pos z0e, g4, ob_some, if_pos z0e, g5, ob_some, if_pos z0e, g6, ob_some, if_pos z0e, g7, ob_some, if_pos z0e, g8, ob_some, if_neg z1e]
theorem M_rlns_8 (hf : Mo_failed S = nI 0) (hj : f_X10_isWord S lt 8 = some (nI 1)) (g : ∀ x, x < 11 → x ≠ 8 → f_X10_isWord S lt x = some (nI 0)) (h7 : fr 7 = nI 0) (h6 : fr 6 = nI 0) (h4 : fr 4 = nI 0) : f_X10_readLine S fr lt mk od ow rd sl tp = some (wrS S (nI 6) (Mo_at S), fr, lt, mk, od, ow, rd, sl) := by
  have g0 : f_X10_isWord S lt 0 = some (nI 0) := g 0 (by omega) (by omega)
  have g1 : f_X10_isWord S lt 1 = some (nI 0) := g 1 (by omega) (by omega)
  have g2 : f_X10_isWord S lt 2 = some (nI 0) := g 2 (by omega) (by omega)
  have g3 : f_X10_isWord S lt 3 = some (nI 0) := g 3 (by omega) (by omega)
  have g4 : f_X10_isWord S lt 4 = some (nI 0) := g 4 (by omega) (by omega)
  have g5 : f_X10_isWord S lt 5 = some (nI 0) := g 5 (by omega) (by omega)
  have g6 : f_X10_isWord S lt 6 = some (nI 0) := g 6 (by omega) (by omega)
  have g7 : f_X10_isWord S lt 7 = some (nI 0) := g 7 (by omega) (by omega)
  have g8 : f_X10_isWord S lt 8 = some (nI 1) := hj
  have g9 : f_X10_isWord S lt 9 = some (nI 0) := g 9 (by omega) (by omega)
  rw [M_rl_38 hf g0 (M_isL (by omega) (by omega) hj g), M_38 g1, M_59k g8 h4 (by omega), M_87n hf h7]
theorem M_rl_9 (hf : Mo_failed S = nI 0) (hj : f_X10_isWord S lt 9 = some (nI 1)) (g : ∀ x, x < 11 → x ≠ 9 → f_X10_isWord S lt x = some (nI 0)) (h7 : fr 7 = nI 1) : f_X10_readLine S fr lt mk od ow rd sl tp = (f_X10_seenLine S fr lt od tp).bind (fun q10 => some (q10.1, q10.2.1, q10.2.2.1, mk, q10.2.2.2, ow, rd, sl)) := by
  have g0 : f_X10_isWord S lt 0 = some (nI 0) := g 0 (by omega) (by omega)
  have g1 : f_X10_isWord S lt 1 = some (nI 0) := g 1 (by omega) (by omega)
  have g2 : f_X10_isWord S lt 2 = some (nI 0) := g 2 (by omega) (by omega)
  have g3 : f_X10_isWord S lt 3 = some (nI 0) := g 3 (by omega) (by omega)
  have g4 : f_X10_isWord S lt 4 = some (nI 0) := g 4 (by omega) (by omega)
  have g5 : f_X10_isWord S lt 5 = some (nI 0) := g 5 (by omega) (by omega)
  have g6 : f_X10_isWord S lt 6 = some (nI 0) := g 6 (by omega) (by omega)
  have g7 : f_X10_isWord S lt 7 = some (nI 0) := g 7 (by omega) (by omega)
  have g8 : f_X10_isWord S lt 8 = some (nI 0) := g 8 (by omega) (by omega)
  have g9 : f_X10_isWord S lt 9 = some (nI 1) := hj
  rw [M_rl_38 hf g0 (M_isL (by omega) (by omega) hj g), M_38 g1, M_59 g8, M_87 h7]
  unfold b_X10_readLine_107
  rw [g1, ob_some, if_pos z0e, g2, ob_some, if_pos z0e, g3, ob_some, if_pos z0e, g4, ob_some, if_pos z0e, g5, ob_some, if_pos z0e, g6, ob_some, if_pos z0e, g7, ob_some, if_pos z0e, g8, ob_some, if_pos z0e, g9, ob_some, if_neg z1e]
theorem M_rlns_9 (hf : Mo_failed S = nI 0) (hj : f_X10_isWord S lt 9 = some (nI 1)) (g : ∀ x, x < 11 → x ≠ 9 → f_X10_isWord S lt x = some (nI 0)) (h7 : fr 7 = nI 0) (h6 : fr 6 = nI 0) (h4 : fr 4 = nI 0) : f_X10_readLine S fr lt mk od ow rd sl tp = some (wrS S (nI 6) (Mo_at S), fr, lt, mk, od, ow, rd, sl) := by
  have g0 : f_X10_isWord S lt 0 = some (nI 0) := g 0 (by omega) (by omega)
  have g1 : f_X10_isWord S lt 1 = some (nI 0) := g 1 (by omega) (by omega)
  have g2 : f_X10_isWord S lt 2 = some (nI 0) := g 2 (by omega) (by omega)
  have g3 : f_X10_isWord S lt 3 = some (nI 0) := g 3 (by omega) (by omega)
  have g4 : f_X10_isWord S lt 4 = some (nI 0) := g 4 (by omega) (by omega)
  have g5 : f_X10_isWord S lt 5 = some (nI 0) := g 5 (by omega) (by omega)
  have g6 : f_X10_isWord S lt 6 = some (nI 0) := g 6 (by omega) (by omega)
  have g7 : f_X10_isWord S lt 7 = some (nI 0) := g 7 (by omega) (by omega)
  have g8 : f_X10_isWord S lt 8 = some (nI 0) := g 8 (by omega) (by omega)
  have g9 : f_X10_isWord S lt 9 = some (nI 1) := hj
  rw [M_rl_38 hf g0 (M_isL (by omega) (by omega) hj g), M_38 g1, M_59 g8, M_87n hf h7]
theorem M_rlfull_1 (hf : Mo_failed S = nI 0) (hj : f_X10_isWord S lt 1 = some (nI 1)) (g : ∀ x, x < 11 → x ≠ 1 → f_X10_isWord S lt x = some (nI 0)) (h7 : fr 7 = nI 1) (h6 : fr 6 = nI 12) : f_X10_readLine S fr lt mk od ow rd sl tp = some (wrS S (nI 5) (Mo_at S), fr, lt, mk, od, ow, rd, sl) := by
  have h' : nI 12 = (12 : Int32) := rfl
  rw [M_rl_38 hf (g 0 (by omega) (by omega)) (M_isL (by omega) (by omega) hj g)]
  unfold b_X10_readLine_38
  rw [hj, ob_some, if_neg z1e, if_pos (by decide), z6, h6, if_pos h', M_wrong hf, ob_some, M_87f (S := wrS S 5 (Mo_at S)) rfl]
  rfl
theorem M_rlfull_8 (hf : Mo_failed S = nI 0) (hj : f_X10_isWord S lt 8 = some (nI 1)) (g : ∀ x, x < 11 → x ≠ 8 → f_X10_isWord S lt x = some (nI 0)) (h7 : fr 7 = nI 1) (h6 : fr 4 = nI 4) : f_X10_readLine S fr lt mk od ow rd sl tp = some (wrS S (nI 5) (Mo_at S), fr, lt, mk, od, ow, rd, sl) := by
  have h' : nI 4 = (4 : Int32) := rfl
  rw [M_rl_38 hf (g 0 (by omega) (by omega)) (M_isL (by omega) (by omega) hj g), M_38 (g 1 (by omega) (by omega))]
  unfold b_X10_readLine_59
  rw [hj, ob_some, if_neg z1e, if_pos (by decide), z4, h6, if_pos h', M_wrong hf, ob_some, M_87f (S := wrS S 5 (Mo_at S)) rfl]
  rfl
end
