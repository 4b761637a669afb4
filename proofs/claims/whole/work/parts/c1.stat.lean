/-! what holds at the law's start: classes, array classes, statics -/
def tmL : List Term := [.string "StampedRows$Word" 61, .string "StampedRows$Word" 67, .string "StampedRows$Word" 70, .string "StampedRows$Word" 73, .string "StampedRows$Word" 76, .string "StampedRows$Word" 79, .string "StampedRows$Word" 82, .string "StampedRows$Word" 85, .string "StampedRows$Word" 88, .string "StampedRows$Word" 91, .string "StampedRows$Word" 94, .string "StampedRows$Reader" 163, .string "StampedRows$Reader" 171, .string "StampedRows$Reader" 172, .string "StampedRows$Reader" 173]
def tmS (i : Nat) : Term := tmL.getD i (.int 0)
abbrev FG : List Cond := flatC (Jvm.Cond.and given_1 narrow_1)
theorem fg_ex : ∀ i, i < 15 → Cond.exactly (tmS i) "java/lang/String" ∈ FG := by decide +kernel
theorem fg_co : ∀ i, i < 15 → Cond.eq (.field (tmS i) "java/lang/String" "coder" "B") (.int 0) ∈ FG := by decide +kernel
theorem fg_ar : ∀ i, i < 15 → Cond.arrayOf (.field (tmS i) "java/lang/String" "value" "[B") .byte ∈ FG := by decide +kernel
theorem fg_le : ∀ i, i < 15 → Cond.eq (.length (.field (tmS i) "java/lang/String" "value" "[B")) (.int (Int32.ofNat (lenS.getD i 0))) ∈ FG := by decide +kernel
theorem fg_el : ∀ i, i < 15 → ∀ j, j < lenS.getD i 0 → Cond.eq (.elem (.field (tmS i) "java/lang/String" "value" "[B") (.int (Int32.ofNat j))) (.int ((bytS.getD i []).getD j 0)) ∈ FG := by decide +kernel
theorem fg_ne : ∀ i, i < 15 → ∀ j, j < 15 → i ≠ j → Int32.ofNat (lenS.getD i 0) = Int32.ofNat (lenS.getD j 0) → ∃ k, k < lenS.getD i 0 ∧ k < lenS.getD j 0 ∧ (bytS.getD i []).getD k 0 ≠ (bytS.getD j []).getD k 0 := by decide +kernel
theorem fg_lt : ∀ i, i < 15 → lenS.getD i 0 < 2 ^ 31 := by decide +kernel
theorem fg_wx : ∀ i, i < 11 → Cond.exactly (.static "StampedRows$Word" (nmW.getD i "") "LStampedRows$Word;") "StampedRows$Word" ∈ FG := by decide +kernel
theorem fg_wo : ∀ q ∈ ordW, ∀ i, i < 11 → Cond.eq (.field (.static "StampedRows$Word" (nmW.getD i "") "LStampedRows$Word;") q.1 q.2.1 q.2.2.1) (.int (q.2.2.2.getD i 0)) ∈ FG := by decide +kernel
theorem fg_wd : ∀ i, i < 11 → ∀ j, j < 11 → i ≠ j → Cond.not (.eq (.static "StampedRows$Word" (nmW.getD i "") "LStampedRows$Word;") (.static "StampedRows$Word" (nmW.getD j "") "LStampedRows$Word;")) ∈ FG ∨ Cond.not (.eq (.static "StampedRows$Word" (nmW.getD j "") "LStampedRows$Word;") (.static "StampedRows$Word" (nmW.getD i "") "LStampedRows$Word;")) ∈ FG := by decide +kernel
theorem fg_wt : ∀ i, i < 11 → Cond.eq (.field (.static "StampedRows$Word" (nmW.getD i "") "LStampedRows$Word;") "StampedRows$Word" "text" "Ljava/lang/String;") (tmS i) ∈ FG := by decide +kernel
theorem fg_we : ∀ j, j < 11 → Cond.eq (.elem (.static "StampedRows" "WORDS" "[LStampedRows$Word;") (.int (Int32.ofNat j))) (.static "StampedRows$Word" (nmW.getD j "") "LStampedRows$Word;") ∈ FG := by decide +kernel
theorem fg_se : ∀ j, j < 11 → Cond.eq (.elem (.static "StampedRows$1" "$SwitchMap$StampedRows$Word" "[I") (.int (Int32.ofNat j))) (.int (swM.getD j 0)) ∈ FG := by decide +kernel
theorem fg_li : ∀ q ∈ litS, q.2.2.2 < 15 ∧ (Term.string q.1 q.2.1 = tmS q.2.2.2 ∨ Cond.eq (.string q.1 q.2.1) (tmS q.2.2.2) ∈ FG ∨ Cond.eq (tmS q.2.2.2) (.string q.1 q.2.1) ∈ FG) := by decide +kernel
theorem tb_li : ∀ q ∈ litS, Cond.stringRef q.1 q.2.1 q.2.2.1 ∈ lw_tbl := by decide +kernel
theorem tb_wl : ∀ i, i < 11 → Cond.laysStatic "StampedRows$Word" (nmW.getD i "") "LStampedRows$Word;" ∈ lw_tbl := by decide +kernel
theorem tb_xb : ∀ w ∈ xbad, w ∈ lw_tbl ∧ w.onTables = true := by decide +kernel
section
variable {args : Array Value} {s : State} {A : Nat → Prop}
theorem st_neq {t u : Term} {a b : Nat} (ht : t.eval args s none [] s = some (.ref a)) (hu : u.eval args s none [] s = some (.ref b)) (h : ¬ a = b) : (Cond.not (.eq t u)).before args s = true := by
  simp [Cond.before, Cond.holds, Cond.value, ht, hu, h]
theorem st_len {t u : Term} (h : t.eval args s none [] s = u.eval args s none [] s) : (Term.length t).eval args s none [] s = (Term.length u).eval args s none [] s := by
  simp only [Term.eval, h]
theorem st_el {t u k : Term} (h : t.eval args s none [] s = u.eval args s none [] s) : (Term.elem t k).eval args s none [] s = (Term.elem u k).eval args s none [] s := by
  simp only [Term.eval, h]
theorem st_eqv {t u : Term} {v : Value} (h : (Cond.eq t u).before args s = true) (ht : t.eval args s none [] s = some v) : u.eval args s none [] s = some v := by
  cases hu : u.eval args s none [] s with
  | none => simp [Cond.before, Cond.holds, Cond.value, ht, hu] at h
  | some w =>
    simp only [Cond.before, Cond.holds, Cond.value, ht, hu] at h
    cases w <;> cases v <;> simp_all
theorem st_ne (hF : ∀ w ∈ FG, w.before args s = true) (i j : Nat) (hi : i < 15) (hj : j < 15) (hij : i ≠ j) : (Cond.not (Cond.eq (tmS i) (tmS j))).before args s = true ∨ (Cond.not (Cond.eq (tmS j) (tmS i))).before args s = true := by
  obtain ⟨a, c, cA, kA, q1, -⟩ := Cond.exactly_spec (args := args) (first := s) (o := none) (s := s) (idx := []) (t := tmS i) (cls := "java/lang/String") (hF _ (fg_ex i hi))
  obtain ⟨b, c', cA', kA', q2, -⟩ := Cond.exactly_spec (args := args) (first := s) (o := none) (s := s) (idx := []) (t := tmS j) (cls := "java/lang/String") (hF _ (fg_ex j hj))
  refine Or.inl (st_neq q1 q2 (fun e => ?_))
  subst e
  have hf : (Term.field (tmS i) "java/lang/String" "value" "[B").eval args s none [] s = (Term.field (tmS j) "java/lang/String" "value" "[B").eval args s none [] s := (va_fe q1).trans (va_fe q2).symm
  have hl := (va_eqt (hF _ (fg_le i hi))).symm.trans ((st_len hf).trans (va_eqt (hF _ (fg_le j hj))))
  have hl : Int32.ofNat (lenS.getD i 0) = Int32.ofNat (lenS.getD j 0) := by
    injection hl with hl
    injection hl
  obtain ⟨k, k1, k2, k3⟩ := fg_ne i hi j hj hij hl
  have he := (va_eqt (hF _ (fg_el i hi k k1))).symm.trans ((st_el hf).trans (va_eqt (hF _ (fg_el j hj k k2))))
  injection he with he
  injection he with he
  exact k3 he
/-- the statics -/
theorem st_E (hF : ∀ w ∈ FG, w.before args s = true) (hts : ∀ w ∈ lw_tbl, w.before args s = true) (hA : ∀ a : Nat, a < s.heap.size → ¬ A a) : ∃ E : zEn, zE E A s s.heap := by
  obtain ⟨adK, adV, hSt, hev⟩ := vk_Sof (tm := tmS) (N := 15) (len := lenS) (byt := bytS) (A := A) fg_lt (fun i hi => hF _ (fg_ex i hi)) (fun i hi => hF _ (fg_co i hi)) (fun i hi => hF _ (fg_ar i hi)) (fun i hi => hF _ (fg_le i hi)) (fun i hi j hj => hF _ (fg_el i hi j hj)) (fun i j hi hj hij => st_ne hF i j hi hj hij) hA
  obtain ⟨ad, hEn, hev2⟩ := va_Enof2 (E := "StampedRows$Word") (d := "LStampedRows$Word;") (nm := nmW) (F := ordW) (A := A) (fun i hi => hts _ (tb_wl i hi)) (hts _ (by decide +kernel)) (fun i hi => hF _ (fg_wx i hi)) (fun q hq i hi => hF _ (fg_wo q hq i hi)) (fun i j hi hj hij => (fg_wd i hi j hj hij).imp (fun h => hF _ h) (fun h => hF _ h)) hA
  have hEf : va_Ef 11 "StampedRows$Word" "text" "Ljava/lang/String;" (fun i => .ref (adK i)) ad A s s.heap := va_Efof (tm := tmS) (nm := nmW) (E := "StampedRows$Word") (d0 := "LStampedRows$Word;") (fun i hi => hev2 i hi) (fun i hi => hF _ (fg_wt i hi)) (fun i hi => hev i (by omega)) hA
  obtain ⟨tw, hw1, hw2⟩ := va_Tof (tm := .static "StampedRows" "WORDS" "[LStampedRows$Word;") (ty := .object "StampedRows$Word") (N := 11) (f := fun j => .ref (ad j)) (A := A) (by decide) (hF _ (by decide +kernel)) (va_eqt (hF _ (by decide +kernel))) (fun j hj => va_eqv (hF _ (fg_we j hj)) (hev2 j hj)) hA
  obtain ⟨tq, hq1, hq2⟩ := va_Tof (tm := .static "StampedRows$1" "$SwitchMap$StampedRows$Word" "[I") (ty := .int) (N := 11) (f := fun j => .int (swM.getD j 0)) (A := A) (by decide) (hF _ (by decide +kernel)) (va_eqt (hF _ (by decide +kernel))) (fun j hj => va_eqt (hF _ (fg_se j hj))) hA
  refine ⟨(adK, adV, ad, tw, tq), hSt, hEn, hEf, va_Zof (hts _ (by decide +kernel)) (hts _ (by decide +kernel)) hw1 hA, hw2, va_Zof (hts _ (by decide +kernel)) (hts _ (by decide +kernel)) hq1 hA, hq2, va_Zof (hts _ (by decide +kernel)) (hts _ (by decide +kernel)) (va_eqt (hF _ (by decide +kernel))) hA, va_Zqof (hts _ (by decide +kernel)) (hts _ (by decide +kernel)) (hF _ (by decide +kernel)) hA, fun q hq => ?_, va_Nw.of rfl (hts _ (by decide +kernel))⟩
  obtain ⟨q15, h⟩ := fg_li q hq
  refine vk_R.of (hts _ (tb_li q hq)) ?_
  rcases h with h | h | h
  · rw [h]; exact hev _ q15
  · exact va_eqv (hF _ h) (hev _ q15)
  · exact st_eqv (hF _ h) (hev _ q15)
theorem st_Nx (hts : ∀ w ∈ lw_tbl, w.before args s = true) : zNx s := ⟨va_Nw.of rfl (hts _ (by decide +kernel)), va_Nw.of rfl (hts _ (by decide +kernel)), va_Nw.of rfl (hts _ (by decide +kernel)), va_Nw.of rfl (hts _ (by decide +kernel)), va_AO.of (hts _ (by decide +kernel))⟩
theorem st_Ex (hF : ∀ w ∈ FG, w.before args s = true) (hts : ∀ w ∈ lw_tbl, w.before args s = true) (hA : ∀ a : Nat, a < s.heap.size → ¬ A a) : zEx A s s.heap := ⟨fun w hw => va_Nw.of (tb_xb w hw).2 (hts _ (tb_xb w hw).1), vx_Zqof (hts _ (by decide +kernel)) (hts _ (by decide +kernel)) (hF _ (by decide +kernel)) hA, vx_Zqof (hts _ (by decide +kernel)) (hts _ (by decide +kernel)) (hF _ (by decide +kernel)) hA⟩
theorem st_arr {ty : FieldType} (h : (Cond.arrayClass ty).before args s = true) : ∃ cA : ClassId, ArrOfT s cA ty ∧ s.vm.findClass ("[" ++ ty.toString) = some cA := by
  obtain ⟨cA, kA, comp, h1, h2, h3⟩ := Cond.arrayClass_spec (args := args) (first := s) (o := none) (idx := []) h
  exact ⟨cA, fun n z => ⟨fun k h => (by cases h), kA, h2, comp, h3⟩, h1⟩
theorem st_K (hts : ∀ w ∈ lw_tbl, w.before args s = true) : ∃ (D : va_G) (cy : Nat → ClassId), va_K D vwCl (zty cy) s := by
  have hw := wt_hts hts
  obtain ⟨k0, j0, u0⟩ := u_known (C := RX2) (T := TX2) (N := 8) (n := 8) hw in_X2 (hw _ q1_110)
  obtain ⟨k1, j1, u1⟩ := u_known (C := RX4) (T := TX4) (N := 5) (n := 5) hw in_X4 (hw _ q1_233)
  obtain ⟨k2, j2, u2⟩ := u_known (C := RX5) (T := TX5) (N := 15) (n := 15) hw in_X5 (hw _ q1_35)
  obtain ⟨k3, j3, u3⟩ := u_known (C := RX6) (T := TX6) (N := 16) (n := 16) hw in_X6 (hw _ q1_41)
  obtain ⟨k4, j4, u4⟩ := u_known (C := RX7) (T := TX7) (N := 7) (n := 7) hw in_X7 (hts (.instantiable "StampedRows$Tape" 7) (by decide +kernel))
  obtain ⟨k5, j5, u5⟩ := u_known (C := RX9) (T := TX9) (N := 7) (n := 7) hw in_X9 (hts (.instantiable "StampedRows" 7) (by decide +kernel))
  obtain ⟨k6, j6, u6⟩ := u_known (C := RX10) (T := TX10) (N := 41) (n := 41) hw in_X10 (hts (.instantiable "StampedRowsModel" 41) (by decide +kernel))
  obtain ⟨a0, b0, d0⟩ := st_arr (ty := .int) (hts _ (by decide +kernel))
  obtain ⟨a1, b1, d1⟩ := st_arr (ty := .long) (hts _ (by decide +kernel))
  obtain ⟨a2, b2, d2⟩ := st_arr (ty := .byte) (hts _ (by decide +kernel))
  obtain ⟨comp, a3, kA, f4, -, f2, f3, f1⟩ := Cond.arrayOver_spec (args := args) (first := s) (o := none) (idx := []) (n := "StampedRows$Rows") (hts (.arrayOver (.object "StampedRows$Rows")) (by decide +kernel))
  refine ⟨(fun k => [k0, k1, k2, k3, k4, k5, k6].getD k 0, fun k => [j0, j1, j2, j3, j4, j5, j6].getD k (fun _ => 0)), fun k => [a0, a1, a2, a3].getD k 0, fun k q hq => ?_, fun k q hq => ?_⟩
  · match k, hq with
    | 0, hq => cases hq; exact u0
    | 1, hq => cases hq; exact u1
    | 2, hq => cases hq; exact u2
    | 3, hq => cases hq; exact u3
    | 4, hq => cases hq; exact u4
    | 5, hq => cases hq; exact u5
    | 6, hq => cases hq; exact u6
    | k + 7, hq => simp [vwCl] at hq
  · match k, hq with
    | 0, hq => cases hq; exact ⟨b0, d0⟩
    | 1, hq => cases hq; exact ⟨b1, d1⟩
    | 2, hq => cases hq; exact ⟨b2, d2⟩
    | 3, hq => cases hq; exact ⟨fun N z => ⟨(fun k h => by cases h), kA, f2, comp, f3⟩, kA, comp, f2, f3, f4, f1⟩
    | k + 4, hq => simp [zty] at hq
end
