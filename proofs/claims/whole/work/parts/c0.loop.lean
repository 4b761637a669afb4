theorem z_len5 : ∀ n, n < 6 → (nI n - 6).toInt = (n : Int) - 6 := by decide +kernel
theorem z_len6 (n : Nat) (hn : n < 3073) : (nI n - 6).toInt = (n : Int) - 6 := by
  by_cases h : n < 6
  · exact z_len5 n h
  · have e1 : nI n = nI (n - 6) + nI 6 := by rw [nI_add, Nat.sub_add_cancel (by omega)]
    have e2 : nI (n - 6) + nI 6 - nI 6 = nI (n - 6) := Int32.add_sub_cancel _ _
    show (nI n - nI 6).toInt = _
    rw [e1, e2, nI_toInt (by omega)]
    omega
section
variable {p : Program} {l : Launch} {e : Env} {R : Room} {s : State} {m : MethodId} {args : Array Value} {below : List Frame} {meth : Method} {c : Code} {Q : State → Prop} {D : va_G} {A : Nat → Prop} {ret : Option FieldType} {E : zEn}
theorem L_loop {h gB gI : Nat → Nat → Nat} {cy : Nat → ClassId} {hm ho hs : Nat → Nat} {len : Nat} {sc : Nat → Int32} (C : zX p s m meth c cL_law 7 args RL ret A D (zty cy)) (hE : zE E A s s.heap) (hst : l.stackTraces = false) (hEx : zEx A s s.heap) (hR : 14 ≤ R.frames ∧ 528 ≤ R.locals) (hlen : len ≤ 3072) (hX : va_X (hs 0) len sc s s.heap) (hnA : ¬ A (hs 0)) (c0 s0 : Nat) (hc0 : c0 + 600 ≤ R.cells) (hs0 : s0 + 3600 ≤ R.slots)
    (kend : ∀ (H1 : Heap) (locs1 : List Loc) (ls1 : Array Slot), va_S A s.heap H1 locs1 → W p l e R s m args below meth c H1 locs1 (c0 + 600) (s0 + 3600) Q (F0 m 1915 ls1 [])) :
    ∀ (n t : Nat), t + n = 513 → ∀ (H : Heap) (locs : List Loc) (ls : Array Slot) (fo : Nat → Int64) (T : SSR) (Ro : SRows) (Ev : SEv) (Dr : SRd) (R2 : SRows) (E2 : SEv) (Tp : STape) (Hi : SHi) (Po : SPool) (M : SMo) (f1 : Nat → Int32) (f2 : Nat → Int32) (f3 : Nat → Int32) (f4 : Nat → Int32) (f5 : Nat → Int32) (f6 : Nat → Int32) (f7 : Nat → Int32) (f8 : Nat → Int32) (f9 : Nat → Int32) (f10 : Nat → Int32) (f11 : Nat → Int32) (f12 : Nat → Int32) (f13 : Nat → Int32) (f14 : Nat → Int32) (f15 : Nat → Int32) (f16 : Nat → Int32) (f17 : Nat → Int32), va_P D vwCl (zap (wL h gB gI E.2.2.1 cy hm ho hs len sc fo T Ro Ev Dr R2 E2 Tp Hi Po M f1 f2 f3 f4 f5 f6 f7 f8 f9 f10 f11 f12 f13 f14 f15 f16 f17)) H → va_D A (zap (wL h gB gI E.2.2.1 cy hm ho hs len sc fo T Ro Ev Dr R2 E2 Tp Hi Po M f1 f2 f3 f4 f5 f6 f7 f8 f9 f10 f11 f12 f13 f14 f15 f16 f17)) → va_S A s.heap H locs → IV T Ev Hi Po Ro Tp M f3 f8 f15 f5 f9 f11 f12 f1 (1000 + t) → lv_has ls 7 [(4, .int (nI (6 * t))), (3, .ref (ho 0)), (2, .ref (hm 0)), (1, .ref (h 0 0)), (0, .ref (hs 0))] → W p l e R s m args below meth c H locs (c0 + t) (s0 + 6 * t) Q (F0 m 23 ls []) := by
  intro n
  induction n with
  | zero =>
    intro t ht H locs ls fo T Ro Ev Dr R2 E2 Tp Hi Po M f1 f2 f3 f4 f5 f6 f7 f8 f9 f10 f11 f12 f13 f14 f15 f16 f17 hP hD hS hI hl
    obtain ⟨hx, hb9, hr, hts, hown, hlocks, hml, hA, hK⟩ := id C
    refine lv_iload hx hb9 dL_law_23 (lv_at hl 0 rfl) ?_
    refine lv_aload_n hx hb9 dL_law_25 rfl (lv_at hl 4 rfl) ?_
    refine z_xlen hx hb9 hX hnA hS dL_law_26 ?_
    refine lv_bipush (v := (6 : Int32)) hx hb9 dL_law_27 (by decide) ?_
    refine lv_isub hx hb9 dL_law_29 ?_
    refine lv_icmp_gt (tgt := 1915) hx hb9 dL_law_30 rfl (fun _ => ?_) (fun q => absurd ?_ q)
    · exact W.widen (by omega) (by omega) (kend H locs ls hS)
    · rw [fa_lt, z_len6 len (by omega), nI_toInt (by omega)]
      omega
  | succ n ih =>
    intro t ht H locs ls fo T Ro Ev Dr R2 E2 Tp Hi Po M f1 f2 f3 f4 f5 f6 f7 f8 f9 f10 f11 f12 f13 f14 f15 f16 f17 hP hD hS hI hl
    obtain ⟨hx, hb9, hr, hts, hown, hlocks, hml, hA, hK⟩ := id C
    refine lv_iload hx hb9 dL_law_23 (lv_at hl 0 rfl) ?_
    refine lv_aload_n hx hb9 dL_law_25 rfl (lv_at hl 4 rfl) ?_
    refine z_xlen hx hb9 hX hnA hS dL_law_26 ?_
    refine lv_bipush (v := (6 : Int32)) hx hb9 dL_law_27 (by decide) ?_
    refine lv_isub hx hb9 dL_law_29 ?_
    refine lv_icmp_gt (tgt := 1915) hx hb9 dL_law_30 rfl (fun _ => ?_) (fun q => ?_)
    · exact W.widen (by omega) (by omega) (kend H locs ls hS)
    rw [fa_lt, z_len6 len (by omega), nI_toInt (by omega)] at q
    have q6 : 6 * t + 6 ≤ len := by omega
    have yk : ∀ k, k < 6 → zib (nI (6 * t) + nI k) len := fun k hk => by
      rw [nI_add]
      exact nI_in (by omega) (by omega)
    have y0 : zib (nI (6 * t)) len := nI_in (by omega) (by omega)
    refine lv_aload_n hx hb9 dL_law_33 rfl (lv_at hl 4 rfl) ?_
    refine lv_iload hx hb9 dL_law_34 (lv_at hl 0 rfl) ?_
    refine z_xld hx hb9 hX hnA hS y0 dL_law_36 ?_
    refine lv_bipush (v := (63 : Int32)) hx hb9 dL_law_37 (by decide) ?_
    refine lv_iand hx hb9 dL_law_39 ?_
    have hN : 1000 + t + 1 < 2 ^ 29 := by omega
    refine L_switch (b := 1000 + t) C hE hst hEx hR ⟨by omega, by omega⟩ hP hD hS hX hnA hl (yk 1 (by omega)) (yk 2 (by omega)) (yk 3 (by omega)) (yk 4 (by omega)) (yk 5 (by omega)) (by omega) hN hI ?_
    intro H1 locs1 fo1 T1 Ro1 Ev1 Dr1 R21 E21 Tp1 Hi1 Po1 M1 f11 f21 f31 f41 f51 f61 f71 f81 f91 f101 f111 f121 f131 f141 f151 f161 f171 ls1 hP hD hS hI hl
    refine lv_iinc (k := 0) (v := nI (6 * (t + 1))) (lv' := [(4, .int (nI (6 * (t + 1)))), (3, .ref (ho 0)), (2, .ref (hm 0)), (1, .ref (h 0 0)), (0, .ref (hs 0))]) hx hb9 dL_law_1909 hl rfl (by show nI (6 * t) + nI 6 = _; rw [nI_add]; rfl) (by decide) rfl (fun ls hl => ?_)
    refine lv_goto (tgt := 23) hx hb9 dL_law_1912 rfl ?_
    exact ih (t + 1) (by omega) H1 locs1 ls fo1 T1 Ro1 Ev1 Dr1 R21 E21 Tp1 Hi1 Po1 M1 f11 f21 f31 f41 f51 f61 f71 f81 f91 f101 f111 f121 f131 f141 f151 f161 f171 hP hD hS hI hl
end
