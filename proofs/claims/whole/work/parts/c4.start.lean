set_option maxHeartbeats 4000000 in
set_option maxRecDepth 100000 in
/-- from the entry, for every script of at most 3072 ints, the law comes to its end with true -/
theorem whole_start {p : Program} {e : Env} {s : State} {m : MethodId} {below : List Frame} {meth : Method} {c : Code} (l : Launch) (hflags : l.flags = flags0) {b L : Nat} {xs : Nat → Int32} (hL : L ≤ 3072) (C0 : lw_At p s m meth c b L xs) : W p l e room_1 s m #[Value.ref b] below meth c s.heap [] 0 0 (lw_Z below #[Value.ref b] s) (entryFrame m ([Value.ref b] : List Value).toArray 7) := by
  obtain ⟨hx, hb, hr, hml, hown, hts, hX, hbl, hlocks, hgv⟩ := id C0
  have hst : l.stackTraces = false := by unfold Launch.stackTraces; rw [hflags]; decide
  have hF := flat_of_before _ hgv
  obtain ⟨A, hA1, hA2⟩ : ∃ A : Nat → Prop, (∀ q, s.heap.size ≤ q → A q) ∧ (∀ q, A q → s.heap.size ≤ q) := ⟨fun q => s.heap.size ≤ q, fun _ h => h, fun _ h => h⟩
  have hA0 : ∀ a : Nat, a < s.heap.size → ¬ A a := fun a h z => Nat.not_le.mpr h (hA2 a z)
  obtain ⟨D, cy, hK⟩ := st_K hts
  obtain ⟨E, hE⟩ := st_E (A := A) hF hts hA0
  have hN0 := st_Nx hts
  have hEx := st_Ex (A := A) hF hts hA0
  have hnA : ¬ A b := hA0 b hbl
  obtain ⟨g1, hg1, hk1⟩ := g_fill (N := 6) (by decide)
  obtain ⟨g2, hg2, hk2⟩ := g_fill (N := 48) (by decide)
  have C : zX p s m meth c cL_law 7 #[Value.ref b] RL ret A D (zty cy) := ⟨hx, hb, hr, wt_hts hts, hown, hlocks, hml, hA1, hK⟩
  have hw := wt_hts hts
  have hown : s.vm.findClass RL = some m.cls := hown
  have hP : va_P D vwCl [] s.heap := fun k q h => by simp at h
  have hD : va_D A [] := ⟨fun i j p q h => by simp at h, fun k q h => by simp at h⟩
  have hS : va_S A s.heap s.heap [] := va_S.rf
  have hl := lv_entry ([.ref b]) (n := 7) (Nat.le_of_ble_eq_true rfl)
  rw [lg_entry_eq]
  generalize (lg_sl ([.ref b]) ++ List.replicate (7 - (lg_sl ([.ref b])).length) Slot.unset).toArray = ls at hl ⊢
  have hl : lv_has ls 7 [(0, .ref b)] := hl
  have kend : ∀ (H1 : Heap) (locs1 : List Loc) (ls1 : Array Slot), va_S A s.heap H1 locs1 → W p l e room_1 s m #[Value.ref b] below meth c H1 locs1 (208 + 600) (15622 + 3600) (lw_Z below #[Value.ref b] s) (F0 m 1915 ls1 []) := by
    intro H1 locs1 ls1 hS1
    refine lv_iconst (v := (1 : Int32)) hx hb dL_law_1915 (by decide) ?_
    refine W.widen (k := 601024) (n := 7293034) (Nat.le_of_ble_eq_true rfl) (Nat.le_of_ble_eq_true rfl) ?_
    exact W.forget (locs := []) (L := locs1) (fun q hq => hA2 _ (hS1.2.2 q hq)) (lw_ret hx hb hr hlocks dL_law_1916)
  refine va_new (ci := 5) (fs := [.null, .null, .null, .null, .int 0, .int 0, .int 0]) (C := RX9) (T := TX9) (N := 7) hx hb hw in_X9 tyX9 tyX9_ok hown (hw _ q1_26) (hw _ q1_27) (hw _ q1_1) hK hP hD hS hA1 rfl (by decide +kernel) (Nat.le_of_ble_eq_true rfl) (Nat.le_of_ble_eq_true rfl) dL_law_0 (fun a1 H hP hD hS => ?_)
  refine W.widen (k := 1) (n := 7) (Nat.le_of_ble_eq_true rfl) (Nat.le_of_ble_eq_true rfl) ?_
  have hP : va_P D vwCl [(a1, .inr (5, [.null, .null, .null, .null, .int 0, .int 0, .int 0]))] H := hP
  have hD : va_D A [(a1, .inr (5, [.null, .null, .null, .null, .int 0, .int 0, .int 0]))] := hD
  refine lv_dup hx hb dL_law_3 rfl ?_
  refine z_cI (rest := [.ref a1]) C hN0 (c_X9_init l D cy a1 E.2.2.1 g1 g2 hg1 hg2) (z_cwI C q1_30 q1_1 q1_28 q1_29 rfl (by decide +kernel) ⟨Nat.le_of_ble_eq_true rfl, Nat.le_of_ble_eq_true rfl⟩) ⟨Nat.le_of_ble_eq_true rfl, Nat.le_of_ble_eq_true rfl⟩ [] rfl hP hD hS hl.1 (Nat.le_of_ble_eq_true rfl) dL_law_4 (fun H locs t ht hB hj hS => ?_)
  refine W.widen (k := 189) (n := 6709) (Nat.le_of_ble_eq_true rfl) (Nat.le_of_ble_eq_true rfl) ?_
  obtain ⟨h, gB, gI, he1, hP1, hK1, hD1⟩ := hB
  rw [ht] at hP1
  obtain ⟨hP9, hD9⟩ := hj _ hP1 hD1
  clear hj hP1 hD1 hK1 hP hD
  subst he1
  have hP : va_P D vwCl (wX h gB gI E.2.2.1 cy (S0X g1 g2)) H := hP9
  have hD : va_D A (wX h gB gI E.2.2.1 cy (S0X g1 g2)) := hD9
  clear hP9 hD9
  refine lv_astore_n (lv' := [(1, .ref (h 0 0)), (0, .ref b)]) hx hb dL_law_7 rfl hl (by decide) rfl (fun ls hl => ?_)
  refine va_new (ci := 6) (fs := [.int 0, .null, .int 0, .int 0, .int 0, .int 0, .int 0, .int 0, .int 0, .int 0, .int 0, .int 0, .null, .int 0, .int 0, .null, .null, .null, .null, .null, .null, .null, .null, .null, .null, .int 0, .int 0, .int 0, .int 0, .null, .null, .null, .null, .null, .int 0, .int 0, .int 0, .int 0, .long 0, .long 0, .long 0]) (C := RX10) (T := TX10) (N := 41) hx hb hw in_X10 tyX10 tyX10_ok hown (hw _ q6_39) (hw _ q6_40) (hw _ q1_8) hK hP hD hS hA1 rfl (by decide +kernel) (Nat.le_of_ble_eq_true rfl) (Nat.le_of_ble_eq_true rfl) dL_law_8 (fun a2 H hP hD hS => ?_)
  refine W.widen (k := 190) (n := 6750) (Nat.le_of_ble_eq_true rfl) (Nat.le_of_ble_eq_true rfl) ?_
  refine lv_dup hx hb dL_law_11 rfl ?_
  refine z_cI (rest := [.ref a2]) C hN0 (c_X10_init l D cy a2) (z_cwI C q6_43 q1_8 q6_41 q6_42 rfl (by decide +kernel) ⟨Nat.le_of_ble_eq_true rfl, Nat.le_of_ble_eq_true rfl⟩) ⟨Nat.le_of_ble_eq_true rfl, Nat.le_of_ble_eq_true rfl⟩ (wX h gB gI E.2.2.1 cy (S0X g1 g2)) rfl hP hD hS hl.1 (Nat.le_of_ble_eq_true rfl) dL_law_12 (fun H locs t ht hB hj hS => ?_)
  refine W.widen (k := 207) (n := 15621) (Nat.le_of_ble_eq_true rfl) (Nat.le_of_ble_eq_true rfl) ?_
  obtain ⟨h2, he2, hP1, hK1, hD1⟩ := hB
  rw [ht] at hP1
  obtain ⟨hP9, hD9⟩ := hj _ hP1 hD1
  clear hj hP1 hD1 hK1 hP hD
  subst he2
  have hP := hP9
  have hD := hD9
  clear hP9 hD9
  refine lv_astore_n (lv' := [(2, .ref (h2 0 0)), (1, .ref (h 0 0)), (0, .ref b)]) hx hb dL_law_15 rfl hl (by decide) rfl (fun ls hl => ?_)
  refine lv_iconst (v := (1 : Int32)) hx hb dL_law_16 (by decide) ?_
  refine z_new_long C hP hD hS (N' := 1) (by decide) (by decide) (by decide) (Nat.le_of_ble_eq_true rfl) (Nat.le_of_ble_eq_true rfl) dL_law_17 q1_108 (fun a3 H hP hD hS => ?_)
  refine W.widen (k := 208) (n := 15622) (Nat.le_of_ble_eq_true rfl) (Nat.le_of_ble_eq_true rfl) ?_
  refine lv_astore_n (lv' := [(3, .ref a3), (2, .ref (h2 0 0)), (1, .ref (h 0 0)), (0, .ref b)]) hx hb dL_law_19 rfl hl (by decide) rfl (fun ls hl => ?_)
  refine lv_iconst (v := nI (6 * 0)) hx hb dL_law_20 (by decide) ?_
  refine lv_istore (lv' := [(4, .int (nI (6 * 0))), (3, .ref a3), (2, .ref (h2 0 0)), (1, .ref (h 0 0)), (0, .ref b)]) hx hb dL_law_21 hl (by decide) rfl (fun ls hl => ?_)
  have hP : va_P D vwCl (zap (wL h gB gI E.2.2.1 cy (h2 0) (fun _ => a3) (fun _ => b) L xs (fun _ => 0) (S0X g1 g2).1 (S0X g1 g2).2.1 (S0X g1 g2).2.2.1 (S0X g1 g2).2.2.2.1 (S0X g1 g2).2.2.2.2.1 (S0X g1 g2).2.2.2.2.2.1 (S0X g1 g2).2.2.2.2.2.2.1 (S0X g1 g2).2.2.2.2.2.2.2.1 (S0X g1 g2).2.2.2.2.2.2.2.2 S0M (fun _ => 0) (fun _ => 0) (fun _ => 0) (fun _ => 0) (fun _ => 0) (fun _ => 0) (fun _ => 0) (fun _ => 0) (fun _ => 0) (fun _ => 0) (fun _ => 0) (fun _ => 0) (fun _ => 0) (fun _ => 0) (fun _ => 0) (fun _ => 0) (fun _ => 0))) H := zP_perm hP (zseg3 (wL h gB gI E.2.2.1 cy (h2 0) (fun _ => a3) (fun _ => b) L xs (fun _ => 0) (S0X g1 g2).1 (S0X g1 g2).2.1 (S0X g1 g2).2.2.1 (S0X g1 g2).2.2.2.1 (S0X g1 g2).2.2.2.2.1 (S0X g1 g2).2.2.2.2.2.1 (S0X g1 g2).2.2.2.2.2.2.1 (S0X g1 g2).2.2.2.2.2.2.2.1 (S0X g1 g2).2.2.2.2.2.2.2.2 S0M (fun _ => 0) (fun _ => 0) (fun _ => 0) (fun _ => 0) (fun _ => 0) (fun _ => 0) (fun _ => 0) (fun _ => 0) (fun _ => 0) (fun _ => 0) (fun _ => 0) (fun _ => 0) (fun _ => 0) (fun _ => 0) (fun _ => 0) (fun _ => 0) (fun _ => 0)) [0, 4, 5, 6, 7, 8, 9, 10, 28] [1, 11, 12, 13, 14, 15, 16, 17, 18, 19, 20, 21, 22, 23, 24, 25, 26, 27] [2, 3] (n := 29) rfl (by decide))
  have hD : va_D A (zap (wL h gB gI E.2.2.1 cy (h2 0) (fun _ => a3) (fun _ => b) L xs (fun _ => 0) (S0X g1 g2).1 (S0X g1 g2).2.1 (S0X g1 g2).2.2.1 (S0X g1 g2).2.2.2.1 (S0X g1 g2).2.2.2.2.1 (S0X g1 g2).2.2.2.2.2.1 (S0X g1 g2).2.2.2.2.2.2.1 (S0X g1 g2).2.2.2.2.2.2.2.1 (S0X g1 g2).2.2.2.2.2.2.2.2 S0M (fun _ => 0) (fun _ => 0) (fun _ => 0) (fun _ => 0) (fun _ => 0) (fun _ => 0) (fun _ => 0) (fun _ => 0) (fun _ => 0) (fun _ => 0) (fun _ => 0) (fun _ => 0) (fun _ => 0) (fun _ => 0) (fun _ => 0) (fun _ => 0) (fun _ => 0))) := zD_perm hD (zseg3 (wL h gB gI E.2.2.1 cy (h2 0) (fun _ => a3) (fun _ => b) L xs (fun _ => 0) (S0X g1 g2).1 (S0X g1 g2).2.1 (S0X g1 g2).2.2.1 (S0X g1 g2).2.2.2.1 (S0X g1 g2).2.2.2.2.1 (S0X g1 g2).2.2.2.2.2.1 (S0X g1 g2).2.2.2.2.2.2.1 (S0X g1 g2).2.2.2.2.2.2.2.1 (S0X g1 g2).2.2.2.2.2.2.2.2 S0M (fun _ => 0) (fun _ => 0) (fun _ => 0) (fun _ => 0) (fun _ => 0) (fun _ => 0) (fun _ => 0) (fun _ => 0) (fun _ => 0) (fun _ => 0) (fun _ => 0) (fun _ => 0) (fun _ => 0) (fun _ => 0) (fun _ => 0) (fun _ => 0) (fun _ => 0)) [0, 4, 5, 6, 7, 8, 9, 10, 28] [1, 11, 12, 13, 14, 15, 16, 17, 18, 19, 20, 21, 22, 23, 24, 25, 26, 27] [2, 3] (n := 29) rfl (by decide))
  exact L_loop (hm := h2 0) (ho := fun _ => a3) (hs := fun _ => b) C hE hst hEx ⟨Nat.le_of_ble_eq_true rfl, Nat.le_of_ble_eq_true rfl⟩ hL hX hnA 208 15622 (Nat.le_of_ble_eq_true rfl) (Nat.le_of_ble_eq_true rfl) kend 513 0 rfl H locs ls (fun _ => 0) (S0X g1 g2).1 (S0X g1 g2).2.1 (S0X g1 g2).2.2.1 (S0X g1 g2).2.2.2.1 (S0X g1 g2).2.2.2.2.1 (S0X g1 g2).2.2.2.2.2.1 (S0X g1 g2).2.2.2.2.2.2.1 (S0X g1 g2).2.2.2.2.2.2.2.1 (S0X g1 g2).2.2.2.2.2.2.2.2 S0M (fun _ => 0) (fun _ => 0) (fun _ => 0) (fun _ => 0) (fun _ => 0) (fun _ => 0) (fun _ => 0) (fun _ => 0) (fun _ => 0) (fun _ => 0) (fun _ => 0) (fun _ => 0) (fun _ => 0) (fun _ => 0) (fun _ => 0) (fun _ => 0) (fun _ => 0) hP hD hS (IV_start hk1 hk2) hl
