/-! led: the class's (returns or throws), the law's (catches) -/
section LD
def xbad : List Cond := [.declares ⟨"java/lang/Throwable", "<init>", "()V"⟩, .declares ⟨"java/lang/Exception", "<init>", "()V"⟩, .declares ⟨"java/lang/RuntimeException", "<init>", "()V"⟩, .castable "java/util/NoSuchElementException" "java/util/NoSuchElementException"]
theorem xg : ∀ w ∈ (vx_at0 RX9 350 "java/util/NoSuchElementException" ["java/lang/RuntimeException", "java/lang/Exception"]).filter goodWord, w ∈ WT := fun w h => wt_in ((by decide +kernel : ∀ w ∈ (vx_at0 RX9 350 "java/util/NoSuchElementException" ["java/lang/RuntimeException", "java/lang/Exception"]).filter goodWord, w ∈ lw_tbl) w h) (List.mem_filter.mp h).2
theorem xb : ∀ w ∈ (vx_at0 RX9 350 "java/util/NoSuchElementException" ["java/lang/RuntimeException", "java/lang/Exception"]).filter (fun w => !goodWord w), w ∈ xbad := by decide +kernel
theorem xot : ∀ w ∈ Cond.classLink RX9 348 "java/util/NoSuchElementException" :: Cond.initialized "java/util/NoSuchElementException" :: vx_at0 RX9 350 "java/util/NoSuchElementException" ["java/lang/RuntimeException", "java/lang/Exception"], vx_ot w = true := by decide +kernel
def zEx (A : Nat → Prop) (U : State) (H : Heap) : Prop := (∀ w ∈ xbad, va_Nw w U) ∧ vx_Zq Bundle.tN "UNASSIGNED_STACK" Bundle.steD A U H ∧ vx_Zq Bundle.tN "SUPPRESSED_SENTINEL" Bundle.listD A U H
theorem xbad_warm {s U : State} (hW : s.WarmedH U.vm) (h : ∀ w ∈ xbad, va_Nw w s) : ∀ w ∈ xbad, va_Nw w U := by
  intro w hw
  have h1 := h w hw
  simp only [xbad, List.mem_cons, List.not_mem_nil, or_false] at hw
  rcases hw with rfl | rfl | rfl | rfl
  · exact va_Nw.warmD hW h1
  · exact va_Nw.warmD hW h1
  · exact va_Nw.warmD hW h1
  · exact va_tabs rfl (rfl : (s.setVm U.vm).vm = U.vm) (by rw [Cond.castable_setVm hW.alike]; exact h1)
theorem zEx.step {A B : Nat → Prop} {s U : State} {H : Heap} {locs : List Loc} (h : zEx A s s.heap) (hS : va_S A s.heap H locs) (hAB : ∀ q, B q → A q) (hU : U.heap = H) (hW : s.WarmedH U.vm) : zEx B U U.heap := by
  obtain ⟨h1, h2, h3⟩ := h
  rw [hU]
  exact ⟨xbad_warm hW h1, ((h2.kept hS.2.1).narrow hAB).moved hW.alike, ((h3.kept hS.2.1).narrow hAB).moved hW.alike⟩
theorem zEx.calling {A : Nat → Prop} {U : State} {g : JFrame} {mk : MethodId} {a : Array Value} (h : zEx A U U.heap) : zEx A (U.calling g mk a) (U.calling g mk a).heap := by
  obtain ⟨h1, h2, h3⟩ := h
  have ha : U.vm.Alike (U.calling g mk a).vm := Vm.Alike.refl U.vm
  refine ⟨fun w hw => ?_, h2.moved ha, h3.moved ha⟩
  have hot : w.onTables = true := by
    simp only [xbad, List.mem_cons, List.not_mem_nil, or_false] at hw
    rcases hw with rfl | rfl | rfl | rfl <;> rfl
  exact va_Nw.same (u := U) (U := U.calling g mk a) hot rfl (h1 w hw)
def zPx (D : va_G) (tys : zTy) (w : va_W) (sz : Nat) (U : State) : Prop := zP D tys w sz U ∧ zEx (va_A w sz) U U.heap
theorem zPx_blind {D : va_G} {tys : zTy} {w : va_W} {sz : Nat} {av : List Value} : FrameBlind (va_Pc av (zPx D tys w sz)) := fun a U g mk q => by
  obtain ⟨q0, ⟨q1, qP, qK, qD⟩, qE⟩ := q
  exact ⟨q0, ⟨q1, qP, va_K.moved (u := U) (U := U.calling g mk a) (Vm.Alike.refl U.vm) qK, qD⟩, qE.calling⟩
end LD
theorem hd_X6_emptyRow : yX6_emptyRow.cls = RX6 ∧ yX6_emptyRow.cls ≠ "java/lang/invoke/MethodHandle" ∧ yX6_emptyRow.cls ≠ "java/lang/invoke/VarHandle" ∧ (parseMethodDescriptor yX6_emptyRow.desc).map (fun d => d.parameters.length) = some 1 := by decide +kernel
theorem gV_X9_X6_emptyRow : GoodIn WT (wsV RX9 345 RX6 yX6_emptyRow (.code yX6_emptyRow cX6_emptyRow 4 (some FieldType.int) :: WT)) := gzV q5_214 q5_215 q5_216 q1_3 q5_217
theorem hd_X9_led : yX9_led.cls = RX9 ∧ yX9_led.cls ≠ "java/lang/invoke/MethodHandle" ∧ yX9_led.cls ≠ "java/lang/invoke/VarHandle" ∧ (parseMethodDescriptor yX9_led.desc).map (fun d => d.parameters.length) = some 1 := by decide +kernel
set_option maxHeartbeats 4000000 in
set_option maxRecDepth 100000 in
/-- the class's led: the row, or the exception where there is none -/
theorem c_X9_led (l : Launch) (hst : l.stackTraces = false) (D : va_G) (cy : Nat → ClassId) (ht ht_reader ht_rows ht_evidence ht_history : Nat → Nat) (St : SSR) (Sr : SRows) (x1 r : Int32) (hf : f_X6_emptyRow Sr x1 = some r) (sz : Nat) :
    vx_Met l yX9_led (.code yX9_led cX9_led 3 (some .int) :: WT) (zRn 6 100 1 6) (va_Pc [.ref (ht 0), .int x1] (zPx D (zty cy) (wSR ht (ht_reader 0) (ht_rows 0) (ht_evidence 0) (ht_history 0) cy St ++ wRows ht_rows cy Sr) sz))
      (va_Qi (fun r' (_ : Unit) => r' = r ∧ ¬ r = -2) (fun _ t => zT D (zty cy) (wSR ht (ht_reader 0) (ht_rows 0) (ht_evidence 0) (ht_history 0) cy St ++ wRows ht_rows cy Sr) (va_A (wSR ht (ht_reader 0) (ht_rows 0) (ht_evidence 0) (ht_history 0) cy St ++ wRows ht_rows cy Sr) sz) t) (va_A (wSR ht (ht_reader 0) (ht_rows 0) (ht_evidence 0) (ht_history 0) cy St ++ wRows ht_rows cy Sr) sz))
      (vx_X (fun (_ : Unit) => r = -2) (fun E _ t => E = "java/util/NoSuchElementException" ∧ zT D (zty cy) (wSR ht (ht_reader 0) (ht_rows 0) (ht_evidence 0) (ht_history 0) cy St ++ wRows ht_rows cy Sr) (va_A (wSR ht (ht_reader 0) (ht_rows 0) (ht_evidence 0) (ht_history 0) cy St ++ wRows ht_rows cy Sr) sz) t) (va_A (wSR ht (ht_reader 0) (ht_rows 0) (ht_evidence 0) (ht_history 0) cy St ++ wRows ht_rows cy Sr) sz)) 1 6 (va_A (wSR ht (ht_reader 0) (ht_rows 0) (ht_evidence 0) (ht_history 0) cy St ++ wRows ht_rows cy Sr) sz) := by
  refine vx_ofW (cc := cX9_led) (maxL := 3) (ret := some .int) (by decide +kernel) rfl ?_
  intro p e s m args below meth c s₁ B0 hml0 hnt hv
  obtain ⟨rfl, ⟨hsz, hP, hK0, hD0⟩, hEx⟩ := hv
  have hts0 := atoms_spec (ws := .code yX9_led cX9_led 3 (some .int) :: WT) B0.pre
  subst hsz
  rw [lg_entry_eq]
  have hD := hD0.self (sz := s.heap.size)
  generalize hw0 : va_A (wSR ht (ht_reader 0) (ht_rows 0) (ht_evidence 0) (ht_history 0) cy St ++ wRows ht_rows cy Sr) s.heap.size = A at hD hEx ⊢
  have hA0 : ∀ q : Nat, s.heap.size ≤ q → A q := fun q h => by rw [← hw0]; exact Or.inr h
  have C : zX p s m meth c cX9_led 3 ([.ref (ht 0), .int x1] : List Value).toArray RX9 (some .int) A D (zty cy) := ⟨B0.exec, B0.bytes, B0.returns, fun q h => hts0 q (List.mem_cons_of_mem _ h), findClass_of_methodNamed B0.named, B0.notSynchronized, hml0, hA0, hK0⟩
  obtain ⟨hx, hb, hr, hts, hown, hlocks, hml, hA, hK⟩ := id C
  have hS : va_S A s.heap s.heap [] := va_S.rf
  have hl := lv_entry ([.ref (ht 0), .int x1]) (n := 3) (Nat.le_of_ble_eq_true rfl)
  generalize (lg_sl ([.ref (ht 0), .int x1]) ++ List.replicate (3 - (lg_sl ([.ref (ht 0), .int x1])).length) Slot.unset).toArray = ls at hl ⊢
  have hl : lv_has ls 3 [(0, .ref (ht 0)), (1, .int x1)] := hl
  have hEx0 := hEx
  generalize hH : s.heap = H at hP ⊢
  have hS : va_S A s.heap H [] := by rw [← hH]; exact hS
  generalize ([] : List Loc) = locs at hS ⊢
  refine lv_aload_n hx hb dX9_led_0 rfl (lv_at hl 0 rfl) ?_
  refine va_get (D := D) (ci := 5) (v := .ref (ht_rows 0)) (C := RX9) (T := TX9) (N := 7) hx hb hts in_X9 hown hK hP 0 rfl rfl 1 (by decide) (hts _ q2_20) (fun _ h9 => h9) rfl dX9_led_1 ?_
  refine lv_iload_n hx hb dX9_led_4 rfl (lv_at hl 1 rfl) ?_
  refine z_cVi (As := [.int x1]) (rest := []) C (c_X6_emptyRow l D cy ht_rows Sr x1 r hf) gV_X9_X6_emptyRow hd_X6_emptyRow ⟨Nat.le_of_ble_eq_true rfl, Nat.le_of_ble_eq_true rfl⟩ ⟨Nat.le_of_ble_eq_true rfl, Nat.le_of_ble_eq_true rfl⟩ (va_recv hK hP (ci := 3) (q0 := 1) rfl rfl) hP hD hS (w2 := wSR ht (ht_reader 0) (ht_rows 0) (ht_evidence 0) (ht_history 0) cy St ++ wRows ht_rows cy Sr) [1, 2, 3, 4, 5, 6, 7, 8] [0] [0, 1, 2, 3, 4, 5, 6, 7, 8] rfl rfl rfl rfl rfl rfl (by decide) hl.1 (Nat.le_of_ble_eq_true rfl) dX9_led_5 (fun H locs hP hD hS => ?_)
  refine lv_istore_n (lv' := [(2, .int r), (0, .ref (ht 0)), (1, .int x1)]) hx hb dX9_led_8 rfl hl (by decide) rfl (fun ls hl => ?_)
  refine lv_iload_n hx hb dX9_led_9 rfl (lv_at hl 0 rfl) ?_
  refine lv_bipush (v := (-2 : Int32)) hx hb dX9_led_10 (by decide) ?_
  refine lv_icmp_ne (tgt := 23) hx hb dX9_led_12 (by decide) (fun hne => ?_) (fun heq => ?_)
  · refine lv_iload_n hx hb dX9_led_23 rfl (lv_at hl 0 rfl) ?_
    refine vx_ret ?_
    refine W.widen (k := 1) (n := 6) (Nat.le_of_ble_eq_true rfl) (Nat.le_of_ble_eq_true rfl) ?_
    exact W.iret hx hb hr (fun t ht9 hW => ⟨⟨r, (), rfl, ⟨rfl, hne⟩, by rw [ht9]; exact hP, va_K.moved hW.alike hK, hD⟩, hS.F ht9⟩) hS.2.2 dX9_led_24
  · refine vx_throw0 (names := ["java/lang/RuntimeException", "java/lang/Exception"]) hx hb hst hown (by decide +kernel) (by decide +kernel) (hts _ q5_218) (hts _ q1_24) (vx_hat (fun w h => hts w (xg w h)) xb (fun w hw => ?_)) xot hEx.2.1 hEx.2.2 hS (hl.1.trans hml.symm) dX9_led_15 dX9_led_18 dX9_led_19 dX9_led_22 (fun x h => absurd h (fun h => hnt x h)) (Nat.le_of_ble_eq_true rfl) (Nat.le_of_ble_eq_true rfl) (Nat.le_of_ble_eq_true rfl) (Nat.le_of_ble_eq_true rfl) hlocks (fun t hal hz hk => ?_) hS.2.2 (Nat.le_of_ble_eq_true rfl) (Nat.le_of_ble_eq_true rfl)
    · have hot : w.onTables = true := by
        simp only [xbad, List.mem_cons, List.not_mem_nil, or_false] at hw
        rcases hw with rfl | rfl | rfl | rfl <;> rfl
      exact va_Nw.use hot (hEx.1 w hw)
    · refine ⟨(), heq, ⟨rfl, hP.kept (fun k q hk9 => hk q.1 (va_at.lt (hP k q hk9))), va_K.moved hal hK, hD⟩, ⟨Nat.le_trans hS.1 hz, fun q h1 h2 => ?_⟩⟩
      rw [hk q (Nat.lt_of_lt_of_le h1 hS.1)]
      exact hS.2.1 q h1 h2
theorem gV_L_X9_led : GoodIn WT (wsV RL 7 RX9 yX9_led (.code yX9_led cX9_led 3 (some .int) :: WT)) := gzV q5_210 q5_211 q5_212 q1_1 q5_213
set_option maxHeartbeats 4000000 in
set_option maxRecDepth 100000 in
/-- the law's led: 0 and the row in out, or 1 -/
theorem c_L_led (l : Launch) (hst : l.stackTraces = false) (D : va_G) (cy : Nat → ClassId) (ht ht_reader ht_rows ht_evidence ht_history ho : Nat → Nat) (St : SSR) (Sr : SRows) (fo : Nat → Int64) (x1 r : Int32) (hf : f_X6_emptyRow Sr x1 = some r) (sz : Nat) :
    Met l yL_led (.codeWith yL_led cL_led 4 (some .int) [(0, 9, 12, 13)] :: WT) (zRn 7 122 1 6) (va_Pc [.ref (ht 0), .int x1, .ref (ho 0)] (zPx D (zty cy) ((wSR ht (ht_reader 0) (ht_rows 0) (ht_evidence 0) (ht_history 0) cy St ++ wRows ht_rows cy Sr) ++ wAJ ho cy 1 fo) sz))
      (va_Qi (fun r' (_ : Unit) => r' = if r = -2 then 1 else 0) (fun _ t => zT D (zty cy) ((wSR ht (ht_reader 0) (ht_rows 0) (ht_evidence 0) (ht_history 0) cy St ++ wRows ht_rows cy Sr) ++ wAJ ho cy 1 (if r = -2 then fo else vp_updL fo 0 r.toInt64)) (va_A ((wSR ht (ht_reader 0) (ht_rows 0) (ht_evidence 0) (ht_history 0) cy St ++ wRows ht_rows cy Sr) ++ wAJ ho cy 1 fo) sz) t) (va_A ((wSR ht (ht_reader 0) (ht_rows 0) (ht_evidence 0) (ht_history 0) cy St ++ wRows ht_rows cy Sr) ++ wAJ ho cy 1 fo) sz)) 1 6 (va_A ((wSR ht (ht_reader 0) (ht_rows 0) (ht_evidence 0) (ht_history 0) cy St ++ wRows ht_rows cy Sr) ++ wAJ ho cy 1 fo) sz) := by
  refine va_MetW (cc := cL_led) (maxL := 4) (ret := some .int) (hh := [(0, 9, 12, 13)]) (by decide +kernel) rfl ?_
  intro p e s m args below meth c s₁ B0 hml0 hv
  obtain ⟨rfl, ⟨hsz, hP, hK0, hD0⟩, hEx⟩ := hv
  have hts0 := atoms_spec (ws := .codeWith yL_led cL_led 4 (some .int) [(0, 9, 12, 13)] :: WT) B0.pre
  have htab := vx_table (x := yL_led) B0 (hts0 _ List.mem_cons_self)
  subst hsz
  rw [lg_entry_eq]
  have hD := hD0.self (sz := s.heap.size)
  generalize hw0 : va_A ((wSR ht (ht_reader 0) (ht_rows 0) (ht_evidence 0) (ht_history 0) cy St ++ wRows ht_rows cy Sr) ++ wAJ ho cy 1 fo) s.heap.size = A at hD hEx ⊢
  have hA0 : ∀ q : Nat, s.heap.size ≤ q → A q := fun q h => by rw [← hw0]; exact Or.inr h
  have C : zX p s m meth c cL_led 4 ([.ref (ht 0), .int x1, .ref (ho 0)] : List Value).toArray RL (some .int) A D (zty cy) := ⟨B0.exec, B0.bytes, B0.returns, fun q h => hts0 q (List.mem_cons_of_mem _ h), findClass_of_methodNamed B0.named, B0.notSynchronized, hml0, hA0, hK0⟩
  obtain ⟨hx, hb, hr, hts, hown, hlocks, hml, hA, hK⟩ := id C
  have hS : va_S A s.heap s.heap [] := va_S.rf
  have hl := lv_entry ([.ref (ht 0), .int x1, .ref (ho 0)]) (n := 4) (Nat.le_of_ble_eq_true rfl)
  generalize (lg_sl ([.ref (ht 0), .int x1, .ref (ho 0)]) ++ List.replicate (4 - (lg_sl ([.ref (ht 0), .int x1, .ref (ho 0)])).length) Slot.unset).toArray = ls at hl ⊢
  have hl : lv_has ls 4 [(0, .ref (ht 0)), (1, .int x1), (2, .ref (ho 0))] := hl
  generalize hH : s.heap = H at hP ⊢
  have hS : va_S A s.heap H [] := by rw [← hH]; exact hS
  generalize ([] : List Loc) = locs at hS ⊢
  refine lv_aload_n hx hb dL_led_0 rfl (lv_at hl 2 rfl) ?_
  refine lv_iconst (v := (0 : Int32)) hx hb dL_led_1 (by decide) ?_
  refine lv_aload_n hx hb dL_led_2 rfl (lv_at hl 0 rfl) ?_
  refine lv_iload_n hx hb dL_led_3 rfl (lv_at hl 1 rfl) ?_
  have hPc := zP_left hP
  have hDc := zD_left hD
  have hFc := zfreeM (X := []) (Y := wSR ht (ht_reader 0) (ht_rows 0) (ht_evidence 0) (ht_history 0) cy St ++ wRows ht_rows cy Sr) (Z := wAJ ho cy 1 fo) hD hS hA
  refine vx_calli (vx_runV (As := [.int x1]) (rest := [.int 0, .ref (ho 0)]) (nL := 4) (Ts := WT) ⟨hx, hb, hml, hown, hts⟩ (c_X9_led l hst D cy ht ht_reader ht_rows ht_evidence ht_history St Sr x1 r hf H.size) (cwV 1 hts gV_L_X9_led rfl rfl rfl hd_X9_led ⟨Nat.le_of_ble_eq_true rfl, Nat.le_of_ble_eq_true rfl⟩) ⟨zPx_blind, va_recv hK hPc (ci := 5) (q0 := 0) rfl rfl, fun U hU hW => ⟨rfl, ⟨by rw [hU], by rw [hU]; exact hPc, va_K.moved hW.alike hK, hDc.weaken (fun _ _ _ _ => trivial)⟩, hEx.step hS hFc hU hW⟩⟩ rfl rfl hl.1 rfl (lv_room (Nat.le_of_ble_eq_true rfl)) dL_led_4 ⟨Nat.le_of_ble_eq_true rfl, Nat.le_of_ble_eq_true rfl⟩) hS (fun q _ h => hFc q h) hFc (fun q _ h => hFc q h) (fun E ce q9 u t H1 locs ht9 hvm hw hB hz1 hk1 hS hce hcv hcl => ?_) (fun r0 u t H1 locs ht9 hvm hw hB hz1 hk1 hS => ?_)
  · obtain ⟨rfl, hB1, hB2, hB3⟩ := hB
    rw [ht9] at hB1
    obtain ⟨hP, hD⟩ := zjoinR hP hD hk1 hFc hB1 hB3
    refine vx_catch (x := { startPc := 0, endPc := 9, handlerPc := 12, catchType := 13 }) (name := "java/util/NoSuchElementException") hown [] [] (by rw [htab]; rfl) (fun z hz => absurd hz List.not_mem_nil) (by decide) (by decide) (hts _ q5_209) (va_Nw.use rfl (hEx.1 (.castable "java/util/NoSuchElementException" "java/util/NoSuchElementException") (by decide +kernel))) hce hcv hcl ?_
    refine lv_astore_n (lv' := [(3, .ref q9), (0, .ref (ht 0)), (1, .int x1), (2, .ref (ho 0))]) hx hb dL_led_12 rfl hl (by decide) rfl (fun ls hl => ?_)
    refine lv_iconst (v := (1 : Int32)) hx hb dL_led_13 (by decide) ?_
    rw [if_pos hw, if_pos hw]
    refine W.widen (k := 1) (n := 6) (Nat.le_of_ble_eq_true rfl) (Nat.le_of_ble_eq_true rfl) ?_
    exact W.iret hx hb hr (fun t ht9 hW => ⟨⟨1, (), rfl, rfl, by rw [ht9]; exact hP, va_K.moved hW.alike hK, hD⟩, hS.F ht9⟩) hS.2.2 dL_led_14
  · obtain ⟨hB1, hB2, hB3⟩ := hB
    rw [ht9] at hB1
    obtain ⟨rfl, hne⟩ := hw
    obtain ⟨hP, hD⟩ := zjoinR hP hD hk1 hFc hB1 hB3
    refine lv_i2l (v := r0.toInt64) hx hb dL_led_7 rfl ?_
    refine va_last (f := fo) hx hb hK hP hD hS 9 1 rfl rfl (by unfold vp_in; decide) dL_led_8 (fun H locs hP hD hS => ?_)
    refine lv_goto (tgt := 15) hx hb dL_led_9 (by decide) ?_
    refine lv_iconst (v := (0 : Int32)) hx hb dL_led_15 (by decide) ?_
    have hP : va_P D vwCl ((wSR ht (ht_reader 0) (ht_rows 0) (ht_evidence 0) (ht_history 0) cy St ++ wRows ht_rows cy Sr) ++ wAJ ho cy 1 (vp_updL fo 0 r0.toInt64)) H := hP
    have hD : va_D A ((wSR ht (ht_reader 0) (ht_rows 0) (ht_evidence 0) (ht_history 0) cy St ++ wRows ht_rows cy Sr) ++ wAJ ho cy 1 (vp_updL fo 0 r0.toInt64)) := hD
    rw [if_neg hne, if_neg hne]
    refine W.widen (k := 1) (n := 6) (Nat.le_of_ble_eq_true rfl) (Nat.le_of_ble_eq_true rfl) ?_
    exact W.iret hx hb hr (fun t ht9 hW => ⟨⟨0, (), rfl, rfl, by rw [ht9]; exact hP, va_K.moved hW.alike hK, hD⟩, hS.F ht9⟩) hS.2.2 dL_led_16
