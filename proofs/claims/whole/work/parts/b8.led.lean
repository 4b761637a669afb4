theorem gS_L_led : GoodIn WT (va_wsS RL 256 yL_led (.codeWith yL_led cL_led 4 (some .int) [(0, 9, 12, 13)] :: WT)) := by
  intro w hw
  simp only [va_wsS, List.mem_append, List.mem_cons, List.not_mem_nil, or_false] at hw
  rcases hw with (rfl | rfl | rfl) | rfl | h
  all_goals first | exact wt_good _ q5_206 | exact wt_good _ q5_207 | exact wt_good _ q1_0 | exact wt_good _ q5_208 | exact wt_good _ h
theorem hdL_led : yL_led.cls ≠ "java/lang/invoke/MethodHandle" ∧ yL_led.cls ≠ "java/lang/invoke/VarHandle" ∧ (parseMethodDescriptor yL_led.desc).map (fun d => d.parameters.length) = some 3 := by decide +kernel
theorem zassoc3 {w a b c X : va_W} (h : w.Perm ((a ++ (b ++ c)) ++ X)) : w.Perm (((a ++ b) ++ c) ++ X) := by rw [List.append_assoc a b c]; exact h
theorem zassoc4 {w a b c X : va_W} (h : ((a ++ (b ++ c)) ++ X).Perm w) : (((a ++ b) ++ c) ++ X).Perm w := by rw [List.append_assoc a b c]; exact h
section
variable {p : Program} {l : Launch} {e : Env} {R : Room} {s : State} {m : MethodId} {args : Array Value} {below : List Frame} {meth : Method} {c : Code} {H : Heap} {locs : List Loc} {cells slots : Nat} {Q : State → Prop} {ls : Array Slot} {D : va_G} {A : Nat → Prop} {ret : Option FieldType} {E : zEn}
theorem L_c57_led {h gB gI : Nat → Nat → Nat} {ad : Nat → Nat} {cy : Nat → ClassId} {hm ho hs : Nat → Nat} {len : Nat} {sc : Nat → Int32} {fo : Nat → Int64} {T : SSR} {Ro : SRows} {Ev : SEv} {Dr : SRd} {R2 : SRows} {E2 : SEv} {Tp : STape} {Hi : SHi} {Po : SPool} {M : SMo} {f1 : Nat → Int32} {f2 : Nat → Int32} {f3 : Nat → Int32} {f4 : Nat → Int32} {f5 : Nat → Int32} {f6 : Nat → Int32} {f7 : Nat → Int32} {f8 : Nat → Int32} {f9 : Nat → Int32} {f10 : Nat → Int32} {f11 : Nat → Int32} {f12 : Nat → Int32} {f13 : Nat → Int32} {f14 : Nat → Int32} {f15 : Nat → Int32} {f16 : Nat → Int32} {f17 : Nat → Int32} {i : Int32} {b : Nat} (C : zX p s m meth c cL_law 7 args RL ret A D (zty cy)) (hst : l.stackTraces = false) (hEx : zEx A s s.heap) (hR : 14 ≤ R.frames ∧ 528 ≤ R.locals) (hcs : cells + 1 ≤ R.cells ∧ slots + 6 ≤ R.slots) (hP : va_P D vwCl (zap (wL h gB gI ad cy hm ho hs len sc fo T Ro Ev Dr R2 E2 Tp Hi Po M f1 f2 f3 f4 f5 f6 f7 f8 f9 f10 f11 f12 f13 f14 f15 f16 f17)) H) (hD : va_D A (zap (wL h gB gI ad cy hm ho hs len sc fo T Ro Ev Dr R2 E2 Tp Hi Po M f1 f2 f3 f4 f5 f6 f7 f8 f9 f10 f11 f12 f13 f14 f15 f16 f17))) (hS : va_S A s.heap H locs) (hX : va_X (hs 0) len sc s s.heap) (hnA : ¬ A (hs 0)) (hl : lv_has ls 7 [(4, .int i), (3, .ref (ho 0)), (2, .ref (hm 0)), (1, .ref (h 0 0)), (0, .ref (hs 0))]) (y1 : zib (i + 1) len) (hb : b + 1 < 2 ^ 29) (hI : IV T Ev Hi Po Ro Tp M f3 f8 f15 f5 f9 f11 f12 f1 b)
    (kk : ∀ (H1 : Heap) (locs1 : List Loc) (fo1 : Nat → Int64) (T1 : SSR) (Ro1 : SRows) (Ev1 : SEv) (Dr1 : SRd) (R21 : SRows) (E21 : SEv) (Tp1 : STape) (Hi1 : SHi) (Po1 : SPool) (M1 : SMo) (f11 : Nat → Int32) (f21 : Nat → Int32) (f31 : Nat → Int32) (f41 : Nat → Int32) (f51 : Nat → Int32) (f61 : Nat → Int32) (f71 : Nat → Int32) (f81 : Nat → Int32) (f91 : Nat → Int32) (f101 : Nat → Int32) (f111 : Nat → Int32) (f121 : Nat → Int32) (f131 : Nat → Int32) (f141 : Nat → Int32) (f151 : Nat → Int32) (f161 : Nat → Int32) (f171 : Nat → Int32) (ls1 : Array Slot), va_P D vwCl (zap (wL h gB gI ad cy hm ho hs len sc fo1 T1 Ro1 Ev1 Dr1 R21 E21 Tp1 Hi1 Po1 M1 f11 f21 f31 f41 f51 f61 f71 f81 f91 f101 f111 f121 f131 f141 f151 f161 f171)) H1 → va_D A (zap (wL h gB gI ad cy hm ho hs len sc fo1 T1 Ro1 Ev1 Dr1 R21 E21 Tp1 Hi1 Po1 M1 f11 f21 f31 f41 f51 f61 f71 f81 f91 f101 f111 f121 f131 f141 f151 f161 f171)) → va_S A s.heap H1 locs1 → IV T1 Ev1 Hi1 Po1 Ro1 Tp1 M1 f31 f81 f151 f51 f91 f111 f121 f11 (b + 1) → lv_has ls1 7 [(4, .int i), (3, .ref (ho 0)), (2, .ref (hm 0)), (1, .ref (h 0 0)), (0, .ref (hs 0))] → W p l e R s m args below meth c H1 locs1 (cells + 1) (slots + 6) Q (F0 m 1909 ls1 [])) : W p l e R s m args below meth c H locs cells slots Q (F0 m 1815 ls []) := by
  obtain ⟨hx, hb9, hr, hts, hown, hlocks, hml, hA, hK⟩ := id C
  obtain ⟨a, S9, e1, e2, e3, hI1⟩ := t_led (Nat.lt_of_succ_lt hb) hI (sc (i + 1).toNatClampNeg)
  have hI2 := IV_mono hb hI1
  refine lv_aload_n hx hb9 dL_law_1815 rfl (lv_at hl 3 rfl) ?_
  refine z_larg (kc := 1) hx hb9 hX hnA hS (lv_at hl 4 rfl) (lv_at hl 0 rfl) (by decide) y1 dL_law_1816 dL_law_1817 dL_law_1819 dL_law_1820 dL_law_1821 ?_
  refine lv_aload_n hx hb9 dL_law_1822 rfl (lv_at hl 1 rfl) ?_
  have hp1 : (zap (wL h gB gI ad cy hm ho hs len sc fo T Ro Ev Dr R2 E2 Tp Hi Po M f1 f2 f3 f4 f5 f6 f7 f8 f9 f10 f11 f12 f13 f14 f15 f16 f17)).Perm (((wSR (h 0) (h 3 0) (h 1 0) (h 2 0) (h 7 0) cy T ++ wRows (h 1) cy Ro) ++ wAJ ho cy 1 fo) ++ zap ([1, 2, 5, 6, 7, 8, 9, 10, 11, 12, 13, 14, 15, 16, 17, 18, 19, 20, 21, 22, 23, 24, 25, 26, 27, 28].map (zat (wL h gB gI ad cy hm ho hs len sc fo T Ro Ev Dr R2 E2 Tp Hi Po M f1 f2 f3 f4 f5 f6 f7 f8 f9 f10 f11 f12 f13 f14 f15 f16 f17)))) := zassoc3 (zseg (wL h gB gI ad cy hm ho hs len sc fo T Ro Ev Dr R2 E2 Tp Hi Po M f1 f2 f3 f4 f5 f6 f7 f8 f9 f10 f11 f12 f13 f14 f15 f16 f17) [0, 4, 3] [1, 2, 5, 6, 7, 8, 9, 10, 11, 12, 13, 14, 15, 16, 17, 18, 19, 20, 21, 22, 23, 24, 25, 26, 27, 28] (n := 29) rfl (by decide))
  have hp2 : (((wSR (h 0) (h 3 0) (h 1 0) (h 2 0) (h 7 0) cy T ++ wRows (h 1) cy Ro) ++ wAJ ho cy 1 (if a = -2 then fo else vp_updL fo 0 a.toInt64)) ++ zap ([1, 2, 5, 6, 7, 8, 9, 10, 11, 12, 13, 14, 15, 16, 17, 18, 19, 20, 21, 22, 23, 24, 25, 26, 27, 28].map (zat (wL h gB gI ad cy hm ho hs len sc fo T Ro Ev Dr R2 E2 Tp Hi Po M f1 f2 f3 f4 f5 f6 f7 f8 f9 f10 f11 f12 f13 f14 f15 f16 f17)))).Perm (zap (wL h gB gI ad cy hm ho hs len sc (if a = -2 then fo else vp_updL fo 0 a.toInt64) T Ro Ev Dr R2 E2 Tp Hi Po M f1 f2 f3 f4 f5 f6 f7 f8 f9 f10 f11 f12 f13 f14 f15 f16 f17)) := zassoc4 (zseg' (wL h gB gI ad cy hm ho hs len sc (if a = -2 then fo else vp_updL fo 0 a.toInt64) T Ro Ev Dr R2 E2 Tp Hi Po M f1 f2 f3 f4 f5 f6 f7 f8 f9 f10 f11 f12 f13 f14 f15 f16 f17) [0, 4, 3] [1, 2, 5, 6, 7, 8, 9, 10, 11, 12, 13, 14, 15, 16, 17, 18, 19, 20, 21, 22, 23, 24, 25, 26, 27, 28] (n := 29) rfl (by decide))
  have hP := zP_perm hP hp1
  have hD := zD_perm hD hp1
  have hDc := zD_left hD
  have hPc := zP_left hP
  have hFc := zfreeM (X := []) (Y := ((wSR (h 0) (h 3 0) (h 1 0) (h 2 0) (h 7 0) cy T ++ wRows (h 1) cy Ro) ++ wAJ ho cy 1 fo)) (Z := zap ([1, 2, 5, 6, 7, 8, 9, 10, 11, 12, 13, 14, 15, 16, 17, 18, 19, 20, 21, 22, 23, 24, 25, 26, 27, 28].map (zat (wL h gB gI ad cy hm ho hs len sc fo T Ro Ev Dr R2 E2 Tp Hi Po M f1 f2 f3 f4 f5 f6 f7 f8 f9 f10 f11 f12 f13 f14 f15 f16 f17)))) hD hS hA
  refine va_calli (vx_runSW (As := [.ref (h 0 0), .int (sc (i + 1).toNatClampNeg), .ref (ho 0)]) (rest := []) (nL := 7) (Ts := WT) ⟨hx, hb9, hml, hown, hts⟩ (c_L_led l hst D cy (h 0) (h 3) (h 1) (h 2) (h 7) ho T Ro fo (sc (i + 1).toNatClampNeg) a e1 H.size) (vx_cwSW 3 hts gS_L_led rfl rfl rfl hdL_led ⟨(show 7 + 1 ≤ R.frames by omega), (show 8 + (4 + 11) + 122 ≤ R.locals by omega)⟩) ⟨zPx_blind, fun U hU hW => ⟨rfl, ⟨by rw [hU], by rw [hU]; exact hPc, va_K.moved hW.alike hK, hDc.weaken (fun _ _ _ _ => trivial)⟩, hEx.step hS hFc hU hW⟩⟩ rfl rfl hl.1 rfl (lv_room (Nat.le_of_ble_eq_true rfl)) dL_law_1823 hcs) hS (fun q _ h => hFc q h) hFc (fun r0 u t H1 locs1 ht hvm hw hB hz1 hk1 hS => ?_)
  obtain ⟨hB1, hB2, hB3⟩ := hB
  rw [ht] at hB1
  obtain ⟨hP8, hD8⟩ := zjoinR hP hD hk1 hFc hB1 hB3
  have hP := zP_perm hP8 hp2
  have hD := zD_perm hD8 hp2
  clear hP8 hD8 hp1 hp2 hB1 hB3 hFc hPc hDc hk1
  have hfo : ¬ a = -2 → (if a = -2 then fo else vp_updL fo 0 a.toInt64) 0 = a.toInt64 := fun q => by rw [if_neg q]; rfl
  generalize hfo9 : (if a = -2 then fo else vp_updL fo 0 a.toInt64) = fo9 at hP hD hfo
  have hw : r0 = (if a = m2 then nI 1 else nI 0) := hw
  refine lv_istore (lv' := [(5, .int r0), (4, .int i), (3, .ref (ho 0)), (2, .ref (hm 0)), (1, .ref (h 0 0)), (0, .ref (hs 0))]) hx hb9 dL_law_1826 hl (by decide) rfl (fun ls hl => ?_)
  refine lv_aload_n hx hb9 dL_law_1828 rfl (lv_at hl 3 rfl) ?_
  refine z_larg (kc := 1) hx hb9 hX hnA hS (lv_at hl 5 rfl) (lv_at hl 1 rfl) (by decide) y1 dL_law_1829 dL_law_1830 dL_law_1832 dL_law_1833 dL_law_1834 ?_
  refine z_cVip (As := [.int (sc (i + 1).toNatClampNeg)]) (rest := []) C (c_X10_led l D cy hm M f3 f9 (sc (i + 1).toNatClampNeg) _ e2) gV_L_X10_led hdL_X10_led ⟨by omega, by omega⟩ hcs (va_recv hK hP (ci := 6) (q0 := 1) rfl rfl) hP hD hS _ (zseg (wL h gB gI ad cy hm ho hs len sc fo9 T Ro Ev Dr R2 E2 Tp Hi Po M f1 f2 f3 f4 f5 f6 f7 f8 f9 f10 f11 f12 f13 f14 f15 f16 f17) [1, 13, 19] [0, 2, 3, 4, 5, 6, 7, 8, 9, 10, 11, 12, 14, 15, 16, 17, 18, 20, 21, 22, 23, 24, 25, 26, 27, 28] (n := 29) rfl (by decide)) (zseg' (wL h gB gI ad cy hm ho hs len sc fo9 T Ro Ev Dr R2 E2 Tp Hi Po S9 f1 f2 f3 f4 f5 f6 f7 f8 f9 f10 f11 f12 f13 f14 f15 f16 f17) [1, 13, 19] [0, 2, 3, 4, 5, 6, 7, 8, 9, 10, 11, 12, 14, 15, 16, 17, 18, 20, 21, 22, 23, 24, 25, 26, 27, 28] (n := 29) rfl (by decide)) hl.1 (Nat.le_of_ble_eq_true rfl) dL_law_1835 (fun H locs hP hD hS => ?_)
  generalize hv6 : (if a = m2 then nI 0 else a) = v6
  refine lv_istore (lv' := [(6, .int v6), (5, .int r0), (4, .int i), (3, .ref (ho 0)), (2, .ref (hm 0)), (1, .ref (h 0 0)), (0, .ref (hs 0))]) hx hb9 dL_law_1838 hl (by decide) rfl (fun ls hl => ?_)
  refine lv_aload_n hx hb9 dL_law_1840 rfl (lv_at hl 4 rfl) ?_
  refine z_cVip (As := []) (rest := []) C (c_X10_thrown l D cy hm S9 _ rfl) gV_L_X10_thrown hdL_X10_thrown ⟨by omega, by omega⟩ hcs (va_recv hK hP (ci := 6) (q0 := 1) rfl rfl) hP hD hS _ (zseg (wL h gB gI ad cy hm ho hs len sc fo9 T Ro Ev Dr R2 E2 Tp Hi Po S9 f1 f2 f3 f4 f5 f6 f7 f8 f9 f10 f11 f12 f13 f14 f15 f16 f17) [1] [0, 2, 3, 4, 5, 6, 7, 8, 9, 10, 11, 12, 13, 14, 15, 16, 17, 18, 19, 20, 21, 22, 23, 24, 25, 26, 27, 28] (n := 29) rfl (by decide)) (zseg' (wL h gB gI ad cy hm ho hs len sc fo9 T Ro Ev Dr R2 E2 Tp Hi Po S9 f1 f2 f3 f4 f5 f6 f7 f8 f9 f10 f11 f12 f13 f14 f15 f16 f17) [1] [0, 2, 3, 4, 5, 6, 7, 8, 9, 10, 11, 12, 13, 14, 15, 16, 17, 18, 19, 20, 21, 22, 23, 24, 25, 26, 27, 28] (n := 29) rfl (by decide)) hl.1 (Nat.le_of_ble_eq_true rfl) dL_law_1841 (fun H locs hP hD hS => ?_)
  refine lv_iload hx hb9 dL_law_1844 (lv_at hl 1 rfl) ?_
  refine lv_icmp_eq (tgt := 1851) hx hb9 dL_law_1846 rfl (fun _ => ?_) (fun q => absurd (e3.trans hw.symm) q)
  refine lv_iload hx hb9 dL_law_1851 (lv_at hl 1 rfl) ?_
  have fin : W p l e R s m args below meth c H locs (cells + 1) (slots + 6) Q (F0 m 1868 ls []) := by
    refine lv_goto (tgt := 1909) hx hb9 dL_law_1868 rfl ?_
    exact kk H locs fo9 T Ro Ev Dr R2 E2 Tp Hi Po S9 f1 f2 f3 f4 f5 f6 f7 f8 f9 f10 f11 f12 f13 f14 f15 f16 f17 ls hP hD hS hI2 (lv_sub hl [2, 3, 4, 5, 6] rfl)
  refine lv_if_ne (tgt := 1868) hx hb9 dL_law_1853 rfl (fun _ => fin) (fun q => ?_)
  have hne : ¬ a = m2 := fun z => by
    rw [if_pos z] at hw
    rw [hw] at q
    exact absurd q (by decide)
  have e9 : fo9 (0 : Int32).toNatClampNeg = a.toInt64 := hfo hne
  rw [if_neg hne] at hv6
  refine lv_aload_n hx hb9 dL_law_1856 rfl (lv_at hl 3 rfl) ?_
  refine lv_iconst (v := (0 : Int32)) hx hb9 dL_law_1857 (by decide) ?_
  refine va_lald hx hb9 hK hP 2 1 rfl rfl (by unfold vp_in; decide) dL_law_1858 ?_
  refine lv_iload hx hb9 dL_law_1859 (lv_at hl 0 rfl) ?_
  refine lv_i2l (v := a.toInt64) hx hb9 dL_law_1861 (by rw [hv6]) ?_
  rw [e9]
  refine W.lcmp hx hb9 dL_law_1862 ?_
  exact lv_if_eq (tgt := 1868) hx hb9 dL_law_1863 rfl (fun _ => fin) (fun q => absurd (show lg_cmp a.toInt64 a.toInt64 = 0 by simp [lg_cmp]) q)
end
