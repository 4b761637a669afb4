/-! calls with statics by permutation; the law's arguments -/
section
variable {p : Program} {l : Launch} {e : Env} {R : Room} {s : State} {m : MethodId} {args : Array Value} {below : List Frame} {meth : Method} {c : Code} {H : Heap} {locs : List Loc} {cells slots : Nat} {Q : State → Prop} {cc : ByteArray} {pc : Nat} {ls : Array Slot} {rest : List Value} {D : va_G} {tys : zTy} {A : Nat → Prop} {own : String} {ret : Option FieldType} {nL : Nat} {E : zEn}
theorem z_cVisp {y : MethodName} {cy : ByteArray} {nY index fr lo : Nat} {rt : Option FieldType} {CL : String} {b : Nat} {As : List Value} {w wc wc' w2 : va_W} {r : Int32} (C : zX p s m meth c cc nL args own ret A D tys) (hE : zE E A s s.heap) (hc : zCIs l y cy nY rt fr lo D tys E (.ref b :: As) wc wc' r) (cw : GoodIn WT (wsV own index CL y (.code y cy nY rt :: WT))) (hd : y.cls = CL ∧ y.cls ≠ "java/lang/invoke/MethodHandle" ∧ y.cls ≠ "java/lang/invoke/VarHandle" ∧ (parseMethodDescriptor y.desc).map (fun d => d.parameters.length) = some As.length) (hR : fr + 1 ≤ R.frames ∧ 8 + (nY + 11) + lo ≤ R.locals) (hcs : cells ≤ R.cells ∧ slots ≤ R.slots) (hrv : ∃ cell : Cell, H[b]? = some cell ∧ cell.vm.isStatics = false ∧ s.vm.findClass CL = some cell.cls) (hP : va_P D vwCl w H) (hD : va_D A w) (hS : va_S A s.heap H locs) (X : va_W) (hp1 : w.Perm (wc ++ X)) (hp2 : (wc' ++ X).Perm w2) (hls : ls.size = nL) (hroom : (rest.map fun v => v.category).sum ≤ 8) (hdg : decode cc pc = .ok (.invokevirtual index, 3))
    (kk : ∀ (H1 : Heap) (locs1 : List Loc), va_P D vwCl w2 H1 → va_D A w2 → va_S A s.heap H1 locs1 → W p l e R s m args below meth c H1 locs1 cells slots Q (F0 m (pc + 3) ls (.int r :: rest))) : W p l e R s m args below meth c H locs cells slots Q (F0 m pc ls (As.reverse ++ .ref b :: rest)) := by
  obtain ⟨hx, hb, hr, hts, hown, hlocks, hml, hA, hK⟩ := C
  have hP := zP_perm hP hp1
  have hD := zD_perm hD hp1
  have hDc : va_D A wc := zD_left hD
  have hPc : va_P D vwCl wc H := zP_left hP
  have hFc := zfreeM (X := []) hD hS hA
  refine va_calli (va_runV (As := As) (rest := rest) (nL := nL) (Ts := WT) ⟨hx, hb, hml, hown, hts⟩ (hc H.size) (cwV As.length hts cw rfl rfl rfl hd hR) ⟨zPs_blind, hrv, fun U hU hW => ⟨rfl, ⟨by rw [hU], by rw [hU]; exact hPc, va_K.moved hW.alike hK, hDc.weaken (fun _ _ _ _ => trivial)⟩, hE.step hS hFc hU hW⟩⟩ rfl rfl hls rfl (lv_room hroom) hdg hcs) hS (fun q _ h => hFc q h) hFc (fun r0 u t H1 locs1 ht hvm hw hB hz1 hk1 hS => ?_)
  try dsimp only at hw
  subst hw
  obtain ⟨hB1, hB2, hB3⟩ := hB
  rw [ht] at hB1
  obtain ⟨hP8, hD8⟩ := zjoinR hP hD hk1 hFc hB1 hB3
  exact kk H1 locs1 (zP_perm hP8 hp2) (zD_perm hD8 hp2) hS
theorem z_xld {a n : Nat} {f : Nat → Int32} {j : Int32} (hx : p.tables.exec = Jvm.exec) (hb : c.code = cc) (hX : va_X a n f s s.heap) (hnA : ¬ A a) (hS : va_S A s.heap H locs) (hz : zib j n) (d5 : decode cc pc = .ok (.iaload, 1))
    (kk : W p l e R s m args below meth c H locs cells slots Q (F0 m (pc + 1) ls (.int (f j.toNatClampNeg) :: rest))) : W p l e R s m args below meth c H locs cells slots Q (F0 m pc ls (.int j :: .ref a :: rest)) := by
  obtain ⟨scr, h1, h2, h3, h4, h5⟩ := hX
  have hlt : a < s.heap.size := (Array.getElem?_eq_some_iff.mp h1).1
  have hj : j.toNatClampNeg < n := Nat.not_le.mp fun q => hz (Or.inr q)
  exact W.iald (v := .int (f j.toNatClampNeg)) hx hb ((hS.2.1 a hlt hnA).trans h1) h2 h3 (by rw [h4]; exact hz) (h5 _ hj) rfl rfl d5 kk
theorem z_xlen {a n : Nat} {f : Nat → Int32} (hx : p.tables.exec = Jvm.exec) (hb : c.code = cc) (hX : va_X a n f s s.heap) (hnA : ¬ A a) (hS : va_S A s.heap H locs) (d5 : decode cc pc = .ok (.arraylength, 1))
    (kk : W p l e R s m args below meth c H locs cells slots Q (F0 m (pc + 1) ls (.int (nI n) :: rest))) : W p l e R s m args below meth c H locs cells slots Q (F0 m pc ls (.ref a :: rest)) := by
  obtain ⟨scr, h1, h2, h3, h4, h5⟩ := hX
  have hlt : a < s.heap.size := (Array.getElem?_eq_some_iff.mp h1).1
  exact W.alen (n := nI n) hx hb ((hS.2.1 a hlt hnA).trans h1) h2 (by rw [h4]; rfl) rfl rfl d5 kk
theorem z_larg {a n : Nat} {f : Nat → Int32} {i kc : Int32} {kd : Int} (hx : p.tables.exec = Jvm.exec) (hb : c.code = cc) (hX : va_X a n f s s.heap) (hnA : ¬ A a) (hS : va_S A s.heap H locs) (l0 : ls[0]? = some (.val (.ref a))) (l4 : ls[4]? = some (.val (.int i))) (hkd : Int32.ofInt kd = kc) (hz : zib (i + kc) n)
    (d1 : decode cc pc = .ok (.aload_n 0, 1)) (d2 : decode cc (pc + 1) = .ok (.iload 4, 2)) (d3 : decode cc (pc + 3) = .ok (.iconst kd, 1)) (d4 : decode cc (pc + 4) = .ok (.iadd, 1)) (d5 : decode cc (pc + 5) = .ok (.iaload, 1))
    (kk : W p l e R s m args below meth c H locs cells slots Q (F0 m (pc + 6) ls (.int (f (i + kc).toNatClampNeg) :: rest))) : W p l e R s m args below meth c H locs cells slots Q (F0 m pc ls rest) := by
  refine lv_aload_n hx hb d1 rfl l0 ?_
  refine lv_iload hx hb d2 l4 ?_
  refine lv_iconst (v := kc) hx hb d3 hkd ?_
  refine lv_iadd hx hb d4 ?_
  exact z_xld hx hb hX hnA hS hz d5 kk
end
