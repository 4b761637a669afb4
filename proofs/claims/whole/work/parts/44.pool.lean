/-! the pool of the History's Rows -/
section PL
abbrev SPool : Type := (Nat → SRows) × (Nat → SRows)
abbrev zbef (g : Nat → Nat → Nat) (ab n : Nat) (cy : Nat → ClassId) : Nat × va_E := (ab, .inl (cy 3, n, .inr (.inr (.inr (.inr (fun i => some (g i 0)))))))
def wPool (gB gI : Nat → Nat → Nat) (ab ai : Nat) (cy : Nat → ClassId) (S : SPool) : va_W := zbef gB ab 16 cy :: zbef gI ai 3 cy :: ((List.range 16).flatMap (fun j => wRows (gB j) cy (S.1 j)) ++ (List.range 3).flatMap (fun j => wRows (gI j) cy (S.2 j)))
def rPoolB (gB gI : Nat → Nat → Nat) (ab ai : Nat) (cy : Nat → ClassId) (S : SPool) (i : Nat) : va_W := zbef gB ab 16 cy :: zbef gI ai 3 cy :: (((List.range 16).erase i).flatMap (fun j => wRows (gB j) cy (S.1 j)) ++ (List.range 3).flatMap (fun j => wRows (gI j) cy (S.2 j)))
def rPoolI (gB gI : Nat → Nat → Nat) (ab ai : Nat) (cy : Nat → ClassId) (S : SPool) (i : Nat) : va_W := zbef gB ab 16 cy :: zbef gI ai 3 cy :: ((List.range 16).flatMap (fun j => wRows (gB j) cy (S.1 j)) ++ ((List.range 3).erase i).flatMap (fun j => wRows (gI j) cy (S.2 j)))
theorem zfl {l : List Nat} {i : Nat} (f : Nat → va_W) (h : i ∈ l) : (l.flatMap f).Perm (f i ++ (l.erase i).flatMap f) := by
  have h1 : l.Perm (i :: l.erase i) := List.perm_cons_erase h
  have h2 := h1.flatMap_right f
  simpa using h2
theorem zflu {n i : Nat} (f g : Nat → va_W) (h : ∀ j, j ≠ i → f j = g j) : ((List.range n).erase i).flatMap f = ((List.range n).erase i).flatMap g := by
  have hn : ∀ j ∈ (List.range n).erase i, f j = g j := fun j hj => h j (fun e => by
    subst e
    exact (List.Nodup.not_mem_erase List.nodup_range) hj)
  have : ∀ (l : List Nat), (∀ j ∈ l, f j = g j) → l.flatMap f = l.flatMap g := by
    intro l
    induction l with
    | nil => intro _; rfl
    | cons x l ih => intro h; simp only [List.flatMap_cons]; rw [h x List.mem_cons_self, ih (fun j hj => h j (List.mem_cons_of_mem _ hj))]
  exact this _ hn
theorem zppB (gB gI : Nat → Nat → Nat) (ab ai : Nat) (cy : Nat → ClassId) (S : SPool) (i : Nat) (hi : i < 16) : (wPool gB gI ab ai cy S).Perm (wRows (gB i) cy (S.1 i) ++ rPoolB gB gI ab ai cy S i) := by
  have h := zfl (fun j => wRows (gB j) cy (S.1 j)) (List.mem_range.mpr hi)
  unfold wPool rPoolB
  refine ((h.append_right _).cons _ |>.cons _).trans ?_
  rw [List.append_assoc]
  exact zpermM (X := [zbef gB ab 16 cy, zbef gI ai 3 cy]) (Y := wRows (gB i) cy (S.1 i)) (Z := ((List.range 16).erase i).flatMap (fun j => wRows (gB j) cy (S.1 j)) ++ (List.range 3).flatMap (fun j => wRows (gI j) cy (S.2 j)))
theorem zppI (gB gI : Nat → Nat → Nat) (ab ai : Nat) (cy : Nat → ClassId) (S : SPool) (i : Nat) (hi : i < 3) : (wPool gB gI ab ai cy S).Perm (wRows (gI i) cy (S.2 i) ++ rPoolI gB gI ab ai cy S i) := by
  have h := zfl (fun j => wRows (gI j) cy (S.2 j)) (List.mem_range.mpr hi)
  unfold wPool rPoolI
  refine (((h.append_left _).cons _).cons _).trans ?_
  have q := zpermM (X := zbef gB ab 16 cy :: zbef gI ai 3 cy :: (List.range 16).flatMap (fun j => wRows (gB j) cy (S.1 j))) (Y := wRows (gI i) cy (S.2 i)) (Z := ((List.range 3).erase i).flatMap (fun j => wRows (gI j) cy (S.2 j)))
  exact q
theorem zppB' (gB gI : Nat → Nat → Nat) (ab ai : Nat) (cy : Nat → ClassId) (S : SPool) (i : Nat) (hi : i < 16) (x : SRows) : (wPool gB gI ab ai cy (va_up S.1 i x, S.2)).Perm (wRows (gB i) cy x ++ rPoolB gB gI ab ai cy S i) := by
  have h := zppB gB gI ab ai cy (va_up S.1 i x, S.2) i hi
  have e1 : (va_up S.1 i x) i = x := va_up_self _ _ _
  have e2 : rPoolB gB gI ab ai cy (va_up S.1 i x, S.2) i = rPoolB gB gI ab ai cy S i := by
    unfold rPoolB
    rw [zflu (fun j => wRows (gB j) cy ((va_up S.1 i x, S.2).1 j)) (fun j => wRows (gB j) cy (S.1 j)) (fun j hj => by show wRows (gB j) cy (va_up S.1 i x j) = _; rw [va_up_ne _ _ hj])]
  rw [e2] at h
  have h9 : (wPool gB gI ab ai cy (va_up S.1 i x, S.2)).Perm (wRows (gB i) cy (va_up S.1 i x i) ++ rPoolB gB gI ab ai cy S i) := h
  rw [e1] at h9
  exact h9
theorem zppI' (gB gI : Nat → Nat → Nat) (ab ai : Nat) (cy : Nat → ClassId) (S : SPool) (i : Nat) (hi : i < 3) (x : SRows) : (wPool gB gI ab ai cy (S.1, va_up S.2 i x)).Perm (wRows (gI i) cy x ++ rPoolI gB gI ab ai cy S i) := by
  have h := zppI gB gI ab ai cy (S.1, va_up S.2 i x) i hi
  have e1 : (va_up S.2 i x) i = x := va_up_self _ _ _
  have e2 : rPoolI gB gI ab ai cy (S.1, va_up S.2 i x) i = rPoolI gB gI ab ai cy S i := by
    unfold rPoolI
    rw [zflu (fun j => wRows (gI j) cy ((S.1, va_up S.2 i x).2 j)) (fun j => wRows (gI j) cy (S.2 j)) (fun j hj => by show wRows (gI j) cy (va_up S.2 i x j) = _; rw [va_up_ne _ _ hj])]
  rw [e2] at h
  have h9 : (wPool gB gI ab ai cy (S.1, va_up S.2 i x)).Perm (wRows (gI i) cy (va_up S.2 i x i) ++ rPoolI gB gI ab ai cy S i) := h
  rw [e1] at h9
  exact h9
theorem zpk1 {A B P Y Q : va_W} (h : P.Perm (Y ++ Q)) : (A ++ (B ++ P)).Perm ((Y ++ A) ++ (B ++ Q)) := by
  refine ((h.append_left B).append_left A).trans ?_
  refine (zpermM.append_left A).trans ?_
  refine zpermM.trans ?_
  rw [List.append_assoc]
theorem zpk2 {A B P Y Q : va_W} (h : P.Perm (Y ++ Q)) : (A ++ (B ++ P)).Perm ((A ++ Y) ++ (B ++ Q)) := by
  refine ((h.append_left B).append_left A).trans ?_
  refine (zpermM.append_left A).trans ?_
  rw [List.append_assoc]
theorem zP_left {D : va_G} {cl : List vw_C} {Y Z : va_W} {H : Heap} (h : va_P D cl (Y ++ Z) H) : va_P D cl Y H := zP_iff.mpr fun q hq => zP_iff.mp h q (List.mem_append_left _ hq)
theorem zD_left {A : Nat → Prop} {Y Z : va_W} (h : va_D A (Y ++ Z)) : va_D A Y := by
  rw [zD_iff, List.pairwise_append] at h
  exact zD_iff.mpr ⟨h.1.1, fun q hq => h.2 q (List.mem_append_left _ hq)⟩
end PL
section PC
variable {p : Program} {l : Launch} {e : Env} {R : Room} {s : State} {m : MethodId} {args : Array Value} {below : List Frame} {meth : Method} {c : Code} {H : Heap} {locs : List Loc} {cells slots : Nat} {Q : State → Prop} {cc : ByteArray} {pc : Nat} {ls : Array Slot} {rest : List Value} {D : va_G} {tys : zTy} {A : Nat → Prop} {own : String} {ret : Option FieldType} {nL : Nat} {E : zEn}
theorem z_aldq (hx : p.tables.exec = Jvm.exec) (hb : c.code = cc) {ws : va_W} (hK : va_K D vwCl tys s) (hP : va_P D vwCl ws H) (q0 t0 : Nat) {a : Nat} {cA : ClassId} {C : String} {n : Nat} {g : Nat → Nat} (ha : ws[q0]? = some (a, .inl (cA, n, .inr (.inr (.inr (.inr (fun i => some (g i)))))))) (ht : tys[t0]? = some (cA, .object C)) {i : Int32} (hdg : decode cc pc = .ok (.aaload, 1)) {B : Type} {b : Option B} {r : B} {dc : Decidable (zib i n)} (hf : (if zib i n then b else none) = some r)
    (kk : zib i n → b = some r → W p l e R s m args below meth c H locs cells slots Q (F0 m (pc + 1) ls (.ref (g i.toNatClampNeg) :: rest))) : W p l e R s m args below meth c H locs cells slots Q (F0 m pc ls (.int i :: .ref a :: rest)) := va_aldq hx hb hK hP q0 t0 ha ht (zgd hf).1 hdg (kk (zgd hf).1 (zgd hf).2)
theorem z_cVip {y : MethodName} {cy : ByteArray} {nY index fr lo : Nat} {rt : Option FieldType} {CL : String} {b : Nat} {As : List Value} {w wc wc' w2 : va_W} {r : Int32} (C : zX p s m meth c cc nL args own ret A D tys) (hc : zCI l y cy nY rt fr lo D tys (.ref b :: As) wc wc' r) (cw : GoodIn WT (wsV own index CL y (.code y cy nY rt :: WT))) (hd : y.cls = CL ∧ y.cls ≠ "java/lang/invoke/MethodHandle" ∧ y.cls ≠ "java/lang/invoke/VarHandle" ∧ (parseMethodDescriptor y.desc).map (fun d => d.parameters.length) = some As.length) (hR : fr + 1 ≤ R.frames ∧ 8 + (nY + 11) + lo ≤ R.locals) (hcs : cells ≤ R.cells ∧ slots ≤ R.slots) (hrv : ∃ cell : Cell, H[b]? = some cell ∧ cell.vm.isStatics = false ∧ s.vm.findClass CL = some cell.cls) (hP : va_P D vwCl w H) (hD : va_D A w) (hS : va_S A s.heap H locs) (X : va_W) (hp1 : w.Perm (wc ++ X)) (hp2 : (wc' ++ X).Perm w2) (hls : ls.size = nL) (hroom : (rest.map fun v => v.category).sum ≤ 8) (hdg : decode cc pc = .ok (.invokevirtual index, 3))
    (kk : ∀ (H1 : Heap) (locs1 : List Loc), va_P D vwCl w2 H1 → va_D A w2 → va_S A s.heap H1 locs1 → W p l e R s m args below meth c H1 locs1 cells slots Q (F0 m (pc + 3) ls (.int r :: rest))) : W p l e R s m args below meth c H locs cells slots Q (F0 m pc ls (As.reverse ++ .ref b :: rest)) := by
  obtain ⟨hx, hb, hr, hts, hown, hlocks, hml, hA, hK⟩ := C
  have hP := zP_perm hP hp1
  have hD := zD_perm hD hp1
  have hDc : va_D A wc := zD_left hD
  have hPc : va_P D vwCl wc H := zP_left hP
  have hFc := zfreeM (X := []) hD hS hA
  refine va_calli (va_runV (As := As) (rest := rest) (nL := nL) (Ts := WT) ⟨hx, hb, hml, hown, hts⟩ (hc H.size) (cwV As.length hts cw rfl rfl rfl hd hR) ⟨zP_blind, hrv, fun U hU hW => ⟨rfl, by rw [hU], by rw [hU]; exact hPc, va_K.moved hW.alike hK, hDc.weaken (fun _ _ _ _ => trivial)⟩⟩ rfl rfl hls rfl (lv_room hroom) hdg hcs) hS (fun q _ h => hFc q h) hFc (fun r0 u t H1 locs1 ht hvm hw hB hz1 hk1 hS => ?_)
  try dsimp only at hw
  subst hw
  obtain ⟨hB1, hB2, hB3⟩ := hB
  rw [ht] at hB1
  obtain ⟨hP8, hD8⟩ := zjoinR hP hD hk1 hFc hB1 hB3
  exact kk H1 locs1 (zP_perm hP8 hp2) (zD_perm hD8 hp2) hS
theorem z_cVit {y : MethodName} {cy : ByteArray} {nY index fr lo : Nat} {rt : Option FieldType} {CL : String} {b : Nat} {As : List Value} {w wc wc' w2 : va_W} {r : Int32} (C : zX p s m meth c cc nL args own ret A D tys) (hc : zCI l y cy nY rt fr lo D tys (.ref b :: As) wc wc' r) (cw : GoodIn WT (wsV own index CL y (.code y cy nY rt :: WT))) (hd : y.cls = CL ∧ y.cls ≠ "java/lang/invoke/MethodHandle" ∧ y.cls ≠ "java/lang/invoke/VarHandle" ∧ (parseMethodDescriptor y.desc).map (fun d => d.parameters.length) = some As.length) (hR : fr + 1 ≤ R.frames ∧ 8 + (nY + 11) + lo ≤ R.locals) (hcs : cells ≤ R.cells ∧ slots ≤ R.slots) (hrv : ∃ cell : Cell, H[b]? = some cell ∧ cell.vm.isStatics = false ∧ s.vm.findClass CL = some cell.cls) (hP : va_P D vwCl w H) (hD : va_D A w) (hS : va_S A s.heap H locs) (X : va_W) (hw1 : w = X ++ wc) (hw2 : X ++ wc' = w2) (hls : ls.size = nL) (hroom : (rest.map fun v => v.category).sum ≤ 8) (hdg : decode cc pc = .ok (.invokevirtual index, 3))
    (kk : ∀ (H1 : Heap) (locs1 : List Loc), va_P D vwCl w2 H1 → va_D A w2 → va_S A s.heap H1 locs1 → W p l e R s m args below meth c H1 locs1 cells slots Q (F0 m (pc + 3) ls (.int r :: rest))) : W p l e R s m args below meth c H locs cells slots Q (F0 m pc ls (As.reverse ++ .ref b :: rest)) := by
  subst hw1 hw2
  exact z_cVip C hc cw hd hR hcs hrv hP hD hS X List.perm_append_comm List.perm_append_comm hls hroom hdg kk
theorem z_cVvp {y : MethodName} {cy : ByteArray} {nY index fr lo : Nat} {rt : Option FieldType} {CL : String} {b : Nat} {As : List Value} {w wc wc' w2 : va_W}  (C : zX p s m meth c cc nL args own ret A D tys) (hc : zCV l y cy nY rt fr lo D tys (.ref b :: As) wc wc' ) (cw : GoodIn WT (wsV own index CL y (.code y cy nY rt :: WT))) (hd : y.cls = CL ∧ y.cls ≠ "java/lang/invoke/MethodHandle" ∧ y.cls ≠ "java/lang/invoke/VarHandle" ∧ (parseMethodDescriptor y.desc).map (fun d => d.parameters.length) = some As.length) (hR : fr + 1 ≤ R.frames ∧ 8 + (nY + 11) + lo ≤ R.locals) (hcs : cells ≤ R.cells ∧ slots ≤ R.slots) (hrv : ∃ cell : Cell, H[b]? = some cell ∧ cell.vm.isStatics = false ∧ s.vm.findClass CL = some cell.cls) (hP : va_P D vwCl w H) (hD : va_D A w) (hS : va_S A s.heap H locs) (X : va_W) (hp1 : w.Perm (wc ++ X)) (hp2 : (wc' ++ X).Perm w2) (hls : ls.size = nL) (hroom : (rest.map fun v => v.category).sum ≤ 8) (hdg : decode cc pc = .ok (.invokevirtual index, 3))
    (kk : ∀ (H1 : Heap) (locs1 : List Loc), va_P D vwCl w2 H1 → va_D A w2 → va_S A s.heap H1 locs1 → W p l e R s m args below meth c H1 locs1 cells slots Q (F0 m (pc + 3) ls (rest))) : W p l e R s m args below meth c H locs cells slots Q (F0 m pc ls (As.reverse ++ .ref b :: rest)) := by
  obtain ⟨hx, hb, hr, hts, hown, hlocks, hml, hA, hK⟩ := C
  have hP := zP_perm hP hp1
  have hD := zD_perm hD hp1
  have hDc : va_D A wc := zD_left hD
  have hPc : va_P D vwCl wc H := zP_left hP
  have hFc := zfreeM (X := []) hD hS hA
  refine va_callv (va_runV (As := As) (rest := rest) (nL := nL) (Ts := WT) ⟨hx, hb, hml, hown, hts⟩ (hc H.size) (cwV As.length hts cw rfl rfl rfl hd hR) ⟨zP_blind, hrv, fun U hU hW => ⟨rfl, by rw [hU], by rw [hU]; exact hPc, va_K.moved hW.alike hK, hDc.weaken (fun _ _ _ _ => trivial)⟩⟩ rfl rfl hls rfl (lv_room hroom) hdg hcs) hS (fun q _ h => hFc q h) hFc (fun u t H1 locs1 ht hvm hw hB hz1 hk1 hS => ?_)
  
  
  obtain ⟨hB1, hB2, hB3⟩ := hB
  rw [ht] at hB1
  obtain ⟨hP8, hD8⟩ := zjoinR hP hD hk1 hFc hB1 hB3
  exact kk H1 locs1 (zP_perm hP8 hp2) (zD_perm hD8 hp2) hS
theorem z_cVvt {y : MethodName} {cy : ByteArray} {nY index fr lo : Nat} {rt : Option FieldType} {CL : String} {b : Nat} {As : List Value} {w wc wc' w2 : va_W}  (C : zX p s m meth c cc nL args own ret A D tys) (hc : zCV l y cy nY rt fr lo D tys (.ref b :: As) wc wc' ) (cw : GoodIn WT (wsV own index CL y (.code y cy nY rt :: WT))) (hd : y.cls = CL ∧ y.cls ≠ "java/lang/invoke/MethodHandle" ∧ y.cls ≠ "java/lang/invoke/VarHandle" ∧ (parseMethodDescriptor y.desc).map (fun d => d.parameters.length) = some As.length) (hR : fr + 1 ≤ R.frames ∧ 8 + (nY + 11) + lo ≤ R.locals) (hcs : cells ≤ R.cells ∧ slots ≤ R.slots) (hrv : ∃ cell : Cell, H[b]? = some cell ∧ cell.vm.isStatics = false ∧ s.vm.findClass CL = some cell.cls) (hP : va_P D vwCl w H) (hD : va_D A w) (hS : va_S A s.heap H locs) (X : va_W) (hw1 : w = X ++ wc) (hw2 : X ++ wc' = w2) (hls : ls.size = nL) (hroom : (rest.map fun v => v.category).sum ≤ 8) (hdg : decode cc pc = .ok (.invokevirtual index, 3))
    (kk : ∀ (H1 : Heap) (locs1 : List Loc), va_P D vwCl w2 H1 → va_D A w2 → va_S A s.heap H1 locs1 → W p l e R s m args below meth c H1 locs1 cells slots Q (F0 m (pc + 3) ls (rest))) : W p l e R s m args below meth c H locs cells slots Q (F0 m pc ls (As.reverse ++ .ref b :: rest)) := by
  subst hw1 hw2
  exact z_cVvp C hc cw hd hR hcs hrv hP hD hS X List.perm_append_comm List.perm_append_comm hls hroom hdg kk
theorem z_cVlp {y : MethodName} {cy : ByteArray} {nY index fr lo : Nat} {rt : Option FieldType} {CL : String} {b : Nat} {As : List Value} {w wc wc' w2 : va_W} {r : Int64} (C : zX p s m meth c cc nL args own ret A D tys) (hc : zCL l y cy nY rt fr lo D tys (.ref b :: As) wc wc' r) (cw : GoodIn WT (wsV own index CL y (.code y cy nY rt :: WT))) (hd : y.cls = CL ∧ y.cls ≠ "java/lang/invoke/MethodHandle" ∧ y.cls ≠ "java/lang/invoke/VarHandle" ∧ (parseMethodDescriptor y.desc).map (fun d => d.parameters.length) = some As.length) (hR : fr + 1 ≤ R.frames ∧ 8 + (nY + 11) + lo ≤ R.locals) (hcs : cells ≤ R.cells ∧ slots ≤ R.slots) (hrv : ∃ cell : Cell, H[b]? = some cell ∧ cell.vm.isStatics = false ∧ s.vm.findClass CL = some cell.cls) (hP : va_P D vwCl w H) (hD : va_D A w) (hS : va_S A s.heap H locs) (X : va_W) (hp1 : w.Perm (wc ++ X)) (hp2 : (wc' ++ X).Perm w2) (hls : ls.size = nL) (hroom : (rest.map fun v => v.category).sum ≤ 8) (hdg : decode cc pc = .ok (.invokevirtual index, 3))
    (kk : ∀ (H1 : Heap) (locs1 : List Loc), va_P D vwCl w2 H1 → va_D A w2 → va_S A s.heap H1 locs1 → W p l e R s m args below meth c H1 locs1 cells slots Q (F0 m (pc + 3) ls (.long r :: rest))) : W p l e R s m args below meth c H locs cells slots Q (F0 m pc ls (As.reverse ++ .ref b :: rest)) := by
  obtain ⟨hx, hb, hr, hts, hown, hlocks, hml, hA, hK⟩ := C
  have hP := zP_perm hP hp1
  have hD := zD_perm hD hp1
  have hDc : va_D A wc := zD_left hD
  have hPc : va_P D vwCl wc H := zP_left hP
  have hFc := zfreeM (X := []) hD hS hA
  refine va_calll (va_runV (As := As) (rest := rest) (nL := nL) (Ts := WT) ⟨hx, hb, hml, hown, hts⟩ (hc H.size) (cwV As.length hts cw rfl rfl rfl hd hR) ⟨zP_blind, hrv, fun U hU hW => ⟨rfl, by rw [hU], by rw [hU]; exact hPc, va_K.moved hW.alike hK, hDc.weaken (fun _ _ _ _ => trivial)⟩⟩ rfl rfl hls rfl (lv_room hroom) hdg hcs) hS (fun q _ h => hFc q h) hFc (fun r0 u t H1 locs1 ht hvm hw hB hz1 hk1 hS => ?_)
  try dsimp only at hw
  subst hw
  obtain ⟨hB1, hB2, hB3⟩ := hB
  rw [ht] at hB1
  obtain ⟨hP8, hD8⟩ := zjoinR hP hD hk1 hFc hB1 hB3
  exact kk H1 locs1 (zP_perm hP8 hp2) (zD_perm hD8 hp2) hS
theorem z_cVlt {y : MethodName} {cy : ByteArray} {nY index fr lo : Nat} {rt : Option FieldType} {CL : String} {b : Nat} {As : List Value} {w wc wc' w2 : va_W} {r : Int64} (C : zX p s m meth c cc nL args own ret A D tys) (hc : zCL l y cy nY rt fr lo D tys (.ref b :: As) wc wc' r) (cw : GoodIn WT (wsV own index CL y (.code y cy nY rt :: WT))) (hd : y.cls = CL ∧ y.cls ≠ "java/lang/invoke/MethodHandle" ∧ y.cls ≠ "java/lang/invoke/VarHandle" ∧ (parseMethodDescriptor y.desc).map (fun d => d.parameters.length) = some As.length) (hR : fr + 1 ≤ R.frames ∧ 8 + (nY + 11) + lo ≤ R.locals) (hcs : cells ≤ R.cells ∧ slots ≤ R.slots) (hrv : ∃ cell : Cell, H[b]? = some cell ∧ cell.vm.isStatics = false ∧ s.vm.findClass CL = some cell.cls) (hP : va_P D vwCl w H) (hD : va_D A w) (hS : va_S A s.heap H locs) (X : va_W) (hw1 : w = X ++ wc) (hw2 : X ++ wc' = w2) (hls : ls.size = nL) (hroom : (rest.map fun v => v.category).sum ≤ 8) (hdg : decode cc pc = .ok (.invokevirtual index, 3))
    (kk : ∀ (H1 : Heap) (locs1 : List Loc), va_P D vwCl w2 H1 → va_D A w2 → va_S A s.heap H1 locs1 → W p l e R s m args below meth c H1 locs1 cells slots Q (F0 m (pc + 3) ls (.long r :: rest))) : W p l e R s m args below meth c H locs cells slots Q (F0 m pc ls (As.reverse ++ .ref b :: rest)) := by
  subst hw1 hw2
  exact z_cVlp C hc cw hd hR hcs hrv hP hD hS X List.perm_append_comm List.perm_append_comm hls hroom hdg kk
end PC
