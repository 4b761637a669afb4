/-! constructors -/
section NW
/-- links of private constructors, and arrays over Rows -/
def zNx (U : State) : Prop := va_Nw (Cond.methodLinkNest "StampedRows" 9 ⟨"StampedRows$Reader", "<init>", "()V"⟩ "StampedRows") U ∧ va_Nw (Cond.methodLinkNest "StampedRows$Reader" 20 ⟨"StampedRows$Evidence", "<init>", "()V"⟩ "StampedRows") U ∧ va_Nw (Cond.methodLinkNest "StampedRows$Reader" 27 ⟨"StampedRows$Tape", "<init>", "()V"⟩ "StampedRows") U ∧ va_Nw (Cond.methodLinkNest "StampedRows" 25 ⟨"StampedRows$Evidence", "<init>", "()V"⟩ "StampedRows") U ∧ va_AO "StampedRows$Rows" U
theorem zNx.warm {s U : State} (hW : s.WarmedH U.vm) (h : zNx s) : zNx U := by
  obtain ⟨h0, h1, h2, h3, h4⟩ := h
  exact ⟨va_Nw.warmM hW h0, va_Nw.warmM hW h1, va_Nw.warmM hW h2, va_Nw.warmM hW h3, va_AO.moved hW.alike h4⟩
theorem zNx.calling {U : State} {g : JFrame} {mk : MethodId} {a : Array Value} (h : zNx U) : zNx (U.calling g mk a) := by
  obtain ⟨h0, h1, h2, h3, h4⟩ := h
  exact ⟨va_Nw.same rfl rfl h0, va_Nw.same rfl rfl h1, va_Nw.same rfl rfl h2, va_Nw.same rfl rfl h3, va_AO.moved (Vm.Alike.refl U.vm) h4⟩
def zPn (D : va_G) (tys : zTy) (w : va_W) (sz : Nat) (U : State) : Prop := zP D tys w sz U ∧ zNx U
theorem zPn_blind {D : va_G} {tys : zTy} {w : va_W} {sz : Nat} {av : List Value} : FrameBlind (va_Pc av (zPn D tys w sz)) := fun a U g mk q => by
  obtain ⟨q0, ⟨q1, qP, qK, qD⟩, qE⟩ := q
  exact ⟨q0, ⟨q1, qP, va_K.moved (u := U) (U := U.calling g mk a) (Vm.Alike.refl U.vm) qK, qD⟩, qE.calling⟩
abbrev zRn (fr lo mc ms : Nat) : Room := { frames := fr, cells := mc, slots := ms, locals := lo }
abbrev zQN (B : (Nat → Prop) → State → Prop) (A : Nat → Prop) : Array Value → State → Outcome → State → Prop := va_Qv (fun (_ : Unit) => True) (fun _ t => B A t) A
/-- a constructor's contract: from the new object alone; mc cells of ms slots come; B holds behind it -/
def zCN (l : Launch) (y : MethodName) (cY : ByteArray) (nY fr lo mc ms : Nat) (D : va_G) (tys : zTy) (b : Nat) (w : va_W) (B : (Nat → Prop) → State → Prop) : Prop := ∀ sz : Nat, Met l y (.code y cY nY none :: WT) (zRn fr lo mc ms) (va_Pc [.ref b] (zPn D tys w sz)) (zQN B (va_A w sz)) mc ms (va_A w sz)
theorem zCN_of {l : Launch} {y : MethodName} {cY : ByteArray} {nY fr lo mc ms : Nat} {D : va_G} {tys : zTy} {b : Nat} {w : va_W} {B : (Nat → Prop) → State → Prop} (hy : plainName y.cls = true) (hm : 1 ≤ nY) (hn : y.name = "<init>")
    (body : ∀ (p : Program) (e : Env) (s : State) (m : MethodId) (below : List Frame) (meth : Method) (c : Code) (A : Nat → Prop) (ls : Array Slot), zX p s m meth c cY nY #[.ref b] y.cls none A D tys → zNx s → meth.name = "<init>" → va_P D vwCl w s.heap → va_D A w → va_S A s.heap s.heap [] → lv_has ls nY [(0, .ref b)] → W p l e (zRn fr lo mc ms) s m #[.ref b] below meth c s.heap [] 0 0 (MQ below (zQN B A) #[.ref b] s mc ms A) (F0 m 0 ls [])) : zCN l y cY nY fr lo mc ms D tys b w B := by
  intro sz
  refine Met.ofW (cc := cY) (maxL := nY) (ret := none) hy rfl ?_
  intro p e s m args below meth c s₁ B0 hml hv
  obtain ⟨rfl, ⟨hsz, hP, hK, hD0⟩, hN⟩ := hv
  have hts := atoms_spec (ws := .code y cY nY none :: WT) B0.pre
  subst hsz
  rw [lg_entry_eq]
  exact body p e s m below meth c (va_A w s.heap.size) _ ⟨B0.exec, B0.bytes, B0.returns, fun q h => hts q (List.mem_cons_of_mem _ h), findClass_of_methodNamed B0.named, B0.notSynchronized, hml, fun q h => Or.inr h, hK⟩ hN ((name_of_methodNamed B0.named B0.method).1.trans hn) hP hD0.self va_S.rf (lv_entry [.ref b] hm)
theorem zcb {t : FieldType} {n : Nat} (h : n ≤ 5200) (h2 : componentBytes t ≤ 8) : n * componentBytes t ≤ 536870912 := by
  have h9 := Nat.mul_le_mul h h2
  omega
theorem gzI {y : MethodName} {n : Nat} {b : ByteArray} (h5 : Cond.code y b n none ∈ WT) : GoodIn WT (.code y b n none :: WT) := by
  intro w hw
  rcases List.mem_cons.mp hw with rfl | h
  · exact wt_good _ h5
  · exact wt_good _ h
end NW
section NC
variable {p : Program} {l : Launch} {e : Env} {R : Room} {s : State} {m : MethodId} {args : Array Value} {below : List Frame} {meth : Method} {c : Code} {H : Heap} {locs : List Loc} {cells slots : Nat} {Q : State → Prop} {cc : ByteArray} {pc : Nat} {ls : Array Slot} {rest : List Value} {D : va_G} {cy : Nat → ClassId} {A : Nat → Prop} {own : String} {ret : Option FieldType} {nL : Nat}
/-- a new array of a primitive type -/
theorem z_new_int (C : zX p s m meth c cc nL args own ret A D (zty cy)) {ws : va_W} (hP : va_P D vwCl ws H) (hD : va_D A ws) (hS : va_S A s.heap H locs) {n : Int32} {N' : Nat} (hn : ¬ n < 0) (hN : n.toNatClampNeg = N') (hby : N' ≤ 5200) (hcells : cells + 1 ≤ R.cells) (hslots : slots + N' ≤ R.slots) (hdg : decode cc pc = .ok (.newarray .int, 2)) (hw : Cond.arrayClass .int ∈ WT)
    (kk : ∀ (q : Nat) (H1 : Heap), va_P D vwCl (ws ++ [(q, .inl (cy 0, N', .inl (fun _ => 0)))]) H1 → va_D A (ws ++ [(q, .inl (cy 0, N', .inl (fun _ => 0)))]) → va_S A s.heap H1 locs → W p l e R s m args below meth c H1 locs (cells + 1) (slots + N') Q (F0 m (pc + 2) ls (.ref q :: rest))) : W p l e R s m args below meth c H locs cells slots Q (F0 m pc ls (.int n :: rest)) := by
  obtain ⟨hx, hb, hr, hts, hown, hlocks, hml, hA, hK⟩ := C
  refine va_newa (atype := .int) (ty := .int) (a0 := (N', .inl (fun _ => 0))) hx hb (hts _ hw) rfl hK hP hD hS hA (fun cA => rfl) hn hN (zcb (t := .int) hby (by decide +kernel)) hcells hslots hdg (fun q cA H1 hK1 hP hD hS => ?_)
  have e1 : s.vm.findClass ("[" ++ (FieldType.int).toString) = some cA := (hK1.2 4 (cA, .int) rfl).2
  have e2 : s.vm.findClass ("[" ++ (FieldType.int).toString) = some (cy 0) := (hK.2 0 (cy 0, .int) rfl).2
  have e3 : cA = cy 0 := Option.some.inj (e1.symm.trans e2)
  subst e3
  exact kk q H1 hP hD hS
theorem z_new_long (C : zX p s m meth c cc nL args own ret A D (zty cy)) {ws : va_W} (hP : va_P D vwCl ws H) (hD : va_D A ws) (hS : va_S A s.heap H locs) {n : Int32} {N' : Nat} (hn : ¬ n < 0) (hN : n.toNatClampNeg = N') (hby : N' ≤ 5200) (hcells : cells + 1 ≤ R.cells) (hslots : slots + N' ≤ R.slots) (hdg : decode cc pc = .ok (.newarray .long, 2)) (hw : Cond.arrayClass .long ∈ WT)
    (kk : ∀ (q : Nat) (H1 : Heap), va_P D vwCl (ws ++ [(q, .inl (cy 1, N', .inr (.inl (fun _ => 0))))]) H1 → va_D A (ws ++ [(q, .inl (cy 1, N', .inr (.inl (fun _ => 0))))]) → va_S A s.heap H1 locs → W p l e R s m args below meth c H1 locs (cells + 1) (slots + N') Q (F0 m (pc + 2) ls (.ref q :: rest))) : W p l e R s m args below meth c H locs cells slots Q (F0 m pc ls (.int n :: rest)) := by
  obtain ⟨hx, hb, hr, hts, hown, hlocks, hml, hA, hK⟩ := C
  refine va_newa (atype := .long) (ty := .long) (a0 := (N', .inr (.inl (fun _ => 0)))) hx hb (hts _ hw) rfl hK hP hD hS hA (fun cA => rfl) hn hN (zcb (t := .long) hby (by decide +kernel)) hcells hslots hdg (fun q cA H1 hK1 hP hD hS => ?_)
  have e1 : s.vm.findClass ("[" ++ (FieldType.long).toString) = some cA := (hK1.2 4 (cA, .long) rfl).2
  have e2 : s.vm.findClass ("[" ++ (FieldType.long).toString) = some (cy 1) := (hK.2 1 (cy 1, .long) rfl).2
  have e3 : cA = cy 1 := Option.some.inj (e1.symm.trans e2)
  subst e3
  exact kk q H1 hP hD hS
theorem z_new_byte (C : zX p s m meth c cc nL args own ret A D (zty cy)) {ws : va_W} (hP : va_P D vwCl ws H) (hD : va_D A ws) (hS : va_S A s.heap H locs) {n : Int32} {N' : Nat} (hn : ¬ n < 0) (hN : n.toNatClampNeg = N') (hby : N' ≤ 5200) (hcells : cells + 1 ≤ R.cells) (hslots : slots + N' ≤ R.slots) (hdg : decode cc pc = .ok (.newarray .byte, 2)) (hw : Cond.arrayClass .byte ∈ WT)
    (kk : ∀ (q : Nat) (H1 : Heap), va_P D vwCl (ws ++ [(q, .inl (cy 2, N', .inl (fun _ => 0)))]) H1 → va_D A (ws ++ [(q, .inl (cy 2, N', .inl (fun _ => 0)))]) → va_S A s.heap H1 locs → W p l e R s m args below meth c H1 locs (cells + 1) (slots + N') Q (F0 m (pc + 2) ls (.ref q :: rest))) : W p l e R s m args below meth c H locs cells slots Q (F0 m pc ls (.int n :: rest)) := by
  obtain ⟨hx, hb, hr, hts, hown, hlocks, hml, hA, hK⟩ := C
  refine va_newa (atype := .byte) (ty := .byte) (a0 := (N', .inl (fun _ => 0))) hx hb (hts _ hw) rfl hK hP hD hS hA (fun cA => rfl) hn hN (zcb (t := .byte) hby (by decide +kernel)) hcells hslots hdg (fun q cA H1 hK1 hP hD hS => ?_)
  have e1 : s.vm.findClass ("[" ++ (FieldType.byte).toString) = some cA := (hK1.2 4 (cA, .byte) rfl).2
  have e2 : s.vm.findClass ("[" ++ (FieldType.byte).toString) = some (cy 2) := (hK.2 2 (cy 2, .byte) rfl).2
  have e3 : cA = cy 2 := Option.some.inj (e1.symm.trans e2)
  subst e3
  exact kk q H1 hP hD hS
theorem z_new_rows (C : zX p s m meth c cc nL args own ret A D (zty cy)) (hN0 : zNx s) {ws : va_W} (hP : va_P D vwCl ws H) (hD : va_D A ws) (hS : va_S A s.heap H locs) {index : Nat} {n : Int32} {N' : Nat} (hn : ¬ n < 0) (hN : n.toNatClampNeg = N') (hby : N' ≤ 5200) (hcells : cells + 1 ≤ R.cells) (hslots : slots + N' ≤ R.slots) (hdg : decode cc pc = .ok (.anewarray index, 3)) (hw : Cond.classLink own index "StampedRows$Rows" ∈ WT)
    (kk : ∀ (q : Nat) (H1 : Heap), va_P D vwCl (ws ++ [(q, .inl (cy 3, N', .inr (.inr (.inr (.inr (fun _ => none))))))]) H1 → va_D A (ws ++ [(q, .inl (cy 3, N', .inr (.inr (.inr (.inr (fun _ => none))))))]) → va_S A s.heap H1 locs → W p l e R s m args below meth c H1 locs (cells + 1) (slots + N') Q (F0 m (pc + 3) ls (.ref q :: rest))) : W p l e R s m args below meth c H locs cells slots Q (F0 m pc ls (.int n :: rest)) := by
  obtain ⟨hx, hb, hr, hts, hown, hlocks, hml, hA, hK⟩ := C
  refine va_newq (C := "StampedRows$Rows") hx hb hown (hts _ hw) hN0.2.2.2.2 hK hP hD hS hA hn hN (by omega) hcells hslots hdg (fun q cA H1 hK1 hP hD hS => ?_)
  obtain ⟨kA, comp, -, -, -, e1⟩ : ∃ (kA : Class) (comp : ClassId), s.vm.classes[cA]? = some kA ∧ kA.kind = .array comp (.object "StampedRows$Rows") ∧ s.vm.findClass "StampedRows$Rows" = some comp ∧ s.vm.findClass ("[" ++ (FieldType.object "StampedRows$Rows").toString) = some cA := (hK1.2 4 (cA, .object "StampedRows$Rows") rfl).2
  obtain ⟨kA2, comp2, -, -, -, e2⟩ : ∃ (kA : Class) (comp : ClassId), s.vm.classes[cy 3]? = some kA ∧ kA.kind = .array comp (.object "StampedRows$Rows") ∧ s.vm.findClass "StampedRows$Rows" = some comp ∧ s.vm.findClass ("[" ++ (FieldType.object "StampedRows$Rows").toString) = some (cy 3) := (hK.2 3 (cy 3, .object "StampedRows$Rows") rfl).2
  have e3 : cA = cy 3 := Option.some.inj (e1.symm.trans e2)
  subst e3
  exact kk q H1 hP hD hS
/-- a constructor's call on the world's last cell -/
theorem z_cI {y : MethodName} {cY : ByteArray} {nY index fr lo mc ms b : Nat} {x : va_E} {w : va_W} {B : (Nat → Prop) → State → Prop} (C : zX p s m meth c cc nL args own ret A D (zty cy)) (hN0 : zNx s) (hc : zCN l y cY nY fr lo mc ms D (zty cy) b [(b, x)] B)
    (hcw : (CallB R s args own index y cY nY none (.code y cY nY none :: WT) (zRn fr lo mc ms) mc ms 0 ∧ y.name = "<init>" ∧ (Cond.instanceMethod y).before args s = true) ∨ ∃ host, va_CN R s args own index y host cY nY none (.code y cY nY none :: WT) (zRn fr lo mc ms) mc ms 0 ∧ y.name = "<init>" ∧ (Cond.instanceMethod y).before args s = true)
    (hcs : cells + mc ≤ R.cells ∧ slots + ms ≤ R.slots) (X : va_W) (hw1 : w = X ++ [(b, x)]) (hP : va_P D vwCl w H) (hD : va_D A w) (hS : va_S A s.heap H locs) (hls : ls.size = nL) (hroom : (rest.map fun v => v.category).sum ≤ 8) (hdg : decode cc pc = .ok (.invokespecial index, 3))
    (kk : ∀ (H1 : Heap) (locs1 : List Loc) (t : State), t.heap = H1 → B (va_A [(b, x)] H.size) t → (∀ wc : va_W, va_P D vwCl wc H1 → va_D (va_A [(b, x)] H.size) wc → va_P D vwCl (X ++ wc) H1 ∧ va_D A (X ++ wc)) → va_S A s.heap H1 locs1 → W p l e R s m args below meth c H1 locs1 (cells + mc) (slots + ms) Q (F0 m (pc + 3) ls rest)) : W p l e R s m args below meth c H locs cells slots Q (F0 m pc ls (.ref b :: rest)) := by
  obtain ⟨hx, hb, hr, hts, hown, hlocks, hml, hA, hK⟩ := C
  subst hw1
  have hP2 := zP_perm hP (List.perm_append_comm (l₁ := X))
  have hD2 := zD_perm hD (List.perm_append_comm (l₁ := X))
  have hDc := zD_left hD2
  have hPc := zP_left hP2
  have hFc := zfreeM (X := []) (Y := [(b, x)]) (Z := X) hD2 hS hA
  have hp : PreS s H (va_Pc [.ref b] (zPn D (zty cy) [(b, x)] H.size)) [.ref b] := ⟨zPn_blind, fun U hU hW => ⟨rfl, ⟨by rw [hU], by rw [hU]; exact hPc, va_K.moved hW.alike hK, hDc.weaken (fun _ _ _ _ => trivial)⟩, hN0.warm hW⟩⟩
  have hrun : va_Run p l e R s m args below meth c H locs cells slots mc ms (F0 m pc ls (.ref b :: rest)) rest (zQN B (va_A [(b, x)] H.size) (Value.ref b :: ([] : List Value)).toArray) (va_A [(b, x)] H.size) := by
    rcases hcw with hcw | ⟨host, hcw⟩
    · exact va_runI (As := []) (rest := rest) (nL := nL) (Ts := WT) ⟨hx, hb, hml, hown, hts⟩ (hc H.size) hcw hp rfl rfl hls rfl (lv_room hroom) hdg hcs
    · exact va_runIN (As := []) (rest := rest) (nL := nL) (Ts := WT) ⟨hx, hb, hml, hown, hts⟩ (hc H.size) hcw hp rfl rfl hls rfl (lv_room hroom) hdg hcs
  refine va_callv hrun hS (fun q _ h => hFc q h) hFc (fun u t H1 locs1 ht hvm hw hB hz1 hk1 hS => ?_)
  refine kk H1 locs1 t ht hB (fun wc h1 h2 => ?_) hS
  obtain ⟨h3, h4⟩ := zjoinR hP2 hD2 hk1 hFc h1 h2
  exact ⟨zP_perm h3 List.perm_append_comm, zD_perm h4 List.perm_append_comm⟩
theorem z_cwI {y : MethodName} {cY : ByteArray} {nY index fr lo mc ms : Nat} (C : zX p s m meth c cc nL args own ret A D (zty cy)) (h5 : Cond.code y cY nY none ∈ WT) (hini : Cond.initialized y.cls ∈ WT) (hl : Cond.methodLink own index y ∈ WT) (hin : Cond.instanceMethod y ∈ WT) (hy1 : y.name = "<init>") (hd : y.cls ≠ "java/lang/invoke/MethodHandle" ∧ y.cls ≠ "java/lang/invoke/VarHandle" ∧ (parseMethodDescriptor y.desc).map (fun d => d.parameters.length) = some 0) (hR : fr + 1 ≤ R.frames ∧ 8 + (nY + 11) + lo ≤ R.locals) :
    (CallB R s args own index y cY nY none (.code y cY nY none :: WT) (zRn fr lo mc ms) mc ms 0 ∧ y.name = "<init>" ∧ (Cond.instanceMethod y).before args s = true) ∨ ∃ host, va_CN R s args own index y host cY nY none (.code y cY nY none :: WT) (zRn fr lo mc ms) mc ms 0 ∧ y.name = "<init>" ∧ (Cond.instanceMethod y).before args s = true :=
  Or.inl (cwI 0 C.2.2.2.1 (gzI h5) rfl rfl rfl (C.2.2.2.1 _ hini) (C.2.2.2.1 _ hl) (C.2.2.2.1 _ hin) hy1 hd hR)
theorem z_cwN {y : MethodName} {host : String} {cY : ByteArray} {nY index fr lo mc ms : Nat} (C : zX p s m meth c cc nL args own ret A D (zty cy)) (h5 : Cond.code y cY nY none ∈ WT) (hini : Cond.initialized y.cls ∈ WT) (hl : va_Nw (.methodLinkNest own index y host) s) (hin : Cond.instanceMethod y ∈ WT) (hy1 : y.name = "<init>") (hd : y.cls ≠ "java/lang/invoke/MethodHandle" ∧ y.cls ≠ "java/lang/invoke/VarHandle" ∧ (parseMethodDescriptor y.desc).map (fun d => d.parameters.length) = some 0) (hR : fr + 1 ≤ R.frames ∧ 8 + (nY + 11) + lo ≤ R.locals) :
    (CallB R s args own index y cY nY none (.code y cY nY none :: WT) (zRn fr lo mc ms) mc ms 0 ∧ y.name = "<init>" ∧ (Cond.instanceMethod y).before args s = true) ∨ ∃ host, va_CN R s args own index y host cY nY none (.code y cY nY none :: WT) (zRn fr lo mc ms) mc ms 0 ∧ y.name = "<init>" ∧ (Cond.instanceMethod y).before args s = true :=
  Or.inr ⟨host, va_cnB 0 C.2.2.2.1 (gzI h5) rfl rfl rfl hl (C.2.2.2.1 _ hini) hd hR, hy1, C.2.2.2.1 _ hin⟩
theorem z_nret {B : (Nat → Prop) → State → Prop} {mc ms : Nat} (C : zX p s m meth c cc nL args own none A D (zty cy)) (hc : cells ≤ mc) (hs : slots ≤ ms) (hB : ∀ t : State, t.heap = H → va_K D vwCl (zty cy) t → B A t) (hS : va_S A s.heap H locs) (hdg : decode cc pc = .ok (.return_, 1)) : W p l e R s m args below meth c H locs cells slots (MQ below (zQN B A) args s mc ms A) (F0 m pc ls []) := by
  obtain ⟨hx, hb, hr, hts, hown, hlocks, hml, hA, hK⟩ := C
  refine W.widen (k := mc) (n := ms) hc hs ?_
  exact W.vret hx hb hr (fun t ht hW => ⟨⟨(), rfl, trivial, hB t ht (va_K.moved hW.alike hK)⟩, hS.F ht⟩) hS.2.2 hdg
end NC
