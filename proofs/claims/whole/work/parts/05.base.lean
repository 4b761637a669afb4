/-! the walk's own rows: a method computes a function (in Option: none = not shown), contracts over worlds -/
section ZA
def zl1 {A1 B : Type} (f : (A1 → Option B) → A1 → Option B) : Nat → A1 → Option B
  | 0 => fun _ => none
  | n + 1 => f (zl1 f n)
theorem zl1_s {A1 B : Type} (f : (A1 → Option B) → A1 → Option B) (n : Nat) (a1 : A1) : zl1 f (n + 1) a1 = f (zl1 f n) a1 := rfl
def zl2 {A1 A2 B : Type} (f : (A1 → A2 → Option B) → A1 → A2 → Option B) : Nat → A1 → A2 → Option B
  | 0 => fun _ _ => none
  | n + 1 => f (zl2 f n)
theorem zl2_s {A1 A2 B : Type} (f : (A1 → A2 → Option B) → A1 → A2 → Option B) (n : Nat) (a1 : A1) (a2 : A2) : zl2 f (n + 1) a1 a2 = f (zl2 f n) a1 a2 := rfl
def zl3 {A1 A2 A3 B : Type} (f : (A1 → A2 → A3 → Option B) → A1 → A2 → A3 → Option B) : Nat → A1 → A2 → A3 → Option B
  | 0 => fun _ _ _ => none
  | n + 1 => f (zl3 f n)
theorem zl3_s {A1 A2 A3 B : Type} (f : (A1 → A2 → A3 → Option B) → A1 → A2 → A3 → Option B) (n : Nat) (a1 : A1) (a2 : A2) (a3 : A3) : zl3 f (n + 1) a1 a2 a3 = f (zl3 f n) a1 a2 a3 := rfl
def zl4 {A1 A2 A3 A4 B : Type} (f : (A1 → A2 → A3 → A4 → Option B) → A1 → A2 → A3 → A4 → Option B) : Nat → A1 → A2 → A3 → A4 → Option B
  | 0 => fun _ _ _ _ => none
  | n + 1 => f (zl4 f n)
theorem zl4_s {A1 A2 A3 A4 B : Type} (f : (A1 → A2 → A3 → A4 → Option B) → A1 → A2 → A3 → A4 → Option B) (n : Nat) (a1 : A1) (a2 : A2) (a3 : A3) (a4 : A4) : zl4 f (n + 1) a1 a2 a3 a4 = f (zl4 f n) a1 a2 a3 a4 := rfl
def zl5 {A1 A2 A3 A4 A5 B : Type} (f : (A1 → A2 → A3 → A4 → A5 → Option B) → A1 → A2 → A3 → A4 → A5 → Option B) : Nat → A1 → A2 → A3 → A4 → A5 → Option B
  | 0 => fun _ _ _ _ _ => none
  | n + 1 => f (zl5 f n)
theorem zl5_s {A1 A2 A3 A4 A5 B : Type} (f : (A1 → A2 → A3 → A4 → A5 → Option B) → A1 → A2 → A3 → A4 → A5 → Option B) (n : Nat) (a1 : A1) (a2 : A2) (a3 : A3) (a4 : A4) (a5 : A5) : zl5 f (n + 1) a1 a2 a3 a4 a5 = f (zl5 f n) a1 a2 a3 a4 a5 := rfl
def zl6 {A1 A2 A3 A4 A5 A6 B : Type} (f : (A1 → A2 → A3 → A4 → A5 → A6 → Option B) → A1 → A2 → A3 → A4 → A5 → A6 → Option B) : Nat → A1 → A2 → A3 → A4 → A5 → A6 → Option B
  | 0 => fun _ _ _ _ _ _ => none
  | n + 1 => f (zl6 f n)
theorem zl6_s {A1 A2 A3 A4 A5 A6 B : Type} (f : (A1 → A2 → A3 → A4 → A5 → A6 → Option B) → A1 → A2 → A3 → A4 → A5 → A6 → Option B) (n : Nat) (a1 : A1) (a2 : A2) (a3 : A3) (a4 : A4) (a5 : A5) (a6 : A6) : zl6 f (n + 1) a1 a2 a3 a4 a5 a6 = f (zl6 f n) a1 a2 a3 a4 a5 a6 := rfl
def zl7 {A1 A2 A3 A4 A5 A6 A7 B : Type} (f : (A1 → A2 → A3 → A4 → A5 → A6 → A7 → Option B) → A1 → A2 → A3 → A4 → A5 → A6 → A7 → Option B) : Nat → A1 → A2 → A3 → A4 → A5 → A6 → A7 → Option B
  | 0 => fun _ _ _ _ _ _ _ => none
  | n + 1 => f (zl7 f n)
theorem zl7_s {A1 A2 A3 A4 A5 A6 A7 B : Type} (f : (A1 → A2 → A3 → A4 → A5 → A6 → A7 → Option B) → A1 → A2 → A3 → A4 → A5 → A6 → A7 → Option B) (n : Nat) (a1 : A1) (a2 : A2) (a3 : A3) (a4 : A4) (a5 : A5) (a6 : A6) (a7 : A7) : zl7 f (n + 1) a1 a2 a3 a4 a5 a6 a7 = f (zl7 f n) a1 a2 a3 a4 a5 a6 a7 := rfl
def zl8 {A1 A2 A3 A4 A5 A6 A7 A8 B : Type} (f : (A1 → A2 → A3 → A4 → A5 → A6 → A7 → A8 → Option B) → A1 → A2 → A3 → A4 → A5 → A6 → A7 → A8 → Option B) : Nat → A1 → A2 → A3 → A4 → A5 → A6 → A7 → A8 → Option B
  | 0 => fun _ _ _ _ _ _ _ _ => none
  | n + 1 => f (zl8 f n)
theorem zl8_s {A1 A2 A3 A4 A5 A6 A7 A8 B : Type} (f : (A1 → A2 → A3 → A4 → A5 → A6 → A7 → A8 → Option B) → A1 → A2 → A3 → A4 → A5 → A6 → A7 → A8 → Option B) (n : Nat) (a1 : A1) (a2 : A2) (a3 : A3) (a4 : A4) (a5 : A5) (a6 : A6) (a7 : A7) (a8 : A8) : zl8 f (n + 1) a1 a2 a3 a4 a5 a6 a7 a8 = f (zl8 f n) a1 a2 a3 a4 a5 a6 a7 a8 := rfl
def zl9 {A1 A2 A3 A4 A5 A6 A7 A8 A9 B : Type} (f : (A1 → A2 → A3 → A4 → A5 → A6 → A7 → A8 → A9 → Option B) → A1 → A2 → A3 → A4 → A5 → A6 → A7 → A8 → A9 → Option B) : Nat → A1 → A2 → A3 → A4 → A5 → A6 → A7 → A8 → A9 → Option B
  | 0 => fun _ _ _ _ _ _ _ _ _ => none
  | n + 1 => f (zl9 f n)
theorem zl9_s {A1 A2 A3 A4 A5 A6 A7 A8 A9 B : Type} (f : (A1 → A2 → A3 → A4 → A5 → A6 → A7 → A8 → A9 → Option B) → A1 → A2 → A3 → A4 → A5 → A6 → A7 → A8 → A9 → Option B) (n : Nat) (a1 : A1) (a2 : A2) (a3 : A3) (a4 : A4) (a5 : A5) (a6 : A6) (a7 : A7) (a8 : A8) (a9 : A9) : zl9 f (n + 1) a1 a2 a3 a4 a5 a6 a7 a8 a9 = f (zl9 f n) a1 a2 a3 a4 a5 a6 a7 a8 a9 := rfl
def zl10 {A1 A2 A3 A4 A5 A6 A7 A8 A9 A10 B : Type} (f : (A1 → A2 → A3 → A4 → A5 → A6 → A7 → A8 → A9 → A10 → Option B) → A1 → A2 → A3 → A4 → A5 → A6 → A7 → A8 → A9 → A10 → Option B) : Nat → A1 → A2 → A3 → A4 → A5 → A6 → A7 → A8 → A9 → A10 → Option B
  | 0 => fun _ _ _ _ _ _ _ _ _ _ => none
  | n + 1 => f (zl10 f n)
theorem zl10_s {A1 A2 A3 A4 A5 A6 A7 A8 A9 A10 B : Type} (f : (A1 → A2 → A3 → A4 → A5 → A6 → A7 → A8 → A9 → A10 → Option B) → A1 → A2 → A3 → A4 → A5 → A6 → A7 → A8 → A9 → A10 → Option B) (n : Nat) (a1 : A1) (a2 : A2) (a3 : A3) (a4 : A4) (a5 : A5) (a6 : A6) (a7 : A7) (a8 : A8) (a9 : A9) (a10 : A10) : zl10 f (n + 1) a1 a2 a3 a4 a5 a6 a7 a8 a9 a10 = f (zl10 f n) a1 a2 a3 a4 a5 a6 a7 a8 a9 a10 := rfl
def zl11 {A1 A2 A3 A4 A5 A6 A7 A8 A9 A10 A11 B : Type} (f : (A1 → A2 → A3 → A4 → A5 → A6 → A7 → A8 → A9 → A10 → A11 → Option B) → A1 → A2 → A3 → A4 → A5 → A6 → A7 → A8 → A9 → A10 → A11 → Option B) : Nat → A1 → A2 → A3 → A4 → A5 → A6 → A7 → A8 → A9 → A10 → A11 → Option B
  | 0 => fun _ _ _ _ _ _ _ _ _ _ _ => none
  | n + 1 => f (zl11 f n)
theorem zl11_s {A1 A2 A3 A4 A5 A6 A7 A8 A9 A10 A11 B : Type} (f : (A1 → A2 → A3 → A4 → A5 → A6 → A7 → A8 → A9 → A10 → A11 → Option B) → A1 → A2 → A3 → A4 → A5 → A6 → A7 → A8 → A9 → A10 → A11 → Option B) (n : Nat) (a1 : A1) (a2 : A2) (a3 : A3) (a4 : A4) (a5 : A5) (a6 : A6) (a7 : A7) (a8 : A8) (a9 : A9) (a10 : A10) (a11 : A11) : zl11 f (n + 1) a1 a2 a3 a4 a5 a6 a7 a8 a9 a10 a11 = f (zl11 f n) a1 a2 a3 a4 a5 a6 a7 a8 a9 a10 a11 := rfl
def zl12 {A1 A2 A3 A4 A5 A6 A7 A8 A9 A10 A11 A12 B : Type} (f : (A1 → A2 → A3 → A4 → A5 → A6 → A7 → A8 → A9 → A10 → A11 → A12 → Option B) → A1 → A2 → A3 → A4 → A5 → A6 → A7 → A8 → A9 → A10 → A11 → A12 → Option B) : Nat → A1 → A2 → A3 → A4 → A5 → A6 → A7 → A8 → A9 → A10 → A11 → A12 → Option B
  | 0 => fun _ _ _ _ _ _ _ _ _ _ _ _ => none
  | n + 1 => f (zl12 f n)
theorem zl12_s {A1 A2 A3 A4 A5 A6 A7 A8 A9 A10 A11 A12 B : Type} (f : (A1 → A2 → A3 → A4 → A5 → A6 → A7 → A8 → A9 → A10 → A11 → A12 → Option B) → A1 → A2 → A3 → A4 → A5 → A6 → A7 → A8 → A9 → A10 → A11 → A12 → Option B) (n : Nat) (a1 : A1) (a2 : A2) (a3 : A3) (a4 : A4) (a5 : A5) (a6 : A6) (a7 : A7) (a8 : A8) (a9 : A9) (a10 : A10) (a11 : A11) (a12 : A12) : zl12 f (n + 1) a1 a2 a3 a4 a5 a6 a7 a8 a9 a10 a11 a12 = f (zl12 f n) a1 a2 a3 a4 a5 a6 a7 a8 a9 a10 a11 a12 := rfl
theorem zno {B : Type} {r : B} {P : Prop} (h : (none : Option B) = some r) : P := by cases h
theorem zbd {A B : Type} {x : Option A} {k : A → Option B} {r : B} (h : x.bind k = some r) : ∃ a, x = some a ∧ k a = some r := by
  cases x with
  | none => cases h
  | some a => exact ⟨a, rfl, h⟩
theorem zit {c : Prop} {i : Decidable c} {B : Type} {a b r : Option B} (h : (if c then a else b) = r) (q : c) : a = r := by rw [if_pos q] at h; exact h
theorem zie {c : Prop} {i : Decidable c} {B : Type} {a b r : Option B} (h : (if c then a else b) = r) (q : ¬ c) : b = r := by rw [if_neg q] at h; exact h
theorem zgd {c : Prop} {i : Decidable c} {B : Type} {a : Option B} {r : B} (h : (if c then a else none) = some r) : c ∧ a = some r := by
  by_cases q : c
  · rw [if_pos q] at h; exact ⟨q, h⟩
  · rw [if_neg q] at h; cases h
theorem zgn {c : Prop} {i : Decidable c} {B : Type} {a : Option B} {r : B} (h : (if c then none else a) = some r) : ¬ c ∧ a = some r := by
  by_cases q : c
  · rw [if_pos q] at h; cases h
  · rw [if_neg q] at h; exact ⟨q, h⟩
/-- an index in its row -/
abbrev zib (i : Int32) (n : Nat) : Prop := ¬ (i < 0 ∨ n ≤ i.toNatClampNeg)
abbrev zTy : Type := List (ClassId × FieldType)
def zT (D : va_G) (tys : zTy) (w : va_W) (A : Nat → Prop) (t : State) : Prop := va_P D vwCl w t.heap ∧ va_K D vwCl tys t ∧ va_D A w
def zP (D : va_G) (tys : zTy) (w : va_W) (sz : Nat) (U : State) : Prop := U.heap.size = sz ∧ va_P D vwCl w U.heap ∧ va_K D vwCl tys U ∧ va_D (fun _ => True) w
abbrev zRm (fr lo : Nat) : Room := { frames := fr, cells := 0, slots := 0, locals := lo }
/-- what a body has from its start on -/
def zX (p : Program) (s : State) (m : MethodId) (meth : Method) (c : Code) (cc : ByteArray) (nL : Nat) (args : Array Value) (own : String) (ret : Option FieldType) (A : Nat → Prop) (D : va_G) (tys : zTy) : Prop :=
  p.tables.exec = Jvm.exec ∧ c.code = cc ∧ meth.sig.returnType = ret ∧ (∀ w ∈ WT, w.before args s = true) ∧ s.vm.findClass own = some m.cls ∧ meth.locks = false ∧ c.maxLocals = nL ∧ (∀ q : Nat, s.heap.size ≤ q → A q) ∧ va_K D vwCl tys s
theorem zfree {A0 : Nat → Prop} {ws : va_W} {H0 H : Heap} {locs : List Loc} (hD : va_D A0 ws) (hS : va_S A0 H0 H locs) (hA : ∀ q, H0.size ≤ q → A0 q) : ∀ q, va_A ws H.size q → A0 q := fun q h => by
  rcases h with ⟨k, e, hk⟩ | h
  · exact hD.2 k _ hk
  · exact hA q (Nat.le_trans hS.1 h)
theorem zP_blind {D : va_G} {tys : zTy} {w : va_W} {sz : Nat} {av : List Value} : FrameBlind (va_Pc av (zP D tys w sz)) := fun a U g mk q => by
  obtain ⟨q0, q1, qP, qK, qD⟩ := q
  exact ⟨q0, q1, qP, va_K.moved (u := U) (U := U.calling g mk a) (Vm.Alike.refl U.vm) qK, qD⟩
theorem zfm {α β : Type} {f : α → Option β} : ∀ {l : List α}, (l.map f).all Option.isSome = true → l.map f = (l.filterMap f).map some
  | [], _ => rfl
  | a :: l, h => by
    simp only [List.map_cons, List.all_cons, Bool.and_eq_true] at h
    obtain ⟨h1, h2⟩ := h
    cases e : f a with
    | none => rw [e] at h1; cases h1
    | some b => simp only [List.map_cons, List.filterMap_cons, e]; rw [zfm h2]
theorem zfm2 {α β : Type} {f : α → Option β} {l : List α} {r : List β} (h : l.map f = r.map some) : l.filterMap f = r := by
  have h9 := congrArg (List.filterMap id) h
  simpa [List.filterMap_map] using h9
/-- boolean answers -/
abbrev zbo (v : Int32) : Prop := v = 0 ∨ v = 1
theorem zbo_n {v : Int32} (h : zbo v) : narrow .boolean (.int v) = .int v := by rcases h with rfl | rfl <;> rfl
/-- switches -/
theorem zsw {c : Prop} {i : Decidable c} {B : Type} {a b : Option B} {r : B} (h : (if c then a else b) = some r) : (c ∧ a = some r) ∨ (¬ c ∧ b = some r) := by
  by_cases q : c
  · rw [if_pos q] at h; exact Or.inl ⟨q, h⟩
  · rw [if_neg q] at h; exact Or.inr ⟨q, h⟩
def jiushr (x y : Int32) : Int32 := (x.toUInt32 >>> (y.toUInt32 &&& Int32.toUInt32 31)).toInt32
def jlushr (x : Int64) (y : Int32) : Int64 := (x.toUInt64 >>> (y.toInt64.toUInt64 &&& Int64.toUInt64 63)).toInt64
def jlshl (x : Int64) (y : Int32) : Int64 := x <<< (y.toInt64 &&& 63)
def jlshr (x : Int64) (y : Int32) : Int64 := x >>> (y.toInt64 &&& 63)
def FU : Nat := 6000
abbrev zty (cy : Nat → ClassId) : zTy := [(cy 0, .int), (cy 1, .long), (cy 2, .byte), (cy 3, .object "StampedRows$Rows")]
def wAI (h : Nat → Nat) (cy : Nat → ClassId) (n : Nat) (f : Nat → Int32) : va_W := [(h 0, .inl (cy 0, n, .inl f))]
def wAJ (h : Nat → Nat) (cy : Nat → ClassId) (n : Nat) (f : Nat → Int64) : va_W := [(h 0, .inl (cy 1, n, .inr (.inl f)))]
def wAB (h : Nat → Nat) (cy : Nat → ClassId) (n : Nat) (f : Nat → Int32) : va_W := [(h 0, .inl (cy 2, n, .inl f))]
/-- words of a call -/
theorem gzV {y : MethodName} {own C : String} {idx n : Nat} {b : ByteArray} {r : Option FieldType} (h1 : Cond.methodLink own idx y ∈ WT) (h2 : Cond.instanceMethod y ∈ WT) (h3 : Cond.selects C y y ∈ WT) (h4 : Cond.initialized C ∈ WT) (h5 : Cond.code y b n r ∈ WT) : GoodIn WT (wsV own idx C y (.code y b n r :: WT)) := by
  intro w hw
  simp only [wsV, List.mem_append, List.mem_cons, List.not_mem_nil, or_false] at hw
  rcases hw with (rfl | rfl | rfl | rfl) | rfl | h
  all_goals first | exact wt_good _ h1 | exact wt_good _ h2 | exact wt_good _ h3 | exact wt_good _ h4 | exact wt_good _ h5 | exact wt_good _ h
theorem gzS {y : MethodName} {own : String} {idx n : Nat} {b : ByteArray} {r : Option FieldType} (h1 : Cond.methodLink own idx y ∈ WT) (h2 : Cond.static y ∈ WT) (h4 : Cond.initialized y.cls ∈ WT) (h5 : Cond.code y b n r ∈ WT) : GoodIn WT (va_wsS own idx y (.code y b n r :: WT)) := by
  intro w hw
  simp only [va_wsS, List.mem_append, List.mem_cons, List.not_mem_nil, or_false] at hw
  rcases hw with (rfl | rfl | rfl) | rfl | h
  all_goals first | exact wt_good _ h1 | exact wt_good _ h2 | exact wt_good _ h4 | exact wt_good _ h5 | exact wt_good _ h
end ZA
section ZB
variable {p : Program} {l : Launch} {e : Env} {R : Room} {s : State} {m : MethodId} {args : Array Value} {below : List Frame} {meth : Method} {c : Code} {H : Heap} {locs : List Loc} {cells slots : Nat} {Q : State → Prop} {cc : ByteArray} {pc : Nat} {ls : Array Slot} {rest : List Value}
theorem z_if_eq (hx : p.tables.exec = Jvm.exec) (hb : c.code = cc) {x : Int32} {off : Int} {tgt : Nat} (hdg : decode cc pc = .ok (.ifCond .eq off, 3)) (ht : (pc : Int) + off = (tgt : Int)) {B : Type} {a b r : Option B} {i : Decidable (x = 0)} (hf : (if x = 0 then a else b) = r)
    (kt : a = r → W p l e R s m args below meth c H locs cells slots Q (F0 m tgt ls rest)) (kf : b = r → W p l e R s m args below meth c H locs cells slots Q (F0 m (pc + 3) ls rest)) : W p l e R s m args below meth c H locs cells slots Q (F0 m pc ls (.int x :: rest)) := lv_if_eq hx hb hdg ht (fun q => kt (zit hf q)) (fun q => kf (zie hf q))
theorem z_if_lt (hx : p.tables.exec = Jvm.exec) (hb : c.code = cc) {x : Int32} {off : Int} {tgt : Nat} (hdg : decode cc pc = .ok (.ifCond .lt off, 3)) (ht : (pc : Int) + off = (tgt : Int)) {B : Type} {a b r : Option B} {i : Decidable (x < 0)} (hf : (if x < 0 then a else b) = r)
    (kt : a = r → W p l e R s m args below meth c H locs cells slots Q (F0 m tgt ls rest)) (kf : b = r → W p l e R s m args below meth c H locs cells slots Q (F0 m (pc + 3) ls rest)) : W p l e R s m args below meth c H locs cells slots Q (F0 m pc ls (.int x :: rest)) := lv_if_lt hx hb hdg ht (fun q => kt (zit hf q)) (fun q => kf (zie hf q))
theorem z_if_ge (hx : p.tables.exec = Jvm.exec) (hb : c.code = cc) {x : Int32} {off : Int} {tgt : Nat} (hdg : decode cc pc = .ok (.ifCond .ge off, 3)) (ht : (pc : Int) + off = (tgt : Int)) {B : Type} {a b r : Option B} {i : Decidable (0 ≤ x)} (hf : (if 0 ≤ x then a else b) = r)
    (kt : a = r → W p l e R s m args below meth c H locs cells slots Q (F0 m tgt ls rest)) (kf : b = r → W p l e R s m args below meth c H locs cells slots Q (F0 m (pc + 3) ls rest)) : W p l e R s m args below meth c H locs cells slots Q (F0 m pc ls (.int x :: rest)) := lv_if_ge hx hb hdg ht (fun q => kt (zit hf q)) (fun q => kf (zie hf q))
theorem z_if_gt (hx : p.tables.exec = Jvm.exec) (hb : c.code = cc) {x : Int32} {off : Int} {tgt : Nat} (hdg : decode cc pc = .ok (.ifCond .gt off, 3)) (ht : (pc : Int) + off = (tgt : Int)) {B : Type} {a b r : Option B} {i : Decidable (0 < x)} (hf : (if 0 < x then a else b) = r)
    (kt : a = r → W p l e R s m args below meth c H locs cells slots Q (F0 m tgt ls rest)) (kf : b = r → W p l e R s m args below meth c H locs cells slots Q (F0 m (pc + 3) ls rest)) : W p l e R s m args below meth c H locs cells slots Q (F0 m pc ls (.int x :: rest)) := lv_if_gt hx hb hdg ht (fun q => kt (zit hf q)) (fun q => kf (zie hf q))
theorem z_if_le (hx : p.tables.exec = Jvm.exec) (hb : c.code = cc) {x : Int32} {off : Int} {tgt : Nat} (hdg : decode cc pc = .ok (.ifCond .le off, 3)) (ht : (pc : Int) + off = (tgt : Int)) {B : Type} {a b r : Option B} {i : Decidable (x ≤ 0)} (hf : (if x ≤ 0 then a else b) = r)
    (kt : a = r → W p l e R s m args below meth c H locs cells slots Q (F0 m tgt ls rest)) (kf : b = r → W p l e R s m args below meth c H locs cells slots Q (F0 m (pc + 3) ls rest)) : W p l e R s m args below meth c H locs cells slots Q (F0 m pc ls (.int x :: rest)) := lv_if_le hx hb hdg ht (fun q => kt (zit hf q)) (fun q => kf (zie hf q))
theorem z_if_ne (hx : p.tables.exec = Jvm.exec) (hb : c.code = cc) {x : Int32} {off : Int} {tgt : Nat} (hdg : decode cc pc = .ok (.ifCond .ne off, 3)) (ht : (pc : Int) + off = (tgt : Int)) {B : Type} {a b r : Option B} {i : Decidable (x = 0)} (hf : (if x = 0 then b else a) = r)
    (kt : a = r → W p l e R s m args below meth c H locs cells slots Q (F0 m tgt ls rest)) (kf : b = r → W p l e R s m args below meth c H locs cells slots Q (F0 m (pc + 3) ls rest)) : W p l e R s m args below meth c H locs cells slots Q (F0 m pc ls (.int x :: rest)) := lv_if_ne hx hb hdg ht (fun q => kt (zie hf q)) (fun q => kf (zit hf q))
theorem z_icmp_eq (hx : p.tables.exec = Jvm.exec) (hb : c.code = cc) {x y : Int32} {off : Int} {tgt : Nat} (hdg : decode cc pc = .ok (.if_icmp .eq off, 3)) (ht : (pc : Int) + off = (tgt : Int)) {B : Type} {a b r : Option B} {i : Decidable (x = y)} (hf : (if x = y then a else b) = r)
    (kt : a = r → W p l e R s m args below meth c H locs cells slots Q (F0 m tgt ls rest)) (kf : b = r → W p l e R s m args below meth c H locs cells slots Q (F0 m (pc + 3) ls rest)) : W p l e R s m args below meth c H locs cells slots Q (F0 m pc ls (.int y :: .int x :: rest)) := lv_icmp_eq hx hb hdg ht (fun q => kt (zit hf q)) (fun q => kf (zie hf q))
theorem z_icmp_lt (hx : p.tables.exec = Jvm.exec) (hb : c.code = cc) {x y : Int32} {off : Int} {tgt : Nat} (hdg : decode cc pc = .ok (.if_icmp .lt off, 3)) (ht : (pc : Int) + off = (tgt : Int)) {B : Type} {a b r : Option B} {i : Decidable (x < y)} (hf : (if x < y then a else b) = r)
    (kt : a = r → W p l e R s m args below meth c H locs cells slots Q (F0 m tgt ls rest)) (kf : b = r → W p l e R s m args below meth c H locs cells slots Q (F0 m (pc + 3) ls rest)) : W p l e R s m args below meth c H locs cells slots Q (F0 m pc ls (.int y :: .int x :: rest)) := lv_icmp_lt hx hb hdg ht (fun q => kt (zit hf q)) (fun q => kf (zie hf q))
theorem z_icmp_ge (hx : p.tables.exec = Jvm.exec) (hb : c.code = cc) {x y : Int32} {off : Int} {tgt : Nat} (hdg : decode cc pc = .ok (.if_icmp .ge off, 3)) (ht : (pc : Int) + off = (tgt : Int)) {B : Type} {a b r : Option B} {i : Decidable (y ≤ x)} (hf : (if y ≤ x then a else b) = r)
    (kt : a = r → W p l e R s m args below meth c H locs cells slots Q (F0 m tgt ls rest)) (kf : b = r → W p l e R s m args below meth c H locs cells slots Q (F0 m (pc + 3) ls rest)) : W p l e R s m args below meth c H locs cells slots Q (F0 m pc ls (.int y :: .int x :: rest)) := lv_icmp_ge hx hb hdg ht (fun q => kt (zit hf q)) (fun q => kf (zie hf q))
theorem z_icmp_gt (hx : p.tables.exec = Jvm.exec) (hb : c.code = cc) {x y : Int32} {off : Int} {tgt : Nat} (hdg : decode cc pc = .ok (.if_icmp .gt off, 3)) (ht : (pc : Int) + off = (tgt : Int)) {B : Type} {a b r : Option B} {i : Decidable (y < x)} (hf : (if y < x then a else b) = r)
    (kt : a = r → W p l e R s m args below meth c H locs cells slots Q (F0 m tgt ls rest)) (kf : b = r → W p l e R s m args below meth c H locs cells slots Q (F0 m (pc + 3) ls rest)) : W p l e R s m args below meth c H locs cells slots Q (F0 m pc ls (.int y :: .int x :: rest)) := lv_icmp_gt hx hb hdg ht (fun q => kt (zit hf q)) (fun q => kf (zie hf q))
theorem z_icmp_le (hx : p.tables.exec = Jvm.exec) (hb : c.code = cc) {x y : Int32} {off : Int} {tgt : Nat} (hdg : decode cc pc = .ok (.if_icmp .le off, 3)) (ht : (pc : Int) + off = (tgt : Int)) {B : Type} {a b r : Option B} {i : Decidable (x ≤ y)} (hf : (if x ≤ y then a else b) = r)
    (kt : a = r → W p l e R s m args below meth c H locs cells slots Q (F0 m tgt ls rest)) (kf : b = r → W p l e R s m args below meth c H locs cells slots Q (F0 m (pc + 3) ls rest)) : W p l e R s m args below meth c H locs cells slots Q (F0 m pc ls (.int y :: .int x :: rest)) := lv_icmp_le hx hb hdg ht (fun q => kt (zit hf q)) (fun q => kf (zie hf q))
theorem z_icmp_ne (hx : p.tables.exec = Jvm.exec) (hb : c.code = cc) {x y : Int32} {off : Int} {tgt : Nat} (hdg : decode cc pc = .ok (.if_icmp .ne off, 3)) (ht : (pc : Int) + off = (tgt : Int)) {B : Type} {a b r : Option B} {i : Decidable (x = y)} (hf : (if x = y then b else a) = r)
    (kt : a = r → W p l e R s m args below meth c H locs cells slots Q (F0 m tgt ls rest)) (kf : b = r → W p l e R s m args below meth c H locs cells slots Q (F0 m (pc + 3) ls rest)) : W p l e R s m args below meth c H locs cells slots Q (F0 m pc ls (.int y :: .int x :: rest)) := lv_icmp_ne hx hb hdg ht (fun q => kt (zie hf q)) (fun q => kf (zit hf q))
theorem z_idiv (hx : p.tables.exec = Jvm.exec) (hb : c.code = cc) {x y : Int32} (hdg : decode cc pc = .ok (.idiv, 1)) {B : Type} {b : Option B} {r : B} {i : Decidable (y = 0)} (hf : (if y = 0 then none else b) = some r)
    (kk : b = some r → W p l e R s m args below meth c H locs cells slots Q (F0 m (pc + 1) ls (.int (x / y) :: rest))) : W p l e R s m args below meth c H locs cells slots Q (F0 m pc ls (.int y :: .int x :: rest)) := lv_idiv hx hb hdg (zgn hf).1 (kk (zgn hf).2)
theorem z_irem (hx : p.tables.exec = Jvm.exec) (hb : c.code = cc) {x y : Int32} (hdg : decode cc pc = .ok (.irem, 1)) {B : Type} {b : Option B} {r : B} {i : Decidable (y = 0)} (hf : (if y = 0 then none else b) = some r)
    (kk : b = some r → W p l e R s m args below meth c H locs cells slots Q (F0 m (pc + 1) ls (.int (x - x / y * y) :: rest))) : W p l e R s m args below meth c H locs cells slots Q (F0 m pc ls (.int y :: .int x :: rest)) := lv_irem hx hb hdg (zgn hf).1 (kk (zgn hf).2)
theorem z_ldiv (hx : p.tables.exec = Jvm.exec) (hb : c.code = cc) {x y : Int64} (hdg : decode cc pc = .ok (.ldiv, 1)) {B : Type} {b : Option B} {r : B} {i : Decidable (y = 0)} (hf : (if y = 0 then none else b) = some r)
    (kk : b = some r → W p l e R s m args below meth c H locs cells slots Q (F0 m (pc + 1) ls (.long (x / y) :: rest))) : W p l e R s m args below meth c H locs cells slots Q (F0 m pc ls (.long y :: .long x :: rest)) := lv_ldiv hx hb hdg (zgn hf).1 (kk (zgn hf).2)
theorem z_lrem (hx : p.tables.exec = Jvm.exec) (hb : c.code = cc) {x y : Int64} (hdg : decode cc pc = .ok (.lrem, 1)) {B : Type} {b : Option B} {r : B} {i : Decidable (y = 0)} (hf : (if y = 0 then none else b) = some r)
    (kk : b = some r → W p l e R s m args below meth c H locs cells slots Q (F0 m (pc + 1) ls (.long (x - x / y * y) :: rest))) : W p l e R s m args below meth c H locs cells slots Q (F0 m pc ls (.long y :: .long x :: rest)) := lv_lrem hx hb hdg (zgn hf).1 (kk (zgn hf).2)
theorem z_iald (hx : p.tables.exec = Jvm.exec) (hb : c.code = cc) {D : va_G} {tys : zTy} {ws : va_W} (hK : va_K D vwCl tys s) (hP : va_P D vwCl ws H) (q0 t0 : Nat) {a : Nat} {cA : ClassId} {n : Nat} {f : Nat → Int32} (ha : ws[q0]? = some (a, .inl (cA, n, .inl f))) (ht : tys[t0]? = some (cA, .int)) {i : Int32} (hdg : decode cc pc = .ok (.iaload, 1)) {B : Type} {b : Option B} {r : B} {dc : Decidable (zib i n)} (hf : (if zib i n then b else none) = some r)
    (kk : b = some r → W p l e R s m args below meth c H locs cells slots Q (F0 m (pc + 1) ls (.int (f i.toNatClampNeg) :: rest))) : W p l e R s m args below meth c H locs cells slots Q (F0 m pc ls (.int i :: .ref a :: rest)) := va_iald hx hb hK hP q0 t0 ha ht (zgd hf).1 hdg (kk (zgd hf).2)
theorem z_bald (hx : p.tables.exec = Jvm.exec) (hb : c.code = cc) {D : va_G} {tys : zTy} {ws : va_W} (hK : va_K D vwCl tys s) (hP : va_P D vwCl ws H) (q0 t0 : Nat) {a : Nat} {cA : ClassId} {n : Nat} {f : Nat → Int32} (ha : ws[q0]? = some (a, .inl (cA, n, .inl f))) (ht : tys[t0]? = some (cA, .byte)) {i : Int32} (hdg : decode cc pc = .ok (.baload, 1)) {B : Type} {b : Option B} {r : B} {dc : Decidable (zib i n)} (hf : (if zib i n then b else none) = some r)
    (kk : b = some r → W p l e R s m args below meth c H locs cells slots Q (F0 m (pc + 1) ls (.int (f i.toNatClampNeg) :: rest))) : W p l e R s m args below meth c H locs cells slots Q (F0 m pc ls (.int i :: .ref a :: rest)) := va_bald hx hb hK hP q0 t0 ha ht (zgd hf).1 hdg (kk (zgd hf).2)
theorem z_lald (hx : p.tables.exec = Jvm.exec) (hb : c.code = cc) {D : va_G} {tys : zTy} {ws : va_W} (hK : va_K D vwCl tys s) (hP : va_P D vwCl ws H) (q0 t0 : Nat) {a : Nat} {cA : ClassId} {n : Nat} {f : Nat → Int64} (ha : ws[q0]? = some (a, .inl (cA, n, .inr (.inl f)))) (ht : tys[t0]? = some (cA, .long)) {i : Int32} (hdg : decode cc pc = .ok (.laload, 1)) {B : Type} {b : Option B} {r : B} {dc : Decidable (zib i n)} (hf : (if zib i n then b else none) = some r)
    (kk : b = some r → W p l e R s m args below meth c H locs cells slots Q (F0 m (pc + 1) ls (.long (f i.toNatClampNeg) :: rest))) : W p l e R s m args below meth c H locs cells slots Q (F0 m pc ls (.int i :: .ref a :: rest)) := va_lald hx hb hK hP q0 t0 ha ht (zgd hf).1 hdg (kk (zgd hf).2)
theorem z_iast (hx : p.tables.exec = Jvm.exec) (hb : c.code = cc) {D : va_G} {tys : zTy} {ws w2 : va_W} {A : Nat → Prop} {H0 : Heap} (hK : va_K D vwCl tys s) (hP : va_P D vwCl ws H) (hD : va_D A ws) (hS : va_S A H0 H locs) (q0 t0 : Nat) {a : Nat} {cA : ClassId} {n : Nat} {f : Nat → Int32} (ha : ws[q0]? = some (a, .inl (cA, n, .inl f))) (ht : tys[t0]? = some (cA, .int)) {i : Int32} {x : Int32} (hdg : decode cc pc = .ok (.iastore, 1)) {B : Type} {b : Option B} {r : B} {dc : Decidable (zib i n)} (hf : (if zib i n then b else none) = some r) (hw : ws.set q0 (a, .inl (cA, n, .inl (upd f i.toNatClampNeg x))) = w2)
    (kk : b = some r → ∀ (H1 : Heap) (locs1 : List Loc), va_P D vwCl w2 H1 → va_D A w2 → va_S A H0 H1 locs1 → W p l e R s m args below meth c H1 locs1 cells slots Q (F0 m (pc + 1) ls rest)) : W p l e R s m args below meth c H locs cells slots Q (F0 m pc ls (.int x :: .int i :: .ref a :: rest)) := by
  subst hw
  exact va_iast hx hb hK hP hD hS q0 t0 ha ht (zgd hf).1 hdg (kk (zgd hf).2)
theorem z_bast (hx : p.tables.exec = Jvm.exec) (hb : c.code = cc) {D : va_G} {tys : zTy} {ws w2 : va_W} {A : Nat → Prop} {H0 : Heap} (hK : va_K D vwCl tys s) (hP : va_P D vwCl ws H) (hD : va_D A ws) (hS : va_S A H0 H locs) (q0 t0 : Nat) {a : Nat} {cA : ClassId} {n : Nat} {f : Nat → Int32} (ha : ws[q0]? = some (a, .inl (cA, n, .inl f))) (ht : tys[t0]? = some (cA, .byte)) {i : Int32} {x : Int32} (hdg : decode cc pc = .ok (.bastore, 1)) {B : Type} {b : Option B} {r : B} {dc : Decidable (zib i n)} (hf : (if zib i n then b else none) = some r) (hw : ws.set q0 (a, .inl (cA, n, .inl (upd f i.toNatClampNeg (vp_nar .byte x)))) = w2)
    (kk : b = some r → ∀ (H1 : Heap) (locs1 : List Loc), va_P D vwCl w2 H1 → va_D A w2 → va_S A H0 H1 locs1 → W p l e R s m args below meth c H1 locs1 cells slots Q (F0 m (pc + 1) ls rest)) : W p l e R s m args below meth c H locs cells slots Q (F0 m pc ls (.int x :: .int i :: .ref a :: rest)) := by
  subst hw
  exact va_bast hx hb hK hP hD hS q0 t0 ha ht (zgd hf).1 hdg (kk (zgd hf).2)
theorem z_last (hx : p.tables.exec = Jvm.exec) (hb : c.code = cc) {D : va_G} {tys : zTy} {ws w2 : va_W} {A : Nat → Prop} {H0 : Heap} (hK : va_K D vwCl tys s) (hP : va_P D vwCl ws H) (hD : va_D A ws) (hS : va_S A H0 H locs) (q0 t0 : Nat) {a : Nat} {cA : ClassId} {n : Nat} {f : Nat → Int64} (ha : ws[q0]? = some (a, .inl (cA, n, .inr (.inl f)))) (ht : tys[t0]? = some (cA, .long)) {i : Int32} {x : Int64} (hdg : decode cc pc = .ok (.lastore, 1)) {B : Type} {b : Option B} {r : B} {dc : Decidable (zib i n)} (hf : (if zib i n then b else none) = some r) (hw : ws.set q0 (a, .inl (cA, n, .inr (.inl (vp_updL f i.toNatClampNeg x)))) = w2)
    (kk : b = some r → ∀ (H1 : Heap) (locs1 : List Loc), va_P D vwCl w2 H1 → va_D A w2 → va_S A H0 H1 locs1 → W p l e R s m args below meth c H1 locs1 cells slots Q (F0 m (pc + 1) ls rest)) : W p l e R s m args below meth c H locs cells slots Q (F0 m pc ls (.long x :: .int i :: .ref a :: rest)) := by
  subst hw
  exact va_last hx hb hK hP hD hS q0 t0 ha ht (zgd hf).1 hdg (kk (zgd hf).2)
theorem z_put (hx : p.tables.exec = Jvm.exec) (hb : c.code = cc) {D : va_G} {tys : zTy} {ws w2 : va_W} {A : Nat → Prop} {H0 : Heap} {own ref C : String} {T : u_T} {N ci index a : Nat} (hts : ∀ w ∈ WT, w.before args s = true) (hin : ∀ w ∈ u_ws C T N, w ∈ WT) (ty0 : Nat → FieldType) (hty : ∀ k, k < N → parseFieldDescriptor (T k).2.2.1 = some (ty0 k)) (hnm : ∀ a, a < N → ∀ b, b < N → a ≠ b → (T a).2.1 ≠ (T b).2.1) (hown : s.vm.findClass own = some m.cls) (hK : va_K D vwCl tys s) (hP : va_P D vwCl ws H) (hD : va_D A ws) (hS0 : va_S A H0 H locs) (q0 : Nat) {fs : List Value} (he : ws[q0]? = some (a, .inr (ci, fs))) (hc : vwCl[ci]? = some (C, T, N)) (k : Nat) (hk : k < N) (hlink : (Cond.fieldLink own index ref (T k).2.1 (T k).2.2.1).before args s = true) (hsame : ∀ x, s.fieldFound? (T k).1 (T k).2.1 (T k).2.2.1 = some x → s.fieldFound? ref (T k).2.1 (T k).2.2.1 = some x) (hfin : (T k).2.2.2 = false) {v : Value} (hn : narrow (ty0 k) v = v) (hfit : fits (ty0 k) v = true) (hl : k < fs.length)
    (hdg : decode cc pc = .ok (.putfield index, 3)) (hw : ws.set q0 (a, .inr (ci, fs.set k v)) = w2) (kk : ∀ (H1 : Heap) (locs1 : List Loc), va_P D vwCl w2 H1 → va_D A w2 → va_S A H0 H1 locs1 → W p l e R s m args below meth c H1 locs1 cells slots Q (F0 m (pc + 3) ls rest)) : W p l e R s m args below meth c H locs cells slots Q (F0 m pc ls (v :: .ref a :: rest)) := by
  subst hw
  exact va_put hx hb hts hin ty0 hty hnm hown hK hP hD hS0 q0 he hc k hk hlink hsame hfin (hty k hk) hn hfit hl hdg kk
theorem z_copyi (hx : p.tables.exec = Jvm.exec) (hb : c.code = cc) (hml : c.maxLocals = ls.size) {D : va_G} {tys : zTy} {ws w2 : va_W} {A : Nat → Prop} {H0 : Heap} {own : String} {index a : Nat} (hown : s.vm.findClass own = some m.cls) (hlink : (Cond.methodLink own index arraycopyName).before args s = true) (hnat : (Cond.native arraycopyName).before args s = true) (hstat : (Cond.static arraycopyName).before args s = true) (hini : (Cond.initialized "java/lang/System").before args s = true)
    (hK : va_K D vwCl tys s) (hP : va_P D vwCl ws H) (hD : va_D A ws) (hS : va_S A H0 H locs) (q0 q1 t0 t1 : Nat) {a0 : Nat} {c0 c1 : ClassId} {n0 n1 : Nat} {f g : Nat → Int32} {ty : FieldType} (ha0 : ws[q0]? = some (a0, .inl (c0, n0, .inl f))) (ha1 : ws[q1]? = some (a, .inl (c1, n1, .inl g))) (ht0 : tys[t0]? = some (c0, ty)) (ht1 : tys[t1]? = some (c1, ty)) (hprim : refKind ty = false)
    {sp dp n : Int32} (h1 : ¬ sp < 0) (h2 : ¬ dp < 0) (h3 : ¬ n < 0) (h4 : sp.toNatClampNeg + n.toNatClampNeg ≤ n0) (h5 : dp.toNatClampNeg + n.toNatClampNeg ≤ n1) (hfit : ∀ i, i < n.toNatClampNeg → fits ty (.int (f (sp.toNatClampNeg + i))) = true)
    (hframes : 1 ≤ R.frames) (hlocals : (rest.map fun v => v.category).sum + (nativeFrameWords "java/lang/System" "arraycopy" 5 + 11) ≤ R.locals) (hdg : decode cc pc = .ok (.invokestatic index, 3)) (hw : ws.set q1 (a, .inl (c1, n1, .inl (va_cpy f g sp.toNatClampNeg dp.toNatClampNeg n.toNatClampNeg))) = w2)
    (kk : ∀ (H1 : Heap) (locs1 : List Loc), va_P D vwCl w2 H1 → va_D A w2 → va_S A H0 H1 locs1 → W p l e R s m args below meth c H1 locs1 cells slots Q (F0 m (pc + 3) ls rest)) : W p l e R s m args below meth c H locs cells slots Q (F0 m pc ls (.int n :: .int dp :: .ref a :: .int sp :: .ref a0 :: rest)) := by
  subst hw
  exact va_copyi hx hb hml hown hlink hnat hstat hini hK hP hD hS q0 q1 t0 t1 ha0 ha1 ht0 ht1 hprim h1 h2 h3 h4 h5 hfit hframes hlocals hdg kk
theorem z_copyl (hx : p.tables.exec = Jvm.exec) (hb : c.code = cc) (hml : c.maxLocals = ls.size) {D : va_G} {tys : zTy} {ws w2 : va_W} {A : Nat → Prop} {H0 : Heap} {own : String} {index a : Nat} (hown : s.vm.findClass own = some m.cls) (hlink : (Cond.methodLink own index arraycopyName).before args s = true) (hnat : (Cond.native arraycopyName).before args s = true) (hstat : (Cond.static arraycopyName).before args s = true) (hini : (Cond.initialized "java/lang/System").before args s = true)
    (hK : va_K D vwCl tys s) (hP : va_P D vwCl ws H) (hD : va_D A ws) (hS : va_S A H0 H locs) (q0 q1 t0 t1 : Nat) {a0 : Nat} {c0 c1 : ClassId} {n0 n1 : Nat} {f g : Nat → Int64} {ty : FieldType} (ha0 : ws[q0]? = some (a0, .inl (c0, n0, .inr (.inl f)))) (ha1 : ws[q1]? = some (a, .inl (c1, n1, .inr (.inl g)))) (ht0 : tys[t0]? = some (c0, ty)) (ht1 : tys[t1]? = some (c1, ty)) (hprim : refKind ty = false)
    {sp dp n : Int32} (h1 : ¬ sp < 0) (h2 : ¬ dp < 0) (h3 : ¬ n < 0) (h4 : sp.toNatClampNeg + n.toNatClampNeg ≤ n0) (h5 : dp.toNatClampNeg + n.toNatClampNeg ≤ n1) (hfit : ∀ i, i < n.toNatClampNeg → fits ty (.long (f (sp.toNatClampNeg + i))) = true)
    (hframes : 1 ≤ R.frames) (hlocals : (rest.map fun v => v.category).sum + (nativeFrameWords "java/lang/System" "arraycopy" 5 + 11) ≤ R.locals) (hdg : decode cc pc = .ok (.invokestatic index, 3)) (hw : ws.set q1 (a, .inl (c1, n1, .inr (.inl (va_cpy f g sp.toNatClampNeg dp.toNatClampNeg n.toNatClampNeg)))) = w2)
    (kk : ∀ (H1 : Heap) (locs1 : List Loc), va_P D vwCl w2 H1 → va_D A w2 → va_S A H0 H1 locs1 → W p l e R s m args below meth c H1 locs1 cells slots Q (F0 m (pc + 3) ls rest)) : W p l e R s m args below meth c H locs cells slots Q (F0 m pc ls (.int n :: .int dp :: .ref a :: .int sp :: .ref a0 :: rest)) := by
  subst hw
  exact va_copyl hx hb hml hown hlink hnat hstat hini hK hP hD hS q0 q1 t0 t1 ha0 ha1 ht0 ht1 hprim h1 h2 h3 h4 h5 hfit hframes hlocals hdg kk
end ZB
theorem zsw_out2 {x : Int32} (h0 : ¬ x = 0) (h1 : ¬ x = 1) : x.toInt < 0 ∨ (1 : Int) < x.toInt := by
  have e0 : x.toInt ≠ 0 := fun q => h0 (Int32.toInt_inj.mp (by rw [q]; rfl))
  have e1 : x.toInt ≠ 1 := fun q => h1 (Int32.toInt_inj.mp (by rw [q]; rfl))
  omega
theorem zsw_out3 {x : Int32} (h0 : ¬ x = 0) (h1 : ¬ x = 1) (h2 : ¬ x = 2) : x.toInt < 0 ∨ (2 : Int) < x.toInt := by
  have e0 : x.toInt ≠ 0 := fun q => h0 (Int32.toInt_inj.mp (by rw [q]; rfl))
  have e1 : x.toInt ≠ 1 := fun q => h1 (Int32.toInt_inj.mp (by rw [q]; rfl))
  have e2 : x.toInt ≠ 2 := fun q => h2 (Int32.toInt_inj.mp (by rw [q]; rfl))
  omega
theorem zsw_out4 {x : Int32} (h0 : ¬ x = 0) (h1 : ¬ x = 1) (h2 : ¬ x = 2) (h3 : ¬ x = 3) : x.toInt < 0 ∨ (3 : Int) < x.toInt := by
  have e0 : x.toInt ≠ 0 := fun q => h0 (Int32.toInt_inj.mp (by rw [q]; rfl))
  have e1 : x.toInt ≠ 1 := fun q => h1 (Int32.toInt_inj.mp (by rw [q]; rfl))
  have e2 : x.toInt ≠ 2 := fun q => h2 (Int32.toInt_inj.mp (by rw [q]; rfl))
  have e3 : x.toInt ≠ 3 := fun q => h3 (Int32.toInt_inj.mp (by rw [q]; rfl))
  omega
theorem zsw_out5 {x : Int32} (h0 : ¬ x = 0) (h1 : ¬ x = 1) (h2 : ¬ x = 2) (h3 : ¬ x = 3) (h4 : ¬ x = 4) : x.toInt < 0 ∨ (4 : Int) < x.toInt := by
  have e0 : x.toInt ≠ 0 := fun q => h0 (Int32.toInt_inj.mp (by rw [q]; rfl))
  have e1 : x.toInt ≠ 1 := fun q => h1 (Int32.toInt_inj.mp (by rw [q]; rfl))
  have e2 : x.toInt ≠ 2 := fun q => h2 (Int32.toInt_inj.mp (by rw [q]; rfl))
  have e3 : x.toInt ≠ 3 := fun q => h3 (Int32.toInt_inj.mp (by rw [q]; rfl))
  have e4 : x.toInt ≠ 4 := fun q => h4 (Int32.toInt_inj.mp (by rw [q]; rfl))
  omega
theorem zsw_out6 {x : Int32} (h0 : ¬ x = 0) (h1 : ¬ x = 1) (h2 : ¬ x = 2) (h3 : ¬ x = 3) (h4 : ¬ x = 4) (h5 : ¬ x = 5) : x.toInt < 0 ∨ (5 : Int) < x.toInt := by
  have e0 : x.toInt ≠ 0 := fun q => h0 (Int32.toInt_inj.mp (by rw [q]; rfl))
  have e1 : x.toInt ≠ 1 := fun q => h1 (Int32.toInt_inj.mp (by rw [q]; rfl))
  have e2 : x.toInt ≠ 2 := fun q => h2 (Int32.toInt_inj.mp (by rw [q]; rfl))
  have e3 : x.toInt ≠ 3 := fun q => h3 (Int32.toInt_inj.mp (by rw [q]; rfl))
  have e4 : x.toInt ≠ 4 := fun q => h4 (Int32.toInt_inj.mp (by rw [q]; rfl))
  have e5 : x.toInt ≠ 5 := fun q => h5 (Int32.toInt_inj.mp (by rw [q]; rfl))
  omega
theorem zsw_out7 {x : Int32} (h0 : ¬ x = 0) (h1 : ¬ x = 1) (h2 : ¬ x = 2) (h3 : ¬ x = 3) (h4 : ¬ x = 4) (h5 : ¬ x = 5) (h6 : ¬ x = 6) : x.toInt < 0 ∨ (6 : Int) < x.toInt := by
  have e0 : x.toInt ≠ 0 := fun q => h0 (Int32.toInt_inj.mp (by rw [q]; rfl))
  have e1 : x.toInt ≠ 1 := fun q => h1 (Int32.toInt_inj.mp (by rw [q]; rfl))
  have e2 : x.toInt ≠ 2 := fun q => h2 (Int32.toInt_inj.mp (by rw [q]; rfl))
  have e3 : x.toInt ≠ 3 := fun q => h3 (Int32.toInt_inj.mp (by rw [q]; rfl))
  have e4 : x.toInt ≠ 4 := fun q => h4 (Int32.toInt_inj.mp (by rw [q]; rfl))
  have e5 : x.toInt ≠ 5 := fun q => h5 (Int32.toInt_inj.mp (by rw [q]; rfl))
  have e6 : x.toInt ≠ 6 := fun q => h6 (Int32.toInt_inj.mp (by rw [q]; rfl))
  omega
theorem zsw_out8 {x : Int32} (h0 : ¬ x = 0) (h1 : ¬ x = 1) (h2 : ¬ x = 2) (h3 : ¬ x = 3) (h4 : ¬ x = 4) (h5 : ¬ x = 5) (h6 : ¬ x = 6) (h7 : ¬ x = 7) : x.toInt < 0 ∨ (7 : Int) < x.toInt := by
  have e0 : x.toInt ≠ 0 := fun q => h0 (Int32.toInt_inj.mp (by rw [q]; rfl))
  have e1 : x.toInt ≠ 1 := fun q => h1 (Int32.toInt_inj.mp (by rw [q]; rfl))
  have e2 : x.toInt ≠ 2 := fun q => h2 (Int32.toInt_inj.mp (by rw [q]; rfl))
  have e3 : x.toInt ≠ 3 := fun q => h3 (Int32.toInt_inj.mp (by rw [q]; rfl))
  have e4 : x.toInt ≠ 4 := fun q => h4 (Int32.toInt_inj.mp (by rw [q]; rfl))
  have e5 : x.toInt ≠ 5 := fun q => h5 (Int32.toInt_inj.mp (by rw [q]; rfl))
  have e6 : x.toInt ≠ 6 := fun q => h6 (Int32.toInt_inj.mp (by rw [q]; rfl))
  have e7 : x.toInt ≠ 7 := fun q => h7 (Int32.toInt_inj.mp (by rw [q]; rfl))
  omega
theorem zsw_out9 {x : Int32} (h0 : ¬ x = 0) (h1 : ¬ x = 1) (h2 : ¬ x = 2) (h3 : ¬ x = 3) (h4 : ¬ x = 4) (h5 : ¬ x = 5) (h6 : ¬ x = 6) (h7 : ¬ x = 7) (h8 : ¬ x = 8) : x.toInt < 0 ∨ (8 : Int) < x.toInt := by
  have e0 : x.toInt ≠ 0 := fun q => h0 (Int32.toInt_inj.mp (by rw [q]; rfl))
  have e1 : x.toInt ≠ 1 := fun q => h1 (Int32.toInt_inj.mp (by rw [q]; rfl))
  have e2 : x.toInt ≠ 2 := fun q => h2 (Int32.toInt_inj.mp (by rw [q]; rfl))
  have e3 : x.toInt ≠ 3 := fun q => h3 (Int32.toInt_inj.mp (by rw [q]; rfl))
  have e4 : x.toInt ≠ 4 := fun q => h4 (Int32.toInt_inj.mp (by rw [q]; rfl))
  have e5 : x.toInt ≠ 5 := fun q => h5 (Int32.toInt_inj.mp (by rw [q]; rfl))
  have e6 : x.toInt ≠ 6 := fun q => h6 (Int32.toInt_inj.mp (by rw [q]; rfl))
  have e7 : x.toInt ≠ 7 := fun q => h7 (Int32.toInt_inj.mp (by rw [q]; rfl))
  have e8 : x.toInt ≠ 8 := fun q => h8 (Int32.toInt_inj.mp (by rw [q]; rfl))
  omega
theorem zsw_out10 {x : Int32} (h0 : ¬ x = 0) (h1 : ¬ x = 1) (h2 : ¬ x = 2) (h3 : ¬ x = 3) (h4 : ¬ x = 4) (h5 : ¬ x = 5) (h6 : ¬ x = 6) (h7 : ¬ x = 7) (h8 : ¬ x = 8) (h9 : ¬ x = 9) : x.toInt < 0 ∨ (9 : Int) < x.toInt := by
  have e0 : x.toInt ≠ 0 := fun q => h0 (Int32.toInt_inj.mp (by rw [q]; rfl))
  have e1 : x.toInt ≠ 1 := fun q => h1 (Int32.toInt_inj.mp (by rw [q]; rfl))
  have e2 : x.toInt ≠ 2 := fun q => h2 (Int32.toInt_inj.mp (by rw [q]; rfl))
  have e3 : x.toInt ≠ 3 := fun q => h3 (Int32.toInt_inj.mp (by rw [q]; rfl))
  have e4 : x.toInt ≠ 4 := fun q => h4 (Int32.toInt_inj.mp (by rw [q]; rfl))
  have e5 : x.toInt ≠ 5 := fun q => h5 (Int32.toInt_inj.mp (by rw [q]; rfl))
  have e6 : x.toInt ≠ 6 := fun q => h6 (Int32.toInt_inj.mp (by rw [q]; rfl))
  have e7 : x.toInt ≠ 7 := fun q => h7 (Int32.toInt_inj.mp (by rw [q]; rfl))
  have e8 : x.toInt ≠ 8 := fun q => h8 (Int32.toInt_inj.mp (by rw [q]; rfl))
  have e9 : x.toInt ≠ 9 := fun q => h9 (Int32.toInt_inj.mp (by rw [q]; rfl))
  omega
theorem zsw_out11 {x : Int32} (h0 : ¬ x = 0) (h1 : ¬ x = 1) (h2 : ¬ x = 2) (h3 : ¬ x = 3) (h4 : ¬ x = 4) (h5 : ¬ x = 5) (h6 : ¬ x = 6) (h7 : ¬ x = 7) (h8 : ¬ x = 8) (h9 : ¬ x = 9) (h10 : ¬ x = 10) : x.toInt < 0 ∨ (10 : Int) < x.toInt := by
  have e0 : x.toInt ≠ 0 := fun q => h0 (Int32.toInt_inj.mp (by rw [q]; rfl))
  have e1 : x.toInt ≠ 1 := fun q => h1 (Int32.toInt_inj.mp (by rw [q]; rfl))
  have e2 : x.toInt ≠ 2 := fun q => h2 (Int32.toInt_inj.mp (by rw [q]; rfl))
  have e3 : x.toInt ≠ 3 := fun q => h3 (Int32.toInt_inj.mp (by rw [q]; rfl))
  have e4 : x.toInt ≠ 4 := fun q => h4 (Int32.toInt_inj.mp (by rw [q]; rfl))
  have e5 : x.toInt ≠ 5 := fun q => h5 (Int32.toInt_inj.mp (by rw [q]; rfl))
  have e6 : x.toInt ≠ 6 := fun q => h6 (Int32.toInt_inj.mp (by rw [q]; rfl))
  have e7 : x.toInt ≠ 7 := fun q => h7 (Int32.toInt_inj.mp (by rw [q]; rfl))
  have e8 : x.toInt ≠ 8 := fun q => h8 (Int32.toInt_inj.mp (by rw [q]; rfl))
  have e9 : x.toInt ≠ 9 := fun q => h9 (Int32.toInt_inj.mp (by rw [q]; rfl))
  have e10 : x.toInt ≠ 10 := fun q => h10 (Int32.toInt_inj.mp (by rw [q]; rfl))
  omega
theorem zsw_out12 {x : Int32} (h0 : ¬ x = 0) (h1 : ¬ x = 1) (h2 : ¬ x = 2) (h3 : ¬ x = 3) (h4 : ¬ x = 4) (h5 : ¬ x = 5) (h6 : ¬ x = 6) (h7 : ¬ x = 7) (h8 : ¬ x = 8) (h9 : ¬ x = 9) (h10 : ¬ x = 10) (h11 : ¬ x = 11) : x.toInt < 0 ∨ (11 : Int) < x.toInt := by
  have e0 : x.toInt ≠ 0 := fun q => h0 (Int32.toInt_inj.mp (by rw [q]; rfl))
  have e1 : x.toInt ≠ 1 := fun q => h1 (Int32.toInt_inj.mp (by rw [q]; rfl))
  have e2 : x.toInt ≠ 2 := fun q => h2 (Int32.toInt_inj.mp (by rw [q]; rfl))
  have e3 : x.toInt ≠ 3 := fun q => h3 (Int32.toInt_inj.mp (by rw [q]; rfl))
  have e4 : x.toInt ≠ 4 := fun q => h4 (Int32.toInt_inj.mp (by rw [q]; rfl))
  have e5 : x.toInt ≠ 5 := fun q => h5 (Int32.toInt_inj.mp (by rw [q]; rfl))
  have e6 : x.toInt ≠ 6 := fun q => h6 (Int32.toInt_inj.mp (by rw [q]; rfl))
  have e7 : x.toInt ≠ 7 := fun q => h7 (Int32.toInt_inj.mp (by rw [q]; rfl))
  have e8 : x.toInt ≠ 8 := fun q => h8 (Int32.toInt_inj.mp (by rw [q]; rfl))
  have e9 : x.toInt ≠ 9 := fun q => h9 (Int32.toInt_inj.mp (by rw [q]; rfl))
  have e10 : x.toInt ≠ 10 := fun q => h10 (Int32.toInt_inj.mp (by rw [q]; rfl))
  have e11 : x.toInt ≠ 11 := fun q => h11 (Int32.toInt_inj.mp (by rw [q]; rfl))
  omega
section ZC
variable {p : Program} {l : Launch} {e : Env} {R : Room} {s : State} {m : MethodId} {args : Array Value} {below : List Frame} {meth : Method} {c : Code} {H : Heap} {locs : List Loc} {cells slots : Nat} {Q : State → Prop} {cc : ByteArray} {pc : Nat} {ls : Array Slot} {rest : List Value} {D : va_G} {tys : zTy} {A : Nat → Prop} {own : String} {ret : Option FieldType} {nL : Nat}
abbrev zQI (D : va_G) (tys : zTy) (A : Nat → Prop) (w' : va_W) (r : Int32) : Array Value → State → Outcome → State → Prop := va_Qi (fun r' (_ : Unit) => r' = r) (fun _ t => zT D tys w' A t) A
/-- contract: from the world w with the arguments av: the answer, the world w' -/
def zCI (l : Launch) (y : MethodName) (cy : ByteArray) (nY : Nat) (rt : Option FieldType) (fr lo : Nat) (D : va_G) (tys : zTy) (av : List Value) (w w' : va_W) (r : Int32) : Prop := ∀ sz : Nat, Met l y (.code y cy nY rt :: WT) (zRm fr lo) (va_Pc av (zP D tys w sz)) (zQI D tys (va_A w sz) w' r) 0 0 (va_A w sz)
theorem zCI_of {y : MethodName} {cy : ByteArray} {nY : Nat} {rt : Option FieldType} {fr lo : Nat} {av : List Value} {w w' : va_W} {r : Int32} (hy : plainName y.cls = true) (hm : (lg_sl av).length ≤ nY)
    (body : ∀ (p : Program) (e : Env) (s : State) (m : MethodId) (below : List Frame) (meth : Method) (c : Code) (A : Nat → Prop) (ls : Array Slot), zX p s m meth c cy nY av.toArray y.cls rt A D tys → va_P D vwCl w s.heap → va_D A w → va_S A s.heap s.heap [] → lv_has ls nY (lv_args 0 av) → W p l e (zRm fr lo) s m av.toArray below meth c s.heap [] 0 0 (MQ below (zQI D tys A w' r) av.toArray s 0 0 A) (F0 m 0 ls [])) : zCI l y cy nY rt fr lo D tys av w w' r := by
  intro sz
  refine Met.ofW (cc := cy) (maxL := nY) (ret := rt) hy rfl ?_
  intro p e s m args below meth c s₁ B hml hv
  obtain ⟨rfl, hsz, hP, hK, hD0⟩ := hv
  have hts := atoms_spec (ws := .code y cy nY rt :: WT) B.pre
  subst hsz
  rw [lg_entry_eq]
  exact body p e s m below meth c (va_A w s.heap.size) _ ⟨B.exec, B.bytes, B.returns, fun q h => hts q (List.mem_cons_of_mem _ h), findClass_of_methodNamed B.named, B.notSynchronized, hml, fun q h => Or.inr h, hK⟩ hP hD0.self va_S.rf (lv_entry av hm)
theorem z_cVi {y : MethodName} {cy : ByteArray} {nY index fr lo : Nat} {rt : Option FieldType} {CL : String} {b : Nat} {As : List Value} {w wc wc' : va_W} {r : Int32} (C : zX p s m meth c cc nL args own ret A D tys) (hc : zCI l y cy nY rt fr lo D tys (.ref b :: As) wc wc' r) (cw : GoodIn WT (wsV own index CL y (.code y cy nY rt :: WT))) (hd : y.cls = CL ∧ y.cls ≠ "java/lang/invoke/MethodHandle" ∧ y.cls ≠ "java/lang/invoke/VarHandle" ∧ (parseMethodDescriptor y.desc).map (fun d => d.parameters.length) = some As.length) (hR : fr + 1 ≤ R.frames ∧ 8 + (nY + 11) + lo ≤ R.locals) (hcs : cells ≤ R.cells ∧ slots ≤ R.slots) (hrv : ∃ cell : Cell, H[b]? = some cell ∧ cell.vm.isStatics = false ∧ s.vm.findClass CL = some cell.cls) (hP : va_P D vwCl w H) (hD : va_D A w) (hS : va_S A s.heap H locs) {w2 : va_W} (isC isR isB : List Nat) (hC : isC.map (fun i => w[i]?) = wc.map some) (hR2 : (isR.map (fun i => w[i]?)).all Option.isSome = true) (hB9 : isB.map (fun i => (isR.filterMap (fun i => w[i]?) ++ wc')[i]?) = w2.map some) (hn : va_nd isC = true) (hn2 : va_nd isR = true) (hn3 : va_nd isB = true) (hdis : ∀ i ∈ isR, i ∉ isC) (hls : ls.size = nL) (hroom : (rest.map fun v => v.category).sum ≤ 8) (hdg : decode cc pc = .ok (.invokevirtual index, 3))
    (kk : ∀ (H1 : Heap) (locs1 : List Loc), va_P D vwCl w2 H1 → va_D A w2 → va_S A s.heap H1 locs1 → W p l e R s m args below meth c H1 locs1 cells slots Q (F0 m (pc + 3) ls (.int r :: rest))) : W p l e R s m args below meth c H locs cells slots Q (F0 m pc ls (As.reverse ++ .ref b :: rest)) := by
  obtain ⟨hx, hb, hr, hts, hown, hlocks, hml, hA, hK⟩ := C
  have hDc : va_D A wc := hD.sub isC hn hC
  have hPc : va_P D vwCl wc H := hP.sub isC (zfm2 hC)
  have hFc := va_free hD hS hA isC hC
  refine va_calli (va_runV (As := As) (rest := rest) (nL := nL) (Ts := WT) ⟨hx, hb, hml, hown, hts⟩ (hc H.size) (cwV As.length hts cw rfl rfl rfl hd hR) ⟨zP_blind, hrv, fun U hU hW => ⟨rfl, by rw [hU], by rw [hU]; exact hPc, va_K.moved hW.alike hK, hDc.weaken (fun _ _ _ _ => trivial)⟩⟩ rfl rfl hls rfl (lv_room hroom) hdg hcs) hS (fun q _ h => hFc q h) hFc (fun r0 u t H1 locs1 ht hvm hw hB hz1 hk1 hS => ?_)
  try dsimp only at hw
  subst hw
  obtain ⟨hB1, hB2, hB3⟩ := hB
  rw [ht] at hB1
  have hB : va_P D vwCl _ H1 ∧ True ∧ _ := ⟨hB1, trivial, hB3⟩
  obtain ⟨hP8, hD8⟩ := va_join hP hD isC isR hC (zfm hR2) hn2 hdis hk1 hFc hB.1 hB.2.2
  have hP9 := hP8.sub isB (zfm2 hB9)
  have hD9 := hD8.sub isB hn3 hB9
  exact kk H1 locs1 hP9 hD9 hS
theorem z_cVi0 {y : MethodName} {cy : ByteArray} {nY index fr lo : Nat} {rt : Option FieldType} {CL : String} {b : Nat} {As : List Value} {w wc' : va_W} {r : Int32} (C : zX p s m meth c cc nL args own ret A D tys) (hc : zCI l y cy nY rt fr lo D tys (.ref b :: As) w wc' r) (cw : GoodIn WT (wsV own index CL y (.code y cy nY rt :: WT))) (hd : y.cls = CL ∧ y.cls ≠ "java/lang/invoke/MethodHandle" ∧ y.cls ≠ "java/lang/invoke/VarHandle" ∧ (parseMethodDescriptor y.desc).map (fun d => d.parameters.length) = some As.length) (hR : fr + 1 ≤ R.frames ∧ 8 + (nY + 11) + lo ≤ R.locals) (hcs : cells ≤ R.cells ∧ slots ≤ R.slots) (hrv : ∃ cell : Cell, H[b]? = some cell ∧ cell.vm.isStatics = false ∧ s.vm.findClass CL = some cell.cls) (hP : va_P D vwCl w H) (hD : va_D A w) (hS : va_S A s.heap H locs)  (hls : ls.size = nL) (hroom : (rest.map fun v => v.category).sum ≤ 8) (hdg : decode cc pc = .ok (.invokevirtual index, 3))
    (kk : ∀ (H1 : Heap) (locs1 : List Loc), va_P D vwCl wc' H1 → va_D A wc' → va_S A s.heap H1 locs1 → W p l e R s m args below meth c H1 locs1 cells slots Q (F0 m (pc + 3) ls (.int r :: rest))) : W p l e R s m args below meth c H locs cells slots Q (F0 m pc ls (As.reverse ++ .ref b :: rest)) := by
  obtain ⟨hx, hb, hr, hts, hown, hlocks, hml, hA, hK⟩ := C
  have hDc : va_D A w := hD
  have hPc : va_P D vwCl w H := hP
  have hFc := zfree hD hS hA
  refine va_calli (va_runV (As := As) (rest := rest) (nL := nL) (Ts := WT) ⟨hx, hb, hml, hown, hts⟩ (hc H.size) (cwV As.length hts cw rfl rfl rfl hd hR) ⟨zP_blind, hrv, fun U hU hW => ⟨rfl, by rw [hU], by rw [hU]; exact hPc, va_K.moved hW.alike hK, hDc.weaken (fun _ _ _ _ => trivial)⟩⟩ rfl rfl hls rfl (lv_room hroom) hdg hcs) hS (fun q _ h => hFc q h) hFc (fun r0 u t H1 locs1 ht hvm hw hB hz1 hk1 hS => ?_)
  try dsimp only at hw
  subst hw
  obtain ⟨hB1, hB2, hB3⟩ := hB
  rw [ht] at hB1
  have hB : va_P D vwCl _ H1 ∧ True ∧ _ := ⟨hB1, trivial, hB3⟩
  have hP9 := hB.1
  have hD9 : va_D A wc' := hB.2.2.weaken (fun _ _ _ h => hFc _ h)
  exact kk H1 locs1 hP9 hD9 hS
theorem z_cSi {y : MethodName} {cy : ByteArray} {nY index fr lo : Nat} {rt : Option FieldType}  {As : List Value} {w wc wc' : va_W} {r : Int32} (C : zX p s m meth c cc nL args own ret A D tys) (hc : zCI l y cy nY rt fr lo D tys As wc wc' r) (cw : GoodIn WT (va_wsS own index y (.code y cy nY rt :: WT))) (hd : y.cls ≠ "java/lang/invoke/MethodHandle" ∧ y.cls ≠ "java/lang/invoke/VarHandle" ∧ (parseMethodDescriptor y.desc).map (fun d => d.parameters.length) = some As.length) (hR : fr + 1 ≤ R.frames ∧ 8 + (nY + 11) + lo ≤ R.locals) (hcs : cells ≤ R.cells ∧ slots ≤ R.slots)  (hP : va_P D vwCl w H) (hD : va_D A w) (hS : va_S A s.heap H locs) {w2 : va_W} (isC isR isB : List Nat) (hC : isC.map (fun i => w[i]?) = wc.map some) (hR2 : (isR.map (fun i => w[i]?)).all Option.isSome = true) (hB9 : isB.map (fun i => (isR.filterMap (fun i => w[i]?) ++ wc')[i]?) = w2.map some) (hn : va_nd isC = true) (hn2 : va_nd isR = true) (hn3 : va_nd isB = true) (hdis : ∀ i ∈ isR, i ∉ isC) (hls : ls.size = nL) (hroom : (rest.map fun v => v.category).sum ≤ 8) (hdg : decode cc pc = .ok (.invokestatic index, 3))
    (kk : ∀ (H1 : Heap) (locs1 : List Loc), va_P D vwCl w2 H1 → va_D A w2 → va_S A s.heap H1 locs1 → W p l e R s m args below meth c H1 locs1 cells slots Q (F0 m (pc + 3) ls (.int r :: rest))) : W p l e R s m args below meth c H locs cells slots Q (F0 m pc ls (As.reverse ++ rest)) := by
  obtain ⟨hx, hb, hr, hts, hown, hlocks, hml, hA, hK⟩ := C
  have hDc : va_D A wc := hD.sub isC hn hC
  have hPc : va_P D vwCl wc H := hP.sub isC (zfm2 hC)
  have hFc := va_free hD hS hA isC hC
  refine va_calli (va_runS (As := As) (rest := rest) (nL := nL) (Ts := WT) ⟨hx, hb, hml, hown, hts⟩ (hc H.size) (va_cwS As.length hts cw rfl rfl rfl hd hR) ⟨zP_blind, fun U hU hW => ⟨rfl, by rw [hU], by rw [hU]; exact hPc, va_K.moved hW.alike hK, hDc.weaken (fun _ _ _ _ => trivial)⟩⟩ rfl rfl hls rfl (lv_room hroom) hdg hcs) hS (fun q _ h => hFc q h) hFc (fun r0 u t H1 locs1 ht hvm hw hB hz1 hk1 hS => ?_)
  try dsimp only at hw
  subst hw
  obtain ⟨hB1, hB2, hB3⟩ := hB
  rw [ht] at hB1
  have hB : va_P D vwCl _ H1 ∧ True ∧ _ := ⟨hB1, trivial, hB3⟩
  obtain ⟨hP8, hD8⟩ := va_join hP hD isC isR hC (zfm hR2) hn2 hdis hk1 hFc hB.1 hB.2.2
  have hP9 := hP8.sub isB (zfm2 hB9)
  have hD9 := hD8.sub isB hn3 hB9
  exact kk H1 locs1 hP9 hD9 hS
theorem z_cSi0 {y : MethodName} {cy : ByteArray} {nY index fr lo : Nat} {rt : Option FieldType}  {As : List Value} {w wc' : va_W} {r : Int32} (C : zX p s m meth c cc nL args own ret A D tys) (hc : zCI l y cy nY rt fr lo D tys As w wc' r) (cw : GoodIn WT (va_wsS own index y (.code y cy nY rt :: WT))) (hd : y.cls ≠ "java/lang/invoke/MethodHandle" ∧ y.cls ≠ "java/lang/invoke/VarHandle" ∧ (parseMethodDescriptor y.desc).map (fun d => d.parameters.length) = some As.length) (hR : fr + 1 ≤ R.frames ∧ 8 + (nY + 11) + lo ≤ R.locals) (hcs : cells ≤ R.cells ∧ slots ≤ R.slots)  (hP : va_P D vwCl w H) (hD : va_D A w) (hS : va_S A s.heap H locs)  (hls : ls.size = nL) (hroom : (rest.map fun v => v.category).sum ≤ 8) (hdg : decode cc pc = .ok (.invokestatic index, 3))
    (kk : ∀ (H1 : Heap) (locs1 : List Loc), va_P D vwCl wc' H1 → va_D A wc' → va_S A s.heap H1 locs1 → W p l e R s m args below meth c H1 locs1 cells slots Q (F0 m (pc + 3) ls (.int r :: rest))) : W p l e R s m args below meth c H locs cells slots Q (F0 m pc ls (As.reverse ++ rest)) := by
  obtain ⟨hx, hb, hr, hts, hown, hlocks, hml, hA, hK⟩ := C
  have hDc : va_D A w := hD
  have hPc : va_P D vwCl w H := hP
  have hFc := zfree hD hS hA
  refine va_calli (va_runS (As := As) (rest := rest) (nL := nL) (Ts := WT) ⟨hx, hb, hml, hown, hts⟩ (hc H.size) (va_cwS As.length hts cw rfl rfl rfl hd hR) ⟨zP_blind, fun U hU hW => ⟨rfl, by rw [hU], by rw [hU]; exact hPc, va_K.moved hW.alike hK, hDc.weaken (fun _ _ _ _ => trivial)⟩⟩ rfl rfl hls rfl (lv_room hroom) hdg hcs) hS (fun q _ h => hFc q h) hFc (fun r0 u t H1 locs1 ht hvm hw hB hz1 hk1 hS => ?_)
  try dsimp only at hw
  subst hw
  obtain ⟨hB1, hB2, hB3⟩ := hB
  rw [ht] at hB1
  have hB : va_P D vwCl _ H1 ∧ True ∧ _ := ⟨hB1, trivial, hB3⟩
  have hP9 := hB.1
  have hD9 : va_D A wc' := hB.2.2.weaken (fun _ _ _ h => hFc _ h)
  exact kk H1 locs1 hP9 hD9 hS
theorem z_cSiE {y : MethodName} {cy : ByteArray} {nY index fr lo : Nat} {rt : Option FieldType}  {As : List Value} {w : va_W} {r : Int32} (C : zX p s m meth c cc nL args own ret A D tys) (hc : zCI l y cy nY rt fr lo D tys As [] [] r) (cw : GoodIn WT (va_wsS own index y (.code y cy nY rt :: WT))) (hd : y.cls ≠ "java/lang/invoke/MethodHandle" ∧ y.cls ≠ "java/lang/invoke/VarHandle" ∧ (parseMethodDescriptor y.desc).map (fun d => d.parameters.length) = some As.length) (hR : fr + 1 ≤ R.frames ∧ 8 + (nY + 11) + lo ≤ R.locals) (hcs : cells ≤ R.cells ∧ slots ≤ R.slots)  (hP : va_P D vwCl w H) (hD : va_D A w) (hS : va_S A s.heap H locs)  (hls : ls.size = nL) (hroom : (rest.map fun v => v.category).sum ≤ 8) (hdg : decode cc pc = .ok (.invokestatic index, 3))
    (kk : ∀ (H1 : Heap) (locs1 : List Loc), va_P D vwCl w H1 → va_D A w → va_S A s.heap H1 locs1 → W p l e R s m args below meth c H1 locs1 cells slots Q (F0 m (pc + 3) ls (.int r :: rest))) : W p l e R s m args below meth c H locs cells slots Q (F0 m pc ls (As.reverse ++ rest)) := by
  obtain ⟨hx, hb, hr, hts, hown, hlocks, hml, hA, hK⟩ := C
  have hDc : va_D A ([] : va_W) := ⟨fun i j p q h => by simp at h, fun k q h => by simp at h⟩
  have hPc : va_P D vwCl ([] : va_W) H := fun k q h => by simp at h
  have hFc : ∀ q, va_A ([] : va_W) H.size q → A q := fun q h => by
    rcases h with ⟨k, e, hk⟩ | h
    · simp at hk
    · exact hA q (Nat.le_trans hS.1 h)
  refine va_calli (va_runS (As := As) (rest := rest) (nL := nL) (Ts := WT) ⟨hx, hb, hml, hown, hts⟩ (hc H.size) (va_cwS As.length hts cw rfl rfl rfl hd hR) ⟨zP_blind, fun U hU hW => ⟨rfl, by rw [hU], by rw [hU]; exact hPc, va_K.moved hW.alike hK, hDc.weaken (fun _ _ _ _ => trivial)⟩⟩ rfl rfl hls rfl (lv_room hroom) hdg hcs) hS (fun q _ h => hFc q h) hFc (fun r0 u t H1 locs1 ht hvm hw hB hz1 hk1 hS => ?_)
  try dsimp only at hw
  subst hw
  obtain ⟨hB1, hB2, hB3⟩ := hB
  rw [ht] at hB1
  have hB : va_P D vwCl _ H1 ∧ True ∧ _ := ⟨hB1, trivial, hB3⟩
  have hD9 := hD
  have hP9 : va_P D vwCl w H1 := hP.kept (fun k q hk => hk1 q.1 (va_at.lt (hP k q hk)) (fun h => by
    rcases h with ⟨k2, e2, hk2⟩ | h
    · simp at hk2
    · exact absurd h (Nat.not_le.mpr (va_at.lt (hP k q hk)))))
  exact kk H1 locs1 hP9 hD9 hS
abbrev zQL (D : va_G) (tys : zTy) (A : Nat → Prop) (w' : va_W) (r : Int64) : Array Value → State → Outcome → State → Prop := va_Ql (fun r' (_ : Unit) => r' = r) (fun _ t => zT D tys w' A t) A
/-- contract: from the world w with the arguments av: the answer, the world w' -/
def zCL (l : Launch) (y : MethodName) (cy : ByteArray) (nY : Nat) (rt : Option FieldType) (fr lo : Nat) (D : va_G) (tys : zTy) (av : List Value) (w w' : va_W) (r : Int64) : Prop := ∀ sz : Nat, Met l y (.code y cy nY rt :: WT) (zRm fr lo) (va_Pc av (zP D tys w sz)) (zQL D tys (va_A w sz) w' r) 0 0 (va_A w sz)
theorem zCL_of {y : MethodName} {cy : ByteArray} {nY : Nat} {rt : Option FieldType} {fr lo : Nat} {av : List Value} {w w' : va_W} {r : Int64} (hy : plainName y.cls = true) (hm : (lg_sl av).length ≤ nY)
    (body : ∀ (p : Program) (e : Env) (s : State) (m : MethodId) (below : List Frame) (meth : Method) (c : Code) (A : Nat → Prop) (ls : Array Slot), zX p s m meth c cy nY av.toArray y.cls rt A D tys → va_P D vwCl w s.heap → va_D A w → va_S A s.heap s.heap [] → lv_has ls nY (lv_args 0 av) → W p l e (zRm fr lo) s m av.toArray below meth c s.heap [] 0 0 (MQ below (zQL D tys A w' r) av.toArray s 0 0 A) (F0 m 0 ls [])) : zCL l y cy nY rt fr lo D tys av w w' r := by
  intro sz
  refine Met.ofW (cc := cy) (maxL := nY) (ret := rt) hy rfl ?_
  intro p e s m args below meth c s₁ B hml hv
  obtain ⟨rfl, hsz, hP, hK, hD0⟩ := hv
  have hts := atoms_spec (ws := .code y cy nY rt :: WT) B.pre
  subst hsz
  rw [lg_entry_eq]
  exact body p e s m below meth c (va_A w s.heap.size) _ ⟨B.exec, B.bytes, B.returns, fun q h => hts q (List.mem_cons_of_mem _ h), findClass_of_methodNamed B.named, B.notSynchronized, hml, fun q h => Or.inr h, hK⟩ hP hD0.self va_S.rf (lv_entry av hm)
theorem z_cVl {y : MethodName} {cy : ByteArray} {nY index fr lo : Nat} {rt : Option FieldType} {CL : String} {b : Nat} {As : List Value} {w wc wc' : va_W} {r : Int64} (C : zX p s m meth c cc nL args own ret A D tys) (hc : zCL l y cy nY rt fr lo D tys (.ref b :: As) wc wc' r) (cw : GoodIn WT (wsV own index CL y (.code y cy nY rt :: WT))) (hd : y.cls = CL ∧ y.cls ≠ "java/lang/invoke/MethodHandle" ∧ y.cls ≠ "java/lang/invoke/VarHandle" ∧ (parseMethodDescriptor y.desc).map (fun d => d.parameters.length) = some As.length) (hR : fr + 1 ≤ R.frames ∧ 8 + (nY + 11) + lo ≤ R.locals) (hcs : cells ≤ R.cells ∧ slots ≤ R.slots) (hrv : ∃ cell : Cell, H[b]? = some cell ∧ cell.vm.isStatics = false ∧ s.vm.findClass CL = some cell.cls) (hP : va_P D vwCl w H) (hD : va_D A w) (hS : va_S A s.heap H locs) {w2 : va_W} (isC isR isB : List Nat) (hC : isC.map (fun i => w[i]?) = wc.map some) (hR2 : (isR.map (fun i => w[i]?)).all Option.isSome = true) (hB9 : isB.map (fun i => (isR.filterMap (fun i => w[i]?) ++ wc')[i]?) = w2.map some) (hn : va_nd isC = true) (hn2 : va_nd isR = true) (hn3 : va_nd isB = true) (hdis : ∀ i ∈ isR, i ∉ isC) (hls : ls.size = nL) (hroom : (rest.map fun v => v.category).sum ≤ 8) (hdg : decode cc pc = .ok (.invokevirtual index, 3))
    (kk : ∀ (H1 : Heap) (locs1 : List Loc), va_P D vwCl w2 H1 → va_D A w2 → va_S A s.heap H1 locs1 → W p l e R s m args below meth c H1 locs1 cells slots Q (F0 m (pc + 3) ls (.long r :: rest))) : W p l e R s m args below meth c H locs cells slots Q (F0 m pc ls (As.reverse ++ .ref b :: rest)) := by
  obtain ⟨hx, hb, hr, hts, hown, hlocks, hml, hA, hK⟩ := C
  have hDc : va_D A wc := hD.sub isC hn hC
  have hPc : va_P D vwCl wc H := hP.sub isC (zfm2 hC)
  have hFc := va_free hD hS hA isC hC
  refine va_calll (va_runV (As := As) (rest := rest) (nL := nL) (Ts := WT) ⟨hx, hb, hml, hown, hts⟩ (hc H.size) (cwV As.length hts cw rfl rfl rfl hd hR) ⟨zP_blind, hrv, fun U hU hW => ⟨rfl, by rw [hU], by rw [hU]; exact hPc, va_K.moved hW.alike hK, hDc.weaken (fun _ _ _ _ => trivial)⟩⟩ rfl rfl hls rfl (lv_room hroom) hdg hcs) hS (fun q _ h => hFc q h) hFc (fun r0 u t H1 locs1 ht hvm hw hB hz1 hk1 hS => ?_)
  try dsimp only at hw
  subst hw
  obtain ⟨hB1, hB2, hB3⟩ := hB
  rw [ht] at hB1
  have hB : va_P D vwCl _ H1 ∧ True ∧ _ := ⟨hB1, trivial, hB3⟩
  obtain ⟨hP8, hD8⟩ := va_join hP hD isC isR hC (zfm hR2) hn2 hdis hk1 hFc hB.1 hB.2.2
  have hP9 := hP8.sub isB (zfm2 hB9)
  have hD9 := hD8.sub isB hn3 hB9
  exact kk H1 locs1 hP9 hD9 hS
theorem z_cVl0 {y : MethodName} {cy : ByteArray} {nY index fr lo : Nat} {rt : Option FieldType} {CL : String} {b : Nat} {As : List Value} {w wc' : va_W} {r : Int64} (C : zX p s m meth c cc nL args own ret A D tys) (hc : zCL l y cy nY rt fr lo D tys (.ref b :: As) w wc' r) (cw : GoodIn WT (wsV own index CL y (.code y cy nY rt :: WT))) (hd : y.cls = CL ∧ y.cls ≠ "java/lang/invoke/MethodHandle" ∧ y.cls ≠ "java/lang/invoke/VarHandle" ∧ (parseMethodDescriptor y.desc).map (fun d => d.parameters.length) = some As.length) (hR : fr + 1 ≤ R.frames ∧ 8 + (nY + 11) + lo ≤ R.locals) (hcs : cells ≤ R.cells ∧ slots ≤ R.slots) (hrv : ∃ cell : Cell, H[b]? = some cell ∧ cell.vm.isStatics = false ∧ s.vm.findClass CL = some cell.cls) (hP : va_P D vwCl w H) (hD : va_D A w) (hS : va_S A s.heap H locs)  (hls : ls.size = nL) (hroom : (rest.map fun v => v.category).sum ≤ 8) (hdg : decode cc pc = .ok (.invokevirtual index, 3))
    (kk : ∀ (H1 : Heap) (locs1 : List Loc), va_P D vwCl wc' H1 → va_D A wc' → va_S A s.heap H1 locs1 → W p l e R s m args below meth c H1 locs1 cells slots Q (F0 m (pc + 3) ls (.long r :: rest))) : W p l e R s m args below meth c H locs cells slots Q (F0 m pc ls (As.reverse ++ .ref b :: rest)) := by
  obtain ⟨hx, hb, hr, hts, hown, hlocks, hml, hA, hK⟩ := C
  have hDc : va_D A w := hD
  have hPc : va_P D vwCl w H := hP
  have hFc := zfree hD hS hA
  refine va_calll (va_runV (As := As) (rest := rest) (nL := nL) (Ts := WT) ⟨hx, hb, hml, hown, hts⟩ (hc H.size) (cwV As.length hts cw rfl rfl rfl hd hR) ⟨zP_blind, hrv, fun U hU hW => ⟨rfl, by rw [hU], by rw [hU]; exact hPc, va_K.moved hW.alike hK, hDc.weaken (fun _ _ _ _ => trivial)⟩⟩ rfl rfl hls rfl (lv_room hroom) hdg hcs) hS (fun q _ h => hFc q h) hFc (fun r0 u t H1 locs1 ht hvm hw hB hz1 hk1 hS => ?_)
  try dsimp only at hw
  subst hw
  obtain ⟨hB1, hB2, hB3⟩ := hB
  rw [ht] at hB1
  have hB : va_P D vwCl _ H1 ∧ True ∧ _ := ⟨hB1, trivial, hB3⟩
  have hP9 := hB.1
  have hD9 : va_D A wc' := hB.2.2.weaken (fun _ _ _ h => hFc _ h)
  exact kk H1 locs1 hP9 hD9 hS
theorem z_cSl {y : MethodName} {cy : ByteArray} {nY index fr lo : Nat} {rt : Option FieldType}  {As : List Value} {w wc wc' : va_W} {r : Int64} (C : zX p s m meth c cc nL args own ret A D tys) (hc : zCL l y cy nY rt fr lo D tys As wc wc' r) (cw : GoodIn WT (va_wsS own index y (.code y cy nY rt :: WT))) (hd : y.cls ≠ "java/lang/invoke/MethodHandle" ∧ y.cls ≠ "java/lang/invoke/VarHandle" ∧ (parseMethodDescriptor y.desc).map (fun d => d.parameters.length) = some As.length) (hR : fr + 1 ≤ R.frames ∧ 8 + (nY + 11) + lo ≤ R.locals) (hcs : cells ≤ R.cells ∧ slots ≤ R.slots)  (hP : va_P D vwCl w H) (hD : va_D A w) (hS : va_S A s.heap H locs) {w2 : va_W} (isC isR isB : List Nat) (hC : isC.map (fun i => w[i]?) = wc.map some) (hR2 : (isR.map (fun i => w[i]?)).all Option.isSome = true) (hB9 : isB.map (fun i => (isR.filterMap (fun i => w[i]?) ++ wc')[i]?) = w2.map some) (hn : va_nd isC = true) (hn2 : va_nd isR = true) (hn3 : va_nd isB = true) (hdis : ∀ i ∈ isR, i ∉ isC) (hls : ls.size = nL) (hroom : (rest.map fun v => v.category).sum ≤ 8) (hdg : decode cc pc = .ok (.invokestatic index, 3))
    (kk : ∀ (H1 : Heap) (locs1 : List Loc), va_P D vwCl w2 H1 → va_D A w2 → va_S A s.heap H1 locs1 → W p l e R s m args below meth c H1 locs1 cells slots Q (F0 m (pc + 3) ls (.long r :: rest))) : W p l e R s m args below meth c H locs cells slots Q (F0 m pc ls (As.reverse ++ rest)) := by
  obtain ⟨hx, hb, hr, hts, hown, hlocks, hml, hA, hK⟩ := C
  have hDc : va_D A wc := hD.sub isC hn hC
  have hPc : va_P D vwCl wc H := hP.sub isC (zfm2 hC)
  have hFc := va_free hD hS hA isC hC
  refine va_calll (va_runS (As := As) (rest := rest) (nL := nL) (Ts := WT) ⟨hx, hb, hml, hown, hts⟩ (hc H.size) (va_cwS As.length hts cw rfl rfl rfl hd hR) ⟨zP_blind, fun U hU hW => ⟨rfl, by rw [hU], by rw [hU]; exact hPc, va_K.moved hW.alike hK, hDc.weaken (fun _ _ _ _ => trivial)⟩⟩ rfl rfl hls rfl (lv_room hroom) hdg hcs) hS (fun q _ h => hFc q h) hFc (fun r0 u t H1 locs1 ht hvm hw hB hz1 hk1 hS => ?_)
  try dsimp only at hw
  subst hw
  obtain ⟨hB1, hB2, hB3⟩ := hB
  rw [ht] at hB1
  have hB : va_P D vwCl _ H1 ∧ True ∧ _ := ⟨hB1, trivial, hB3⟩
  obtain ⟨hP8, hD8⟩ := va_join hP hD isC isR hC (zfm hR2) hn2 hdis hk1 hFc hB.1 hB.2.2
  have hP9 := hP8.sub isB (zfm2 hB9)
  have hD9 := hD8.sub isB hn3 hB9
  exact kk H1 locs1 hP9 hD9 hS
theorem z_cSl0 {y : MethodName} {cy : ByteArray} {nY index fr lo : Nat} {rt : Option FieldType}  {As : List Value} {w wc' : va_W} {r : Int64} (C : zX p s m meth c cc nL args own ret A D tys) (hc : zCL l y cy nY rt fr lo D tys As w wc' r) (cw : GoodIn WT (va_wsS own index y (.code y cy nY rt :: WT))) (hd : y.cls ≠ "java/lang/invoke/MethodHandle" ∧ y.cls ≠ "java/lang/invoke/VarHandle" ∧ (parseMethodDescriptor y.desc).map (fun d => d.parameters.length) = some As.length) (hR : fr + 1 ≤ R.frames ∧ 8 + (nY + 11) + lo ≤ R.locals) (hcs : cells ≤ R.cells ∧ slots ≤ R.slots)  (hP : va_P D vwCl w H) (hD : va_D A w) (hS : va_S A s.heap H locs)  (hls : ls.size = nL) (hroom : (rest.map fun v => v.category).sum ≤ 8) (hdg : decode cc pc = .ok (.invokestatic index, 3))
    (kk : ∀ (H1 : Heap) (locs1 : List Loc), va_P D vwCl wc' H1 → va_D A wc' → va_S A s.heap H1 locs1 → W p l e R s m args below meth c H1 locs1 cells slots Q (F0 m (pc + 3) ls (.long r :: rest))) : W p l e R s m args below meth c H locs cells slots Q (F0 m pc ls (As.reverse ++ rest)) := by
  obtain ⟨hx, hb, hr, hts, hown, hlocks, hml, hA, hK⟩ := C
  have hDc : va_D A w := hD
  have hPc : va_P D vwCl w H := hP
  have hFc := zfree hD hS hA
  refine va_calll (va_runS (As := As) (rest := rest) (nL := nL) (Ts := WT) ⟨hx, hb, hml, hown, hts⟩ (hc H.size) (va_cwS As.length hts cw rfl rfl rfl hd hR) ⟨zP_blind, fun U hU hW => ⟨rfl, by rw [hU], by rw [hU]; exact hPc, va_K.moved hW.alike hK, hDc.weaken (fun _ _ _ _ => trivial)⟩⟩ rfl rfl hls rfl (lv_room hroom) hdg hcs) hS (fun q _ h => hFc q h) hFc (fun r0 u t H1 locs1 ht hvm hw hB hz1 hk1 hS => ?_)
  try dsimp only at hw
  subst hw
  obtain ⟨hB1, hB2, hB3⟩ := hB
  rw [ht] at hB1
  have hB : va_P D vwCl _ H1 ∧ True ∧ _ := ⟨hB1, trivial, hB3⟩
  have hP9 := hB.1
  have hD9 : va_D A wc' := hB.2.2.weaken (fun _ _ _ h => hFc _ h)
  exact kk H1 locs1 hP9 hD9 hS
theorem z_cSlE {y : MethodName} {cy : ByteArray} {nY index fr lo : Nat} {rt : Option FieldType}  {As : List Value} {w : va_W} {r : Int64} (C : zX p s m meth c cc nL args own ret A D tys) (hc : zCL l y cy nY rt fr lo D tys As [] [] r) (cw : GoodIn WT (va_wsS own index y (.code y cy nY rt :: WT))) (hd : y.cls ≠ "java/lang/invoke/MethodHandle" ∧ y.cls ≠ "java/lang/invoke/VarHandle" ∧ (parseMethodDescriptor y.desc).map (fun d => d.parameters.length) = some As.length) (hR : fr + 1 ≤ R.frames ∧ 8 + (nY + 11) + lo ≤ R.locals) (hcs : cells ≤ R.cells ∧ slots ≤ R.slots)  (hP : va_P D vwCl w H) (hD : va_D A w) (hS : va_S A s.heap H locs)  (hls : ls.size = nL) (hroom : (rest.map fun v => v.category).sum ≤ 8) (hdg : decode cc pc = .ok (.invokestatic index, 3))
    (kk : ∀ (H1 : Heap) (locs1 : List Loc), va_P D vwCl w H1 → va_D A w → va_S A s.heap H1 locs1 → W p l e R s m args below meth c H1 locs1 cells slots Q (F0 m (pc + 3) ls (.long r :: rest))) : W p l e R s m args below meth c H locs cells slots Q (F0 m pc ls (As.reverse ++ rest)) := by
  obtain ⟨hx, hb, hr, hts, hown, hlocks, hml, hA, hK⟩ := C
  have hDc : va_D A ([] : va_W) := ⟨fun i j p q h => by simp at h, fun k q h => by simp at h⟩
  have hPc : va_P D vwCl ([] : va_W) H := fun k q h => by simp at h
  have hFc : ∀ q, va_A ([] : va_W) H.size q → A q := fun q h => by
    rcases h with ⟨k, e, hk⟩ | h
    · simp at hk
    · exact hA q (Nat.le_trans hS.1 h)
  refine va_calll (va_runS (As := As) (rest := rest) (nL := nL) (Ts := WT) ⟨hx, hb, hml, hown, hts⟩ (hc H.size) (va_cwS As.length hts cw rfl rfl rfl hd hR) ⟨zP_blind, fun U hU hW => ⟨rfl, by rw [hU], by rw [hU]; exact hPc, va_K.moved hW.alike hK, hDc.weaken (fun _ _ _ _ => trivial)⟩⟩ rfl rfl hls rfl (lv_room hroom) hdg hcs) hS (fun q _ h => hFc q h) hFc (fun r0 u t H1 locs1 ht hvm hw hB hz1 hk1 hS => ?_)
  try dsimp only at hw
  subst hw
  obtain ⟨hB1, hB2, hB3⟩ := hB
  rw [ht] at hB1
  have hB : va_P D vwCl _ H1 ∧ True ∧ _ := ⟨hB1, trivial, hB3⟩
  have hD9 := hD
  have hP9 : va_P D vwCl w H1 := hP.kept (fun k q hk => hk1 q.1 (va_at.lt (hP k q hk)) (fun h => by
    rcases h with ⟨k2, e2, hk2⟩ | h
    · simp at hk2
    · exact absurd h (Nat.not_le.mpr (va_at.lt (hP k q hk)))))
  exact kk H1 locs1 hP9 hD9 hS
abbrev zQV (D : va_G) (tys : zTy) (A : Nat → Prop) (w' : va_W)  : Array Value → State → Outcome → State → Prop := va_Qv (fun (_ : Unit) => True) (fun _ t => zT D tys w' A t) A
/-- contract: from the world w with the arguments av: the answer, the world w' -/
def zCV (l : Launch) (y : MethodName) (cy : ByteArray) (nY : Nat) (rt : Option FieldType) (fr lo : Nat) (D : va_G) (tys : zTy) (av : List Value) (w w' : va_W)  : Prop := ∀ sz : Nat, Met l y (.code y cy nY rt :: WT) (zRm fr lo) (va_Pc av (zP D tys w sz)) (zQV D tys (va_A w sz) w' ) 0 0 (va_A w sz)
theorem zCV_of {y : MethodName} {cy : ByteArray} {nY : Nat} {rt : Option FieldType} {fr lo : Nat} {av : List Value} {w w' : va_W}  (hy : plainName y.cls = true) (hm : (lg_sl av).length ≤ nY)
    (body : ∀ (p : Program) (e : Env) (s : State) (m : MethodId) (below : List Frame) (meth : Method) (c : Code) (A : Nat → Prop) (ls : Array Slot), zX p s m meth c cy nY av.toArray y.cls rt A D tys → va_P D vwCl w s.heap → va_D A w → va_S A s.heap s.heap [] → lv_has ls nY (lv_args 0 av) → W p l e (zRm fr lo) s m av.toArray below meth c s.heap [] 0 0 (MQ below (zQV D tys A w' ) av.toArray s 0 0 A) (F0 m 0 ls [])) : zCV l y cy nY rt fr lo D tys av w w'  := by
  intro sz
  refine Met.ofW (cc := cy) (maxL := nY) (ret := rt) hy rfl ?_
  intro p e s m args below meth c s₁ B hml hv
  obtain ⟨rfl, hsz, hP, hK, hD0⟩ := hv
  have hts := atoms_spec (ws := .code y cy nY rt :: WT) B.pre
  subst hsz
  rw [lg_entry_eq]
  exact body p e s m below meth c (va_A w s.heap.size) _ ⟨B.exec, B.bytes, B.returns, fun q h => hts q (List.mem_cons_of_mem _ h), findClass_of_methodNamed B.named, B.notSynchronized, hml, fun q h => Or.inr h, hK⟩ hP hD0.self va_S.rf (lv_entry av hm)
theorem z_cVv {y : MethodName} {cy : ByteArray} {nY index fr lo : Nat} {rt : Option FieldType} {CL : String} {b : Nat} {As : List Value} {w wc wc' : va_W}  (C : zX p s m meth c cc nL args own ret A D tys) (hc : zCV l y cy nY rt fr lo D tys (.ref b :: As) wc wc' ) (cw : GoodIn WT (wsV own index CL y (.code y cy nY rt :: WT))) (hd : y.cls = CL ∧ y.cls ≠ "java/lang/invoke/MethodHandle" ∧ y.cls ≠ "java/lang/invoke/VarHandle" ∧ (parseMethodDescriptor y.desc).map (fun d => d.parameters.length) = some As.length) (hR : fr + 1 ≤ R.frames ∧ 8 + (nY + 11) + lo ≤ R.locals) (hcs : cells ≤ R.cells ∧ slots ≤ R.slots) (hrv : ∃ cell : Cell, H[b]? = some cell ∧ cell.vm.isStatics = false ∧ s.vm.findClass CL = some cell.cls) (hP : va_P D vwCl w H) (hD : va_D A w) (hS : va_S A s.heap H locs) {w2 : va_W} (isC isR isB : List Nat) (hC : isC.map (fun i => w[i]?) = wc.map some) (hR2 : (isR.map (fun i => w[i]?)).all Option.isSome = true) (hB9 : isB.map (fun i => (isR.filterMap (fun i => w[i]?) ++ wc')[i]?) = w2.map some) (hn : va_nd isC = true) (hn2 : va_nd isR = true) (hn3 : va_nd isB = true) (hdis : ∀ i ∈ isR, i ∉ isC) (hls : ls.size = nL) (hroom : (rest.map fun v => v.category).sum ≤ 8) (hdg : decode cc pc = .ok (.invokevirtual index, 3))
    (kk : ∀ (H1 : Heap) (locs1 : List Loc), va_P D vwCl w2 H1 → va_D A w2 → va_S A s.heap H1 locs1 → W p l e R s m args below meth c H1 locs1 cells slots Q (F0 m (pc + 3) ls (rest))) : W p l e R s m args below meth c H locs cells slots Q (F0 m pc ls (As.reverse ++ .ref b :: rest)) := by
  obtain ⟨hx, hb, hr, hts, hown, hlocks, hml, hA, hK⟩ := C
  have hDc : va_D A wc := hD.sub isC hn hC
  have hPc : va_P D vwCl wc H := hP.sub isC (zfm2 hC)
  have hFc := va_free hD hS hA isC hC
  refine va_callv (va_runV (As := As) (rest := rest) (nL := nL) (Ts := WT) ⟨hx, hb, hml, hown, hts⟩ (hc H.size) (cwV As.length hts cw rfl rfl rfl hd hR) ⟨zP_blind, hrv, fun U hU hW => ⟨rfl, by rw [hU], by rw [hU]; exact hPc, va_K.moved hW.alike hK, hDc.weaken (fun _ _ _ _ => trivial)⟩⟩ rfl rfl hls rfl (lv_room hroom) hdg hcs) hS (fun q _ h => hFc q h) hFc (fun u t H1 locs1 ht hvm hw hB hz1 hk1 hS => ?_)
  
  
  obtain ⟨hB1, hB2, hB3⟩ := hB
  rw [ht] at hB1
  have hB : va_P D vwCl _ H1 ∧ True ∧ _ := ⟨hB1, trivial, hB3⟩
  obtain ⟨hP8, hD8⟩ := va_join hP hD isC isR hC (zfm hR2) hn2 hdis hk1 hFc hB.1 hB.2.2
  have hP9 := hP8.sub isB (zfm2 hB9)
  have hD9 := hD8.sub isB hn3 hB9
  exact kk H1 locs1 hP9 hD9 hS
theorem z_cVv0 {y : MethodName} {cy : ByteArray} {nY index fr lo : Nat} {rt : Option FieldType} {CL : String} {b : Nat} {As : List Value} {w wc' : va_W}  (C : zX p s m meth c cc nL args own ret A D tys) (hc : zCV l y cy nY rt fr lo D tys (.ref b :: As) w wc' ) (cw : GoodIn WT (wsV own index CL y (.code y cy nY rt :: WT))) (hd : y.cls = CL ∧ y.cls ≠ "java/lang/invoke/MethodHandle" ∧ y.cls ≠ "java/lang/invoke/VarHandle" ∧ (parseMethodDescriptor y.desc).map (fun d => d.parameters.length) = some As.length) (hR : fr + 1 ≤ R.frames ∧ 8 + (nY + 11) + lo ≤ R.locals) (hcs : cells ≤ R.cells ∧ slots ≤ R.slots) (hrv : ∃ cell : Cell, H[b]? = some cell ∧ cell.vm.isStatics = false ∧ s.vm.findClass CL = some cell.cls) (hP : va_P D vwCl w H) (hD : va_D A w) (hS : va_S A s.heap H locs)  (hls : ls.size = nL) (hroom : (rest.map fun v => v.category).sum ≤ 8) (hdg : decode cc pc = .ok (.invokevirtual index, 3))
    (kk : ∀ (H1 : Heap) (locs1 : List Loc), va_P D vwCl wc' H1 → va_D A wc' → va_S A s.heap H1 locs1 → W p l e R s m args below meth c H1 locs1 cells slots Q (F0 m (pc + 3) ls (rest))) : W p l e R s m args below meth c H locs cells slots Q (F0 m pc ls (As.reverse ++ .ref b :: rest)) := by
  obtain ⟨hx, hb, hr, hts, hown, hlocks, hml, hA, hK⟩ := C
  have hDc : va_D A w := hD
  have hPc : va_P D vwCl w H := hP
  have hFc := zfree hD hS hA
  refine va_callv (va_runV (As := As) (rest := rest) (nL := nL) (Ts := WT) ⟨hx, hb, hml, hown, hts⟩ (hc H.size) (cwV As.length hts cw rfl rfl rfl hd hR) ⟨zP_blind, hrv, fun U hU hW => ⟨rfl, by rw [hU], by rw [hU]; exact hPc, va_K.moved hW.alike hK, hDc.weaken (fun _ _ _ _ => trivial)⟩⟩ rfl rfl hls rfl (lv_room hroom) hdg hcs) hS (fun q _ h => hFc q h) hFc (fun u t H1 locs1 ht hvm hw hB hz1 hk1 hS => ?_)
  
  
  obtain ⟨hB1, hB2, hB3⟩ := hB
  rw [ht] at hB1
  have hB : va_P D vwCl _ H1 ∧ True ∧ _ := ⟨hB1, trivial, hB3⟩
  have hP9 := hB.1
  have hD9 : va_D A wc' := hB.2.2.weaken (fun _ _ _ h => hFc _ h)
  exact kk H1 locs1 hP9 hD9 hS
theorem z_cSv {y : MethodName} {cy : ByteArray} {nY index fr lo : Nat} {rt : Option FieldType}  {As : List Value} {w wc wc' : va_W}  (C : zX p s m meth c cc nL args own ret A D tys) (hc : zCV l y cy nY rt fr lo D tys As wc wc' ) (cw : GoodIn WT (va_wsS own index y (.code y cy nY rt :: WT))) (hd : y.cls ≠ "java/lang/invoke/MethodHandle" ∧ y.cls ≠ "java/lang/invoke/VarHandle" ∧ (parseMethodDescriptor y.desc).map (fun d => d.parameters.length) = some As.length) (hR : fr + 1 ≤ R.frames ∧ 8 + (nY + 11) + lo ≤ R.locals) (hcs : cells ≤ R.cells ∧ slots ≤ R.slots)  (hP : va_P D vwCl w H) (hD : va_D A w) (hS : va_S A s.heap H locs) {w2 : va_W} (isC isR isB : List Nat) (hC : isC.map (fun i => w[i]?) = wc.map some) (hR2 : (isR.map (fun i => w[i]?)).all Option.isSome = true) (hB9 : isB.map (fun i => (isR.filterMap (fun i => w[i]?) ++ wc')[i]?) = w2.map some) (hn : va_nd isC = true) (hn2 : va_nd isR = true) (hn3 : va_nd isB = true) (hdis : ∀ i ∈ isR, i ∉ isC) (hls : ls.size = nL) (hroom : (rest.map fun v => v.category).sum ≤ 8) (hdg : decode cc pc = .ok (.invokestatic index, 3))
    (kk : ∀ (H1 : Heap) (locs1 : List Loc), va_P D vwCl w2 H1 → va_D A w2 → va_S A s.heap H1 locs1 → W p l e R s m args below meth c H1 locs1 cells slots Q (F0 m (pc + 3) ls (rest))) : W p l e R s m args below meth c H locs cells slots Q (F0 m pc ls (As.reverse ++ rest)) := by
  obtain ⟨hx, hb, hr, hts, hown, hlocks, hml, hA, hK⟩ := C
  have hDc : va_D A wc := hD.sub isC hn hC
  have hPc : va_P D vwCl wc H := hP.sub isC (zfm2 hC)
  have hFc := va_free hD hS hA isC hC
  refine va_callv (va_runS (As := As) (rest := rest) (nL := nL) (Ts := WT) ⟨hx, hb, hml, hown, hts⟩ (hc H.size) (va_cwS As.length hts cw rfl rfl rfl hd hR) ⟨zP_blind, fun U hU hW => ⟨rfl, by rw [hU], by rw [hU]; exact hPc, va_K.moved hW.alike hK, hDc.weaken (fun _ _ _ _ => trivial)⟩⟩ rfl rfl hls rfl (lv_room hroom) hdg hcs) hS (fun q _ h => hFc q h) hFc (fun u t H1 locs1 ht hvm hw hB hz1 hk1 hS => ?_)
  
  
  obtain ⟨hB1, hB2, hB3⟩ := hB
  rw [ht] at hB1
  have hB : va_P D vwCl _ H1 ∧ True ∧ _ := ⟨hB1, trivial, hB3⟩
  obtain ⟨hP8, hD8⟩ := va_join hP hD isC isR hC (zfm hR2) hn2 hdis hk1 hFc hB.1 hB.2.2
  have hP9 := hP8.sub isB (zfm2 hB9)
  have hD9 := hD8.sub isB hn3 hB9
  exact kk H1 locs1 hP9 hD9 hS
theorem z_cSv0 {y : MethodName} {cy : ByteArray} {nY index fr lo : Nat} {rt : Option FieldType}  {As : List Value} {w wc' : va_W}  (C : zX p s m meth c cc nL args own ret A D tys) (hc : zCV l y cy nY rt fr lo D tys As w wc' ) (cw : GoodIn WT (va_wsS own index y (.code y cy nY rt :: WT))) (hd : y.cls ≠ "java/lang/invoke/MethodHandle" ∧ y.cls ≠ "java/lang/invoke/VarHandle" ∧ (parseMethodDescriptor y.desc).map (fun d => d.parameters.length) = some As.length) (hR : fr + 1 ≤ R.frames ∧ 8 + (nY + 11) + lo ≤ R.locals) (hcs : cells ≤ R.cells ∧ slots ≤ R.slots)  (hP : va_P D vwCl w H) (hD : va_D A w) (hS : va_S A s.heap H locs)  (hls : ls.size = nL) (hroom : (rest.map fun v => v.category).sum ≤ 8) (hdg : decode cc pc = .ok (.invokestatic index, 3))
    (kk : ∀ (H1 : Heap) (locs1 : List Loc), va_P D vwCl wc' H1 → va_D A wc' → va_S A s.heap H1 locs1 → W p l e R s m args below meth c H1 locs1 cells slots Q (F0 m (pc + 3) ls (rest))) : W p l e R s m args below meth c H locs cells slots Q (F0 m pc ls (As.reverse ++ rest)) := by
  obtain ⟨hx, hb, hr, hts, hown, hlocks, hml, hA, hK⟩ := C
  have hDc : va_D A w := hD
  have hPc : va_P D vwCl w H := hP
  have hFc := zfree hD hS hA
  refine va_callv (va_runS (As := As) (rest := rest) (nL := nL) (Ts := WT) ⟨hx, hb, hml, hown, hts⟩ (hc H.size) (va_cwS As.length hts cw rfl rfl rfl hd hR) ⟨zP_blind, fun U hU hW => ⟨rfl, by rw [hU], by rw [hU]; exact hPc, va_K.moved hW.alike hK, hDc.weaken (fun _ _ _ _ => trivial)⟩⟩ rfl rfl hls rfl (lv_room hroom) hdg hcs) hS (fun q _ h => hFc q h) hFc (fun u t H1 locs1 ht hvm hw hB hz1 hk1 hS => ?_)
  
  
  obtain ⟨hB1, hB2, hB3⟩ := hB
  rw [ht] at hB1
  have hB : va_P D vwCl _ H1 ∧ True ∧ _ := ⟨hB1, trivial, hB3⟩
  have hP9 := hB.1
  have hD9 : va_D A wc' := hB.2.2.weaken (fun _ _ _ h => hFc _ h)
  exact kk H1 locs1 hP9 hD9 hS
theorem z_cSvE {y : MethodName} {cy : ByteArray} {nY index fr lo : Nat} {rt : Option FieldType}  {As : List Value} {w : va_W}  (C : zX p s m meth c cc nL args own ret A D tys) (hc : zCV l y cy nY rt fr lo D tys As [] [] ) (cw : GoodIn WT (va_wsS own index y (.code y cy nY rt :: WT))) (hd : y.cls ≠ "java/lang/invoke/MethodHandle" ∧ y.cls ≠ "java/lang/invoke/VarHandle" ∧ (parseMethodDescriptor y.desc).map (fun d => d.parameters.length) = some As.length) (hR : fr + 1 ≤ R.frames ∧ 8 + (nY + 11) + lo ≤ R.locals) (hcs : cells ≤ R.cells ∧ slots ≤ R.slots)  (hP : va_P D vwCl w H) (hD : va_D A w) (hS : va_S A s.heap H locs)  (hls : ls.size = nL) (hroom : (rest.map fun v => v.category).sum ≤ 8) (hdg : decode cc pc = .ok (.invokestatic index, 3))
    (kk : ∀ (H1 : Heap) (locs1 : List Loc), va_P D vwCl w H1 → va_D A w → va_S A s.heap H1 locs1 → W p l e R s m args below meth c H1 locs1 cells slots Q (F0 m (pc + 3) ls (rest))) : W p l e R s m args below meth c H locs cells slots Q (F0 m pc ls (As.reverse ++ rest)) := by
  obtain ⟨hx, hb, hr, hts, hown, hlocks, hml, hA, hK⟩ := C
  have hDc : va_D A ([] : va_W) := ⟨fun i j p q h => by simp at h, fun k q h => by simp at h⟩
  have hPc : va_P D vwCl ([] : va_W) H := fun k q h => by simp at h
  have hFc : ∀ q, va_A ([] : va_W) H.size q → A q := fun q h => by
    rcases h with ⟨k, e, hk⟩ | h
    · simp at hk
    · exact hA q (Nat.le_trans hS.1 h)
  refine va_callv (va_runS (As := As) (rest := rest) (nL := nL) (Ts := WT) ⟨hx, hb, hml, hown, hts⟩ (hc H.size) (va_cwS As.length hts cw rfl rfl rfl hd hR) ⟨zP_blind, fun U hU hW => ⟨rfl, by rw [hU], by rw [hU]; exact hPc, va_K.moved hW.alike hK, hDc.weaken (fun _ _ _ _ => trivial)⟩⟩ rfl rfl hls rfl (lv_room hroom) hdg hcs) hS (fun q _ h => hFc q h) hFc (fun u t H1 locs1 ht hvm hw hB hz1 hk1 hS => ?_)
  
  
  obtain ⟨hB1, hB2, hB3⟩ := hB
  rw [ht] at hB1
  have hB : va_P D vwCl _ H1 ∧ True ∧ _ := ⟨hB1, trivial, hB3⟩
  have hD9 := hD
  have hP9 : va_P D vwCl w H1 := hP.kept (fun k q hk => hk1 q.1 (va_at.lt (hP k q hk)) (fun h => by
    rcases h with ⟨k2, e2, hk2⟩ | h
    · simp at hk2
    · exact absurd h (Nat.not_le.mpr (va_at.lt (hP k q hk)))))
  exact kk H1 locs1 hP9 hD9 hS
theorem z_iret {w' : va_W} {v : Int32} (C : zX p s m meth c cc nL args own (some .int) A D tys) (hP : va_P D vwCl w' H) (hD : va_D A w') (hS : va_S A s.heap H locs) (hdg : decode cc pc = .ok (.ireturn, 1)) : W p l e R s m args below meth c H locs cells slots (MQ below (zQI D tys A w' v) args s cells slots A) (F0 m pc ls [.int v]) := by
  obtain ⟨hx, hb, hr, hts, hown, hlocks, hml, hA, hK⟩ := C
  exact W.iret hx hb hr (fun t ht hW => ⟨⟨v, (), rfl, rfl, by rw [ht]; exact hP, va_K.moved hW.alike hK, hD⟩, hS.F ht⟩) hS.2.2 hdg
theorem z_zret {w' : va_W} {v : Int32} {ty : FieldType} (C : zX p s m meth c cc nL args own (some ty) A D tys) (hn : narrow ty (.int v) = .int v) (hP : va_P D vwCl w' H) (hD : va_D A w') (hS : va_S A s.heap H locs) (hdg : decode cc pc = .ok (.ireturn, 1)) : W p l e R s m args below meth c H locs cells slots (MQ below (zQI D tys A w' v) args s cells slots A) (F0 m pc ls [.int v]) := by
  obtain ⟨hx, hb, hr, hts, hown, hlocks, hml, hA, hK⟩ := C
  exact W.zret hx hb hr hn (fun t ht hW => ⟨⟨v, (), rfl, rfl, by rw [ht]; exact hP, va_K.moved hW.alike hK, hD⟩, hS.F ht⟩) hS.2.2 hdg
theorem z_lret {w' : va_W} {v : Int64} (C : zX p s m meth c cc nL args own (some .long) A D tys) (hP : va_P D vwCl w' H) (hD : va_D A w') (hS : va_S A s.heap H locs) (hdg : decode cc pc = .ok (.lreturn, 1)) : W p l e R s m args below meth c H locs cells slots (MQ below (zQL D tys A w' v) args s cells slots A) (F0 m pc ls [.long v]) := by
  obtain ⟨hx, hb, hr, hts, hown, hlocks, hml, hA, hK⟩ := C
  exact W.lret hx hb hr (fun t ht hW => ⟨⟨v, (), rfl, rfl, by rw [ht]; exact hP, va_K.moved hW.alike hK, hD⟩, hS.F ht⟩) hS.2.2 hdg
theorem z_vret {w' : va_W} (C : zX p s m meth c cc nL args own none A D tys) (hP : va_P D vwCl w' H) (hD : va_D A w') (hS : va_S A s.heap H locs) (hdg : decode cc pc = .ok (.return_, 1)) : W p l e R s m args below meth c H locs cells slots (MQ below (zQV D tys A w') args s cells slots A) (F0 m pc ls []) := by
  obtain ⟨hx, hb, hr, hts, hown, hlocks, hml, hA, hK⟩ := C
  exact W.vret hx hb hr (fun t ht hW => ⟨⟨(), rfl, trivial, by rw [ht]; exact hP, va_K.moved hW.alike hK, hD⟩, hS.F ht⟩) hS.2.2 hdg
end ZC
