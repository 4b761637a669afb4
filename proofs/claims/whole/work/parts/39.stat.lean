/-! statics of the class, contracts that need them; calls inside a longer world -/
section YA
theorem zP_iff {D : va_G} {cl : List vw_C} {ws : va_W} {H : Heap} : va_P D cl ws H ↔ ∀ q ∈ ws, va_at D cl q H :=
  ⟨fun h q hq => by obtain ⟨k, hk⟩ := List.mem_iff_getElem?.mp hq; exact h k q hk, fun h k q hk => h q (List.mem_of_getElem? hk)⟩
theorem zD_iff {A : Nat → Prop} {ws : va_W} : va_D A ws ↔ ws.Pairwise (fun p q => p.1 ≠ q.1) ∧ ∀ q ∈ ws, A q.1 := by
  constructor
  · intro h
    refine ⟨?_, fun q hq => by obtain ⟨k, hk⟩ := List.mem_iff_getElem?.mp hq; exact h.2 k q hk⟩
    rw [List.pairwise_iff_getElem]
    intro i j hi hj hij he
    exact absurd (h.1 i j _ _ (List.getElem?_eq_getElem hi) (List.getElem?_eq_getElem hj) he) (Nat.ne_of_lt hij)
  · rintro ⟨h1, h2⟩
    refine ⟨fun i j p q hp hq he => ?_, fun k q hk => h2 q (List.mem_of_getElem? hk)⟩
    rw [List.pairwise_iff_getElem] at h1
    obtain ⟨hi, ei⟩ := List.getElem?_eq_some_iff.mp hp
    obtain ⟨hj, ej⟩ := List.getElem?_eq_some_iff.mp hq
    rcases Nat.lt_trichotomy i j with h | h | h
    · exact absurd (by rw [ei, ej]; exact he) (h1 i j hi hj h)
    · exact h
    · exact absurd (by rw [ei, ej]; exact he.symm) (h1 j i hj hi h)
theorem zD_perm {A : Nat → Prop} {ws ws' : va_W} (h : va_D A ws) (hp : ws.Perm ws') : va_D A ws' := by
  rw [zD_iff] at h ⊢
  exact ⟨(hp.pairwise_iff (fun e => fun q => e q.symm)).mp h.1, fun q hq => h.2 q (hp.mem_iff.mpr hq)⟩
theorem zP_perm {D : va_G} {cl : List vw_C} {ws ws' : va_W} {H : Heap} (h : va_P D cl ws H) (hp : ws.Perm ws') : va_P D cl ws' H := zP_iff.mpr fun q hq => zP_iff.mp h q (hp.mem_iff.mpr hq)
theorem zA_iff {ws : va_W} {sz q : Nat} : va_A ws sz q ↔ (∃ p ∈ ws, p.1 = q) ∨ sz ≤ q := by
  constructor
  · rintro (⟨k, e, hk⟩ | h)
    · exact Or.inl ⟨_, List.mem_of_getElem? hk, rfl⟩
    · exact Or.inr h
  · rintro (⟨p, hp, rfl⟩ | h)
    · obtain ⟨k, hk⟩ := List.mem_iff_getElem?.mp hp
      exact Or.inl ⟨k, p.2, hk⟩
    · exact Or.inr h
/-- a call on Y beside R -/
theorem zjoinR {A0 : Nat → Prop} {D : va_G} {cl : List vw_C} {Y Y' R : va_W} {H H1 : Heap} (hP : va_P D cl (Y ++ R) H) (hD : va_D A0 (Y ++ R))
    (hk : ∀ q : Nat, q < H.size → ¬ va_A Y H.size q → H1[q]? = H[q]?) (hF : ∀ q, va_A Y H.size q → A0 q) (hP1 : va_P D cl Y' H1) (hD1 : va_D (va_A Y H.size) Y') : va_P D cl (Y' ++ R) H1 ∧ va_D A0 (Y' ++ R) := by
  rw [zP_iff] at hP hP1
  rw [zD_iff, List.pairwise_append] at hD
  rw [zD_iff] at hD1
  have hR : ∀ q ∈ R, ¬ va_A Y H.size q.1 := by
    intro q hq h
    rcases zA_iff.mp h with ⟨p, hp, e⟩ | h
    · exact hD.1.2.2 p hp q hq e
    · exact absurd h (Nat.not_le.mpr (va_at.lt (hP q (List.mem_append_right _ hq))))
  refine ⟨zP_iff.mpr fun q hq => ?_, zD_iff.mpr ⟨?_, fun q hq => ?_⟩⟩
  · rcases List.mem_append.mp hq with h | h
    · exact hP1 q h
    · exact (hP q (List.mem_append_right _ h)).kept (hk q.1 (va_at.lt (hP q (List.mem_append_right _ h))) (hR q h))
  · rw [List.pairwise_append]
    exact ⟨hD1.1, hD.1.2.1, fun p hp q hq e => hR q hq (e ▸ hD1.2 p hp)⟩
  · rcases List.mem_append.mp hq with h | h
    · exact hF _ (hD1.2 q h)
    · exact hD.2 q (List.mem_append_right _ h)
theorem zpermM {X Y Z : va_W} : (X ++ (Y ++ Z)).Perm (Y ++ (X ++ Z)) := by
  rw [← List.append_assoc, ← List.append_assoc]
  exact List.Perm.append_right Z List.perm_append_comm
theorem zjoinM {A0 : Nat → Prop} {D : va_G} {cl : List vw_C} {X Y Y' Z : va_W} {H H1 : Heap} (hP : va_P D cl (X ++ (Y ++ Z)) H) (hD : va_D A0 (X ++ (Y ++ Z)))
    (hk : ∀ q : Nat, q < H.size → ¬ va_A Y H.size q → H1[q]? = H[q]?) (hF : ∀ q, va_A Y H.size q → A0 q) (hP1 : va_P D cl Y' H1) (hD1 : va_D (va_A Y H.size) Y') : va_P D cl (X ++ (Y' ++ Z)) H1 ∧ va_D A0 (X ++ (Y' ++ Z)) := by
  obtain ⟨h1, h2⟩ := zjoinR (R := X ++ Z) (zP_perm hP zpermM) (zD_perm hD zpermM) hk hF hP1 hD1
  exact ⟨zP_perm h1 zpermM.symm, zD_perm h2 zpermM.symm⟩
theorem zfreeM {A0 : Nat → Prop} {X Y Z : va_W} {H0 H : Heap} {locs : List Loc} (hD : va_D A0 (X ++ (Y ++ Z))) (hS : va_S A0 H0 H locs) (hA : ∀ q, H0.size ≤ q → A0 q) : ∀ q, va_A Y H.size q → A0 q := fun q h => by
  rcases zA_iff.mp h with ⟨p, hp, rfl⟩ | h
  · exact (zD_iff.mp hD).2 p (List.mem_append_right _ (List.mem_append_left _ hp))
  · exact hA q (Nat.le_trans hS.1 h)
theorem zP_mid {D : va_G} {cl : List vw_C} {X Y Z : va_W} {H : Heap} (h : va_P D cl (X ++ (Y ++ Z)) H) : va_P D cl Y H := zP_iff.mpr fun q hq => zP_iff.mp h q (List.mem_append_right _ (List.mem_append_left _ hq))
theorem zD_mid {A : Nat → Prop} {X Y Z : va_W} (h : va_D A (X ++ (Y ++ Z))) : va_D A Y := by
  rw [zD_iff, List.pairwise_append, List.pairwise_append] at h
  exact zD_iff.mpr ⟨h.1.2.1.1, fun q hq => h.2 q (List.mem_append_right _ (List.mem_append_left _ hq))⟩
end YA
def zl13 {A1 A2 A3 A4 A5 A6 A7 A8 A9 A10 A11 A12 A13 B : Type} (f : (A1 → A2 → A3 → A4 → A5 → A6 → A7 → A8 → A9 → A10 → A11 → A12 → A13 → Option B) → A1 → A2 → A3 → A4 → A5 → A6 → A7 → A8 → A9 → A10 → A11 → A12 → A13 → Option B) : Nat → A1 → A2 → A3 → A4 → A5 → A6 → A7 → A8 → A9 → A10 → A11 → A12 → A13 → Option B
  | 0 => fun _ _ _ _ _ _ _ _ _ _ _ _ _ => none
  | n + 1 => f (zl13 f n)
theorem zl13_s {A1 A2 A3 A4 A5 A6 A7 A8 A9 A10 A11 A12 A13 B : Type} (f : (A1 → A2 → A3 → A4 → A5 → A6 → A7 → A8 → A9 → A10 → A11 → A12 → A13 → Option B) → A1 → A2 → A3 → A4 → A5 → A6 → A7 → A8 → A9 → A10 → A11 → A12 → A13 → Option B) (n : Nat) (a1 : A1) (a2 : A2) (a3 : A3) (a4 : A4) (a5 : A5) (a6 : A6) (a7 : A7) (a8 : A8) (a9 : A9) (a10 : A10) (a11 : A11) (a12 : A12) (a13 : A13) : zl13 f (n + 1) a1 a2 a3 a4 a5 a6 a7 a8 a9 a10 a11 a12 a13 = f (zl13 f n) a1 a2 a3 a4 a5 a6 a7 a8 a9 a10 a11 a12 a13 := rfl
def zl14 {A1 A2 A3 A4 A5 A6 A7 A8 A9 A10 A11 A12 A13 A14 B : Type} (f : (A1 → A2 → A3 → A4 → A5 → A6 → A7 → A8 → A9 → A10 → A11 → A12 → A13 → A14 → Option B) → A1 → A2 → A3 → A4 → A5 → A6 → A7 → A8 → A9 → A10 → A11 → A12 → A13 → A14 → Option B) : Nat → A1 → A2 → A3 → A4 → A5 → A6 → A7 → A8 → A9 → A10 → A11 → A12 → A13 → A14 → Option B
  | 0 => fun _ _ _ _ _ _ _ _ _ _ _ _ _ _ => none
  | n + 1 => f (zl14 f n)
theorem zl14_s {A1 A2 A3 A4 A5 A6 A7 A8 A9 A10 A11 A12 A13 A14 B : Type} (f : (A1 → A2 → A3 → A4 → A5 → A6 → A7 → A8 → A9 → A10 → A11 → A12 → A13 → A14 → Option B) → A1 → A2 → A3 → A4 → A5 → A6 → A7 → A8 → A9 → A10 → A11 → A12 → A13 → A14 → Option B) (n : Nat) (a1 : A1) (a2 : A2) (a3 : A3) (a4 : A4) (a5 : A5) (a6 : A6) (a7 : A7) (a8 : A8) (a9 : A9) (a10 : A10) (a11 : A11) (a12 : A12) (a13 : A13) (a14 : A14) : zl14 f (n + 1) a1 a2 a3 a4 a5 a6 a7 a8 a9 a10 a11 a12 a13 a14 = f (zl14 f n) a1 a2 a3 a4 a5 a6 a7 a8 a9 a10 a11 a12 a13 a14 := rfl
def zl15 {A1 A2 A3 A4 A5 A6 A7 A8 A9 A10 A11 A12 A13 A14 A15 B : Type} (f : (A1 → A2 → A3 → A4 → A5 → A6 → A7 → A8 → A9 → A10 → A11 → A12 → A13 → A14 → A15 → Option B) → A1 → A2 → A3 → A4 → A5 → A6 → A7 → A8 → A9 → A10 → A11 → A12 → A13 → A14 → A15 → Option B) : Nat → A1 → A2 → A3 → A4 → A5 → A6 → A7 → A8 → A9 → A10 → A11 → A12 → A13 → A14 → A15 → Option B
  | 0 => fun _ _ _ _ _ _ _ _ _ _ _ _ _ _ _ => none
  | n + 1 => f (zl15 f n)
theorem zl15_s {A1 A2 A3 A4 A5 A6 A7 A8 A9 A10 A11 A12 A13 A14 A15 B : Type} (f : (A1 → A2 → A3 → A4 → A5 → A6 → A7 → A8 → A9 → A10 → A11 → A12 → A13 → A14 → A15 → Option B) → A1 → A2 → A3 → A4 → A5 → A6 → A7 → A8 → A9 → A10 → A11 → A12 → A13 → A14 → A15 → Option B) (n : Nat) (a1 : A1) (a2 : A2) (a3 : A3) (a4 : A4) (a5 : A5) (a6 : A6) (a7 : A7) (a8 : A8) (a9 : A9) (a10 : A10) (a11 : A11) (a12 : A12) (a13 : A13) (a14 : A14) (a15 : A15) : zl15 f (n + 1) a1 a2 a3 a4 a5 a6 a7 a8 a9 a10 a11 a12 a13 a14 a15 = f (zl15 f n) a1 a2 a3 a4 a5 a6 a7 a8 a9 a10 a11 a12 a13 a14 a15 := rfl
def zl16 {A1 A2 A3 A4 A5 A6 A7 A8 A9 A10 A11 A12 A13 A14 A15 A16 B : Type} (f : (A1 → A2 → A3 → A4 → A5 → A6 → A7 → A8 → A9 → A10 → A11 → A12 → A13 → A14 → A15 → A16 → Option B) → A1 → A2 → A3 → A4 → A5 → A6 → A7 → A8 → A9 → A10 → A11 → A12 → A13 → A14 → A15 → A16 → Option B) : Nat → A1 → A2 → A3 → A4 → A5 → A6 → A7 → A8 → A9 → A10 → A11 → A12 → A13 → A14 → A15 → A16 → Option B
  | 0 => fun _ _ _ _ _ _ _ _ _ _ _ _ _ _ _ _ => none
  | n + 1 => f (zl16 f n)
theorem zl16_s {A1 A2 A3 A4 A5 A6 A7 A8 A9 A10 A11 A12 A13 A14 A15 A16 B : Type} (f : (A1 → A2 → A3 → A4 → A5 → A6 → A7 → A8 → A9 → A10 → A11 → A12 → A13 → A14 → A15 → A16 → Option B) → A1 → A2 → A3 → A4 → A5 → A6 → A7 → A8 → A9 → A10 → A11 → A12 → A13 → A14 → A15 → A16 → Option B) (n : Nat) (a1 : A1) (a2 : A2) (a3 : A3) (a4 : A4) (a5 : A5) (a6 : A6) (a7 : A7) (a8 : A8) (a9 : A9) (a10 : A10) (a11 : A11) (a12 : A12) (a13 : A13) (a14 : A14) (a15 : A15) (a16 : A16) : zl16 f (n + 1) a1 a2 a3 a4 a5 a6 a7 a8 a9 a10 a11 a12 a13 a14 a15 a16 = f (zl16 f n) a1 a2 a3 a4 a5 a6 a7 a8 a9 a10 a11 a12 a13 a14 a15 a16 := rfl
def zl17 {A1 A2 A3 A4 A5 A6 A7 A8 A9 A10 A11 A12 A13 A14 A15 A16 A17 B : Type} (f : (A1 → A2 → A3 → A4 → A5 → A6 → A7 → A8 → A9 → A10 → A11 → A12 → A13 → A14 → A15 → A16 → A17 → Option B) → A1 → A2 → A3 → A4 → A5 → A6 → A7 → A8 → A9 → A10 → A11 → A12 → A13 → A14 → A15 → A16 → A17 → Option B) : Nat → A1 → A2 → A3 → A4 → A5 → A6 → A7 → A8 → A9 → A10 → A11 → A12 → A13 → A14 → A15 → A16 → A17 → Option B
  | 0 => fun _ _ _ _ _ _ _ _ _ _ _ _ _ _ _ _ _ => none
  | n + 1 => f (zl17 f n)
theorem zl17_s {A1 A2 A3 A4 A5 A6 A7 A8 A9 A10 A11 A12 A13 A14 A15 A16 A17 B : Type} (f : (A1 → A2 → A3 → A4 → A5 → A6 → A7 → A8 → A9 → A10 → A11 → A12 → A13 → A14 → A15 → A16 → A17 → Option B) → A1 → A2 → A3 → A4 → A5 → A6 → A7 → A8 → A9 → A10 → A11 → A12 → A13 → A14 → A15 → A16 → A17 → Option B) (n : Nat) (a1 : A1) (a2 : A2) (a3 : A3) (a4 : A4) (a5 : A5) (a6 : A6) (a7 : A7) (a8 : A8) (a9 : A9) (a10 : A10) (a11 : A11) (a12 : A12) (a13 : A13) (a14 : A14) (a15 : A15) (a16 : A16) (a17 : A17) : zl17 f (n + 1) a1 a2 a3 a4 a5 a6 a7 a8 a9 a10 a11 a12 a13 a14 a15 a16 a17 = f (zl17 f n) a1 a2 a3 a4 a5 a6 a7 a8 a9 a10 a11 a12 a13 a14 a15 a16 a17 := rfl
def zl18 {A1 A2 A3 A4 A5 A6 A7 A8 A9 A10 A11 A12 A13 A14 A15 A16 A17 A18 B : Type} (f : (A1 → A2 → A3 → A4 → A5 → A6 → A7 → A8 → A9 → A10 → A11 → A12 → A13 → A14 → A15 → A16 → A17 → A18 → Option B) → A1 → A2 → A3 → A4 → A5 → A6 → A7 → A8 → A9 → A10 → A11 → A12 → A13 → A14 → A15 → A16 → A17 → A18 → Option B) : Nat → A1 → A2 → A3 → A4 → A5 → A6 → A7 → A8 → A9 → A10 → A11 → A12 → A13 → A14 → A15 → A16 → A17 → A18 → Option B
  | 0 => fun _ _ _ _ _ _ _ _ _ _ _ _ _ _ _ _ _ _ => none
  | n + 1 => f (zl18 f n)
theorem zl18_s {A1 A2 A3 A4 A5 A6 A7 A8 A9 A10 A11 A12 A13 A14 A15 A16 A17 A18 B : Type} (f : (A1 → A2 → A3 → A4 → A5 → A6 → A7 → A8 → A9 → A10 → A11 → A12 → A13 → A14 → A15 → A16 → A17 → A18 → Option B) → A1 → A2 → A3 → A4 → A5 → A6 → A7 → A8 → A9 → A10 → A11 → A12 → A13 → A14 → A15 → A16 → A17 → A18 → Option B) (n : Nat) (a1 : A1) (a2 : A2) (a3 : A3) (a4 : A4) (a5 : A5) (a6 : A6) (a7 : A7) (a8 : A8) (a9 : A9) (a10 : A10) (a11 : A11) (a12 : A12) (a13 : A13) (a14 : A14) (a15 : A15) (a16 : A16) (a17 : A17) (a18 : A18) : zl18 f (n + 1) a1 a2 a3 a4 a5 a6 a7 a8 a9 a10 a11 a12 a13 a14 a15 a16 a17 a18 = f (zl18 f n) a1 a2 a3 a4 a5 a6 a7 a8 a9 a10 a11 a12 a13 a14 a15 a16 a17 a18 := rfl
def zl19 {A1 A2 A3 A4 A5 A6 A7 A8 A9 A10 A11 A12 A13 A14 A15 A16 A17 A18 A19 B : Type} (f : (A1 → A2 → A3 → A4 → A5 → A6 → A7 → A8 → A9 → A10 → A11 → A12 → A13 → A14 → A15 → A16 → A17 → A18 → A19 → Option B) → A1 → A2 → A3 → A4 → A5 → A6 → A7 → A8 → A9 → A10 → A11 → A12 → A13 → A14 → A15 → A16 → A17 → A18 → A19 → Option B) : Nat → A1 → A2 → A3 → A4 → A5 → A6 → A7 → A8 → A9 → A10 → A11 → A12 → A13 → A14 → A15 → A16 → A17 → A18 → A19 → Option B
  | 0 => fun _ _ _ _ _ _ _ _ _ _ _ _ _ _ _ _ _ _ _ => none
  | n + 1 => f (zl19 f n)
theorem zl19_s {A1 A2 A3 A4 A5 A6 A7 A8 A9 A10 A11 A12 A13 A14 A15 A16 A17 A18 A19 B : Type} (f : (A1 → A2 → A3 → A4 → A5 → A6 → A7 → A8 → A9 → A10 → A11 → A12 → A13 → A14 → A15 → A16 → A17 → A18 → A19 → Option B) → A1 → A2 → A3 → A4 → A5 → A6 → A7 → A8 → A9 → A10 → A11 → A12 → A13 → A14 → A15 → A16 → A17 → A18 → A19 → Option B) (n : Nat) (a1 : A1) (a2 : A2) (a3 : A3) (a4 : A4) (a5 : A5) (a6 : A6) (a7 : A7) (a8 : A8) (a9 : A9) (a10 : A10) (a11 : A11) (a12 : A12) (a13 : A13) (a14 : A14) (a15 : A15) (a16 : A16) (a17 : A17) (a18 : A18) (a19 : A19) : zl19 f (n + 1) a1 a2 a3 a4 a5 a6 a7 a8 a9 a10 a11 a12 a13 a14 a15 a16 a17 a18 a19 = f (zl19 f n) a1 a2 a3 a4 a5 a6 a7 a8 a9 a10 a11 a12 a13 a14 a15 a16 a17 a18 a19 := rfl
def zl20 {A1 A2 A3 A4 A5 A6 A7 A8 A9 A10 A11 A12 A13 A14 A15 A16 A17 A18 A19 A20 B : Type} (f : (A1 → A2 → A3 → A4 → A5 → A6 → A7 → A8 → A9 → A10 → A11 → A12 → A13 → A14 → A15 → A16 → A17 → A18 → A19 → A20 → Option B) → A1 → A2 → A3 → A4 → A5 → A6 → A7 → A8 → A9 → A10 → A11 → A12 → A13 → A14 → A15 → A16 → A17 → A18 → A19 → A20 → Option B) : Nat → A1 → A2 → A3 → A4 → A5 → A6 → A7 → A8 → A9 → A10 → A11 → A12 → A13 → A14 → A15 → A16 → A17 → A18 → A19 → A20 → Option B
  | 0 => fun _ _ _ _ _ _ _ _ _ _ _ _ _ _ _ _ _ _ _ _ => none
  | n + 1 => f (zl20 f n)
theorem zl20_s {A1 A2 A3 A4 A5 A6 A7 A8 A9 A10 A11 A12 A13 A14 A15 A16 A17 A18 A19 A20 B : Type} (f : (A1 → A2 → A3 → A4 → A5 → A6 → A7 → A8 → A9 → A10 → A11 → A12 → A13 → A14 → A15 → A16 → A17 → A18 → A19 → A20 → Option B) → A1 → A2 → A3 → A4 → A5 → A6 → A7 → A8 → A9 → A10 → A11 → A12 → A13 → A14 → A15 → A16 → A17 → A18 → A19 → A20 → Option B) (n : Nat) (a1 : A1) (a2 : A2) (a3 : A3) (a4 : A4) (a5 : A5) (a6 : A6) (a7 : A7) (a8 : A8) (a9 : A9) (a10 : A10) (a11 : A11) (a12 : A12) (a13 : A13) (a14 : A14) (a15 : A15) (a16 : A16) (a17 : A17) (a18 : A18) (a19 : A19) (a20 : A20) : zl20 f (n + 1) a1 a2 a3 a4 a5 a6 a7 a8 a9 a10 a11 a12 a13 a14 a15 a16 a17 a18 a19 a20 = f (zl20 f n) a1 a2 a3 a4 a5 a6 a7 a8 a9 a10 a11 a12 a13 a14 a15 a16 a17 a18 a19 a20 := rfl
/-- the texts: the enum constants', in their order, then four more -/
def lenS : List Nat := [5, 5, 3, 4, 4, 4, 5, 6, 6, 4, 4, 4, 4, 5, 5]
def bytS : List (List Int32) := [[115, 116, 111, 114, 101], [98, 101, 103, 105, 110], [112, 117, 116], [100, 114, 111, 112], [100, 111, 110, 101], [103, 111, 110, 101], [99, 108, 101, 97, 114], [102, 114, 101, 101, 122, 101], [117, 110, 115, 117, 114, 101], [115, 101, 101, 110], [110, 111, 110, 101], [114, 105, 110, 103], [114, 111, 119, 115], [115, 116, 97, 114, 116], [99, 114, 97, 115, 104]]
def nmW : List String := ["STORE", "BEGIN", "PUT", "DROP", "DONE", "GONE", "CLEAR", "FREEZE", "UNSURE", "SEEN", "NONE"]
def ordW : List (String × String × String × List Int32) := [("java/lang/Enum", "ordinal", "I", [0, 1, 2, 3, 4, 5, 6, 7, 8, 9, 10])]
def swM : List Int32 := [0, 1, 2, 3, 4, 5, 8, 9, 6, 7, 0]
def litS : List (String × Nat × String × Nat) := [("StampedRows$Reader", 163, "ring", 11), ("StampedRows$Reader", 171, "rows", 12), ("StampedRows$Reader", 172, "start", 13), ("StampedRows$Reader", 173, "crash", 14), ("StampedRowsModel", 211, "store", 0), ("StampedRowsModel", 295, "ring", 11), ("StampedRowsModel", 296, "rows", 12), ("StampedRowsModel", 302, "start", 13), ("StampedRowsModel", 304, "crash", 14), ("StampedRowsModel", 213, "begin", 1), ("StampedRowsModel", 215, "put", 2), ("StampedRowsModel", 217, "drop", 3), ("StampedRowsModel", 219, "done", 4), ("StampedRowsModel", 221, "gone", 5), ("StampedRowsModel", 223, "clear", 6), ("StampedRowsModel", 225, "freeze", 7), ("StampedRowsModel", 227, "unsure", 8), ("StampedRowsModel", 229, "seen", 9), ("StampedRowsModel", 235, "none", 10), ("StampedRows$Word", 94, "none", 10), ("StampedRows$Word", 61, "store", 0), ("StampedRows$Word", 76, "done", 4), ("StampedRows$Word", 67, "begin", 1), ("StampedRows$Word", 70, "put", 2), ("StampedRows$Word", 73, "drop", 3), ("StampedRows$Word", 79, "gone", 5), ("StampedRows$Word", 82, "clear", 6), ("StampedRows$Word", 85, "freeze", 7), ("StampedRows$Word", 88, "unsure", 8), ("StampedRows$Word", 91, "seen", 9)]
/-- where the statics lie: texts' objects, their bytes, the enum constants, WORDS, the switch's table -/
abbrev zEn : Type := (Nat → Nat) × (Nat → Nat) × (Nat → Nat) × Nat × Nat
def zE (E : zEn) (A : Nat → Prop) (U : State) (H : Heap) : Prop :=
  vk_S 15 lenS bytS E.1 E.2.1 A U H ∧ va_En "StampedRows$Word" "LStampedRows$Word;" nmW ordW E.2.2.1 A U H ∧ va_Ef 11 "StampedRows$Word" "text" "Ljava/lang/String;" (fun i => .ref (E.1 i)) E.2.2.1 A U H ∧
  va_Z "StampedRows" "WORDS" "[LStampedRows$Word;" (.ref E.2.2.2.1) A U H ∧ va_T (.object "StampedRows$Word") E.2.2.2.1 11 (fun j => .ref (E.2.2.1 j)) A U H ∧
  va_Z "StampedRows$1" "$SwitchMap$StampedRows$Word" "[I" (.ref E.2.2.2.2) A U H ∧ va_T .int E.2.2.2.2 11 (fun j => .int (swM.getD j 0)) A U H ∧
  va_Z "java/lang/String" "COMPACT_STRINGS" "Z" (.int 1) A U H ∧ va_Zq "jdk/internal/util/Preconditions" "SIOOBE_FORMATTER" "Ljava/util/function/BiFunction;" A U H ∧
  (∀ q ∈ litS, vk_R q.1 q.2.1 q.2.2.1 (E.1 q.2.2.2) U) ∧ va_Nw (.fieldLinkNest "StampedRows$Tape" 63 "StampedRows" "WORDS" "[LStampedRows$Word;" "StampedRows") U
theorem zZqn {C n d : String} {A B : Nat → Prop} {U : State} {H : Heap} (h : va_Zq C n d A U H) (hAB : ∀ q, B q → A q) : va_Zq C n d B U H := by
  rcases h with h | ⟨t, h⟩
  · exact Or.inl (h.narrow hAB)
  · exact Or.inr ⟨t, h.narrow hAB⟩
theorem zE.step {E : zEn} {A B : Nat → Prop} {s U : State} {H : Heap} {locs : List Loc} (h : zE E A s s.heap) (hS : va_S A s.heap H locs) (hAB : ∀ q, B q → A q) (hU : U.heap = H) (hW : s.WarmedH U.vm) : zE E B U U.heap := by
  obtain ⟨h1, h2, h3, h4, h5, h6, h7, h8, h9, h10, h11⟩ := h
  have hk := hS.2.1
  have ha := hW.alike
  rw [hU]
  exact ⟨((h1.kept hk).narrow hAB).moved ha, ((h2.kept hk).narrow hAB).moved ha, ((h3.kept hk).narrow hAB).moved ha, ((h4.kept hk).narrow hAB).moved ha, ((h5.kept hk).narrow hAB).moved ha, ((h6.kept hk).narrow hAB).moved ha, ((h7.kept hk).narrow hAB).moved ha, ((h8.kept hk).narrow hAB).moved ha, (zZqn (h9.kept hk) hAB).moved ha, fun q hq => (h10 q hq).warm hW, va_Nw.warmF hW h11⟩
theorem zE.calling {E : zEn} {A : Nat → Prop} {U : State} {g : JFrame} {mk : MethodId} {a : Array Value} (h : zE E A U U.heap) : zE E A (U.calling g mk a) (U.calling g mk a).heap := by
  obtain ⟨h1, h2, h3, h4, h5, h6, h7, h8, h9, h10, h11⟩ := h
  have ha : U.vm.Alike (U.calling g mk a).vm := Vm.Alike.refl U.vm
  exact ⟨h1.moved ha, h2.moved ha, h3.moved ha, h4.moved ha, h5.moved ha, h6.moved ha, h7.moved ha, h8.moved ha, h9.moved ha, fun q hq => vk_R.same rfl (h10 q hq), va_Nw.same rfl rfl h11⟩
def zPs (D : va_G) (tys : zTy) (w : va_W) (sz : Nat) (E : zEn) (U : State) : Prop := zP D tys w sz U ∧ zE E (va_A w sz) U U.heap
theorem zPs_blind {D : va_G} {tys : zTy} {w : va_W} {sz : Nat} {E : zEn} {av : List Value} : FrameBlind (va_Pc av (zPs D tys w sz E)) := fun a U g mk q => by
  obtain ⟨q0, ⟨q1, qP, qK, qD⟩, qE⟩ := q
  exact ⟨q0, ⟨q1, qP, va_K.moved (u := U) (U := U.calling g mk a) (Vm.Alike.refl U.vm) qK, qD⟩, qE.calling⟩
section YC
variable {p : Program} {l : Launch} {e : Env} {R : Room} {s : State} {m : MethodId} {args : Array Value} {below : List Frame} {meth : Method} {c : Code} {H : Heap} {locs : List Loc} {cells slots : Nat} {Q : State → Prop} {cc : ByteArray} {pc : Nat} {ls : Array Slot} {rest : List Value} {D : va_G} {tys : zTy} {A : Nat → Prop} {own : String} {ret : Option FieldType} {nL : Nat} {E : zEn}
abbrev zQE (ad : Nat → Nat) (D : va_G) (tys : zTy) (A : Nat → Prop) (w' : va_W) (r : Option Nat) : Array Value → State → Outcome → State → Prop := va_Qe ad (fun r' (_ : Unit) => r' = r) (fun _ t => zT D tys w' A t) A
def zCIs (l : Launch) (y : MethodName) (cy : ByteArray) (nY : Nat) (rt : Option FieldType) (fr lo : Nat) (D : va_G) (tys : zTy) (E : zEn) (av : List Value) (w w' : va_W) (r : Int32) : Prop := ∀ sz : Nat, Met l y (.code y cy nY rt :: WT) (zRm fr lo) (va_Pc av (zPs D tys w sz E)) (zQI D tys (va_A w sz) w' r) 0 0 (va_A w sz)
theorem zCIs_of {y : MethodName} {cy : ByteArray} {nY : Nat} {rt : Option FieldType} {fr lo : Nat} {av : List Value} {w w' : va_W} {r : Int32} (hy : plainName y.cls = true) (hm : (lg_sl av).length ≤ nY)
    (body : ∀ (p : Program) (e : Env) (s : State) (m : MethodId) (below : List Frame) (meth : Method) (c : Code) (A : Nat → Prop) (ls : Array Slot), zX p s m meth c cy nY av.toArray y.cls rt A D tys → zE E A s s.heap → va_P D vwCl w s.heap → va_D A w → va_S A s.heap s.heap [] → lv_has ls nY (lv_args 0 av) → W p l e (zRm fr lo) s m av.toArray below meth c s.heap [] 0 0 (MQ below (zQI D tys A w' r) av.toArray s 0 0 A) (F0 m 0 ls [])) : zCIs l y cy nY rt fr lo D tys E av w w' r := by
  intro sz
  refine Met.ofW (cc := cy) (maxL := nY) (ret := rt) hy rfl ?_
  intro p e s m args below meth c s₁ B hml hv
  obtain ⟨rfl, ⟨hsz, hP, hK, hD0⟩, hE⟩ := hv
  have hts := atoms_spec (ws := .code y cy nY rt :: WT) B.pre
  subst hsz
  rw [lg_entry_eq]
  exact body p e s m below meth c (va_A w s.heap.size) _ ⟨B.exec, B.bytes, B.returns, fun q h => hts q (List.mem_cons_of_mem _ h), findClass_of_methodNamed B.named, B.notSynchronized, hml, fun q h => Or.inr h, hK⟩ hE hP hD0.self va_S.rf (lv_entry av hm)
theorem z_cVis {y : MethodName} {cy : ByteArray} {nY index fr lo : Nat} {rt : Option FieldType} {CL : String} {b : Nat} {As : List Value} {w wc wc' : va_W} {r : Int32} (C : zX p s m meth c cc nL args own ret A D tys) (hE : zE E A s s.heap) (hc : zCIs l y cy nY rt fr lo D tys E (.ref b :: As) wc wc' r) (cw : GoodIn WT (wsV own index CL y (.code y cy nY rt :: WT))) (hd : y.cls = CL ∧ y.cls ≠ "java/lang/invoke/MethodHandle" ∧ y.cls ≠ "java/lang/invoke/VarHandle" ∧ (parseMethodDescriptor y.desc).map (fun d => d.parameters.length) = some As.length) (hR : fr + 1 ≤ R.frames ∧ 8 + (nY + 11) + lo ≤ R.locals) (hcs : cells ≤ R.cells ∧ slots ≤ R.slots) (hrv : ∃ cell : Cell, H[b]? = some cell ∧ cell.vm.isStatics = false ∧ s.vm.findClass CL = some cell.cls) (hP : va_P D vwCl w H) (hD : va_D A w) (hS : va_S A s.heap H locs) {w2 : va_W} (isC isR isB : List Nat) (hC : isC.map (fun i => w[i]?) = wc.map some) (hR2 : (isR.map (fun i => w[i]?)).all Option.isSome = true) (hB9 : isB.map (fun i => (isR.filterMap (fun i => w[i]?) ++ wc')[i]?) = w2.map some) (hn : va_nd isC = true) (hn2 : va_nd isR = true) (hn3 : va_nd isB = true) (hdis : ∀ i ∈ isR, i ∉ isC) (hls : ls.size = nL) (hroom : (rest.map fun v => v.category).sum ≤ 8) (hdg : decode cc pc = .ok (.invokevirtual index, 3))
    (kk : ∀ (H1 : Heap) (locs1 : List Loc), va_P D vwCl w2 H1 → va_D A w2 → va_S A s.heap H1 locs1 → W p l e R s m args below meth c H1 locs1 cells slots Q (F0 m (pc + 3) ls (.int r :: rest))) : W p l e R s m args below meth c H locs cells slots Q (F0 m pc ls (As.reverse ++ .ref b :: rest)) := by
  obtain ⟨hx, hb, hr, hts, hown, hlocks, hml, hA, hK⟩ := C
  have hDc : va_D A wc := hD.sub isC hn hC
  have hPc : va_P D vwCl wc H := hP.sub isC (zfm2 hC)
  have hFc := va_free hD hS hA isC hC
  refine va_calli (va_runV (As := As) (rest := rest) (nL := nL) (Ts := WT) ⟨hx, hb, hml, hown, hts⟩ (hc H.size) (cwV As.length hts cw rfl rfl rfl hd hR) ⟨zPs_blind, hrv, fun U hU hW => ⟨rfl, ⟨by rw [hU], by rw [hU]; exact hPc, va_K.moved hW.alike hK, hDc.weaken (fun _ _ _ _ => trivial)⟩, hE.step hS hFc hU hW⟩⟩ rfl rfl hls rfl (lv_room hroom) hdg hcs) hS (fun q _ h => hFc q h) hFc (fun r0 u t H1 locs1 ht hvm hw hB hz1 hk1 hS => ?_)
  try dsimp only at hw
  subst hw
  obtain ⟨hB1, hB2, hB3⟩ := hB
  rw [ht] at hB1
  obtain ⟨hP8, hD8⟩ := va_join hP hD isC isR hC (zfm hR2) hn2 hdis hk1 hFc hB1 hB3
  have hP9 := hP8.sub isB (zfm2 hB9)
  have hD9 := hD8.sub isB hn3 hB9
  exact kk H1 locs1 hP9 hD9 hS
theorem z_cVis0 {y : MethodName} {cy : ByteArray} {nY index fr lo : Nat} {rt : Option FieldType} {CL : String} {b : Nat} {As : List Value} {w wc' : va_W} {r : Int32} (C : zX p s m meth c cc nL args own ret A D tys) (hE : zE E A s s.heap) (hc : zCIs l y cy nY rt fr lo D tys E (.ref b :: As) w wc' r) (cw : GoodIn WT (wsV own index CL y (.code y cy nY rt :: WT))) (hd : y.cls = CL ∧ y.cls ≠ "java/lang/invoke/MethodHandle" ∧ y.cls ≠ "java/lang/invoke/VarHandle" ∧ (parseMethodDescriptor y.desc).map (fun d => d.parameters.length) = some As.length) (hR : fr + 1 ≤ R.frames ∧ 8 + (nY + 11) + lo ≤ R.locals) (hcs : cells ≤ R.cells ∧ slots ≤ R.slots) (hrv : ∃ cell : Cell, H[b]? = some cell ∧ cell.vm.isStatics = false ∧ s.vm.findClass CL = some cell.cls) (hP : va_P D vwCl w H) (hD : va_D A w) (hS : va_S A s.heap H locs)  (hls : ls.size = nL) (hroom : (rest.map fun v => v.category).sum ≤ 8) (hdg : decode cc pc = .ok (.invokevirtual index, 3))
    (kk : ∀ (H1 : Heap) (locs1 : List Loc), va_P D vwCl wc' H1 → va_D A wc' → va_S A s.heap H1 locs1 → W p l e R s m args below meth c H1 locs1 cells slots Q (F0 m (pc + 3) ls (.int r :: rest))) : W p l e R s m args below meth c H locs cells slots Q (F0 m pc ls (As.reverse ++ .ref b :: rest)) := by
  obtain ⟨hx, hb, hr, hts, hown, hlocks, hml, hA, hK⟩ := C
  have hDc : va_D A w := hD
  have hPc : va_P D vwCl w H := hP
  have hFc := zfree hD hS hA
  refine va_calli (va_runV (As := As) (rest := rest) (nL := nL) (Ts := WT) ⟨hx, hb, hml, hown, hts⟩ (hc H.size) (cwV As.length hts cw rfl rfl rfl hd hR) ⟨zPs_blind, hrv, fun U hU hW => ⟨rfl, ⟨by rw [hU], by rw [hU]; exact hPc, va_K.moved hW.alike hK, hDc.weaken (fun _ _ _ _ => trivial)⟩, hE.step hS hFc hU hW⟩⟩ rfl rfl hls rfl (lv_room hroom) hdg hcs) hS (fun q _ h => hFc q h) hFc (fun r0 u t H1 locs1 ht hvm hw hB hz1 hk1 hS => ?_)
  try dsimp only at hw
  subst hw
  obtain ⟨hB1, hB2, hB3⟩ := hB
  rw [ht] at hB1
  have hP9 := hB1
  have hD9 : va_D A wc' := hB3.weaken (fun _ _ _ h => hFc _ h)
  exact kk H1 locs1 hP9 hD9 hS
theorem z_cVisE {y : MethodName} {cy : ByteArray} {nY index fr lo : Nat} {rt : Option FieldType} {CL : String} {b : Nat} {As : List Value} {w : va_W} {r : Int32} (C : zX p s m meth c cc nL args own ret A D tys) (hE : zE E A s s.heap) (hc : zCIs l y cy nY rt fr lo D tys E (.ref b :: As) [] [] r) (cw : GoodIn WT (wsV own index CL y (.code y cy nY rt :: WT))) (hd : y.cls = CL ∧ y.cls ≠ "java/lang/invoke/MethodHandle" ∧ y.cls ≠ "java/lang/invoke/VarHandle" ∧ (parseMethodDescriptor y.desc).map (fun d => d.parameters.length) = some As.length) (hR : fr + 1 ≤ R.frames ∧ 8 + (nY + 11) + lo ≤ R.locals) (hcs : cells ≤ R.cells ∧ slots ≤ R.slots) (hrv : ∃ cell : Cell, H[b]? = some cell ∧ cell.vm.isStatics = false ∧ s.vm.findClass CL = some cell.cls) (hP : va_P D vwCl w H) (hD : va_D A w) (hS : va_S A s.heap H locs)  (hls : ls.size = nL) (hroom : (rest.map fun v => v.category).sum ≤ 8) (hdg : decode cc pc = .ok (.invokevirtual index, 3))
    (kk : ∀ (H1 : Heap) (locs1 : List Loc), va_P D vwCl w H1 → va_D A w → va_S A s.heap H1 locs1 → W p l e R s m args below meth c H1 locs1 cells slots Q (F0 m (pc + 3) ls (.int r :: rest))) : W p l e R s m args below meth c H locs cells slots Q (F0 m pc ls (As.reverse ++ .ref b :: rest)) := by
  obtain ⟨hx, hb, hr, hts, hown, hlocks, hml, hA, hK⟩ := C
  have hDc : va_D A ([] : va_W) := ⟨fun i j p q h => by simp at h, fun k q h => by simp at h⟩
  have hPc : va_P D vwCl ([] : va_W) H := fun k q h => by simp at h
  have hFc : ∀ q, va_A ([] : va_W) H.size q → A q := fun q h => by
    rcases h with ⟨k, e, hk⟩ | h
    · simp at hk
    · exact hA q (Nat.le_trans hS.1 h)
  refine va_calli (va_runV (As := As) (rest := rest) (nL := nL) (Ts := WT) ⟨hx, hb, hml, hown, hts⟩ (hc H.size) (cwV As.length hts cw rfl rfl rfl hd hR) ⟨zPs_blind, hrv, fun U hU hW => ⟨rfl, ⟨by rw [hU], by rw [hU]; exact hPc, va_K.moved hW.alike hK, hDc.weaken (fun _ _ _ _ => trivial)⟩, hE.step hS hFc hU hW⟩⟩ rfl rfl hls rfl (lv_room hroom) hdg hcs) hS (fun q _ h => hFc q h) hFc (fun r0 u t H1 locs1 ht hvm hw hB hz1 hk1 hS => ?_)
  try dsimp only at hw
  subst hw
  obtain ⟨hB1, hB2, hB3⟩ := hB
  rw [ht] at hB1
  have hD9 := hD
  have hP9 : va_P D vwCl w H1 := hP.kept (fun k q hk => hk1 q.1 (va_at.lt (hP k q hk)) (fun h => by
    rcases h with ⟨k2, e2, hk2⟩ | h
    · simp at hk2
    · exact absurd h (Nat.not_le.mpr (va_at.lt (hP k q hk)))))
  exact kk H1 locs1 hP9 hD9 hS
theorem z_cVism {y : MethodName} {cy : ByteArray} {nY index fr lo : Nat} {rt : Option FieldType} {CL : String} {b : Nat} {As : List Value} {w wc wc' w2 : va_W} {r : Int32} (C : zX p s m meth c cc nL args own ret A D tys) (hE : zE E A s s.heap) (hc : zCIs l y cy nY rt fr lo D tys E (.ref b :: As) wc wc' r) (cw : GoodIn WT (wsV own index CL y (.code y cy nY rt :: WT))) (hd : y.cls = CL ∧ y.cls ≠ "java/lang/invoke/MethodHandle" ∧ y.cls ≠ "java/lang/invoke/VarHandle" ∧ (parseMethodDescriptor y.desc).map (fun d => d.parameters.length) = some As.length) (hR : fr + 1 ≤ R.frames ∧ 8 + (nY + 11) + lo ≤ R.locals) (hcs : cells ≤ R.cells ∧ slots ≤ R.slots) (hrv : ∃ cell : Cell, H[b]? = some cell ∧ cell.vm.isStatics = false ∧ s.vm.findClass CL = some cell.cls) (hP : va_P D vwCl w H) (hD : va_D A w) (hS : va_S A s.heap H locs) (X Z : va_W) (hw1 : w = X ++ (wc ++ Z)) (hw2 : X ++ (wc' ++ Z) = w2) (hls : ls.size = nL) (hroom : (rest.map fun v => v.category).sum ≤ 8) (hdg : decode cc pc = .ok (.invokevirtual index, 3))
    (kk : ∀ (H1 : Heap) (locs1 : List Loc), va_P D vwCl w2 H1 → va_D A w2 → va_S A s.heap H1 locs1 → W p l e R s m args below meth c H1 locs1 cells slots Q (F0 m (pc + 3) ls (.int r :: rest))) : W p l e R s m args below meth c H locs cells slots Q (F0 m pc ls (As.reverse ++ .ref b :: rest)) := by
  obtain ⟨hx, hb, hr, hts, hown, hlocks, hml, hA, hK⟩ := C
  subst hw1 hw2
  have hDc : va_D A wc := zD_mid hD
  have hPc : va_P D vwCl wc H := zP_mid hP
  have hFc := zfreeM hD hS hA
  refine va_calli (va_runV (As := As) (rest := rest) (nL := nL) (Ts := WT) ⟨hx, hb, hml, hown, hts⟩ (hc H.size) (cwV As.length hts cw rfl rfl rfl hd hR) ⟨zPs_blind, hrv, fun U hU hW => ⟨rfl, ⟨by rw [hU], by rw [hU]; exact hPc, va_K.moved hW.alike hK, hDc.weaken (fun _ _ _ _ => trivial)⟩, hE.step hS hFc hU hW⟩⟩ rfl rfl hls rfl (lv_room hroom) hdg hcs) hS (fun q _ h => hFc q h) hFc (fun r0 u t H1 locs1 ht hvm hw hB hz1 hk1 hS => ?_)
  try dsimp only at hw
  subst hw
  obtain ⟨hB1, hB2, hB3⟩ := hB
  rw [ht] at hB1
  obtain ⟨hP9, hD9⟩ := zjoinM hP hD hk1 hFc hB1 hB3
  exact kk H1 locs1 hP9 hD9 hS
theorem z_cSis {y : MethodName} {cy : ByteArray} {nY index fr lo : Nat} {rt : Option FieldType}  {As : List Value} {w wc wc' : va_W} {r : Int32} (C : zX p s m meth c cc nL args own ret A D tys) (hE : zE E A s s.heap) (hc : zCIs l y cy nY rt fr lo D tys E As wc wc' r) (cw : GoodIn WT (va_wsS own index y (.code y cy nY rt :: WT))) (hd : y.cls ≠ "java/lang/invoke/MethodHandle" ∧ y.cls ≠ "java/lang/invoke/VarHandle" ∧ (parseMethodDescriptor y.desc).map (fun d => d.parameters.length) = some As.length) (hR : fr + 1 ≤ R.frames ∧ 8 + (nY + 11) + lo ≤ R.locals) (hcs : cells ≤ R.cells ∧ slots ≤ R.slots)  (hP : va_P D vwCl w H) (hD : va_D A w) (hS : va_S A s.heap H locs) {w2 : va_W} (isC isR isB : List Nat) (hC : isC.map (fun i => w[i]?) = wc.map some) (hR2 : (isR.map (fun i => w[i]?)).all Option.isSome = true) (hB9 : isB.map (fun i => (isR.filterMap (fun i => w[i]?) ++ wc')[i]?) = w2.map some) (hn : va_nd isC = true) (hn2 : va_nd isR = true) (hn3 : va_nd isB = true) (hdis : ∀ i ∈ isR, i ∉ isC) (hls : ls.size = nL) (hroom : (rest.map fun v => v.category).sum ≤ 8) (hdg : decode cc pc = .ok (.invokestatic index, 3))
    (kk : ∀ (H1 : Heap) (locs1 : List Loc), va_P D vwCl w2 H1 → va_D A w2 → va_S A s.heap H1 locs1 → W p l e R s m args below meth c H1 locs1 cells slots Q (F0 m (pc + 3) ls (.int r :: rest))) : W p l e R s m args below meth c H locs cells slots Q (F0 m pc ls (As.reverse ++ rest)) := by
  obtain ⟨hx, hb, hr, hts, hown, hlocks, hml, hA, hK⟩ := C
  have hDc : va_D A wc := hD.sub isC hn hC
  have hPc : va_P D vwCl wc H := hP.sub isC (zfm2 hC)
  have hFc := va_free hD hS hA isC hC
  refine va_calli (va_runS (As := As) (rest := rest) (nL := nL) (Ts := WT) ⟨hx, hb, hml, hown, hts⟩ (hc H.size) (va_cwS As.length hts cw rfl rfl rfl hd hR) ⟨zPs_blind, fun U hU hW => ⟨rfl, ⟨by rw [hU], by rw [hU]; exact hPc, va_K.moved hW.alike hK, hDc.weaken (fun _ _ _ _ => trivial)⟩, hE.step hS hFc hU hW⟩⟩ rfl rfl hls rfl (lv_room hroom) hdg hcs) hS (fun q _ h => hFc q h) hFc (fun r0 u t H1 locs1 ht hvm hw hB hz1 hk1 hS => ?_)
  try dsimp only at hw
  subst hw
  obtain ⟨hB1, hB2, hB3⟩ := hB
  rw [ht] at hB1
  obtain ⟨hP8, hD8⟩ := va_join hP hD isC isR hC (zfm hR2) hn2 hdis hk1 hFc hB1 hB3
  have hP9 := hP8.sub isB (zfm2 hB9)
  have hD9 := hD8.sub isB hn3 hB9
  exact kk H1 locs1 hP9 hD9 hS
theorem z_cSis0 {y : MethodName} {cy : ByteArray} {nY index fr lo : Nat} {rt : Option FieldType}  {As : List Value} {w wc' : va_W} {r : Int32} (C : zX p s m meth c cc nL args own ret A D tys) (hE : zE E A s s.heap) (hc : zCIs l y cy nY rt fr lo D tys E As w wc' r) (cw : GoodIn WT (va_wsS own index y (.code y cy nY rt :: WT))) (hd : y.cls ≠ "java/lang/invoke/MethodHandle" ∧ y.cls ≠ "java/lang/invoke/VarHandle" ∧ (parseMethodDescriptor y.desc).map (fun d => d.parameters.length) = some As.length) (hR : fr + 1 ≤ R.frames ∧ 8 + (nY + 11) + lo ≤ R.locals) (hcs : cells ≤ R.cells ∧ slots ≤ R.slots)  (hP : va_P D vwCl w H) (hD : va_D A w) (hS : va_S A s.heap H locs)  (hls : ls.size = nL) (hroom : (rest.map fun v => v.category).sum ≤ 8) (hdg : decode cc pc = .ok (.invokestatic index, 3))
    (kk : ∀ (H1 : Heap) (locs1 : List Loc), va_P D vwCl wc' H1 → va_D A wc' → va_S A s.heap H1 locs1 → W p l e R s m args below meth c H1 locs1 cells slots Q (F0 m (pc + 3) ls (.int r :: rest))) : W p l e R s m args below meth c H locs cells slots Q (F0 m pc ls (As.reverse ++ rest)) := by
  obtain ⟨hx, hb, hr, hts, hown, hlocks, hml, hA, hK⟩ := C
  have hDc : va_D A w := hD
  have hPc : va_P D vwCl w H := hP
  have hFc := zfree hD hS hA
  refine va_calli (va_runS (As := As) (rest := rest) (nL := nL) (Ts := WT) ⟨hx, hb, hml, hown, hts⟩ (hc H.size) (va_cwS As.length hts cw rfl rfl rfl hd hR) ⟨zPs_blind, fun U hU hW => ⟨rfl, ⟨by rw [hU], by rw [hU]; exact hPc, va_K.moved hW.alike hK, hDc.weaken (fun _ _ _ _ => trivial)⟩, hE.step hS hFc hU hW⟩⟩ rfl rfl hls rfl (lv_room hroom) hdg hcs) hS (fun q _ h => hFc q h) hFc (fun r0 u t H1 locs1 ht hvm hw hB hz1 hk1 hS => ?_)
  try dsimp only at hw
  subst hw
  obtain ⟨hB1, hB2, hB3⟩ := hB
  rw [ht] at hB1
  have hP9 := hB1
  have hD9 : va_D A wc' := hB3.weaken (fun _ _ _ h => hFc _ h)
  exact kk H1 locs1 hP9 hD9 hS
theorem z_cSisE {y : MethodName} {cy : ByteArray} {nY index fr lo : Nat} {rt : Option FieldType}  {As : List Value} {w : va_W} {r : Int32} (C : zX p s m meth c cc nL args own ret A D tys) (hE : zE E A s s.heap) (hc : zCIs l y cy nY rt fr lo D tys E As [] [] r) (cw : GoodIn WT (va_wsS own index y (.code y cy nY rt :: WT))) (hd : y.cls ≠ "java/lang/invoke/MethodHandle" ∧ y.cls ≠ "java/lang/invoke/VarHandle" ∧ (parseMethodDescriptor y.desc).map (fun d => d.parameters.length) = some As.length) (hR : fr + 1 ≤ R.frames ∧ 8 + (nY + 11) + lo ≤ R.locals) (hcs : cells ≤ R.cells ∧ slots ≤ R.slots)  (hP : va_P D vwCl w H) (hD : va_D A w) (hS : va_S A s.heap H locs)  (hls : ls.size = nL) (hroom : (rest.map fun v => v.category).sum ≤ 8) (hdg : decode cc pc = .ok (.invokestatic index, 3))
    (kk : ∀ (H1 : Heap) (locs1 : List Loc), va_P D vwCl w H1 → va_D A w → va_S A s.heap H1 locs1 → W p l e R s m args below meth c H1 locs1 cells slots Q (F0 m (pc + 3) ls (.int r :: rest))) : W p l e R s m args below meth c H locs cells slots Q (F0 m pc ls (As.reverse ++ rest)) := by
  obtain ⟨hx, hb, hr, hts, hown, hlocks, hml, hA, hK⟩ := C
  have hDc : va_D A ([] : va_W) := ⟨fun i j p q h => by simp at h, fun k q h => by simp at h⟩
  have hPc : va_P D vwCl ([] : va_W) H := fun k q h => by simp at h
  have hFc : ∀ q, va_A ([] : va_W) H.size q → A q := fun q h => by
    rcases h with ⟨k, e, hk⟩ | h
    · simp at hk
    · exact hA q (Nat.le_trans hS.1 h)
  refine va_calli (va_runS (As := As) (rest := rest) (nL := nL) (Ts := WT) ⟨hx, hb, hml, hown, hts⟩ (hc H.size) (va_cwS As.length hts cw rfl rfl rfl hd hR) ⟨zPs_blind, fun U hU hW => ⟨rfl, ⟨by rw [hU], by rw [hU]; exact hPc, va_K.moved hW.alike hK, hDc.weaken (fun _ _ _ _ => trivial)⟩, hE.step hS hFc hU hW⟩⟩ rfl rfl hls rfl (lv_room hroom) hdg hcs) hS (fun q _ h => hFc q h) hFc (fun r0 u t H1 locs1 ht hvm hw hB hz1 hk1 hS => ?_)
  try dsimp only at hw
  subst hw
  obtain ⟨hB1, hB2, hB3⟩ := hB
  rw [ht] at hB1
  have hD9 := hD
  have hP9 : va_P D vwCl w H1 := hP.kept (fun k q hk => hk1 q.1 (va_at.lt (hP k q hk)) (fun h => by
    rcases h with ⟨k2, e2, hk2⟩ | h
    · simp at hk2
    · exact absurd h (Nat.not_le.mpr (va_at.lt (hP k q hk)))))
  exact kk H1 locs1 hP9 hD9 hS
theorem z_cSism {y : MethodName} {cy : ByteArray} {nY index fr lo : Nat} {rt : Option FieldType}  {As : List Value} {w wc wc' w2 : va_W} {r : Int32} (C : zX p s m meth c cc nL args own ret A D tys) (hE : zE E A s s.heap) (hc : zCIs l y cy nY rt fr lo D tys E As wc wc' r) (cw : GoodIn WT (va_wsS own index y (.code y cy nY rt :: WT))) (hd : y.cls ≠ "java/lang/invoke/MethodHandle" ∧ y.cls ≠ "java/lang/invoke/VarHandle" ∧ (parseMethodDescriptor y.desc).map (fun d => d.parameters.length) = some As.length) (hR : fr + 1 ≤ R.frames ∧ 8 + (nY + 11) + lo ≤ R.locals) (hcs : cells ≤ R.cells ∧ slots ≤ R.slots)  (hP : va_P D vwCl w H) (hD : va_D A w) (hS : va_S A s.heap H locs) (X Z : va_W) (hw1 : w = X ++ (wc ++ Z)) (hw2 : X ++ (wc' ++ Z) = w2) (hls : ls.size = nL) (hroom : (rest.map fun v => v.category).sum ≤ 8) (hdg : decode cc pc = .ok (.invokestatic index, 3))
    (kk : ∀ (H1 : Heap) (locs1 : List Loc), va_P D vwCl w2 H1 → va_D A w2 → va_S A s.heap H1 locs1 → W p l e R s m args below meth c H1 locs1 cells slots Q (F0 m (pc + 3) ls (.int r :: rest))) : W p l e R s m args below meth c H locs cells slots Q (F0 m pc ls (As.reverse ++ rest)) := by
  obtain ⟨hx, hb, hr, hts, hown, hlocks, hml, hA, hK⟩ := C
  subst hw1 hw2
  have hDc : va_D A wc := zD_mid hD
  have hPc : va_P D vwCl wc H := zP_mid hP
  have hFc := zfreeM hD hS hA
  refine va_calli (va_runS (As := As) (rest := rest) (nL := nL) (Ts := WT) ⟨hx, hb, hml, hown, hts⟩ (hc H.size) (va_cwS As.length hts cw rfl rfl rfl hd hR) ⟨zPs_blind, fun U hU hW => ⟨rfl, ⟨by rw [hU], by rw [hU]; exact hPc, va_K.moved hW.alike hK, hDc.weaken (fun _ _ _ _ => trivial)⟩, hE.step hS hFc hU hW⟩⟩ rfl rfl hls rfl (lv_room hroom) hdg hcs) hS (fun q _ h => hFc q h) hFc (fun r0 u t H1 locs1 ht hvm hw hB hz1 hk1 hS => ?_)
  try dsimp only at hw
  subst hw
  obtain ⟨hB1, hB2, hB3⟩ := hB
  rw [ht] at hB1
  obtain ⟨hP9, hD9⟩ := zjoinM hP hD hk1 hFc hB1 hB3
  exact kk H1 locs1 hP9 hD9 hS
theorem z_cVim {y : MethodName} {cy : ByteArray} {nY index fr lo : Nat} {rt : Option FieldType} {CL : String} {b : Nat} {As : List Value} {w wc wc' w2 : va_W} {r : Int32} (C : zX p s m meth c cc nL args own ret A D tys) (hc : zCI l y cy nY rt fr lo D tys (.ref b :: As) wc wc' r) (cw : GoodIn WT (wsV own index CL y (.code y cy nY rt :: WT))) (hd : y.cls = CL ∧ y.cls ≠ "java/lang/invoke/MethodHandle" ∧ y.cls ≠ "java/lang/invoke/VarHandle" ∧ (parseMethodDescriptor y.desc).map (fun d => d.parameters.length) = some As.length) (hR : fr + 1 ≤ R.frames ∧ 8 + (nY + 11) + lo ≤ R.locals) (hcs : cells ≤ R.cells ∧ slots ≤ R.slots) (hrv : ∃ cell : Cell, H[b]? = some cell ∧ cell.vm.isStatics = false ∧ s.vm.findClass CL = some cell.cls) (hP : va_P D vwCl w H) (hD : va_D A w) (hS : va_S A s.heap H locs) (X Z : va_W) (hw1 : w = X ++ (wc ++ Z)) (hw2 : X ++ (wc' ++ Z) = w2) (hls : ls.size = nL) (hroom : (rest.map fun v => v.category).sum ≤ 8) (hdg : decode cc pc = .ok (.invokevirtual index, 3))
    (kk : ∀ (H1 : Heap) (locs1 : List Loc), va_P D vwCl w2 H1 → va_D A w2 → va_S A s.heap H1 locs1 → W p l e R s m args below meth c H1 locs1 cells slots Q (F0 m (pc + 3) ls (.int r :: rest))) : W p l e R s m args below meth c H locs cells slots Q (F0 m pc ls (As.reverse ++ .ref b :: rest)) := by
  obtain ⟨hx, hb, hr, hts, hown, hlocks, hml, hA, hK⟩ := C
  subst hw1 hw2
  have hDc : va_D A wc := zD_mid hD
  have hPc : va_P D vwCl wc H := zP_mid hP
  have hFc := zfreeM hD hS hA
  refine va_calli (va_runV (As := As) (rest := rest) (nL := nL) (Ts := WT) ⟨hx, hb, hml, hown, hts⟩ (hc H.size) (cwV As.length hts cw rfl rfl rfl hd hR) ⟨zP_blind, hrv, fun U hU hW => ⟨rfl, by rw [hU], by rw [hU]; exact hPc, va_K.moved hW.alike hK, hDc.weaken (fun _ _ _ _ => trivial)⟩⟩ rfl rfl hls rfl (lv_room hroom) hdg hcs) hS (fun q _ h => hFc q h) hFc (fun r0 u t H1 locs1 ht hvm hw hB hz1 hk1 hS => ?_)
  try dsimp only at hw
  subst hw
  obtain ⟨hB1, hB2, hB3⟩ := hB
  rw [ht] at hB1
  obtain ⟨hP9, hD9⟩ := zjoinM hP hD hk1 hFc hB1 hB3
  exact kk H1 locs1 hP9 hD9 hS
theorem z_cSim {y : MethodName} {cy : ByteArray} {nY index fr lo : Nat} {rt : Option FieldType}  {As : List Value} {w wc wc' w2 : va_W} {r : Int32} (C : zX p s m meth c cc nL args own ret A D tys) (hc : zCI l y cy nY rt fr lo D tys As wc wc' r) (cw : GoodIn WT (va_wsS own index y (.code y cy nY rt :: WT))) (hd : y.cls ≠ "java/lang/invoke/MethodHandle" ∧ y.cls ≠ "java/lang/invoke/VarHandle" ∧ (parseMethodDescriptor y.desc).map (fun d => d.parameters.length) = some As.length) (hR : fr + 1 ≤ R.frames ∧ 8 + (nY + 11) + lo ≤ R.locals) (hcs : cells ≤ R.cells ∧ slots ≤ R.slots)  (hP : va_P D vwCl w H) (hD : va_D A w) (hS : va_S A s.heap H locs) (X Z : va_W) (hw1 : w = X ++ (wc ++ Z)) (hw2 : X ++ (wc' ++ Z) = w2) (hls : ls.size = nL) (hroom : (rest.map fun v => v.category).sum ≤ 8) (hdg : decode cc pc = .ok (.invokestatic index, 3))
    (kk : ∀ (H1 : Heap) (locs1 : List Loc), va_P D vwCl w2 H1 → va_D A w2 → va_S A s.heap H1 locs1 → W p l e R s m args below meth c H1 locs1 cells slots Q (F0 m (pc + 3) ls (.int r :: rest))) : W p l e R s m args below meth c H locs cells slots Q (F0 m pc ls (As.reverse ++ rest)) := by
  obtain ⟨hx, hb, hr, hts, hown, hlocks, hml, hA, hK⟩ := C
  subst hw1 hw2
  have hDc : va_D A wc := zD_mid hD
  have hPc : va_P D vwCl wc H := zP_mid hP
  have hFc := zfreeM hD hS hA
  refine va_calli (va_runS (As := As) (rest := rest) (nL := nL) (Ts := WT) ⟨hx, hb, hml, hown, hts⟩ (hc H.size) (va_cwS As.length hts cw rfl rfl rfl hd hR) ⟨zP_blind, fun U hU hW => ⟨rfl, by rw [hU], by rw [hU]; exact hPc, va_K.moved hW.alike hK, hDc.weaken (fun _ _ _ _ => trivial)⟩⟩ rfl rfl hls rfl (lv_room hroom) hdg hcs) hS (fun q _ h => hFc q h) hFc (fun r0 u t H1 locs1 ht hvm hw hB hz1 hk1 hS => ?_)
  try dsimp only at hw
  subst hw
  obtain ⟨hB1, hB2, hB3⟩ := hB
  rw [ht] at hB1
  obtain ⟨hP9, hD9⟩ := zjoinM hP hD hk1 hFc hB1 hB3
  exact kk H1 locs1 hP9 hD9 hS
def zCLs (l : Launch) (y : MethodName) (cy : ByteArray) (nY : Nat) (rt : Option FieldType) (fr lo : Nat) (D : va_G) (tys : zTy) (E : zEn) (av : List Value) (w w' : va_W) (r : Int64) : Prop := ∀ sz : Nat, Met l y (.code y cy nY rt :: WT) (zRm fr lo) (va_Pc av (zPs D tys w sz E)) (zQL D tys (va_A w sz) w' r) 0 0 (va_A w sz)
theorem zCLs_of {y : MethodName} {cy : ByteArray} {nY : Nat} {rt : Option FieldType} {fr lo : Nat} {av : List Value} {w w' : va_W} {r : Int64} (hy : plainName y.cls = true) (hm : (lg_sl av).length ≤ nY)
    (body : ∀ (p : Program) (e : Env) (s : State) (m : MethodId) (below : List Frame) (meth : Method) (c : Code) (A : Nat → Prop) (ls : Array Slot), zX p s m meth c cy nY av.toArray y.cls rt A D tys → zE E A s s.heap → va_P D vwCl w s.heap → va_D A w → va_S A s.heap s.heap [] → lv_has ls nY (lv_args 0 av) → W p l e (zRm fr lo) s m av.toArray below meth c s.heap [] 0 0 (MQ below (zQL D tys A w' r) av.toArray s 0 0 A) (F0 m 0 ls [])) : zCLs l y cy nY rt fr lo D tys E av w w' r := by
  intro sz
  refine Met.ofW (cc := cy) (maxL := nY) (ret := rt) hy rfl ?_
  intro p e s m args below meth c s₁ B hml hv
  obtain ⟨rfl, ⟨hsz, hP, hK, hD0⟩, hE⟩ := hv
  have hts := atoms_spec (ws := .code y cy nY rt :: WT) B.pre
  subst hsz
  rw [lg_entry_eq]
  exact body p e s m below meth c (va_A w s.heap.size) _ ⟨B.exec, B.bytes, B.returns, fun q h => hts q (List.mem_cons_of_mem _ h), findClass_of_methodNamed B.named, B.notSynchronized, hml, fun q h => Or.inr h, hK⟩ hE hP hD0.self va_S.rf (lv_entry av hm)
theorem z_cVls {y : MethodName} {cy : ByteArray} {nY index fr lo : Nat} {rt : Option FieldType} {CL : String} {b : Nat} {As : List Value} {w wc wc' : va_W} {r : Int64} (C : zX p s m meth c cc nL args own ret A D tys) (hE : zE E A s s.heap) (hc : zCLs l y cy nY rt fr lo D tys E (.ref b :: As) wc wc' r) (cw : GoodIn WT (wsV own index CL y (.code y cy nY rt :: WT))) (hd : y.cls = CL ∧ y.cls ≠ "java/lang/invoke/MethodHandle" ∧ y.cls ≠ "java/lang/invoke/VarHandle" ∧ (parseMethodDescriptor y.desc).map (fun d => d.parameters.length) = some As.length) (hR : fr + 1 ≤ R.frames ∧ 8 + (nY + 11) + lo ≤ R.locals) (hcs : cells ≤ R.cells ∧ slots ≤ R.slots) (hrv : ∃ cell : Cell, H[b]? = some cell ∧ cell.vm.isStatics = false ∧ s.vm.findClass CL = some cell.cls) (hP : va_P D vwCl w H) (hD : va_D A w) (hS : va_S A s.heap H locs) {w2 : va_W} (isC isR isB : List Nat) (hC : isC.map (fun i => w[i]?) = wc.map some) (hR2 : (isR.map (fun i => w[i]?)).all Option.isSome = true) (hB9 : isB.map (fun i => (isR.filterMap (fun i => w[i]?) ++ wc')[i]?) = w2.map some) (hn : va_nd isC = true) (hn2 : va_nd isR = true) (hn3 : va_nd isB = true) (hdis : ∀ i ∈ isR, i ∉ isC) (hls : ls.size = nL) (hroom : (rest.map fun v => v.category).sum ≤ 8) (hdg : decode cc pc = .ok (.invokevirtual index, 3))
    (kk : ∀ (H1 : Heap) (locs1 : List Loc), va_P D vwCl w2 H1 → va_D A w2 → va_S A s.heap H1 locs1 → W p l e R s m args below meth c H1 locs1 cells slots Q (F0 m (pc + 3) ls (.long r :: rest))) : W p l e R s m args below meth c H locs cells slots Q (F0 m pc ls (As.reverse ++ .ref b :: rest)) := by
  obtain ⟨hx, hb, hr, hts, hown, hlocks, hml, hA, hK⟩ := C
  have hDc : va_D A wc := hD.sub isC hn hC
  have hPc : va_P D vwCl wc H := hP.sub isC (zfm2 hC)
  have hFc := va_free hD hS hA isC hC
  refine va_calll (va_runV (As := As) (rest := rest) (nL := nL) (Ts := WT) ⟨hx, hb, hml, hown, hts⟩ (hc H.size) (cwV As.length hts cw rfl rfl rfl hd hR) ⟨zPs_blind, hrv, fun U hU hW => ⟨rfl, ⟨by rw [hU], by rw [hU]; exact hPc, va_K.moved hW.alike hK, hDc.weaken (fun _ _ _ _ => trivial)⟩, hE.step hS hFc hU hW⟩⟩ rfl rfl hls rfl (lv_room hroom) hdg hcs) hS (fun q _ h => hFc q h) hFc (fun r0 u t H1 locs1 ht hvm hw hB hz1 hk1 hS => ?_)
  try dsimp only at hw
  subst hw
  obtain ⟨hB1, hB2, hB3⟩ := hB
  rw [ht] at hB1
  obtain ⟨hP8, hD8⟩ := va_join hP hD isC isR hC (zfm hR2) hn2 hdis hk1 hFc hB1 hB3
  have hP9 := hP8.sub isB (zfm2 hB9)
  have hD9 := hD8.sub isB hn3 hB9
  exact kk H1 locs1 hP9 hD9 hS
theorem z_cVls0 {y : MethodName} {cy : ByteArray} {nY index fr lo : Nat} {rt : Option FieldType} {CL : String} {b : Nat} {As : List Value} {w wc' : va_W} {r : Int64} (C : zX p s m meth c cc nL args own ret A D tys) (hE : zE E A s s.heap) (hc : zCLs l y cy nY rt fr lo D tys E (.ref b :: As) w wc' r) (cw : GoodIn WT (wsV own index CL y (.code y cy nY rt :: WT))) (hd : y.cls = CL ∧ y.cls ≠ "java/lang/invoke/MethodHandle" ∧ y.cls ≠ "java/lang/invoke/VarHandle" ∧ (parseMethodDescriptor y.desc).map (fun d => d.parameters.length) = some As.length) (hR : fr + 1 ≤ R.frames ∧ 8 + (nY + 11) + lo ≤ R.locals) (hcs : cells ≤ R.cells ∧ slots ≤ R.slots) (hrv : ∃ cell : Cell, H[b]? = some cell ∧ cell.vm.isStatics = false ∧ s.vm.findClass CL = some cell.cls) (hP : va_P D vwCl w H) (hD : va_D A w) (hS : va_S A s.heap H locs)  (hls : ls.size = nL) (hroom : (rest.map fun v => v.category).sum ≤ 8) (hdg : decode cc pc = .ok (.invokevirtual index, 3))
    (kk : ∀ (H1 : Heap) (locs1 : List Loc), va_P D vwCl wc' H1 → va_D A wc' → va_S A s.heap H1 locs1 → W p l e R s m args below meth c H1 locs1 cells slots Q (F0 m (pc + 3) ls (.long r :: rest))) : W p l e R s m args below meth c H locs cells slots Q (F0 m pc ls (As.reverse ++ .ref b :: rest)) := by
  obtain ⟨hx, hb, hr, hts, hown, hlocks, hml, hA, hK⟩ := C
  have hDc : va_D A w := hD
  have hPc : va_P D vwCl w H := hP
  have hFc := zfree hD hS hA
  refine va_calll (va_runV (As := As) (rest := rest) (nL := nL) (Ts := WT) ⟨hx, hb, hml, hown, hts⟩ (hc H.size) (cwV As.length hts cw rfl rfl rfl hd hR) ⟨zPs_blind, hrv, fun U hU hW => ⟨rfl, ⟨by rw [hU], by rw [hU]; exact hPc, va_K.moved hW.alike hK, hDc.weaken (fun _ _ _ _ => trivial)⟩, hE.step hS hFc hU hW⟩⟩ rfl rfl hls rfl (lv_room hroom) hdg hcs) hS (fun q _ h => hFc q h) hFc (fun r0 u t H1 locs1 ht hvm hw hB hz1 hk1 hS => ?_)
  try dsimp only at hw
  subst hw
  obtain ⟨hB1, hB2, hB3⟩ := hB
  rw [ht] at hB1
  have hP9 := hB1
  have hD9 : va_D A wc' := hB3.weaken (fun _ _ _ h => hFc _ h)
  exact kk H1 locs1 hP9 hD9 hS
theorem z_cVlsE {y : MethodName} {cy : ByteArray} {nY index fr lo : Nat} {rt : Option FieldType} {CL : String} {b : Nat} {As : List Value} {w : va_W} {r : Int64} (C : zX p s m meth c cc nL args own ret A D tys) (hE : zE E A s s.heap) (hc : zCLs l y cy nY rt fr lo D tys E (.ref b :: As) [] [] r) (cw : GoodIn WT (wsV own index CL y (.code y cy nY rt :: WT))) (hd : y.cls = CL ∧ y.cls ≠ "java/lang/invoke/MethodHandle" ∧ y.cls ≠ "java/lang/invoke/VarHandle" ∧ (parseMethodDescriptor y.desc).map (fun d => d.parameters.length) = some As.length) (hR : fr + 1 ≤ R.frames ∧ 8 + (nY + 11) + lo ≤ R.locals) (hcs : cells ≤ R.cells ∧ slots ≤ R.slots) (hrv : ∃ cell : Cell, H[b]? = some cell ∧ cell.vm.isStatics = false ∧ s.vm.findClass CL = some cell.cls) (hP : va_P D vwCl w H) (hD : va_D A w) (hS : va_S A s.heap H locs)  (hls : ls.size = nL) (hroom : (rest.map fun v => v.category).sum ≤ 8) (hdg : decode cc pc = .ok (.invokevirtual index, 3))
    (kk : ∀ (H1 : Heap) (locs1 : List Loc), va_P D vwCl w H1 → va_D A w → va_S A s.heap H1 locs1 → W p l e R s m args below meth c H1 locs1 cells slots Q (F0 m (pc + 3) ls (.long r :: rest))) : W p l e R s m args below meth c H locs cells slots Q (F0 m pc ls (As.reverse ++ .ref b :: rest)) := by
  obtain ⟨hx, hb, hr, hts, hown, hlocks, hml, hA, hK⟩ := C
  have hDc : va_D A ([] : va_W) := ⟨fun i j p q h => by simp at h, fun k q h => by simp at h⟩
  have hPc : va_P D vwCl ([] : va_W) H := fun k q h => by simp at h
  have hFc : ∀ q, va_A ([] : va_W) H.size q → A q := fun q h => by
    rcases h with ⟨k, e, hk⟩ | h
    · simp at hk
    · exact hA q (Nat.le_trans hS.1 h)
  refine va_calll (va_runV (As := As) (rest := rest) (nL := nL) (Ts := WT) ⟨hx, hb, hml, hown, hts⟩ (hc H.size) (cwV As.length hts cw rfl rfl rfl hd hR) ⟨zPs_blind, hrv, fun U hU hW => ⟨rfl, ⟨by rw [hU], by rw [hU]; exact hPc, va_K.moved hW.alike hK, hDc.weaken (fun _ _ _ _ => trivial)⟩, hE.step hS hFc hU hW⟩⟩ rfl rfl hls rfl (lv_room hroom) hdg hcs) hS (fun q _ h => hFc q h) hFc (fun r0 u t H1 locs1 ht hvm hw hB hz1 hk1 hS => ?_)
  try dsimp only at hw
  subst hw
  obtain ⟨hB1, hB2, hB3⟩ := hB
  rw [ht] at hB1
  have hD9 := hD
  have hP9 : va_P D vwCl w H1 := hP.kept (fun k q hk => hk1 q.1 (va_at.lt (hP k q hk)) (fun h => by
    rcases h with ⟨k2, e2, hk2⟩ | h
    · simp at hk2
    · exact absurd h (Nat.not_le.mpr (va_at.lt (hP k q hk)))))
  exact kk H1 locs1 hP9 hD9 hS
theorem z_cVlsm {y : MethodName} {cy : ByteArray} {nY index fr lo : Nat} {rt : Option FieldType} {CL : String} {b : Nat} {As : List Value} {w wc wc' w2 : va_W} {r : Int64} (C : zX p s m meth c cc nL args own ret A D tys) (hE : zE E A s s.heap) (hc : zCLs l y cy nY rt fr lo D tys E (.ref b :: As) wc wc' r) (cw : GoodIn WT (wsV own index CL y (.code y cy nY rt :: WT))) (hd : y.cls = CL ∧ y.cls ≠ "java/lang/invoke/MethodHandle" ∧ y.cls ≠ "java/lang/invoke/VarHandle" ∧ (parseMethodDescriptor y.desc).map (fun d => d.parameters.length) = some As.length) (hR : fr + 1 ≤ R.frames ∧ 8 + (nY + 11) + lo ≤ R.locals) (hcs : cells ≤ R.cells ∧ slots ≤ R.slots) (hrv : ∃ cell : Cell, H[b]? = some cell ∧ cell.vm.isStatics = false ∧ s.vm.findClass CL = some cell.cls) (hP : va_P D vwCl w H) (hD : va_D A w) (hS : va_S A s.heap H locs) (X Z : va_W) (hw1 : w = X ++ (wc ++ Z)) (hw2 : X ++ (wc' ++ Z) = w2) (hls : ls.size = nL) (hroom : (rest.map fun v => v.category).sum ≤ 8) (hdg : decode cc pc = .ok (.invokevirtual index, 3))
    (kk : ∀ (H1 : Heap) (locs1 : List Loc), va_P D vwCl w2 H1 → va_D A w2 → va_S A s.heap H1 locs1 → W p l e R s m args below meth c H1 locs1 cells slots Q (F0 m (pc + 3) ls (.long r :: rest))) : W p l e R s m args below meth c H locs cells slots Q (F0 m pc ls (As.reverse ++ .ref b :: rest)) := by
  obtain ⟨hx, hb, hr, hts, hown, hlocks, hml, hA, hK⟩ := C
  subst hw1 hw2
  have hDc : va_D A wc := zD_mid hD
  have hPc : va_P D vwCl wc H := zP_mid hP
  have hFc := zfreeM hD hS hA
  refine va_calll (va_runV (As := As) (rest := rest) (nL := nL) (Ts := WT) ⟨hx, hb, hml, hown, hts⟩ (hc H.size) (cwV As.length hts cw rfl rfl rfl hd hR) ⟨zPs_blind, hrv, fun U hU hW => ⟨rfl, ⟨by rw [hU], by rw [hU]; exact hPc, va_K.moved hW.alike hK, hDc.weaken (fun _ _ _ _ => trivial)⟩, hE.step hS hFc hU hW⟩⟩ rfl rfl hls rfl (lv_room hroom) hdg hcs) hS (fun q _ h => hFc q h) hFc (fun r0 u t H1 locs1 ht hvm hw hB hz1 hk1 hS => ?_)
  try dsimp only at hw
  subst hw
  obtain ⟨hB1, hB2, hB3⟩ := hB
  rw [ht] at hB1
  obtain ⟨hP9, hD9⟩ := zjoinM hP hD hk1 hFc hB1 hB3
  exact kk H1 locs1 hP9 hD9 hS
theorem z_cSls {y : MethodName} {cy : ByteArray} {nY index fr lo : Nat} {rt : Option FieldType}  {As : List Value} {w wc wc' : va_W} {r : Int64} (C : zX p s m meth c cc nL args own ret A D tys) (hE : zE E A s s.heap) (hc : zCLs l y cy nY rt fr lo D tys E As wc wc' r) (cw : GoodIn WT (va_wsS own index y (.code y cy nY rt :: WT))) (hd : y.cls ≠ "java/lang/invoke/MethodHandle" ∧ y.cls ≠ "java/lang/invoke/VarHandle" ∧ (parseMethodDescriptor y.desc).map (fun d => d.parameters.length) = some As.length) (hR : fr + 1 ≤ R.frames ∧ 8 + (nY + 11) + lo ≤ R.locals) (hcs : cells ≤ R.cells ∧ slots ≤ R.slots)  (hP : va_P D vwCl w H) (hD : va_D A w) (hS : va_S A s.heap H locs) {w2 : va_W} (isC isR isB : List Nat) (hC : isC.map (fun i => w[i]?) = wc.map some) (hR2 : (isR.map (fun i => w[i]?)).all Option.isSome = true) (hB9 : isB.map (fun i => (isR.filterMap (fun i => w[i]?) ++ wc')[i]?) = w2.map some) (hn : va_nd isC = true) (hn2 : va_nd isR = true) (hn3 : va_nd isB = true) (hdis : ∀ i ∈ isR, i ∉ isC) (hls : ls.size = nL) (hroom : (rest.map fun v => v.category).sum ≤ 8) (hdg : decode cc pc = .ok (.invokestatic index, 3))
    (kk : ∀ (H1 : Heap) (locs1 : List Loc), va_P D vwCl w2 H1 → va_D A w2 → va_S A s.heap H1 locs1 → W p l e R s m args below meth c H1 locs1 cells slots Q (F0 m (pc + 3) ls (.long r :: rest))) : W p l e R s m args below meth c H locs cells slots Q (F0 m pc ls (As.reverse ++ rest)) := by
  obtain ⟨hx, hb, hr, hts, hown, hlocks, hml, hA, hK⟩ := C
  have hDc : va_D A wc := hD.sub isC hn hC
  have hPc : va_P D vwCl wc H := hP.sub isC (zfm2 hC)
  have hFc := va_free hD hS hA isC hC
  refine va_calll (va_runS (As := As) (rest := rest) (nL := nL) (Ts := WT) ⟨hx, hb, hml, hown, hts⟩ (hc H.size) (va_cwS As.length hts cw rfl rfl rfl hd hR) ⟨zPs_blind, fun U hU hW => ⟨rfl, ⟨by rw [hU], by rw [hU]; exact hPc, va_K.moved hW.alike hK, hDc.weaken (fun _ _ _ _ => trivial)⟩, hE.step hS hFc hU hW⟩⟩ rfl rfl hls rfl (lv_room hroom) hdg hcs) hS (fun q _ h => hFc q h) hFc (fun r0 u t H1 locs1 ht hvm hw hB hz1 hk1 hS => ?_)
  try dsimp only at hw
  subst hw
  obtain ⟨hB1, hB2, hB3⟩ := hB
  rw [ht] at hB1
  obtain ⟨hP8, hD8⟩ := va_join hP hD isC isR hC (zfm hR2) hn2 hdis hk1 hFc hB1 hB3
  have hP9 := hP8.sub isB (zfm2 hB9)
  have hD9 := hD8.sub isB hn3 hB9
  exact kk H1 locs1 hP9 hD9 hS
theorem z_cSls0 {y : MethodName} {cy : ByteArray} {nY index fr lo : Nat} {rt : Option FieldType}  {As : List Value} {w wc' : va_W} {r : Int64} (C : zX p s m meth c cc nL args own ret A D tys) (hE : zE E A s s.heap) (hc : zCLs l y cy nY rt fr lo D tys E As w wc' r) (cw : GoodIn WT (va_wsS own index y (.code y cy nY rt :: WT))) (hd : y.cls ≠ "java/lang/invoke/MethodHandle" ∧ y.cls ≠ "java/lang/invoke/VarHandle" ∧ (parseMethodDescriptor y.desc).map (fun d => d.parameters.length) = some As.length) (hR : fr + 1 ≤ R.frames ∧ 8 + (nY + 11) + lo ≤ R.locals) (hcs : cells ≤ R.cells ∧ slots ≤ R.slots)  (hP : va_P D vwCl w H) (hD : va_D A w) (hS : va_S A s.heap H locs)  (hls : ls.size = nL) (hroom : (rest.map fun v => v.category).sum ≤ 8) (hdg : decode cc pc = .ok (.invokestatic index, 3))
    (kk : ∀ (H1 : Heap) (locs1 : List Loc), va_P D vwCl wc' H1 → va_D A wc' → va_S A s.heap H1 locs1 → W p l e R s m args below meth c H1 locs1 cells slots Q (F0 m (pc + 3) ls (.long r :: rest))) : W p l e R s m args below meth c H locs cells slots Q (F0 m pc ls (As.reverse ++ rest)) := by
  obtain ⟨hx, hb, hr, hts, hown, hlocks, hml, hA, hK⟩ := C
  have hDc : va_D A w := hD
  have hPc : va_P D vwCl w H := hP
  have hFc := zfree hD hS hA
  refine va_calll (va_runS (As := As) (rest := rest) (nL := nL) (Ts := WT) ⟨hx, hb, hml, hown, hts⟩ (hc H.size) (va_cwS As.length hts cw rfl rfl rfl hd hR) ⟨zPs_blind, fun U hU hW => ⟨rfl, ⟨by rw [hU], by rw [hU]; exact hPc, va_K.moved hW.alike hK, hDc.weaken (fun _ _ _ _ => trivial)⟩, hE.step hS hFc hU hW⟩⟩ rfl rfl hls rfl (lv_room hroom) hdg hcs) hS (fun q _ h => hFc q h) hFc (fun r0 u t H1 locs1 ht hvm hw hB hz1 hk1 hS => ?_)
  try dsimp only at hw
  subst hw
  obtain ⟨hB1, hB2, hB3⟩ := hB
  rw [ht] at hB1
  have hP9 := hB1
  have hD9 : va_D A wc' := hB3.weaken (fun _ _ _ h => hFc _ h)
  exact kk H1 locs1 hP9 hD9 hS
theorem z_cSlsE {y : MethodName} {cy : ByteArray} {nY index fr lo : Nat} {rt : Option FieldType}  {As : List Value} {w : va_W} {r : Int64} (C : zX p s m meth c cc nL args own ret A D tys) (hE : zE E A s s.heap) (hc : zCLs l y cy nY rt fr lo D tys E As [] [] r) (cw : GoodIn WT (va_wsS own index y (.code y cy nY rt :: WT))) (hd : y.cls ≠ "java/lang/invoke/MethodHandle" ∧ y.cls ≠ "java/lang/invoke/VarHandle" ∧ (parseMethodDescriptor y.desc).map (fun d => d.parameters.length) = some As.length) (hR : fr + 1 ≤ R.frames ∧ 8 + (nY + 11) + lo ≤ R.locals) (hcs : cells ≤ R.cells ∧ slots ≤ R.slots)  (hP : va_P D vwCl w H) (hD : va_D A w) (hS : va_S A s.heap H locs)  (hls : ls.size = nL) (hroom : (rest.map fun v => v.category).sum ≤ 8) (hdg : decode cc pc = .ok (.invokestatic index, 3))
    (kk : ∀ (H1 : Heap) (locs1 : List Loc), va_P D vwCl w H1 → va_D A w → va_S A s.heap H1 locs1 → W p l e R s m args below meth c H1 locs1 cells slots Q (F0 m (pc + 3) ls (.long r :: rest))) : W p l e R s m args below meth c H locs cells slots Q (F0 m pc ls (As.reverse ++ rest)) := by
  obtain ⟨hx, hb, hr, hts, hown, hlocks, hml, hA, hK⟩ := C
  have hDc : va_D A ([] : va_W) := ⟨fun i j p q h => by simp at h, fun k q h => by simp at h⟩
  have hPc : va_P D vwCl ([] : va_W) H := fun k q h => by simp at h
  have hFc : ∀ q, va_A ([] : va_W) H.size q → A q := fun q h => by
    rcases h with ⟨k, e, hk⟩ | h
    · simp at hk
    · exact hA q (Nat.le_trans hS.1 h)
  refine va_calll (va_runS (As := As) (rest := rest) (nL := nL) (Ts := WT) ⟨hx, hb, hml, hown, hts⟩ (hc H.size) (va_cwS As.length hts cw rfl rfl rfl hd hR) ⟨zPs_blind, fun U hU hW => ⟨rfl, ⟨by rw [hU], by rw [hU]; exact hPc, va_K.moved hW.alike hK, hDc.weaken (fun _ _ _ _ => trivial)⟩, hE.step hS hFc hU hW⟩⟩ rfl rfl hls rfl (lv_room hroom) hdg hcs) hS (fun q _ h => hFc q h) hFc (fun r0 u t H1 locs1 ht hvm hw hB hz1 hk1 hS => ?_)
  try dsimp only at hw
  subst hw
  obtain ⟨hB1, hB2, hB3⟩ := hB
  rw [ht] at hB1
  have hD9 := hD
  have hP9 : va_P D vwCl w H1 := hP.kept (fun k q hk => hk1 q.1 (va_at.lt (hP k q hk)) (fun h => by
    rcases h with ⟨k2, e2, hk2⟩ | h
    · simp at hk2
    · exact absurd h (Nat.not_le.mpr (va_at.lt (hP k q hk)))))
  exact kk H1 locs1 hP9 hD9 hS
theorem z_cSlsm {y : MethodName} {cy : ByteArray} {nY index fr lo : Nat} {rt : Option FieldType}  {As : List Value} {w wc wc' w2 : va_W} {r : Int64} (C : zX p s m meth c cc nL args own ret A D tys) (hE : zE E A s s.heap) (hc : zCLs l y cy nY rt fr lo D tys E As wc wc' r) (cw : GoodIn WT (va_wsS own index y (.code y cy nY rt :: WT))) (hd : y.cls ≠ "java/lang/invoke/MethodHandle" ∧ y.cls ≠ "java/lang/invoke/VarHandle" ∧ (parseMethodDescriptor y.desc).map (fun d => d.parameters.length) = some As.length) (hR : fr + 1 ≤ R.frames ∧ 8 + (nY + 11) + lo ≤ R.locals) (hcs : cells ≤ R.cells ∧ slots ≤ R.slots)  (hP : va_P D vwCl w H) (hD : va_D A w) (hS : va_S A s.heap H locs) (X Z : va_W) (hw1 : w = X ++ (wc ++ Z)) (hw2 : X ++ (wc' ++ Z) = w2) (hls : ls.size = nL) (hroom : (rest.map fun v => v.category).sum ≤ 8) (hdg : decode cc pc = .ok (.invokestatic index, 3))
    (kk : ∀ (H1 : Heap) (locs1 : List Loc), va_P D vwCl w2 H1 → va_D A w2 → va_S A s.heap H1 locs1 → W p l e R s m args below meth c H1 locs1 cells slots Q (F0 m (pc + 3) ls (.long r :: rest))) : W p l e R s m args below meth c H locs cells slots Q (F0 m pc ls (As.reverse ++ rest)) := by
  obtain ⟨hx, hb, hr, hts, hown, hlocks, hml, hA, hK⟩ := C
  subst hw1 hw2
  have hDc : va_D A wc := zD_mid hD
  have hPc : va_P D vwCl wc H := zP_mid hP
  have hFc := zfreeM hD hS hA
  refine va_calll (va_runS (As := As) (rest := rest) (nL := nL) (Ts := WT) ⟨hx, hb, hml, hown, hts⟩ (hc H.size) (va_cwS As.length hts cw rfl rfl rfl hd hR) ⟨zPs_blind, fun U hU hW => ⟨rfl, ⟨by rw [hU], by rw [hU]; exact hPc, va_K.moved hW.alike hK, hDc.weaken (fun _ _ _ _ => trivial)⟩, hE.step hS hFc hU hW⟩⟩ rfl rfl hls rfl (lv_room hroom) hdg hcs) hS (fun q _ h => hFc q h) hFc (fun r0 u t H1 locs1 ht hvm hw hB hz1 hk1 hS => ?_)
  try dsimp only at hw
  subst hw
  obtain ⟨hB1, hB2, hB3⟩ := hB
  rw [ht] at hB1
  obtain ⟨hP9, hD9⟩ := zjoinM hP hD hk1 hFc hB1 hB3
  exact kk H1 locs1 hP9 hD9 hS
theorem z_cVlm {y : MethodName} {cy : ByteArray} {nY index fr lo : Nat} {rt : Option FieldType} {CL : String} {b : Nat} {As : List Value} {w wc wc' w2 : va_W} {r : Int64} (C : zX p s m meth c cc nL args own ret A D tys) (hc : zCL l y cy nY rt fr lo D tys (.ref b :: As) wc wc' r) (cw : GoodIn WT (wsV own index CL y (.code y cy nY rt :: WT))) (hd : y.cls = CL ∧ y.cls ≠ "java/lang/invoke/MethodHandle" ∧ y.cls ≠ "java/lang/invoke/VarHandle" ∧ (parseMethodDescriptor y.desc).map (fun d => d.parameters.length) = some As.length) (hR : fr + 1 ≤ R.frames ∧ 8 + (nY + 11) + lo ≤ R.locals) (hcs : cells ≤ R.cells ∧ slots ≤ R.slots) (hrv : ∃ cell : Cell, H[b]? = some cell ∧ cell.vm.isStatics = false ∧ s.vm.findClass CL = some cell.cls) (hP : va_P D vwCl w H) (hD : va_D A w) (hS : va_S A s.heap H locs) (X Z : va_W) (hw1 : w = X ++ (wc ++ Z)) (hw2 : X ++ (wc' ++ Z) = w2) (hls : ls.size = nL) (hroom : (rest.map fun v => v.category).sum ≤ 8) (hdg : decode cc pc = .ok (.invokevirtual index, 3))
    (kk : ∀ (H1 : Heap) (locs1 : List Loc), va_P D vwCl w2 H1 → va_D A w2 → va_S A s.heap H1 locs1 → W p l e R s m args below meth c H1 locs1 cells slots Q (F0 m (pc + 3) ls (.long r :: rest))) : W p l e R s m args below meth c H locs cells slots Q (F0 m pc ls (As.reverse ++ .ref b :: rest)) := by
  obtain ⟨hx, hb, hr, hts, hown, hlocks, hml, hA, hK⟩ := C
  subst hw1 hw2
  have hDc : va_D A wc := zD_mid hD
  have hPc : va_P D vwCl wc H := zP_mid hP
  have hFc := zfreeM hD hS hA
  refine va_calll (va_runV (As := As) (rest := rest) (nL := nL) (Ts := WT) ⟨hx, hb, hml, hown, hts⟩ (hc H.size) (cwV As.length hts cw rfl rfl rfl hd hR) ⟨zP_blind, hrv, fun U hU hW => ⟨rfl, by rw [hU], by rw [hU]; exact hPc, va_K.moved hW.alike hK, hDc.weaken (fun _ _ _ _ => trivial)⟩⟩ rfl rfl hls rfl (lv_room hroom) hdg hcs) hS (fun q _ h => hFc q h) hFc (fun r0 u t H1 locs1 ht hvm hw hB hz1 hk1 hS => ?_)
  try dsimp only at hw
  subst hw
  obtain ⟨hB1, hB2, hB3⟩ := hB
  rw [ht] at hB1
  obtain ⟨hP9, hD9⟩ := zjoinM hP hD hk1 hFc hB1 hB3
  exact kk H1 locs1 hP9 hD9 hS
theorem z_cSlm {y : MethodName} {cy : ByteArray} {nY index fr lo : Nat} {rt : Option FieldType}  {As : List Value} {w wc wc' w2 : va_W} {r : Int64} (C : zX p s m meth c cc nL args own ret A D tys) (hc : zCL l y cy nY rt fr lo D tys As wc wc' r) (cw : GoodIn WT (va_wsS own index y (.code y cy nY rt :: WT))) (hd : y.cls ≠ "java/lang/invoke/MethodHandle" ∧ y.cls ≠ "java/lang/invoke/VarHandle" ∧ (parseMethodDescriptor y.desc).map (fun d => d.parameters.length) = some As.length) (hR : fr + 1 ≤ R.frames ∧ 8 + (nY + 11) + lo ≤ R.locals) (hcs : cells ≤ R.cells ∧ slots ≤ R.slots)  (hP : va_P D vwCl w H) (hD : va_D A w) (hS : va_S A s.heap H locs) (X Z : va_W) (hw1 : w = X ++ (wc ++ Z)) (hw2 : X ++ (wc' ++ Z) = w2) (hls : ls.size = nL) (hroom : (rest.map fun v => v.category).sum ≤ 8) (hdg : decode cc pc = .ok (.invokestatic index, 3))
    (kk : ∀ (H1 : Heap) (locs1 : List Loc), va_P D vwCl w2 H1 → va_D A w2 → va_S A s.heap H1 locs1 → W p l e R s m args below meth c H1 locs1 cells slots Q (F0 m (pc + 3) ls (.long r :: rest))) : W p l e R s m args below meth c H locs cells slots Q (F0 m pc ls (As.reverse ++ rest)) := by
  obtain ⟨hx, hb, hr, hts, hown, hlocks, hml, hA, hK⟩ := C
  subst hw1 hw2
  have hDc : va_D A wc := zD_mid hD
  have hPc : va_P D vwCl wc H := zP_mid hP
  have hFc := zfreeM hD hS hA
  refine va_calll (va_runS (As := As) (rest := rest) (nL := nL) (Ts := WT) ⟨hx, hb, hml, hown, hts⟩ (hc H.size) (va_cwS As.length hts cw rfl rfl rfl hd hR) ⟨zP_blind, fun U hU hW => ⟨rfl, by rw [hU], by rw [hU]; exact hPc, va_K.moved hW.alike hK, hDc.weaken (fun _ _ _ _ => trivial)⟩⟩ rfl rfl hls rfl (lv_room hroom) hdg hcs) hS (fun q _ h => hFc q h) hFc (fun r0 u t H1 locs1 ht hvm hw hB hz1 hk1 hS => ?_)
  try dsimp only at hw
  subst hw
  obtain ⟨hB1, hB2, hB3⟩ := hB
  rw [ht] at hB1
  obtain ⟨hP9, hD9⟩ := zjoinM hP hD hk1 hFc hB1 hB3
  exact kk H1 locs1 hP9 hD9 hS
def zCVs (l : Launch) (y : MethodName) (cy : ByteArray) (nY : Nat) (rt : Option FieldType) (fr lo : Nat) (D : va_G) (tys : zTy) (E : zEn) (av : List Value) (w w' : va_W)  : Prop := ∀ sz : Nat, Met l y (.code y cy nY rt :: WT) (zRm fr lo) (va_Pc av (zPs D tys w sz E)) (zQV D tys (va_A w sz) w' ) 0 0 (va_A w sz)
theorem zCVs_of {y : MethodName} {cy : ByteArray} {nY : Nat} {rt : Option FieldType} {fr lo : Nat} {av : List Value} {w w' : va_W}  (hy : plainName y.cls = true) (hm : (lg_sl av).length ≤ nY)
    (body : ∀ (p : Program) (e : Env) (s : State) (m : MethodId) (below : List Frame) (meth : Method) (c : Code) (A : Nat → Prop) (ls : Array Slot), zX p s m meth c cy nY av.toArray y.cls rt A D tys → zE E A s s.heap → va_P D vwCl w s.heap → va_D A w → va_S A s.heap s.heap [] → lv_has ls nY (lv_args 0 av) → W p l e (zRm fr lo) s m av.toArray below meth c s.heap [] 0 0 (MQ below (zQV D tys A w' ) av.toArray s 0 0 A) (F0 m 0 ls [])) : zCVs l y cy nY rt fr lo D tys E av w w'  := by
  intro sz
  refine Met.ofW (cc := cy) (maxL := nY) (ret := rt) hy rfl ?_
  intro p e s m args below meth c s₁ B hml hv
  obtain ⟨rfl, ⟨hsz, hP, hK, hD0⟩, hE⟩ := hv
  have hts := atoms_spec (ws := .code y cy nY rt :: WT) B.pre
  subst hsz
  rw [lg_entry_eq]
  exact body p e s m below meth c (va_A w s.heap.size) _ ⟨B.exec, B.bytes, B.returns, fun q h => hts q (List.mem_cons_of_mem _ h), findClass_of_methodNamed B.named, B.notSynchronized, hml, fun q h => Or.inr h, hK⟩ hE hP hD0.self va_S.rf (lv_entry av hm)
theorem z_cVvs {y : MethodName} {cy : ByteArray} {nY index fr lo : Nat} {rt : Option FieldType} {CL : String} {b : Nat} {As : List Value} {w wc wc' : va_W}  (C : zX p s m meth c cc nL args own ret A D tys) (hE : zE E A s s.heap) (hc : zCVs l y cy nY rt fr lo D tys E (.ref b :: As) wc wc' ) (cw : GoodIn WT (wsV own index CL y (.code y cy nY rt :: WT))) (hd : y.cls = CL ∧ y.cls ≠ "java/lang/invoke/MethodHandle" ∧ y.cls ≠ "java/lang/invoke/VarHandle" ∧ (parseMethodDescriptor y.desc).map (fun d => d.parameters.length) = some As.length) (hR : fr + 1 ≤ R.frames ∧ 8 + (nY + 11) + lo ≤ R.locals) (hcs : cells ≤ R.cells ∧ slots ≤ R.slots) (hrv : ∃ cell : Cell, H[b]? = some cell ∧ cell.vm.isStatics = false ∧ s.vm.findClass CL = some cell.cls) (hP : va_P D vwCl w H) (hD : va_D A w) (hS : va_S A s.heap H locs) {w2 : va_W} (isC isR isB : List Nat) (hC : isC.map (fun i => w[i]?) = wc.map some) (hR2 : (isR.map (fun i => w[i]?)).all Option.isSome = true) (hB9 : isB.map (fun i => (isR.filterMap (fun i => w[i]?) ++ wc')[i]?) = w2.map some) (hn : va_nd isC = true) (hn2 : va_nd isR = true) (hn3 : va_nd isB = true) (hdis : ∀ i ∈ isR, i ∉ isC) (hls : ls.size = nL) (hroom : (rest.map fun v => v.category).sum ≤ 8) (hdg : decode cc pc = .ok (.invokevirtual index, 3))
    (kk : ∀ (H1 : Heap) (locs1 : List Loc), va_P D vwCl w2 H1 → va_D A w2 → va_S A s.heap H1 locs1 → W p l e R s m args below meth c H1 locs1 cells slots Q (F0 m (pc + 3) ls (rest))) : W p l e R s m args below meth c H locs cells slots Q (F0 m pc ls (As.reverse ++ .ref b :: rest)) := by
  obtain ⟨hx, hb, hr, hts, hown, hlocks, hml, hA, hK⟩ := C
  have hDc : va_D A wc := hD.sub isC hn hC
  have hPc : va_P D vwCl wc H := hP.sub isC (zfm2 hC)
  have hFc := va_free hD hS hA isC hC
  refine va_callv (va_runV (As := As) (rest := rest) (nL := nL) (Ts := WT) ⟨hx, hb, hml, hown, hts⟩ (hc H.size) (cwV As.length hts cw rfl rfl rfl hd hR) ⟨zPs_blind, hrv, fun U hU hW => ⟨rfl, ⟨by rw [hU], by rw [hU]; exact hPc, va_K.moved hW.alike hK, hDc.weaken (fun _ _ _ _ => trivial)⟩, hE.step hS hFc hU hW⟩⟩ rfl rfl hls rfl (lv_room hroom) hdg hcs) hS (fun q _ h => hFc q h) hFc (fun u t H1 locs1 ht hvm hw hB hz1 hk1 hS => ?_)
  
  
  obtain ⟨hB1, hB2, hB3⟩ := hB
  rw [ht] at hB1
  obtain ⟨hP8, hD8⟩ := va_join hP hD isC isR hC (zfm hR2) hn2 hdis hk1 hFc hB1 hB3
  have hP9 := hP8.sub isB (zfm2 hB9)
  have hD9 := hD8.sub isB hn3 hB9
  exact kk H1 locs1 hP9 hD9 hS
theorem z_cVvs0 {y : MethodName} {cy : ByteArray} {nY index fr lo : Nat} {rt : Option FieldType} {CL : String} {b : Nat} {As : List Value} {w wc' : va_W}  (C : zX p s m meth c cc nL args own ret A D tys) (hE : zE E A s s.heap) (hc : zCVs l y cy nY rt fr lo D tys E (.ref b :: As) w wc' ) (cw : GoodIn WT (wsV own index CL y (.code y cy nY rt :: WT))) (hd : y.cls = CL ∧ y.cls ≠ "java/lang/invoke/MethodHandle" ∧ y.cls ≠ "java/lang/invoke/VarHandle" ∧ (parseMethodDescriptor y.desc).map (fun d => d.parameters.length) = some As.length) (hR : fr + 1 ≤ R.frames ∧ 8 + (nY + 11) + lo ≤ R.locals) (hcs : cells ≤ R.cells ∧ slots ≤ R.slots) (hrv : ∃ cell : Cell, H[b]? = some cell ∧ cell.vm.isStatics = false ∧ s.vm.findClass CL = some cell.cls) (hP : va_P D vwCl w H) (hD : va_D A w) (hS : va_S A s.heap H locs)  (hls : ls.size = nL) (hroom : (rest.map fun v => v.category).sum ≤ 8) (hdg : decode cc pc = .ok (.invokevirtual index, 3))
    (kk : ∀ (H1 : Heap) (locs1 : List Loc), va_P D vwCl wc' H1 → va_D A wc' → va_S A s.heap H1 locs1 → W p l e R s m args below meth c H1 locs1 cells slots Q (F0 m (pc + 3) ls (rest))) : W p l e R s m args below meth c H locs cells slots Q (F0 m pc ls (As.reverse ++ .ref b :: rest)) := by
  obtain ⟨hx, hb, hr, hts, hown, hlocks, hml, hA, hK⟩ := C
  have hDc : va_D A w := hD
  have hPc : va_P D vwCl w H := hP
  have hFc := zfree hD hS hA
  refine va_callv (va_runV (As := As) (rest := rest) (nL := nL) (Ts := WT) ⟨hx, hb, hml, hown, hts⟩ (hc H.size) (cwV As.length hts cw rfl rfl rfl hd hR) ⟨zPs_blind, hrv, fun U hU hW => ⟨rfl, ⟨by rw [hU], by rw [hU]; exact hPc, va_K.moved hW.alike hK, hDc.weaken (fun _ _ _ _ => trivial)⟩, hE.step hS hFc hU hW⟩⟩ rfl rfl hls rfl (lv_room hroom) hdg hcs) hS (fun q _ h => hFc q h) hFc (fun u t H1 locs1 ht hvm hw hB hz1 hk1 hS => ?_)
  
  
  obtain ⟨hB1, hB2, hB3⟩ := hB
  rw [ht] at hB1
  have hP9 := hB1
  have hD9 : va_D A wc' := hB3.weaken (fun _ _ _ h => hFc _ h)
  exact kk H1 locs1 hP9 hD9 hS
theorem z_cVvsE {y : MethodName} {cy : ByteArray} {nY index fr lo : Nat} {rt : Option FieldType} {CL : String} {b : Nat} {As : List Value} {w : va_W}  (C : zX p s m meth c cc nL args own ret A D tys) (hE : zE E A s s.heap) (hc : zCVs l y cy nY rt fr lo D tys E (.ref b :: As) [] [] ) (cw : GoodIn WT (wsV own index CL y (.code y cy nY rt :: WT))) (hd : y.cls = CL ∧ y.cls ≠ "java/lang/invoke/MethodHandle" ∧ y.cls ≠ "java/lang/invoke/VarHandle" ∧ (parseMethodDescriptor y.desc).map (fun d => d.parameters.length) = some As.length) (hR : fr + 1 ≤ R.frames ∧ 8 + (nY + 11) + lo ≤ R.locals) (hcs : cells ≤ R.cells ∧ slots ≤ R.slots) (hrv : ∃ cell : Cell, H[b]? = some cell ∧ cell.vm.isStatics = false ∧ s.vm.findClass CL = some cell.cls) (hP : va_P D vwCl w H) (hD : va_D A w) (hS : va_S A s.heap H locs)  (hls : ls.size = nL) (hroom : (rest.map fun v => v.category).sum ≤ 8) (hdg : decode cc pc = .ok (.invokevirtual index, 3))
    (kk : ∀ (H1 : Heap) (locs1 : List Loc), va_P D vwCl w H1 → va_D A w → va_S A s.heap H1 locs1 → W p l e R s m args below meth c H1 locs1 cells slots Q (F0 m (pc + 3) ls (rest))) : W p l e R s m args below meth c H locs cells slots Q (F0 m pc ls (As.reverse ++ .ref b :: rest)) := by
  obtain ⟨hx, hb, hr, hts, hown, hlocks, hml, hA, hK⟩ := C
  have hDc : va_D A ([] : va_W) := ⟨fun i j p q h => by simp at h, fun k q h => by simp at h⟩
  have hPc : va_P D vwCl ([] : va_W) H := fun k q h => by simp at h
  have hFc : ∀ q, va_A ([] : va_W) H.size q → A q := fun q h => by
    rcases h with ⟨k, e, hk⟩ | h
    · simp at hk
    · exact hA q (Nat.le_trans hS.1 h)
  refine va_callv (va_runV (As := As) (rest := rest) (nL := nL) (Ts := WT) ⟨hx, hb, hml, hown, hts⟩ (hc H.size) (cwV As.length hts cw rfl rfl rfl hd hR) ⟨zPs_blind, hrv, fun U hU hW => ⟨rfl, ⟨by rw [hU], by rw [hU]; exact hPc, va_K.moved hW.alike hK, hDc.weaken (fun _ _ _ _ => trivial)⟩, hE.step hS hFc hU hW⟩⟩ rfl rfl hls rfl (lv_room hroom) hdg hcs) hS (fun q _ h => hFc q h) hFc (fun u t H1 locs1 ht hvm hw hB hz1 hk1 hS => ?_)
  
  
  obtain ⟨hB1, hB2, hB3⟩ := hB
  rw [ht] at hB1
  have hD9 := hD
  have hP9 : va_P D vwCl w H1 := hP.kept (fun k q hk => hk1 q.1 (va_at.lt (hP k q hk)) (fun h => by
    rcases h with ⟨k2, e2, hk2⟩ | h
    · simp at hk2
    · exact absurd h (Nat.not_le.mpr (va_at.lt (hP k q hk)))))
  exact kk H1 locs1 hP9 hD9 hS
theorem z_cVvsm {y : MethodName} {cy : ByteArray} {nY index fr lo : Nat} {rt : Option FieldType} {CL : String} {b : Nat} {As : List Value} {w wc wc' w2 : va_W}  (C : zX p s m meth c cc nL args own ret A D tys) (hE : zE E A s s.heap) (hc : zCVs l y cy nY rt fr lo D tys E (.ref b :: As) wc wc' ) (cw : GoodIn WT (wsV own index CL y (.code y cy nY rt :: WT))) (hd : y.cls = CL ∧ y.cls ≠ "java/lang/invoke/MethodHandle" ∧ y.cls ≠ "java/lang/invoke/VarHandle" ∧ (parseMethodDescriptor y.desc).map (fun d => d.parameters.length) = some As.length) (hR : fr + 1 ≤ R.frames ∧ 8 + (nY + 11) + lo ≤ R.locals) (hcs : cells ≤ R.cells ∧ slots ≤ R.slots) (hrv : ∃ cell : Cell, H[b]? = some cell ∧ cell.vm.isStatics = false ∧ s.vm.findClass CL = some cell.cls) (hP : va_P D vwCl w H) (hD : va_D A w) (hS : va_S A s.heap H locs) (X Z : va_W) (hw1 : w = X ++ (wc ++ Z)) (hw2 : X ++ (wc' ++ Z) = w2) (hls : ls.size = nL) (hroom : (rest.map fun v => v.category).sum ≤ 8) (hdg : decode cc pc = .ok (.invokevirtual index, 3))
    (kk : ∀ (H1 : Heap) (locs1 : List Loc), va_P D vwCl w2 H1 → va_D A w2 → va_S A s.heap H1 locs1 → W p l e R s m args below meth c H1 locs1 cells slots Q (F0 m (pc + 3) ls (rest))) : W p l e R s m args below meth c H locs cells slots Q (F0 m pc ls (As.reverse ++ .ref b :: rest)) := by
  obtain ⟨hx, hb, hr, hts, hown, hlocks, hml, hA, hK⟩ := C
  subst hw1 hw2
  have hDc : va_D A wc := zD_mid hD
  have hPc : va_P D vwCl wc H := zP_mid hP
  have hFc := zfreeM hD hS hA
  refine va_callv (va_runV (As := As) (rest := rest) (nL := nL) (Ts := WT) ⟨hx, hb, hml, hown, hts⟩ (hc H.size) (cwV As.length hts cw rfl rfl rfl hd hR) ⟨zPs_blind, hrv, fun U hU hW => ⟨rfl, ⟨by rw [hU], by rw [hU]; exact hPc, va_K.moved hW.alike hK, hDc.weaken (fun _ _ _ _ => trivial)⟩, hE.step hS hFc hU hW⟩⟩ rfl rfl hls rfl (lv_room hroom) hdg hcs) hS (fun q _ h => hFc q h) hFc (fun u t H1 locs1 ht hvm hw hB hz1 hk1 hS => ?_)
  
  
  obtain ⟨hB1, hB2, hB3⟩ := hB
  rw [ht] at hB1
  obtain ⟨hP9, hD9⟩ := zjoinM hP hD hk1 hFc hB1 hB3
  exact kk H1 locs1 hP9 hD9 hS
theorem z_cSvs {y : MethodName} {cy : ByteArray} {nY index fr lo : Nat} {rt : Option FieldType}  {As : List Value} {w wc wc' : va_W}  (C : zX p s m meth c cc nL args own ret A D tys) (hE : zE E A s s.heap) (hc : zCVs l y cy nY rt fr lo D tys E As wc wc' ) (cw : GoodIn WT (va_wsS own index y (.code y cy nY rt :: WT))) (hd : y.cls ≠ "java/lang/invoke/MethodHandle" ∧ y.cls ≠ "java/lang/invoke/VarHandle" ∧ (parseMethodDescriptor y.desc).map (fun d => d.parameters.length) = some As.length) (hR : fr + 1 ≤ R.frames ∧ 8 + (nY + 11) + lo ≤ R.locals) (hcs : cells ≤ R.cells ∧ slots ≤ R.slots)  (hP : va_P D vwCl w H) (hD : va_D A w) (hS : va_S A s.heap H locs) {w2 : va_W} (isC isR isB : List Nat) (hC : isC.map (fun i => w[i]?) = wc.map some) (hR2 : (isR.map (fun i => w[i]?)).all Option.isSome = true) (hB9 : isB.map (fun i => (isR.filterMap (fun i => w[i]?) ++ wc')[i]?) = w2.map some) (hn : va_nd isC = true) (hn2 : va_nd isR = true) (hn3 : va_nd isB = true) (hdis : ∀ i ∈ isR, i ∉ isC) (hls : ls.size = nL) (hroom : (rest.map fun v => v.category).sum ≤ 8) (hdg : decode cc pc = .ok (.invokestatic index, 3))
    (kk : ∀ (H1 : Heap) (locs1 : List Loc), va_P D vwCl w2 H1 → va_D A w2 → va_S A s.heap H1 locs1 → W p l e R s m args below meth c H1 locs1 cells slots Q (F0 m (pc + 3) ls (rest))) : W p l e R s m args below meth c H locs cells slots Q (F0 m pc ls (As.reverse ++ rest)) := by
  obtain ⟨hx, hb, hr, hts, hown, hlocks, hml, hA, hK⟩ := C
  have hDc : va_D A wc := hD.sub isC hn hC
  have hPc : va_P D vwCl wc H := hP.sub isC (zfm2 hC)
  have hFc := va_free hD hS hA isC hC
  refine va_callv (va_runS (As := As) (rest := rest) (nL := nL) (Ts := WT) ⟨hx, hb, hml, hown, hts⟩ (hc H.size) (va_cwS As.length hts cw rfl rfl rfl hd hR) ⟨zPs_blind, fun U hU hW => ⟨rfl, ⟨by rw [hU], by rw [hU]; exact hPc, va_K.moved hW.alike hK, hDc.weaken (fun _ _ _ _ => trivial)⟩, hE.step hS hFc hU hW⟩⟩ rfl rfl hls rfl (lv_room hroom) hdg hcs) hS (fun q _ h => hFc q h) hFc (fun u t H1 locs1 ht hvm hw hB hz1 hk1 hS => ?_)
  
  
  obtain ⟨hB1, hB2, hB3⟩ := hB
  rw [ht] at hB1
  obtain ⟨hP8, hD8⟩ := va_join hP hD isC isR hC (zfm hR2) hn2 hdis hk1 hFc hB1 hB3
  have hP9 := hP8.sub isB (zfm2 hB9)
  have hD9 := hD8.sub isB hn3 hB9
  exact kk H1 locs1 hP9 hD9 hS
theorem z_cSvs0 {y : MethodName} {cy : ByteArray} {nY index fr lo : Nat} {rt : Option FieldType}  {As : List Value} {w wc' : va_W}  (C : zX p s m meth c cc nL args own ret A D tys) (hE : zE E A s s.heap) (hc : zCVs l y cy nY rt fr lo D tys E As w wc' ) (cw : GoodIn WT (va_wsS own index y (.code y cy nY rt :: WT))) (hd : y.cls ≠ "java/lang/invoke/MethodHandle" ∧ y.cls ≠ "java/lang/invoke/VarHandle" ∧ (parseMethodDescriptor y.desc).map (fun d => d.parameters.length) = some As.length) (hR : fr + 1 ≤ R.frames ∧ 8 + (nY + 11) + lo ≤ R.locals) (hcs : cells ≤ R.cells ∧ slots ≤ R.slots)  (hP : va_P D vwCl w H) (hD : va_D A w) (hS : va_S A s.heap H locs)  (hls : ls.size = nL) (hroom : (rest.map fun v => v.category).sum ≤ 8) (hdg : decode cc pc = .ok (.invokestatic index, 3))
    (kk : ∀ (H1 : Heap) (locs1 : List Loc), va_P D vwCl wc' H1 → va_D A wc' → va_S A s.heap H1 locs1 → W p l e R s m args below meth c H1 locs1 cells slots Q (F0 m (pc + 3) ls (rest))) : W p l e R s m args below meth c H locs cells slots Q (F0 m pc ls (As.reverse ++ rest)) := by
  obtain ⟨hx, hb, hr, hts, hown, hlocks, hml, hA, hK⟩ := C
  have hDc : va_D A w := hD
  have hPc : va_P D vwCl w H := hP
  have hFc := zfree hD hS hA
  refine va_callv (va_runS (As := As) (rest := rest) (nL := nL) (Ts := WT) ⟨hx, hb, hml, hown, hts⟩ (hc H.size) (va_cwS As.length hts cw rfl rfl rfl hd hR) ⟨zPs_blind, fun U hU hW => ⟨rfl, ⟨by rw [hU], by rw [hU]; exact hPc, va_K.moved hW.alike hK, hDc.weaken (fun _ _ _ _ => trivial)⟩, hE.step hS hFc hU hW⟩⟩ rfl rfl hls rfl (lv_room hroom) hdg hcs) hS (fun q _ h => hFc q h) hFc (fun u t H1 locs1 ht hvm hw hB hz1 hk1 hS => ?_)
  
  
  obtain ⟨hB1, hB2, hB3⟩ := hB
  rw [ht] at hB1
  have hP9 := hB1
  have hD9 : va_D A wc' := hB3.weaken (fun _ _ _ h => hFc _ h)
  exact kk H1 locs1 hP9 hD9 hS
theorem z_cSvsE {y : MethodName} {cy : ByteArray} {nY index fr lo : Nat} {rt : Option FieldType}  {As : List Value} {w : va_W}  (C : zX p s m meth c cc nL args own ret A D tys) (hE : zE E A s s.heap) (hc : zCVs l y cy nY rt fr lo D tys E As [] [] ) (cw : GoodIn WT (va_wsS own index y (.code y cy nY rt :: WT))) (hd : y.cls ≠ "java/lang/invoke/MethodHandle" ∧ y.cls ≠ "java/lang/invoke/VarHandle" ∧ (parseMethodDescriptor y.desc).map (fun d => d.parameters.length) = some As.length) (hR : fr + 1 ≤ R.frames ∧ 8 + (nY + 11) + lo ≤ R.locals) (hcs : cells ≤ R.cells ∧ slots ≤ R.slots)  (hP : va_P D vwCl w H) (hD : va_D A w) (hS : va_S A s.heap H locs)  (hls : ls.size = nL) (hroom : (rest.map fun v => v.category).sum ≤ 8) (hdg : decode cc pc = .ok (.invokestatic index, 3))
    (kk : ∀ (H1 : Heap) (locs1 : List Loc), va_P D vwCl w H1 → va_D A w → va_S A s.heap H1 locs1 → W p l e R s m args below meth c H1 locs1 cells slots Q (F0 m (pc + 3) ls (rest))) : W p l e R s m args below meth c H locs cells slots Q (F0 m pc ls (As.reverse ++ rest)) := by
  obtain ⟨hx, hb, hr, hts, hown, hlocks, hml, hA, hK⟩ := C
  have hDc : va_D A ([] : va_W) := ⟨fun i j p q h => by simp at h, fun k q h => by simp at h⟩
  have hPc : va_P D vwCl ([] : va_W) H := fun k q h => by simp at h
  have hFc : ∀ q, va_A ([] : va_W) H.size q → A q := fun q h => by
    rcases h with ⟨k, e, hk⟩ | h
    · simp at hk
    · exact hA q (Nat.le_trans hS.1 h)
  refine va_callv (va_runS (As := As) (rest := rest) (nL := nL) (Ts := WT) ⟨hx, hb, hml, hown, hts⟩ (hc H.size) (va_cwS As.length hts cw rfl rfl rfl hd hR) ⟨zPs_blind, fun U hU hW => ⟨rfl, ⟨by rw [hU], by rw [hU]; exact hPc, va_K.moved hW.alike hK, hDc.weaken (fun _ _ _ _ => trivial)⟩, hE.step hS hFc hU hW⟩⟩ rfl rfl hls rfl (lv_room hroom) hdg hcs) hS (fun q _ h => hFc q h) hFc (fun u t H1 locs1 ht hvm hw hB hz1 hk1 hS => ?_)
  
  
  obtain ⟨hB1, hB2, hB3⟩ := hB
  rw [ht] at hB1
  have hD9 := hD
  have hP9 : va_P D vwCl w H1 := hP.kept (fun k q hk => hk1 q.1 (va_at.lt (hP k q hk)) (fun h => by
    rcases h with ⟨k2, e2, hk2⟩ | h
    · simp at hk2
    · exact absurd h (Nat.not_le.mpr (va_at.lt (hP k q hk)))))
  exact kk H1 locs1 hP9 hD9 hS
theorem z_cSvsm {y : MethodName} {cy : ByteArray} {nY index fr lo : Nat} {rt : Option FieldType}  {As : List Value} {w wc wc' w2 : va_W}  (C : zX p s m meth c cc nL args own ret A D tys) (hE : zE E A s s.heap) (hc : zCVs l y cy nY rt fr lo D tys E As wc wc' ) (cw : GoodIn WT (va_wsS own index y (.code y cy nY rt :: WT))) (hd : y.cls ≠ "java/lang/invoke/MethodHandle" ∧ y.cls ≠ "java/lang/invoke/VarHandle" ∧ (parseMethodDescriptor y.desc).map (fun d => d.parameters.length) = some As.length) (hR : fr + 1 ≤ R.frames ∧ 8 + (nY + 11) + lo ≤ R.locals) (hcs : cells ≤ R.cells ∧ slots ≤ R.slots)  (hP : va_P D vwCl w H) (hD : va_D A w) (hS : va_S A s.heap H locs) (X Z : va_W) (hw1 : w = X ++ (wc ++ Z)) (hw2 : X ++ (wc' ++ Z) = w2) (hls : ls.size = nL) (hroom : (rest.map fun v => v.category).sum ≤ 8) (hdg : decode cc pc = .ok (.invokestatic index, 3))
    (kk : ∀ (H1 : Heap) (locs1 : List Loc), va_P D vwCl w2 H1 → va_D A w2 → va_S A s.heap H1 locs1 → W p l e R s m args below meth c H1 locs1 cells slots Q (F0 m (pc + 3) ls (rest))) : W p l e R s m args below meth c H locs cells slots Q (F0 m pc ls (As.reverse ++ rest)) := by
  obtain ⟨hx, hb, hr, hts, hown, hlocks, hml, hA, hK⟩ := C
  subst hw1 hw2
  have hDc : va_D A wc := zD_mid hD
  have hPc : va_P D vwCl wc H := zP_mid hP
  have hFc := zfreeM hD hS hA
  refine va_callv (va_runS (As := As) (rest := rest) (nL := nL) (Ts := WT) ⟨hx, hb, hml, hown, hts⟩ (hc H.size) (va_cwS As.length hts cw rfl rfl rfl hd hR) ⟨zPs_blind, fun U hU hW => ⟨rfl, ⟨by rw [hU], by rw [hU]; exact hPc, va_K.moved hW.alike hK, hDc.weaken (fun _ _ _ _ => trivial)⟩, hE.step hS hFc hU hW⟩⟩ rfl rfl hls rfl (lv_room hroom) hdg hcs) hS (fun q _ h => hFc q h) hFc (fun u t H1 locs1 ht hvm hw hB hz1 hk1 hS => ?_)
  
  
  obtain ⟨hB1, hB2, hB3⟩ := hB
  rw [ht] at hB1
  obtain ⟨hP9, hD9⟩ := zjoinM hP hD hk1 hFc hB1 hB3
  exact kk H1 locs1 hP9 hD9 hS
theorem z_cVvm {y : MethodName} {cy : ByteArray} {nY index fr lo : Nat} {rt : Option FieldType} {CL : String} {b : Nat} {As : List Value} {w wc wc' w2 : va_W}  (C : zX p s m meth c cc nL args own ret A D tys) (hc : zCV l y cy nY rt fr lo D tys (.ref b :: As) wc wc' ) (cw : GoodIn WT (wsV own index CL y (.code y cy nY rt :: WT))) (hd : y.cls = CL ∧ y.cls ≠ "java/lang/invoke/MethodHandle" ∧ y.cls ≠ "java/lang/invoke/VarHandle" ∧ (parseMethodDescriptor y.desc).map (fun d => d.parameters.length) = some As.length) (hR : fr + 1 ≤ R.frames ∧ 8 + (nY + 11) + lo ≤ R.locals) (hcs : cells ≤ R.cells ∧ slots ≤ R.slots) (hrv : ∃ cell : Cell, H[b]? = some cell ∧ cell.vm.isStatics = false ∧ s.vm.findClass CL = some cell.cls) (hP : va_P D vwCl w H) (hD : va_D A w) (hS : va_S A s.heap H locs) (X Z : va_W) (hw1 : w = X ++ (wc ++ Z)) (hw2 : X ++ (wc' ++ Z) = w2) (hls : ls.size = nL) (hroom : (rest.map fun v => v.category).sum ≤ 8) (hdg : decode cc pc = .ok (.invokevirtual index, 3))
    (kk : ∀ (H1 : Heap) (locs1 : List Loc), va_P D vwCl w2 H1 → va_D A w2 → va_S A s.heap H1 locs1 → W p l e R s m args below meth c H1 locs1 cells slots Q (F0 m (pc + 3) ls (rest))) : W p l e R s m args below meth c H locs cells slots Q (F0 m pc ls (As.reverse ++ .ref b :: rest)) := by
  obtain ⟨hx, hb, hr, hts, hown, hlocks, hml, hA, hK⟩ := C
  subst hw1 hw2
  have hDc : va_D A wc := zD_mid hD
  have hPc : va_P D vwCl wc H := zP_mid hP
  have hFc := zfreeM hD hS hA
  refine va_callv (va_runV (As := As) (rest := rest) (nL := nL) (Ts := WT) ⟨hx, hb, hml, hown, hts⟩ (hc H.size) (cwV As.length hts cw rfl rfl rfl hd hR) ⟨zP_blind, hrv, fun U hU hW => ⟨rfl, by rw [hU], by rw [hU]; exact hPc, va_K.moved hW.alike hK, hDc.weaken (fun _ _ _ _ => trivial)⟩⟩ rfl rfl hls rfl (lv_room hroom) hdg hcs) hS (fun q _ h => hFc q h) hFc (fun u t H1 locs1 ht hvm hw hB hz1 hk1 hS => ?_)
  
  
  obtain ⟨hB1, hB2, hB3⟩ := hB
  rw [ht] at hB1
  obtain ⟨hP9, hD9⟩ := zjoinM hP hD hk1 hFc hB1 hB3
  exact kk H1 locs1 hP9 hD9 hS
theorem z_cSvm {y : MethodName} {cy : ByteArray} {nY index fr lo : Nat} {rt : Option FieldType}  {As : List Value} {w wc wc' w2 : va_W}  (C : zX p s m meth c cc nL args own ret A D tys) (hc : zCV l y cy nY rt fr lo D tys As wc wc' ) (cw : GoodIn WT (va_wsS own index y (.code y cy nY rt :: WT))) (hd : y.cls ≠ "java/lang/invoke/MethodHandle" ∧ y.cls ≠ "java/lang/invoke/VarHandle" ∧ (parseMethodDescriptor y.desc).map (fun d => d.parameters.length) = some As.length) (hR : fr + 1 ≤ R.frames ∧ 8 + (nY + 11) + lo ≤ R.locals) (hcs : cells ≤ R.cells ∧ slots ≤ R.slots)  (hP : va_P D vwCl w H) (hD : va_D A w) (hS : va_S A s.heap H locs) (X Z : va_W) (hw1 : w = X ++ (wc ++ Z)) (hw2 : X ++ (wc' ++ Z) = w2) (hls : ls.size = nL) (hroom : (rest.map fun v => v.category).sum ≤ 8) (hdg : decode cc pc = .ok (.invokestatic index, 3))
    (kk : ∀ (H1 : Heap) (locs1 : List Loc), va_P D vwCl w2 H1 → va_D A w2 → va_S A s.heap H1 locs1 → W p l e R s m args below meth c H1 locs1 cells slots Q (F0 m (pc + 3) ls (rest))) : W p l e R s m args below meth c H locs cells slots Q (F0 m pc ls (As.reverse ++ rest)) := by
  obtain ⟨hx, hb, hr, hts, hown, hlocks, hml, hA, hK⟩ := C
  subst hw1 hw2
  have hDc : va_D A wc := zD_mid hD
  have hPc : va_P D vwCl wc H := zP_mid hP
  have hFc := zfreeM hD hS hA
  refine va_callv (va_runS (As := As) (rest := rest) (nL := nL) (Ts := WT) ⟨hx, hb, hml, hown, hts⟩ (hc H.size) (va_cwS As.length hts cw rfl rfl rfl hd hR) ⟨zP_blind, fun U hU hW => ⟨rfl, by rw [hU], by rw [hU]; exact hPc, va_K.moved hW.alike hK, hDc.weaken (fun _ _ _ _ => trivial)⟩⟩ rfl rfl hls rfl (lv_room hroom) hdg hcs) hS (fun q _ h => hFc q h) hFc (fun u t H1 locs1 ht hvm hw hB hz1 hk1 hS => ?_)
  
  
  obtain ⟨hB1, hB2, hB3⟩ := hB
  rw [ht] at hB1
  obtain ⟨hP9, hD9⟩ := zjoinM hP hD hk1 hFc hB1 hB3
  exact kk H1 locs1 hP9 hD9 hS
def zCEs (l : Launch) (y : MethodName) (cy : ByteArray) (nY : Nat) (rt : Option FieldType) (fr lo : Nat) (D : va_G) (tys : zTy) (E : zEn) (av : List Value) (w w' : va_W) (r : Option Nat) : Prop := ∀ sz : Nat, Met l y (.code y cy nY rt :: WT) (zRm fr lo) (va_Pc av (zPs D tys w sz E)) (zQE E.2.2.1 D tys (va_A w sz) w' r) 0 0 (va_A w sz)
theorem zCEs_of {y : MethodName} {cy : ByteArray} {nY : Nat} {rt : Option FieldType} {fr lo : Nat} {av : List Value} {w w' : va_W} {r : Option Nat} (hy : plainName y.cls = true) (hm : (lg_sl av).length ≤ nY)
    (body : ∀ (p : Program) (e : Env) (s : State) (m : MethodId) (below : List Frame) (meth : Method) (c : Code) (A : Nat → Prop) (ls : Array Slot), zX p s m meth c cy nY av.toArray y.cls rt A D tys → zE E A s s.heap → va_P D vwCl w s.heap → va_D A w → va_S A s.heap s.heap [] → lv_has ls nY (lv_args 0 av) → W p l e (zRm fr lo) s m av.toArray below meth c s.heap [] 0 0 (MQ below (zQE E.2.2.1 D tys A w' r) av.toArray s 0 0 A) (F0 m 0 ls [])) : zCEs l y cy nY rt fr lo D tys E av w w' r := by
  intro sz
  refine Met.ofW (cc := cy) (maxL := nY) (ret := rt) hy rfl ?_
  intro p e s m args below meth c s₁ B hml hv
  obtain ⟨rfl, ⟨hsz, hP, hK, hD0⟩, hE⟩ := hv
  have hts := atoms_spec (ws := .code y cy nY rt :: WT) B.pre
  subst hsz
  rw [lg_entry_eq]
  exact body p e s m below meth c (va_A w s.heap.size) _ ⟨B.exec, B.bytes, B.returns, fun q h => hts q (List.mem_cons_of_mem _ h), findClass_of_methodNamed B.named, B.notSynchronized, hml, fun q h => Or.inr h, hK⟩ hE hP hD0.self va_S.rf (lv_entry av hm)
theorem z_cVes {y : MethodName} {cy : ByteArray} {nY index fr lo : Nat} {rt : Option FieldType} {CL : String} {b : Nat} {As : List Value} {w wc wc' : va_W} {r : Option Nat} (C : zX p s m meth c cc nL args own ret A D tys) (hE : zE E A s s.heap) (hc : zCEs l y cy nY rt fr lo D tys E (.ref b :: As) wc wc' r) (cw : GoodIn WT (wsV own index CL y (.code y cy nY rt :: WT))) (hd : y.cls = CL ∧ y.cls ≠ "java/lang/invoke/MethodHandle" ∧ y.cls ≠ "java/lang/invoke/VarHandle" ∧ (parseMethodDescriptor y.desc).map (fun d => d.parameters.length) = some As.length) (hR : fr + 1 ≤ R.frames ∧ 8 + (nY + 11) + lo ≤ R.locals) (hcs : cells ≤ R.cells ∧ slots ≤ R.slots) (hrv : ∃ cell : Cell, H[b]? = some cell ∧ cell.vm.isStatics = false ∧ s.vm.findClass CL = some cell.cls) (hP : va_P D vwCl w H) (hD : va_D A w) (hS : va_S A s.heap H locs) {w2 : va_W} (isC isR isB : List Nat) (hC : isC.map (fun i => w[i]?) = wc.map some) (hR2 : (isR.map (fun i => w[i]?)).all Option.isSome = true) (hB9 : isB.map (fun i => (isR.filterMap (fun i => w[i]?) ++ wc')[i]?) = w2.map some) (hn : va_nd isC = true) (hn2 : va_nd isR = true) (hn3 : va_nd isB = true) (hdis : ∀ i ∈ isR, i ∉ isC) (hls : ls.size = nL) (hroom : (rest.map fun v => v.category).sum ≤ 8) (hdg : decode cc pc = .ok (.invokevirtual index, 3))
    (kk : ∀ (H1 : Heap) (locs1 : List Loc), va_P D vwCl w2 H1 → va_D A w2 → va_S A s.heap H1 locs1 → W p l e R s m args below meth c H1 locs1 cells slots Q (F0 m (pc + 3) ls (va_re E.2.2.1 r :: rest))) : W p l e R s m args below meth c H locs cells slots Q (F0 m pc ls (As.reverse ++ .ref b :: rest)) := by
  obtain ⟨hx, hb, hr, hts, hown, hlocks, hml, hA, hK⟩ := C
  have hDc : va_D A wc := hD.sub isC hn hC
  have hPc : va_P D vwCl wc H := hP.sub isC (zfm2 hC)
  have hFc := va_free hD hS hA isC hC
  refine va_calle (va_runV (As := As) (rest := rest) (nL := nL) (Ts := WT) ⟨hx, hb, hml, hown, hts⟩ (hc H.size) (cwV As.length hts cw rfl rfl rfl hd hR) ⟨zPs_blind, hrv, fun U hU hW => ⟨rfl, ⟨by rw [hU], by rw [hU]; exact hPc, va_K.moved hW.alike hK, hDc.weaken (fun _ _ _ _ => trivial)⟩, hE.step hS hFc hU hW⟩⟩ rfl rfl hls rfl (lv_room hroom) hdg hcs) hS (fun q _ h => hFc q h) hFc (fun r0 u t H1 locs1 ht hvm hw hB hz1 hk1 hS => ?_)
  try dsimp only at hw
  subst hw
  obtain ⟨hB1, hB2, hB3⟩ := hB
  rw [ht] at hB1
  obtain ⟨hP8, hD8⟩ := va_join hP hD isC isR hC (zfm hR2) hn2 hdis hk1 hFc hB1 hB3
  have hP9 := hP8.sub isB (zfm2 hB9)
  have hD9 := hD8.sub isB hn3 hB9
  exact kk H1 locs1 hP9 hD9 hS
theorem z_cVes0 {y : MethodName} {cy : ByteArray} {nY index fr lo : Nat} {rt : Option FieldType} {CL : String} {b : Nat} {As : List Value} {w wc' : va_W} {r : Option Nat} (C : zX p s m meth c cc nL args own ret A D tys) (hE : zE E A s s.heap) (hc : zCEs l y cy nY rt fr lo D tys E (.ref b :: As) w wc' r) (cw : GoodIn WT (wsV own index CL y (.code y cy nY rt :: WT))) (hd : y.cls = CL ∧ y.cls ≠ "java/lang/invoke/MethodHandle" ∧ y.cls ≠ "java/lang/invoke/VarHandle" ∧ (parseMethodDescriptor y.desc).map (fun d => d.parameters.length) = some As.length) (hR : fr + 1 ≤ R.frames ∧ 8 + (nY + 11) + lo ≤ R.locals) (hcs : cells ≤ R.cells ∧ slots ≤ R.slots) (hrv : ∃ cell : Cell, H[b]? = some cell ∧ cell.vm.isStatics = false ∧ s.vm.findClass CL = some cell.cls) (hP : va_P D vwCl w H) (hD : va_D A w) (hS : va_S A s.heap H locs)  (hls : ls.size = nL) (hroom : (rest.map fun v => v.category).sum ≤ 8) (hdg : decode cc pc = .ok (.invokevirtual index, 3))
    (kk : ∀ (H1 : Heap) (locs1 : List Loc), va_P D vwCl wc' H1 → va_D A wc' → va_S A s.heap H1 locs1 → W p l e R s m args below meth c H1 locs1 cells slots Q (F0 m (pc + 3) ls (va_re E.2.2.1 r :: rest))) : W p l e R s m args below meth c H locs cells slots Q (F0 m pc ls (As.reverse ++ .ref b :: rest)) := by
  obtain ⟨hx, hb, hr, hts, hown, hlocks, hml, hA, hK⟩ := C
  have hDc : va_D A w := hD
  have hPc : va_P D vwCl w H := hP
  have hFc := zfree hD hS hA
  refine va_calle (va_runV (As := As) (rest := rest) (nL := nL) (Ts := WT) ⟨hx, hb, hml, hown, hts⟩ (hc H.size) (cwV As.length hts cw rfl rfl rfl hd hR) ⟨zPs_blind, hrv, fun U hU hW => ⟨rfl, ⟨by rw [hU], by rw [hU]; exact hPc, va_K.moved hW.alike hK, hDc.weaken (fun _ _ _ _ => trivial)⟩, hE.step hS hFc hU hW⟩⟩ rfl rfl hls rfl (lv_room hroom) hdg hcs) hS (fun q _ h => hFc q h) hFc (fun r0 u t H1 locs1 ht hvm hw hB hz1 hk1 hS => ?_)
  try dsimp only at hw
  subst hw
  obtain ⟨hB1, hB2, hB3⟩ := hB
  rw [ht] at hB1
  have hP9 := hB1
  have hD9 : va_D A wc' := hB3.weaken (fun _ _ _ h => hFc _ h)
  exact kk H1 locs1 hP9 hD9 hS
theorem z_cVesE {y : MethodName} {cy : ByteArray} {nY index fr lo : Nat} {rt : Option FieldType} {CL : String} {b : Nat} {As : List Value} {w : va_W} {r : Option Nat} (C : zX p s m meth c cc nL args own ret A D tys) (hE : zE E A s s.heap) (hc : zCEs l y cy nY rt fr lo D tys E (.ref b :: As) [] [] r) (cw : GoodIn WT (wsV own index CL y (.code y cy nY rt :: WT))) (hd : y.cls = CL ∧ y.cls ≠ "java/lang/invoke/MethodHandle" ∧ y.cls ≠ "java/lang/invoke/VarHandle" ∧ (parseMethodDescriptor y.desc).map (fun d => d.parameters.length) = some As.length) (hR : fr + 1 ≤ R.frames ∧ 8 + (nY + 11) + lo ≤ R.locals) (hcs : cells ≤ R.cells ∧ slots ≤ R.slots) (hrv : ∃ cell : Cell, H[b]? = some cell ∧ cell.vm.isStatics = false ∧ s.vm.findClass CL = some cell.cls) (hP : va_P D vwCl w H) (hD : va_D A w) (hS : va_S A s.heap H locs)  (hls : ls.size = nL) (hroom : (rest.map fun v => v.category).sum ≤ 8) (hdg : decode cc pc = .ok (.invokevirtual index, 3))
    (kk : ∀ (H1 : Heap) (locs1 : List Loc), va_P D vwCl w H1 → va_D A w → va_S A s.heap H1 locs1 → W p l e R s m args below meth c H1 locs1 cells slots Q (F0 m (pc + 3) ls (va_re E.2.2.1 r :: rest))) : W p l e R s m args below meth c H locs cells slots Q (F0 m pc ls (As.reverse ++ .ref b :: rest)) := by
  obtain ⟨hx, hb, hr, hts, hown, hlocks, hml, hA, hK⟩ := C
  have hDc : va_D A ([] : va_W) := ⟨fun i j p q h => by simp at h, fun k q h => by simp at h⟩
  have hPc : va_P D vwCl ([] : va_W) H := fun k q h => by simp at h
  have hFc : ∀ q, va_A ([] : va_W) H.size q → A q := fun q h => by
    rcases h with ⟨k, e, hk⟩ | h
    · simp at hk
    · exact hA q (Nat.le_trans hS.1 h)
  refine va_calle (va_runV (As := As) (rest := rest) (nL := nL) (Ts := WT) ⟨hx, hb, hml, hown, hts⟩ (hc H.size) (cwV As.length hts cw rfl rfl rfl hd hR) ⟨zPs_blind, hrv, fun U hU hW => ⟨rfl, ⟨by rw [hU], by rw [hU]; exact hPc, va_K.moved hW.alike hK, hDc.weaken (fun _ _ _ _ => trivial)⟩, hE.step hS hFc hU hW⟩⟩ rfl rfl hls rfl (lv_room hroom) hdg hcs) hS (fun q _ h => hFc q h) hFc (fun r0 u t H1 locs1 ht hvm hw hB hz1 hk1 hS => ?_)
  try dsimp only at hw
  subst hw
  obtain ⟨hB1, hB2, hB3⟩ := hB
  rw [ht] at hB1
  have hD9 := hD
  have hP9 : va_P D vwCl w H1 := hP.kept (fun k q hk => hk1 q.1 (va_at.lt (hP k q hk)) (fun h => by
    rcases h with ⟨k2, e2, hk2⟩ | h
    · simp at hk2
    · exact absurd h (Nat.not_le.mpr (va_at.lt (hP k q hk)))))
  exact kk H1 locs1 hP9 hD9 hS
theorem z_cVesm {y : MethodName} {cy : ByteArray} {nY index fr lo : Nat} {rt : Option FieldType} {CL : String} {b : Nat} {As : List Value} {w wc wc' w2 : va_W} {r : Option Nat} (C : zX p s m meth c cc nL args own ret A D tys) (hE : zE E A s s.heap) (hc : zCEs l y cy nY rt fr lo D tys E (.ref b :: As) wc wc' r) (cw : GoodIn WT (wsV own index CL y (.code y cy nY rt :: WT))) (hd : y.cls = CL ∧ y.cls ≠ "java/lang/invoke/MethodHandle" ∧ y.cls ≠ "java/lang/invoke/VarHandle" ∧ (parseMethodDescriptor y.desc).map (fun d => d.parameters.length) = some As.length) (hR : fr + 1 ≤ R.frames ∧ 8 + (nY + 11) + lo ≤ R.locals) (hcs : cells ≤ R.cells ∧ slots ≤ R.slots) (hrv : ∃ cell : Cell, H[b]? = some cell ∧ cell.vm.isStatics = false ∧ s.vm.findClass CL = some cell.cls) (hP : va_P D vwCl w H) (hD : va_D A w) (hS : va_S A s.heap H locs) (X Z : va_W) (hw1 : w = X ++ (wc ++ Z)) (hw2 : X ++ (wc' ++ Z) = w2) (hls : ls.size = nL) (hroom : (rest.map fun v => v.category).sum ≤ 8) (hdg : decode cc pc = .ok (.invokevirtual index, 3))
    (kk : ∀ (H1 : Heap) (locs1 : List Loc), va_P D vwCl w2 H1 → va_D A w2 → va_S A s.heap H1 locs1 → W p l e R s m args below meth c H1 locs1 cells slots Q (F0 m (pc + 3) ls (va_re E.2.2.1 r :: rest))) : W p l e R s m args below meth c H locs cells slots Q (F0 m pc ls (As.reverse ++ .ref b :: rest)) := by
  obtain ⟨hx, hb, hr, hts, hown, hlocks, hml, hA, hK⟩ := C
  subst hw1 hw2
  have hDc : va_D A wc := zD_mid hD
  have hPc : va_P D vwCl wc H := zP_mid hP
  have hFc := zfreeM hD hS hA
  refine va_calle (va_runV (As := As) (rest := rest) (nL := nL) (Ts := WT) ⟨hx, hb, hml, hown, hts⟩ (hc H.size) (cwV As.length hts cw rfl rfl rfl hd hR) ⟨zPs_blind, hrv, fun U hU hW => ⟨rfl, ⟨by rw [hU], by rw [hU]; exact hPc, va_K.moved hW.alike hK, hDc.weaken (fun _ _ _ _ => trivial)⟩, hE.step hS hFc hU hW⟩⟩ rfl rfl hls rfl (lv_room hroom) hdg hcs) hS (fun q _ h => hFc q h) hFc (fun r0 u t H1 locs1 ht hvm hw hB hz1 hk1 hS => ?_)
  try dsimp only at hw
  subst hw
  obtain ⟨hB1, hB2, hB3⟩ := hB
  rw [ht] at hB1
  obtain ⟨hP9, hD9⟩ := zjoinM hP hD hk1 hFc hB1 hB3
  exact kk H1 locs1 hP9 hD9 hS
theorem z_cSes {y : MethodName} {cy : ByteArray} {nY index fr lo : Nat} {rt : Option FieldType}  {As : List Value} {w wc wc' : va_W} {r : Option Nat} (C : zX p s m meth c cc nL args own ret A D tys) (hE : zE E A s s.heap) (hc : zCEs l y cy nY rt fr lo D tys E As wc wc' r) (cw : GoodIn WT (va_wsS own index y (.code y cy nY rt :: WT))) (hd : y.cls ≠ "java/lang/invoke/MethodHandle" ∧ y.cls ≠ "java/lang/invoke/VarHandle" ∧ (parseMethodDescriptor y.desc).map (fun d => d.parameters.length) = some As.length) (hR : fr + 1 ≤ R.frames ∧ 8 + (nY + 11) + lo ≤ R.locals) (hcs : cells ≤ R.cells ∧ slots ≤ R.slots)  (hP : va_P D vwCl w H) (hD : va_D A w) (hS : va_S A s.heap H locs) {w2 : va_W} (isC isR isB : List Nat) (hC : isC.map (fun i => w[i]?) = wc.map some) (hR2 : (isR.map (fun i => w[i]?)).all Option.isSome = true) (hB9 : isB.map (fun i => (isR.filterMap (fun i => w[i]?) ++ wc')[i]?) = w2.map some) (hn : va_nd isC = true) (hn2 : va_nd isR = true) (hn3 : va_nd isB = true) (hdis : ∀ i ∈ isR, i ∉ isC) (hls : ls.size = nL) (hroom : (rest.map fun v => v.category).sum ≤ 8) (hdg : decode cc pc = .ok (.invokestatic index, 3))
    (kk : ∀ (H1 : Heap) (locs1 : List Loc), va_P D vwCl w2 H1 → va_D A w2 → va_S A s.heap H1 locs1 → W p l e R s m args below meth c H1 locs1 cells slots Q (F0 m (pc + 3) ls (va_re E.2.2.1 r :: rest))) : W p l e R s m args below meth c H locs cells slots Q (F0 m pc ls (As.reverse ++ rest)) := by
  obtain ⟨hx, hb, hr, hts, hown, hlocks, hml, hA, hK⟩ := C
  have hDc : va_D A wc := hD.sub isC hn hC
  have hPc : va_P D vwCl wc H := hP.sub isC (zfm2 hC)
  have hFc := va_free hD hS hA isC hC
  refine va_calle (va_runS (As := As) (rest := rest) (nL := nL) (Ts := WT) ⟨hx, hb, hml, hown, hts⟩ (hc H.size) (va_cwS As.length hts cw rfl rfl rfl hd hR) ⟨zPs_blind, fun U hU hW => ⟨rfl, ⟨by rw [hU], by rw [hU]; exact hPc, va_K.moved hW.alike hK, hDc.weaken (fun _ _ _ _ => trivial)⟩, hE.step hS hFc hU hW⟩⟩ rfl rfl hls rfl (lv_room hroom) hdg hcs) hS (fun q _ h => hFc q h) hFc (fun r0 u t H1 locs1 ht hvm hw hB hz1 hk1 hS => ?_)
  try dsimp only at hw
  subst hw
  obtain ⟨hB1, hB2, hB3⟩ := hB
  rw [ht] at hB1
  obtain ⟨hP8, hD8⟩ := va_join hP hD isC isR hC (zfm hR2) hn2 hdis hk1 hFc hB1 hB3
  have hP9 := hP8.sub isB (zfm2 hB9)
  have hD9 := hD8.sub isB hn3 hB9
  exact kk H1 locs1 hP9 hD9 hS
theorem z_cSes0 {y : MethodName} {cy : ByteArray} {nY index fr lo : Nat} {rt : Option FieldType}  {As : List Value} {w wc' : va_W} {r : Option Nat} (C : zX p s m meth c cc nL args own ret A D tys) (hE : zE E A s s.heap) (hc : zCEs l y cy nY rt fr lo D tys E As w wc' r) (cw : GoodIn WT (va_wsS own index y (.code y cy nY rt :: WT))) (hd : y.cls ≠ "java/lang/invoke/MethodHandle" ∧ y.cls ≠ "java/lang/invoke/VarHandle" ∧ (parseMethodDescriptor y.desc).map (fun d => d.parameters.length) = some As.length) (hR : fr + 1 ≤ R.frames ∧ 8 + (nY + 11) + lo ≤ R.locals) (hcs : cells ≤ R.cells ∧ slots ≤ R.slots)  (hP : va_P D vwCl w H) (hD : va_D A w) (hS : va_S A s.heap H locs)  (hls : ls.size = nL) (hroom : (rest.map fun v => v.category).sum ≤ 8) (hdg : decode cc pc = .ok (.invokestatic index, 3))
    (kk : ∀ (H1 : Heap) (locs1 : List Loc), va_P D vwCl wc' H1 → va_D A wc' → va_S A s.heap H1 locs1 → W p l e R s m args below meth c H1 locs1 cells slots Q (F0 m (pc + 3) ls (va_re E.2.2.1 r :: rest))) : W p l e R s m args below meth c H locs cells slots Q (F0 m pc ls (As.reverse ++ rest)) := by
  obtain ⟨hx, hb, hr, hts, hown, hlocks, hml, hA, hK⟩ := C
  have hDc : va_D A w := hD
  have hPc : va_P D vwCl w H := hP
  have hFc := zfree hD hS hA
  refine va_calle (va_runS (As := As) (rest := rest) (nL := nL) (Ts := WT) ⟨hx, hb, hml, hown, hts⟩ (hc H.size) (va_cwS As.length hts cw rfl rfl rfl hd hR) ⟨zPs_blind, fun U hU hW => ⟨rfl, ⟨by rw [hU], by rw [hU]; exact hPc, va_K.moved hW.alike hK, hDc.weaken (fun _ _ _ _ => trivial)⟩, hE.step hS hFc hU hW⟩⟩ rfl rfl hls rfl (lv_room hroom) hdg hcs) hS (fun q _ h => hFc q h) hFc (fun r0 u t H1 locs1 ht hvm hw hB hz1 hk1 hS => ?_)
  try dsimp only at hw
  subst hw
  obtain ⟨hB1, hB2, hB3⟩ := hB
  rw [ht] at hB1
  have hP9 := hB1
  have hD9 : va_D A wc' := hB3.weaken (fun _ _ _ h => hFc _ h)
  exact kk H1 locs1 hP9 hD9 hS
theorem z_cSesE {y : MethodName} {cy : ByteArray} {nY index fr lo : Nat} {rt : Option FieldType}  {As : List Value} {w : va_W} {r : Option Nat} (C : zX p s m meth c cc nL args own ret A D tys) (hE : zE E A s s.heap) (hc : zCEs l y cy nY rt fr lo D tys E As [] [] r) (cw : GoodIn WT (va_wsS own index y (.code y cy nY rt :: WT))) (hd : y.cls ≠ "java/lang/invoke/MethodHandle" ∧ y.cls ≠ "java/lang/invoke/VarHandle" ∧ (parseMethodDescriptor y.desc).map (fun d => d.parameters.length) = some As.length) (hR : fr + 1 ≤ R.frames ∧ 8 + (nY + 11) + lo ≤ R.locals) (hcs : cells ≤ R.cells ∧ slots ≤ R.slots)  (hP : va_P D vwCl w H) (hD : va_D A w) (hS : va_S A s.heap H locs)  (hls : ls.size = nL) (hroom : (rest.map fun v => v.category).sum ≤ 8) (hdg : decode cc pc = .ok (.invokestatic index, 3))
    (kk : ∀ (H1 : Heap) (locs1 : List Loc), va_P D vwCl w H1 → va_D A w → va_S A s.heap H1 locs1 → W p l e R s m args below meth c H1 locs1 cells slots Q (F0 m (pc + 3) ls (va_re E.2.2.1 r :: rest))) : W p l e R s m args below meth c H locs cells slots Q (F0 m pc ls (As.reverse ++ rest)) := by
  obtain ⟨hx, hb, hr, hts, hown, hlocks, hml, hA, hK⟩ := C
  have hDc : va_D A ([] : va_W) := ⟨fun i j p q h => by simp at h, fun k q h => by simp at h⟩
  have hPc : va_P D vwCl ([] : va_W) H := fun k q h => by simp at h
  have hFc : ∀ q, va_A ([] : va_W) H.size q → A q := fun q h => by
    rcases h with ⟨k, e, hk⟩ | h
    · simp at hk
    · exact hA q (Nat.le_trans hS.1 h)
  refine va_calle (va_runS (As := As) (rest := rest) (nL := nL) (Ts := WT) ⟨hx, hb, hml, hown, hts⟩ (hc H.size) (va_cwS As.length hts cw rfl rfl rfl hd hR) ⟨zPs_blind, fun U hU hW => ⟨rfl, ⟨by rw [hU], by rw [hU]; exact hPc, va_K.moved hW.alike hK, hDc.weaken (fun _ _ _ _ => trivial)⟩, hE.step hS hFc hU hW⟩⟩ rfl rfl hls rfl (lv_room hroom) hdg hcs) hS (fun q _ h => hFc q h) hFc (fun r0 u t H1 locs1 ht hvm hw hB hz1 hk1 hS => ?_)
  try dsimp only at hw
  subst hw
  obtain ⟨hB1, hB2, hB3⟩ := hB
  rw [ht] at hB1
  have hD9 := hD
  have hP9 : va_P D vwCl w H1 := hP.kept (fun k q hk => hk1 q.1 (va_at.lt (hP k q hk)) (fun h => by
    rcases h with ⟨k2, e2, hk2⟩ | h
    · simp at hk2
    · exact absurd h (Nat.not_le.mpr (va_at.lt (hP k q hk)))))
  exact kk H1 locs1 hP9 hD9 hS
theorem z_cSesm {y : MethodName} {cy : ByteArray} {nY index fr lo : Nat} {rt : Option FieldType}  {As : List Value} {w wc wc' w2 : va_W} {r : Option Nat} (C : zX p s m meth c cc nL args own ret A D tys) (hE : zE E A s s.heap) (hc : zCEs l y cy nY rt fr lo D tys E As wc wc' r) (cw : GoodIn WT (va_wsS own index y (.code y cy nY rt :: WT))) (hd : y.cls ≠ "java/lang/invoke/MethodHandle" ∧ y.cls ≠ "java/lang/invoke/VarHandle" ∧ (parseMethodDescriptor y.desc).map (fun d => d.parameters.length) = some As.length) (hR : fr + 1 ≤ R.frames ∧ 8 + (nY + 11) + lo ≤ R.locals) (hcs : cells ≤ R.cells ∧ slots ≤ R.slots)  (hP : va_P D vwCl w H) (hD : va_D A w) (hS : va_S A s.heap H locs) (X Z : va_W) (hw1 : w = X ++ (wc ++ Z)) (hw2 : X ++ (wc' ++ Z) = w2) (hls : ls.size = nL) (hroom : (rest.map fun v => v.category).sum ≤ 8) (hdg : decode cc pc = .ok (.invokestatic index, 3))
    (kk : ∀ (H1 : Heap) (locs1 : List Loc), va_P D vwCl w2 H1 → va_D A w2 → va_S A s.heap H1 locs1 → W p l e R s m args below meth c H1 locs1 cells slots Q (F0 m (pc + 3) ls (va_re E.2.2.1 r :: rest))) : W p l e R s m args below meth c H locs cells slots Q (F0 m pc ls (As.reverse ++ rest)) := by
  obtain ⟨hx, hb, hr, hts, hown, hlocks, hml, hA, hK⟩ := C
  subst hw1 hw2
  have hDc : va_D A wc := zD_mid hD
  have hPc : va_P D vwCl wc H := zP_mid hP
  have hFc := zfreeM hD hS hA
  refine va_calle (va_runS (As := As) (rest := rest) (nL := nL) (Ts := WT) ⟨hx, hb, hml, hown, hts⟩ (hc H.size) (va_cwS As.length hts cw rfl rfl rfl hd hR) ⟨zPs_blind, fun U hU hW => ⟨rfl, ⟨by rw [hU], by rw [hU]; exact hPc, va_K.moved hW.alike hK, hDc.weaken (fun _ _ _ _ => trivial)⟩, hE.step hS hFc hU hW⟩⟩ rfl rfl hls rfl (lv_room hroom) hdg hcs) hS (fun q _ h => hFc q h) hFc (fun r0 u t H1 locs1 ht hvm hw hB hz1 hk1 hS => ?_)
  try dsimp only at hw
  subst hw
  obtain ⟨hB1, hB2, hB3⟩ := hB
  rw [ht] at hB1
  obtain ⟨hP9, hD9⟩ := zjoinM hP hD hk1 hFc hB1 hB3
  exact kk H1 locs1 hP9 hD9 hS
theorem z_eret {w' : va_W} {v : Option Nat} {C0 : String} (C : zX p s m meth c cc nL args own (some (.object C0)) A D tys) (hP : va_P D vwCl w' H) (hD : va_D A w') (hS : va_S A s.heap H locs) (hdg : decode cc pc = .ok (.areturn, 1)) : W p l e R s m args below meth c H locs cells slots (MQ below (zQE E.2.2.1 D tys A w' v) args s cells slots A) (F0 m pc ls [va_re E.2.2.1 v]) := by
  obtain ⟨hx, hb, hr, hts, hown, hlocks, hml, hA, hK⟩ := C
  exact W.aret hx hb hr (Or.inl ⟨_, rfl⟩) (va_re_or E.2.2.1 v) (fun t ht hW => ⟨⟨v, (), rfl, rfl, by rw [ht]; exact hP, va_K.moved hW.alike hK, hD⟩, hS.F ht⟩) hS.2.2 hdg
theorem z_ldcSW (hexec : p.tables.exec = Jvm.exec) (hb : c.code = cc) {own tx : String} {index q : Nat} (hown : s.vm.findClass own = some m.cls) (hZ : vk_R own index tx q s) (hdg : decode cc pc = .ok (.ldc_w index, 3))
    (k : W p l e R s m args below meth c H locs cells slots Q (F0 m (pc + 3) ls (.ref q :: rest))) : W p l e R s m args below meth c H locs cells slots Q (F0 m pc ls rest) := by
  intro T hT X
  obtain ⟨t, a1, b1⟩ := k T hT X
  exact ⟨t, X.ldcStringW hexec hown (text := tx) (a := q) hZ.1 hZ.2 (g := F0 m pc ls rest) rfl (by rw [hb]; exact hdg) t a1, b1⟩
theorem zZq_ex {C n d : String} {U : State} {H : Heap} (h : va_Zq C n d A U H) : ∃ v : Option Nat, va_Z C n d (va_rf v) A U H := by
  rcases h with h | ⟨t, h⟩
  · exact ⟨none, h⟩
  · exact ⟨some t, h⟩
theorem zib_lt {i : Int32} {n : Nat} (h : zib i n) : i.toNatClampNeg < n := Nat.not_le.mp fun q => h (Or.inr q)
abbrev ordL : List Int32 := [0, 1, 2, 3, 4, 5, 6, 7, 8, 9, 10]
def ordI (i : Nat) : Int32 := ordL.getD i 0
abbrev zch (v : Int32) : Prop := (v.toUInt32 % 65536).toInt32 = v
theorem zch_n {v : Int32} (h : zch v) : narrow .char (.int v) = .int v := by
  have h9 := pk_nc v
  rw [h] at h9
  exact h9
theorem zre {ad : Nat → Nat} {t : Option Nat} (h : t.getD 11 < 11) : va_re ad t = .ref (ad (t.getD 0)) ∧ t.getD 0 < 11 := by
  cases t with
  | none => exact absurd h (by decide)
  | some j => exact ⟨rfl, h⟩
theorem zre_n (ad : Nat → Nat) (t : Option Nat) (C : String) : narrow (.object C) (va_re ad t) = va_re ad t := by cases t <;> rfl
theorem zre_f (ad : Nat → Nat) (t : Option Nat) (C : String) : fits (.object C) (va_re ad t) = true := by cases t <;> rfl
theorem z_ifnull (hx : p.tables.exec = Jvm.exec) (hb : c.code = cc) {t : Option Nat} {off : Int} {tgt : Nat} (hdg : decode cc pc = .ok (.ifnull off, 3)) (ht : (pc : Int) + off = (tgt : Int)) {B : Type} {a b r : Option B} {i : Decidable (t = none)} (hf : (if t = none then a else b) = r)
    (kt : a = r → W p l e R s m args below meth c H locs cells slots Q (F0 m tgt ls rest)) (kf : b = r → W p l e R s m args below meth c H locs cells slots Q (F0 m (pc + 3) ls rest)) : W p l e R s m args below meth c H locs cells slots Q (F0 m pc ls (va_re E.2.2.1 t :: rest)) := by
  cases t with
  | none => exact lv_ifnullN hx hb hdg ht (kt (zit hf rfl))
  | some j => exact lv_ifnull hx hb hdg (kf (zie hf (by simp)))
theorem z_ifnonnull (hx : p.tables.exec = Jvm.exec) (hb : c.code = cc) {t : Option Nat} {off : Int} {tgt : Nat} (hdg : decode cc pc = .ok (.ifnonnull off, 3)) (ht : (pc : Int) + off = (tgt : Int)) {B : Type} {a b r : Option B} {i : Decidable (t = none)} (hf : (if t = none then b else a) = r)
    (kt : a = r → W p l e R s m args below meth c H locs cells slots Q (F0 m tgt ls rest)) (kf : b = r → W p l e R s m args below meth c H locs cells slots Q (F0 m (pc + 3) ls rest)) : W p l e R s m args below meth c H locs cells slots Q (F0 m pc ls (va_re E.2.2.1 t :: rest)) := by
  cases t with
  | none => exact lv_ifnonnullN hx hb hdg (kf (zit hf rfl))
  | some j => exact lv_ifnonnull hx hb hdg ht (kt (zie hf (by simp)))
theorem zre_eq {U : State} {H9 : Heap} (hE : zE E A U H9) {t : Option Nat} {k : Nat} (hk : k < 11) (ht : t.getD 0 < 11) : t.map E.2.2.1 = some (E.2.2.1 k) ↔ t = some k := by
  cases t with
  | none => simp
  | some j =>
    have inj := hE.2.1.2 j k ht hk
    constructor
    · intro h
      have h2 : E.2.2.1 j = E.2.2.1 k := by simpa using h
      rw [inj h2]
    · intro h
      cases h
      rfl
theorem z_acmp_ne (hx : p.tables.exec = Jvm.exec) (hb : c.code = cc) {U : State} {H9 : Heap} (hE : zE E A U H9) {t : Option Nat} {k : Nat} {off : Int} {tgt : Nat} (hdg : decode cc pc = .ok (.if_acmp .ne off, 3)) (ht : (pc : Int) + off = (tgt : Int)) (hk : k < 11) {B : Type} {a b : Option B} {r : B} {i : Decidable (t = some k)} {i2 : Decidable (t.getD 0 < 11)} (hf : (if t.getD 0 < 11 then (if t = some k then b else a) else none) = some r)
    (kt : a = some r → W p l e R s m args below meth c H locs cells slots Q (F0 m tgt ls rest)) (kf : b = some r → W p l e R s m args below meth c H locs cells slots Q (F0 m (pc + 3) ls rest)) : W p l e R s m args below meth c H locs cells slots Q (F0 m pc ls (.ref (E.2.2.1 k) :: va_re E.2.2.1 t :: rest)) := by
  obtain ⟨h1, hf⟩ := zgd hf
  exact lv_acmp_ne (rx := t.map E.2.2.1) (ry := some (E.2.2.1 k)) hx hb hdg ht (fun q => kt (zie hf (fun z => q ((zre_eq hE hk h1).mpr z)))) (fun q => kf (zit hf ((zre_eq hE hk h1).mp q)))
theorem z_acmp_eq (hx : p.tables.exec = Jvm.exec) (hb : c.code = cc) {U : State} {H9 : Heap} (hE : zE E A U H9) {t : Option Nat} {k : Nat} {off : Int} {tgt : Nat} (hdg : decode cc pc = .ok (.if_acmp .eq off, 3)) (ht : (pc : Int) + off = (tgt : Int)) (hk : k < 11) {B : Type} {a b : Option B} {r : B} {i : Decidable (t = some k)} {i2 : Decidable (t.getD 0 < 11)} (hf : (if t.getD 0 < 11 then (if t = some k then a else b) else none) = some r)
    (kt : a = some r → W p l e R s m args below meth c H locs cells slots Q (F0 m tgt ls rest)) (kf : b = some r → W p l e R s m args below meth c H locs cells slots Q (F0 m (pc + 3) ls rest)) : W p l e R s m args below meth c H locs cells slots Q (F0 m pc ls (.ref (E.2.2.1 k) :: va_re E.2.2.1 t :: rest)) := by
  obtain ⟨h1, hf⟩ := zgd hf
  exact lv_acmp_eq (rx := t.map E.2.2.1) (ry := some (E.2.2.1 k)) hx hb hdg ht (fun q => kt (zit hf ((zre_eq hE hk h1).mp q))) (fun q => kf (zie hf (fun z => q ((zre_eq hE hk h1).mpr z))))
/-- ordinal() of an enum constant, inherited -/
theorem z_ord {cy : ByteArray} {nY index fr lo j : Nat} {rt : Option FieldType} {w : va_W} {r : Int32} (C : zX p s m meth c cc nL args own ret A D tys) (hE : zE E A s s.heap) (hc : zCIs l ⟨"java/lang/Enum", "ordinal", "()I"⟩ cy nY rt fr lo D tys E [.ref (E.2.2.1 j)] [] [] r) (cw : GoodIn WT (va_wsU own index "StampedRows$Word" "java/lang/Enum" ⟨"StampedRows$Word", "ordinal", "()I"⟩ ⟨"java/lang/Enum", "ordinal", "()I"⟩ (.code ⟨"java/lang/Enum", "ordinal", "()I"⟩ cy nY rt :: WT))) (hR : fr + 1 ≤ R.frames ∧ 8 + (nY + 11) + lo ≤ R.locals) (hcs : cells ≤ R.cells ∧ slots ≤ R.slots) (hj : j < 11) (hP : va_P D vwCl w H) (hD : va_D A w) (hS : va_S A s.heap H locs) (hls : ls.size = nL) (hroom : (rest.map fun v => v.category).sum ≤ 8) (hdg : decode cc pc = .ok (.invokevirtual index, 3))
    (kk : ∀ (H1 : Heap) (locs1 : List Loc), va_P D vwCl w H1 → va_D A w → va_S A s.heap H1 locs1 → W p l e R s m args below meth c H1 locs1 cells slots Q (F0 m (pc + 3) ls (.int r :: rest))) : W p l e R s m args below meth c H locs cells slots Q (F0 m pc ls (.ref (E.2.2.1 j) :: rest)) := by
  obtain ⟨hx, hb, hr, hts, hown, hlocks, hml, hA, hK⟩ := C
  have hDc : va_D A ([] : va_W) := ⟨fun i j p q h => by simp at h, fun k q h => by simp at h⟩
  have hPc : va_P D vwCl ([] : va_W) H := fun k q h => by simp at h
  have hFc : ∀ q, va_A ([] : va_W) H.size q → A q := fun q h => by
    rcases h with ⟨k, e, hk⟩ | h
    · simp at hk
    · exact hA q (Nat.le_trans hS.1 h)
  refine va_calli (va_runU (As := []) (rest := rest) (nL := nL) (Ts := WT) ⟨hx, hb, hml, hown, hts⟩ (hc H.size) (va_cwU 0 hts cw rfl rfl rfl rfl (by decide +kernel) hR) ⟨zPs_blind, va_recvE hE.2.1 hj hS, fun U hU hW => ⟨rfl, ⟨by rw [hU], by rw [hU]; exact hPc, va_K.moved hW.alike hK, hDc.weaken (fun _ _ _ _ => trivial)⟩, hE.step hS hFc hU hW⟩⟩ rfl rfl hls rfl (lv_room hroom) hdg hcs) hS (fun q _ h => hFc q h) hFc (fun r0 u t H1 locs1 ht hvm hw hB hz1 hk1 hS => ?_)
  try dsimp only at hw
  subst hw
  have hP9 : va_P D vwCl w H1 := hP.kept (fun k q hk => hk1 q.1 (va_at.lt (hP k q hk)) (fun h => by
    rcases h with ⟨k2, e2, hk2⟩ | h
    · simp at hk2
    · exact absurd h (Nat.not_le.mpr (va_at.lt (hP k q hk)))))
  exact kk H1 locs1 hP9 hD hS
theorem gzU {own : String} {idx n : Nat} {b : ByteArray} {r : Option FieldType} (h1 : Cond.methodLink own idx ⟨"StampedRows$Word", "ordinal", "()I"⟩ ∈ WT) (h2 : Cond.sameMethod "StampedRows$Word" "java/lang/Enum" "ordinal" "()I" ∈ WT) (h3 : Cond.selects "StampedRows$Word" ⟨"StampedRows$Word", "ordinal", "()I"⟩ ⟨"java/lang/Enum", "ordinal", "()I"⟩ ∈ WT) (h4 : Cond.instanceMethod ⟨"java/lang/Enum", "ordinal", "()I"⟩ ∈ WT) (h5 : Cond.initialized "java/lang/Enum" ∈ WT) (h6 : Cond.code ⟨"java/lang/Enum", "ordinal", "()I"⟩ b n r ∈ WT) : GoodIn WT (va_wsU own idx "StampedRows$Word" "java/lang/Enum" ⟨"StampedRows$Word", "ordinal", "()I"⟩ ⟨"java/lang/Enum", "ordinal", "()I"⟩ (.code ⟨"java/lang/Enum", "ordinal", "()I"⟩ b n r :: WT)) := by
  intro w hw
  simp only [va_wsU, List.mem_append, List.mem_cons, List.not_mem_nil, or_false] at hw
  rcases hw with (rfl | rfl | rfl | rfl | rfl) | rfl | h
  all_goals first | exact wt_good _ h1 | exact wt_good _ h2 | exact wt_good _ h3 | exact wt_good _ h4 | exact wt_good _ h5 | exact wt_good _ h6 | exact wt_good _ h
theorem q_same : Cond.sameMethod "StampedRows$Word" "java/lang/Enum" "ordinal" "()I" ∈ WT := wt_2 192 rfl rfl
theorem gU_ord_X5 : GoodIn WT (va_wsU RX5 137 "StampedRows$Word" "java/lang/Enum" ⟨"StampedRows$Word", "ordinal", "()I"⟩ ⟨"java/lang/Enum", "ordinal", "()I"⟩ (.code ⟨"java/lang/Enum", "ordinal", "()I"⟩ cJx29ce0_ordinal_8abf5 1 (some FieldType.int) :: WT)) := gzU q2_191 q_same q2_194 q2_195 q1_14 q2_196
theorem zsw_out9_1 {x : Int32} (h0 : ¬ x = 1) (h1 : ¬ x = 2) (h2 : ¬ x = 3) (h3 : ¬ x = 4) (h4 : ¬ x = 5) (h5 : ¬ x = 6) (h6 : ¬ x = 7) (h7 : ¬ x = 8) (h8 : ¬ x = 9) : x.toInt < 1 ∨ (9 : Int) < x.toInt := by
  have e0 : x.toInt ≠ 1 := fun q => h0 (Int32.toInt_inj.mp (by rw [q]; rfl))
  have e1 : x.toInt ≠ 2 := fun q => h1 (Int32.toInt_inj.mp (by rw [q]; rfl))
  have e2 : x.toInt ≠ 3 := fun q => h2 (Int32.toInt_inj.mp (by rw [q]; rfl))
  have e3 : x.toInt ≠ 4 := fun q => h3 (Int32.toInt_inj.mp (by rw [q]; rfl))
  have e4 : x.toInt ≠ 5 := fun q => h4 (Int32.toInt_inj.mp (by rw [q]; rfl))
  have e5 : x.toInt ≠ 6 := fun q => h5 (Int32.toInt_inj.mp (by rw [q]; rfl))
  have e6 : x.toInt ≠ 7 := fun q => h6 (Int32.toInt_inj.mp (by rw [q]; rfl))
  have e7 : x.toInt ≠ 8 := fun q => h7 (Int32.toInt_inj.mp (by rw [q]; rfl))
  have e8 : x.toInt ≠ 9 := fun q => h8 (Int32.toInt_inj.mp (by rw [q]; rfl))
  omega
theorem zsw_out8_1 {x : Int32} (h0 : ¬ x = 1) (h1 : ¬ x = 2) (h2 : ¬ x = 3) (h3 : ¬ x = 4) (h4 : ¬ x = 5) (h5 : ¬ x = 6) (h6 : ¬ x = 7) (h7 : ¬ x = 8) : x.toInt < 1 ∨ (8 : Int) < x.toInt := by
  have e0 : x.toInt ≠ 1 := fun q => h0 (Int32.toInt_inj.mp (by rw [q]; rfl))
  have e1 : x.toInt ≠ 2 := fun q => h1 (Int32.toInt_inj.mp (by rw [q]; rfl))
  have e2 : x.toInt ≠ 3 := fun q => h2 (Int32.toInt_inj.mp (by rw [q]; rfl))
  have e3 : x.toInt ≠ 4 := fun q => h3 (Int32.toInt_inj.mp (by rw [q]; rfl))
  have e4 : x.toInt ≠ 5 := fun q => h4 (Int32.toInt_inj.mp (by rw [q]; rfl))
  have e5 : x.toInt ≠ 6 := fun q => h5 (Int32.toInt_inj.mp (by rw [q]; rfl))
  have e6 : x.toInt ≠ 7 := fun q => h6 (Int32.toInt_inj.mp (by rw [q]; rfl))
  have e7 : x.toInt ≠ 8 := fun q => h7 (Int32.toInt_inj.mp (by rw [q]; rfl))
  omega
theorem zsw_out7_1 {x : Int32} (h0 : ¬ x = 1) (h1 : ¬ x = 2) (h2 : ¬ x = 3) (h3 : ¬ x = 4) (h4 : ¬ x = 5) (h5 : ¬ x = 6) (h6 : ¬ x = 7) : x.toInt < 1 ∨ (7 : Int) < x.toInt := by
  have e0 : x.toInt ≠ 1 := fun q => h0 (Int32.toInt_inj.mp (by rw [q]; rfl))
  have e1 : x.toInt ≠ 2 := fun q => h1 (Int32.toInt_inj.mp (by rw [q]; rfl))
  have e2 : x.toInt ≠ 3 := fun q => h2 (Int32.toInt_inj.mp (by rw [q]; rfl))
  have e3 : x.toInt ≠ 4 := fun q => h3 (Int32.toInt_inj.mp (by rw [q]; rfl))
  have e4 : x.toInt ≠ 5 := fun q => h4 (Int32.toInt_inj.mp (by rw [q]; rfl))
  have e5 : x.toInt ≠ 6 := fun q => h5 (Int32.toInt_inj.mp (by rw [q]; rfl))
  have e6 : x.toInt ≠ 7 := fun q => h6 (Int32.toInt_inj.mp (by rw [q]; rfl))
  omega
theorem zsw_out10_1 {x : Int32} (h0 : ¬ x = 1) (h1 : ¬ x = 2) (h2 : ¬ x = 3) (h3 : ¬ x = 4) (h4 : ¬ x = 5) (h5 : ¬ x = 6) (h6 : ¬ x = 7) (h7 : ¬ x = 8) (h8 : ¬ x = 9) (h9 : ¬ x = 10) : x.toInt < 1 ∨ (10 : Int) < x.toInt := by
  have e0 : x.toInt ≠ 1 := fun q => h0 (Int32.toInt_inj.mp (by rw [q]; rfl))
  have e1 : x.toInt ≠ 2 := fun q => h1 (Int32.toInt_inj.mp (by rw [q]; rfl))
  have e2 : x.toInt ≠ 3 := fun q => h2 (Int32.toInt_inj.mp (by rw [q]; rfl))
  have e3 : x.toInt ≠ 4 := fun q => h3 (Int32.toInt_inj.mp (by rw [q]; rfl))
  have e4 : x.toInt ≠ 5 := fun q => h4 (Int32.toInt_inj.mp (by rw [q]; rfl))
  have e5 : x.toInt ≠ 6 := fun q => h5 (Int32.toInt_inj.mp (by rw [q]; rfl))
  have e6 : x.toInt ≠ 7 := fun q => h6 (Int32.toInt_inj.mp (by rw [q]; rfl))
  have e7 : x.toInt ≠ 8 := fun q => h7 (Int32.toInt_inj.mp (by rw [q]; rfl))
  have e8 : x.toInt ≠ 9 := fun q => h8 (Int32.toInt_inj.mp (by rw [q]; rfl))
  have e9 : x.toInt ≠ 10 := fun q => h9 (Int32.toInt_inj.mp (by rw [q]; rfl))
  omega
end YC
