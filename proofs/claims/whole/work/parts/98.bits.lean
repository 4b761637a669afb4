/-! how many bits a long has -/
def Vb : List Nat → Nat
  | [] => 0
  | a :: l => a + 256 * Vb l
def Rb (m : Nat) : Nat → Nat
  | 0 => 0
  | k + 1 => m + 256 * Rb m k
theorem and_split {a b c d : Nat} (ha : a < 256) (hc : c < 256) : (a + 256 * b) &&& (c + 256 * d) = (a &&& c) + 256 * (b &&& d) := by
  have hac : a &&& c < 2 ^ 8 := Nat.lt_of_le_of_lt Nat.and_le_left ha
  apply Nat.eq_of_testBit_eq
  intro i
  rw [Nat.testBit_and, Nat.add_comm a, Nat.add_comm c, Nat.add_comm (a &&& c), show 256 = 2 ^ 8 by decide, Nat.testBit_two_pow_mul_add _ ha, Nat.testBit_two_pow_mul_add _ hc, Nat.testBit_two_pow_mul_add _ hac]
  split
  · rw [Nat.testBit_and]
  · rw [Nat.testBit_and]
theorem Vb_and {m : Nat} (hm : m < 256) : ∀ l : List Nat, (∀ x ∈ l, x < 256) → Vb l &&& Rb m l.length = Vb (l.map (fun x => x &&& m))
  | [], _ => Nat.and_zero 0
  | a :: l, h => by
    show (a + 256 * Vb l) &&& (m + 256 * Rb m l.length) = (a &&& m) + 256 * Vb (l.map (fun x => x &&& m))
    rw [and_split (h a (List.mem_cons_self)) hm, Vb_and hm l (fun x hx => h x (List.mem_cons_of_mem _ hx))]
theorem Vb_shr {m s t : Nat} (hst : s + t = 8) (hm : m < 2 ^ t) : ∀ l : List Nat, (∀ x ∈ l, x < 256) → (Vb l / 2 ^ s) &&& Rb m l.length = Vb (l.map (fun x => (x / 2 ^ s) &&& m))
  | [], _ => by
    show (0 / 2 ^ s) &&& 0 = 0
    exact Nat.and_zero _
  | a :: l, h => by
    have ha := h a (List.mem_cons_self)
    have ih := Vb_shr hst hm l (fun x hx => h x (List.mem_cons_of_mem _ hx))
    show ((a + 256 * Vb l) / 2 ^ s) &&& (m + 256 * Rb m l.length) = ((a / 2 ^ s) &&& m) + 256 * Vb (l.map (fun x => (x / 2 ^ s) &&& m))
    have e256 : 256 = 2 ^ s * 2 ^ t := by rw [← Nat.pow_add, hst]
    have hs0 : 0 < 2 ^ s := Nat.two_pow_pos s
    have ht0 : 0 < 2 ^ t := Nat.two_pow_pos t
    have e1 : (a + 256 * Vb l) / 2 ^ s = (a / 2 ^ s + 2 ^ t * (Vb l % 2 ^ s)) + 256 * (Vb l / 2 ^ s) := by
      have d := Nat.div_add_mod (Vb l) (2 ^ s)
      have e2 : a + 256 * Vb l = a + 2 ^ s * (2 ^ t * Vb l) := by rw [← Nat.mul_assoc, ← e256]
      rw [e2, Nat.add_mul_div_left _ _ hs0, Nat.add_assoc]
      congr 1
      rw [e256, Nat.mul_comm (2 ^ s) (2 ^ t), Nat.mul_assoc, ← Nat.mul_add]
      congr 1
      omega
    have hq : a / 2 ^ s < 2 ^ t := by
      rw [Nat.div_lt_iff_lt_mul hs0, Nat.mul_comm, ← e256]
      exact ha
    have hlow : a / 2 ^ s + 2 ^ t * (Vb l % 2 ^ s) < 256 := by
      have hmod : Vb l % 2 ^ s < 2 ^ s := Nat.mod_lt _ hs0
      have h1 : 2 ^ t * (Vb l % 2 ^ s) + 2 ^ t ≤ 2 ^ t * 2 ^ s := by
        rw [← Nat.mul_succ]
        exact Nat.mul_le_mul_left _ hmod
      have h2 : 2 ^ t * 2 ^ s = 256 := by rw [Nat.mul_comm, ← e256]
      omega
    have ht8 : 2 ^ t ≤ 256 := Nat.pow_le_pow_right (by decide) (by omega : t ≤ 8)
    rw [e1, and_split hlow (by omega), ih]
    congr 1
    apply Nat.eq_of_testBit_eq
    intro i
    rw [Nat.testBit_and, Nat.testBit_and, Nat.add_comm, Nat.testBit_two_pow_mul_add _ hq]
    split
    · rfl
    · rw [Nat.testBit_lt_two_pow (Nat.lt_of_lt_of_le hm (Nat.pow_le_pow_right (by decide) (by omega : t ≤ i))), Bool.and_false, Bool.and_false]
theorem Vb_add (f g : Nat → Nat) : ∀ l : List Nat, Vb (l.map f) + Vb (l.map g) = Vb (l.map (fun x => f x + g x))
  | [] => rfl
  | a :: l => by
    have ih := Vb_add f g l
    show (f a + 256 * Vb (l.map f)) + (g a + 256 * Vb (l.map g)) = (f a + g a) + 256 * Vb (l.map (fun x => f x + g x))
    omega
theorem Vb_sub (f : Nat → Nat) (hf : ∀ x, f x ≤ x) : ∀ l : List Nat, Vb (l.map f) + Vb (l.map (fun x => x - f x)) = Vb l
  | [] => rfl
  | a :: l => by
    have ih := Vb_sub f hf l
    have := hf a
    show (f a + 256 * Vb (l.map f)) + ((a - f a) + 256 * Vb (l.map (fun x => x - f x))) = a + 256 * Vb l
    omega
theorem Vb_nib : ∀ l : List Nat, (∀ x ∈ l, x < 256 ∧ x % 16 ≤ 4 ∧ x / 16 ≤ 4) → (Vb l + Vb l / 16) &&& Rb 15 l.length = Vb (l.map (fun x => x % 16 + x / 16)) ∧ Vb l % 16 ≤ 4
  | [], _ => ⟨rfl, by decide⟩
  | a :: l, h => by
    have ha := h a (List.mem_cons_self)
    obtain ⟨ih, ih2⟩ := Vb_nib l (fun x hx => h x (List.mem_cons_of_mem _ hx))
    refine ⟨?_, ?_⟩
    · show ((a + 256 * Vb l) + (a + 256 * Vb l) / 16) &&& (15 + 256 * Rb 15 l.length) = (a % 16 + a / 16) + 256 * Vb (l.map (fun x => x % 16 + x / 16))
      have e1 : (a + 256 * Vb l) + (a + 256 * Vb l) / 16 = (a + a / 16 + 16 * (Vb l % 16)) + 256 * (Vb l + Vb l / 16) := by omega
      rw [e1, and_split (by omega) (by decide), ih]
      congr 1
      have e2 := Nat.and_two_pow_sub_one_eq_mod (a + a / 16 + 16 * (Vb l % 16)) 4
      have e3 : (a + a / 16 + 16 * (Vb l % 16)) &&& 15 = (a + a / 16 + 16 * (Vb l % 16)) % 16 := e2
      rw [e3]
      omega
    · show (a + 256 * Vb l) % 16 ≤ 4
      omega
def pc8 (x : Nat) : Nat := fb_ct (fun i => x.testBit i) 8
def g1b (x : Nat) : Nat := x - ((x / 2) &&& 85)
def g2b (x : Nat) : Nat := (g1b x &&& 51) + ((g1b x / 4) &&& 51)
theorem byte_all : ∀ x : Fin 256, g1b x.1 < 256 ∧ g2b x.1 < 256 ∧ g2b x.1 % 16 ≤ 4 ∧ g2b x.1 / 16 ≤ 4 ∧ g2b x.1 % 16 + g2b x.1 / 16 = pc8 x.1 ∧ pc8 x.1 ≤ 8 := by decide +kernel
