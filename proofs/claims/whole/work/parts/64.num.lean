/-! small numbers: the forms of the pure side -/
def m1 : Int32 := -1
def m2 : Int32 := -2
theorem lm1 : (-1 : Int32) = m1 := rfl
theorem lm2 : (-2 : Int32) = m2 := rfl
theorem i0 : (0 : Int32) = nI 0 := rfl
theorem i1 : (1 : Int32) = nI 1 := rfl
theorem i2 : (2 : Int32) = nI 2 := rfl
theorem i3 : (3 : Int32) = nI 3 := rfl
theorem i4 : (4 : Int32) = nI 4 := rfl
theorem i5 : (5 : Int32) = nI 5 := rfl
theorem i6 : (6 : Int32) = nI 6 := rfl
theorem i7 : (7 : Int32) = nI 7 := rfl
theorem i8 : (8 : Int32) = nI 8 := rfl
theorem i9 : (9 : Int32) = nI 9 := rfl
theorem i10 : (10 : Int32) = nI 10 := rfl
theorem i12 : (12 : Int32) = nI 12 := rfl
theorem i16 : (16 : Int32) = nI 16 := rfl
theorem i20 : (20 : Int32) = nI 20 := rfl
theorem i24 : (24 : Int32) = nI 24 := rfl
theorem i31 : (31 : Int32) = nI 31 := rfl
theorem i32 : (32 : Int32) = nI 32 := rfl
theorem i44 : (44 : Int32) = nI 44 := rfl
theorem i48 : (48 : Int32) = nI 48 := rfl
theorem i57 : (57 : Int32) = nI 57 := rfl
theorem i59 : (59 : Int32) = nI 59 := rfl
theorem i63 : (63 : Int32) = nI 63 := rfl
theorem i64 : (64 : Int32) = nI 64 := rfl
theorem i74 : (74 : Int32) = nI 74 := rfl
theorem i75 : (75 : Int32) = nI 75 := rfl
theorem i90 : (90 : Int32) = nI 90 := rfl
theorem i96 : (96 : Int32) = nI 96 := rfl
theorem i97 : (97 : Int32) = nI 97 := rfl
theorem i99 : (99 : Int32) = nI 99 := rfl
theorem i100 : (100 : Int32) = nI 100 := rfl
theorem i122 : (122 : Int32) = nI 122 := rfl
theorem i139 : (139 : Int32) = nI 139 := rfl
theorem i140 : (140 : Int32) = nI 140 := rfl
theorem i144 : (144 : Int32) = nI 144 := rfl
theorem i192 : (192 : Int32) = nI 192 := rfl
theorem i200 : (200 : Int32) = nI 200 := rfl
theorem i240 : (240 : Int32) = nI 240 := rfl
theorem i255 : (255 : Int32) = nI 255 := rfl
theorem i304 : (304 : Int32) = nI 304 := rfl
theorem i309 : (309 : Int32) = nI 309 := rfl
theorem i310 : (310 : Int32) = nI 310 := rfl
theorem i311 : (311 : Int32) = nI 311 := rfl
theorem i323 : (323 : Int32) = nI 323 := rfl
theorem i324 : (324 : Int32) = nI 324 := rfl
theorem i325 : (325 : Int32) = nI 325 := rfl
theorem i899 : (899 : Int32) = nI 899 := rfl
theorem i900 : (900 : Int32) = nI 900 := rfl
theorem i975 : (975 : Int32) = nI 975 := rfl
theorem i999 : (999 : Int32) = nI 999 := rfl
theorem i5200 : (5200 : Int32) = nI 5200 := rfl
theorem i4875 : (4875 : Int32) = nI 4875 := rfl
theorem i65536 : (65536 : Int32) = nI 65536 := rfl
theorem i65537 : (65537 : Int32) = nI 65537 := rfl
theorem i15 : (15 : Int32) = nI 15 := rfl
def bI (b : Bool) : Int32 := if b then nI 1 else nI 0
theorem bI_t : bI true = nI 1 := rfl
theorem bI_f : bI false = nI 0 := rfl
theorem bI_0 (b : Bool) : (bI b = nI 0) = (b = false) := by cases b <;> simp [bI] <;> decide
theorem bI_1 (b : Bool) : (bI b = nI 1) = (b = true) := by cases b <;> simp [bI] <;> decide
theorem bI_bo (b : Bool) : zbo (bI b) = True := by cases b <;> exact eq_true (by decide)
theorem nI0_bo : zbo (nI 0) = True := eq_true (.inl rfl)
theorem nI1_bo : zbo (nI 1) = True := eq_true (.inr rfl)
theorem bI_if (b : Bool) : (if b = true then nI 1 else nI 0) = bI b := rfl
theorem bI_inj {a b : Bool} (h : bI a = bI b) : a = b := by
  cases a <;> cases b <;> first | rfl | exact absurd h (by decide)
theorem zn_zib {k N : Nat} (h : k < N) (hN : N < 2 ^ 31) : zib (nI k) N = True := eq_true (nI_in h hN)
theorem zn_eq {a b : Nat} (ha : a < 2 ^ 31) (hb : b < 2 ^ 31) : (nI a = nI b) = (a = b) := propext (nI_eq ha hb)
theorem zn_lt {a b : Nat} (ha : a < 2 ^ 31) (hb : b < 2 ^ 31) : (nI a < nI b) = (a < b) := propext (nI_ltI ha hb)
theorem zn_le {a b : Nat} (ha : a < 2 ^ 31) (hb : b < 2 ^ 31) : (nI a ≤ nI b) = (a ≤ b) := propext (nI_leI ha hb)
theorem m2_i : m2.toInt = -2 := by decide +kernel
theorem m1_i : m1.toInt = -1 := by decide +kernel
theorem m2_lt {k : Nat} (h : k < 2 ^ 31) : (m2 < nI k) = True := eq_true (by rw [fa_lt, m2_i, nI_toInt h]; omega)
theorem m2_le {k : Nat} (h : k < 2 ^ 31) : (m2 ≤ nI k) = True := eq_true (by rw [fa_le, m2_i, nI_toInt h]; omega)
theorem lt_m2 {k : Nat} (h : k < 2 ^ 31) : (nI k < m2) = False := eq_false (by rw [fa_lt, m2_i, nI_toInt h]; omega)
theorem le_m2 {k : Nat} (h : k < 2 ^ 31) : (nI k ≤ m2) = False := eq_false (by rw [fa_le, m2_i, nI_toInt h]; omega)
theorem eq_m2 {k : Nat} (h : k < 2 ^ 31) : (nI k = m2) = False := eq_false (by rw [fa_eq, m2_i, nI_toInt h]; omega)
theorem m2_eq {k : Nat} (h : k < 2 ^ 31) : (m2 = nI k) = False := eq_false (by rw [fa_eq, m2_i, nI_toInt h]; omega)
theorem m1_lt {k : Nat} (h : k < 2 ^ 31) : (m1 < nI k) = True := eq_true (by rw [fa_lt, m1_i, nI_toInt h]; omega)
theorem m1_le {k : Nat} (h : k < 2 ^ 31) : (m1 ≤ nI k) = True := eq_true (by rw [fa_le, m1_i, nI_toInt h]; omega)
theorem lt_m1 {k : Nat} (h : k < 2 ^ 31) : (nI k < m1) = False := eq_false (by rw [fa_lt, m1_i, nI_toInt h]; omega)
theorem le_m1 {k : Nat} (h : k < 2 ^ 31) : (nI k ≤ m1) = False := eq_false (by rw [fa_le, m1_i, nI_toInt h]; omega)
theorem eq_m1 {k : Nat} (h : k < 2 ^ 31) : (nI k = m1) = False := eq_false (by rw [fa_eq, m1_i, nI_toInt h]; omega)
theorem m1_eq {k : Nat} (h : k < 2 ^ 31) : (m1 = nI k) = False := eq_false (by rw [fa_eq, m1_i, nI_toInt h]; omega)
theorem m1_m2 : (m1 = m2) = False := eq_false (by decide +kernel)
theorem m2_m1 : (m2 = m1) = False := eq_false (by decide +kernel)
theorem m2_lt_m1 : (m2 < m1) = True := eq_true (by decide +kernel)
theorem m2_cn : m2.toNatClampNeg = 0 := by decide +kernel
theorem m1_cn : m1.toNatClampNeg = 0 := by decide +kernel
theorem ob_some {A B : Type} (a : A) (f : A → Option B) : (some a).bind f = f a := rfl
/-! the head that a number has, if it isn't below 0 -/
def has (C : Nat → Bool) (x : Int32) : Bool := !decide (x < nI 0) && C x.toNatClampNeg
theorem has_nI (C : Nat → Bool) {k : Nat} (h : k < 2 ^ 31) : has C (nI k) = C k := by
  simp only [has, nI_clamp h, zn_lt h (by omega : 0 < 2 ^ 31), Nat.not_lt_zero, decide_false, Bool.not_false, Bool.true_and]
theorem has_m2 (C : Nat → Bool) : has C m2 = false := by
  simp only [has, m2_lt (by omega : 0 < 2 ^ 31), decide_true, Bool.not_true, Bool.false_and]
theorem has_m1 (C : Nat → Bool) : has C m1 = false := by
  simp only [has, m1_lt (by omega : 0 < 2 ^ 31), decide_true, Bool.not_true, Bool.false_and]
theorem hol_nI (w : Int64) {k : Nat} (hk : k < 64) : f_X6_holds w (nI k) = some (bI (lb w k)) := by
  rw [holds_nI w hk]
  rfl
theorem hol_m2 (w : Int64) : f_X6_holds w m2 = some (nI 0) := holds_neg w (by decide +kernel)
/-! how far it is on the ring -/
def gon (n a b : Nat) : Nat := (b + (n - a)) % n
def old (n a b : Nat) : Bool := decide (1 ≤ gon n a b) && decide (gon n a b ≤ n / 2)
theorem gon_lt {n a b : Nat} (h : 0 < n) : gon n a b < n := Nat.mod_lt _ h
theorem gon_le {n a b : Nat} (ha : a < n) (hb : b < n) : gon n a b = if b < a then b + n - a else b - a := by
  unfold gon
  split
  · rw [Nat.mod_eq_of_lt (by omega)]
    omega
  · have e : b + (n - a) = (b - a) + n := by omega
    rw [e, Nat.add_mod_right, Nat.mod_eq_of_lt (by omega)]
theorem gon_self {n a : Nat} (ha : a < n) : gon n a a = 0 := by
  rw [gon_le ha ha]
  simp
theorem gon_inj {n a a' b : Nat} (ha : a < n) (ha' : a' < n) (hb : b < n) (h : gon n a b = gon n a' b) : a = a' := by
  rw [gon_le ha hb, gon_le ha' hb] at h
  split at h <;> split at h <;> omega
theorem sub_add_nI {n a b : Nat} (h : a ≤ n) : nI b - nI a + nI n = nI (b + (n - a)) := by
  have e : nI n = nI a + nI (n - a) := by
    rw [nI_add]
    congr 1
    omega
  rw [e, ← Int32.add_assoc, Int32.sub_add_cancel, nI_add]
theorem rem_nI {a n : Nat} (ha : a < 2 ^ 31) (h0 : 0 < n) (hn : n < 2 ^ 31) : nI a - nI a / nI n * nI n = nI (a % n) := pk_rem ha h0 hn
/-! folds -/
def cI (p : Nat → Bool) : Nat → Int32
  | 0 => nI 0
  | n + 1 => if p n then cI p n + nI 1 else cI p n
theorem cI_s (p : Nat → Bool) (n : Nat) : cI p (n + 1) = if p n then cI p n + nI 1 else cI p n := rfl
theorem cI_0 (p : Nat → Bool) : cI p 0 = nI 0 := rfl
theorem cI_ct (p : Nat → Bool) : ∀ n, cI p n = nI (fb_ct p n)
  | 0 => rfl
  | n + 1 => by
    rw [cI_s, fb_ct_succ, cI_ct p n]
    cases p n
    · rfl
    · exact nI_add _ _
theorem cI_cong {p q : Nat → Bool} : ∀ {n : Nat}, (∀ k, k < n → p k = q k) → cI p n = cI q n
  | 0, _ => rfl
  | n + 1, h => by rw [cI_s, cI_s, cI_cong (fun k hk => h k (by omega)), h n (by omega)]
def orI (p : Nat → Bool) : Nat → Int32
  | 0 => nI 0
  | n + 1 => if p n then orI p n ||| (nI 1 <<< (nI n &&& nI 31)) else orI p n
theorem orI_s (p : Nat → Bool) (n : Nat) : orI p (n + 1) = if p n then orI p n ||| (nI 1 <<< (nI n &&& nI 31)) else orI p n := rfl
theorem orI_cong {p q : Nat → Bool} : ∀ {n : Nat}, (∀ k, k < n → p k = q k) → orI p n = orI q n
  | 0, _ => rfl
  | n + 1, h => by rw [orI_s, orI_s, orI_cong (fun k hk => h k (by omega)), h n (by omega)]
theorem add_n0 (x : Int32) : x + nI 0 = x := Int32.add_zero x
theorem or_n0 (x : Int32) : x ||| nI 0 = x := by
  apply b_ext
  intro i hi
  rw [b_or]
  have : bt (nI 0) i = false := b_0 i
  rw [this, Bool.or_false]
