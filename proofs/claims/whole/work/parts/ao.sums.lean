/-! sums over sets of slots -/
def pM (f : Nat → Nat) : Nat → Nat
  | 0 => 1
  | j + 1 => pM f j * f j
theorem pM_s (f : Nat → Nat) (j : Nat) : pM f (j + 1) = pM f j * f j := rfl
theorem pM_cong {f g : Nat → Nat} : ∀ {n : Nat}, (∀ k, k < n → f k = g k) → pM f n = pM g n
  | 0, _ => rfl
  | n + 1, h => by rw [pM_s, pM_s, pM_cong (fun k hk => h k (by omega)), h n (by omega)]
theorem fb_sm_mulr (f : Nat → Nat) (c : Nat) : ∀ n, fb_sm (fun k => f k * c) n = fb_sm f n * c
  | 0 => (Nat.zero_mul c).symm
  | n + 1 => by
    show fb_sm (fun k => f k * c) n + f n * c = (fb_sm f n + f n) * c
    rw [fb_sm_mulr f c n, Nat.add_mul]
theorem sum_prod (a : Nat → Bool → Nat) : ∀ k, fb_sm (fun e => pM (fun w => a w (e.testBit w)) k) (2 ^ k) = pM (fun w => a w true + a w false) k
  | 0 => rfl
  | k + 1 => by
    have h2 : 2 ^ (k + 1) = 2 ^ k + 2 ^ k := by rw [Nat.pow_succ]; omega
    rw [h2, fb_sm_split, pM_s]
    have e1 : fb_sm (fun e => pM (fun w => a w (e.testBit w)) (k + 1)) (2 ^ k) = fb_sm (fun e => pM (fun w => a w (e.testBit w)) k * a k false) (2 ^ k) := fb_sm_cong (fun e he => by
      show pM (fun w => a w (e.testBit w)) k * a k (e.testBit k) = _
      rw [Nat.testBit_lt_two_pow he])
    have e2 : fb_sm (fun e => pM (fun w => a w ((2 ^ k + e).testBit w)) (k + 1)) (2 ^ k) = fb_sm (fun e => pM (fun w => a w (e.testBit w)) k * a k true) (2 ^ k) := fb_sm_cong (fun e he => by
      show pM (fun w => a w ((2 ^ k + e).testBit w)) k * a k ((2 ^ k + e).testBit k) = _
      rw [Nat.testBit_two_pow_add_eq, Nat.testBit_lt_two_pow he, pM_cong (g := fun w => a w (e.testBit w)) (fun w hw => by rw [Nat.testBit_two_pow_add_gt hw])]
      rfl)
    rw [e1, e2, fb_sm_mulr, fb_sm_mulr, sum_prod a k, Nat.mul_add, Nat.add_comm]
theorem sm_list (f : Nat → Nat) : ∀ n, fb_sm f n = ((List.range n).map f).sum
  | 0 => rfl
  | n + 1 => by
    rw [List.range_succ, List.map_append, List.sum_append, ← sm_list f n]
    show fb_sm f n + f n = fb_sm f n + ([f n]).sum
    simp
theorem perm_sum {l k : List Nat} (h : l.Perm k) : l.sum = k.sum := by
  induction h with
  | nil => rfl
  | cons x _ ih => rw [List.sum_cons, List.sum_cons, ih]
  | swap x y l => rw [List.sum_cons, List.sum_cons, List.sum_cons, List.sum_cons]; omega
  | trans _ _ h1 h2 => exact h1.trans h2
theorem xor_perm : ∀ U : Fin 64, ((List.range 64).map (fun e => U.1 ^^^ e)).isPerm (List.range 64) = true := by decide +kernel
theorem sum_xor {U : Nat} (hU : U < 64) (f : Nat → Nat) : fb_sm (fun e => f (U ^^^ e)) 64 = fb_sm f 64 := by
  have h := List.isPerm_iff.mp (xor_perm ⟨U, hU⟩)
  have h2 := perm_sum (h.map f)
  rw [List.map_map] at h2
  rw [sm_list, sm_list, ← h2]
  rfl
def unN (p : Nat → Bool) : Nat → Nat
  | 0 => 0
  | j + 1 => if p j then unN p j + 2 ^ j else unN p j
theorem unN_lt (p : Nat → Bool) : ∀ j, unN p j < 2 ^ j
  | 0 => Nat.lt_add_one 0
  | j + 1 => by
    have h := unN_lt p j
    have h2 : 2 ^ (j + 1) = 2 ^ j + 2 ^ j := by rw [Nat.pow_succ]; omega
    show (if p j then unN p j + 2 ^ j else unN p j) < 2 ^ (j + 1)
    split <;> omega
theorem unN_bit (p : Nat → Bool) : ∀ j w, w < j → (unN p j).testBit w = p w
  | 0, w, h => absurd h (Nat.not_lt_zero w)
  | j + 1, w, h => by
    have hl := unN_lt p j
    show (if p j then unN p j + 2 ^ j else unN p j).testBit w = p w
    by_cases q : w = j
    · subst q
      cases z : p w
      · rw [if_neg (by decide), Nat.testBit_lt_two_pow hl]
      · rw [if_pos rfl, Nat.add_comm, Nat.testBit_two_pow_add_eq, Nat.testBit_lt_two_pow hl]
        rfl
    · have ih := unN_bit p j w (by omega)
      cases z : p j
      · rw [if_neg (by decide)]
        exact ih
      · rw [if_pos rfl, Nat.add_comm, Nat.testBit_two_pow_add_gt (by omega)]
        exact ih
theorem bt_nat {e w : Nat} (he : e < 64) (hw : w < 32) : bt (nI e) w = e.testBit w := by
  have : ∀ a : Fin 64, ∀ b : Fin 32, bt (nI a.1) b.1 = a.1.testBit b.1 := by decide +kernel
  exact this ⟨e, he⟩ ⟨w, hw⟩
theorem orI_bt (p : Nat → Bool) : ∀ n, n ≤ 6 → ∀ k, k < 32 → bt (orI p n) k = (decide (k < n) && p k)
  | 0, _, k, _ => by
    rw [decide_eq_false (Nat.not_lt_zero k), Bool.false_and]
    exact bt_nI0 k
  | n + 1, hn, k, hk => by
    have ih := orI_bt p n (by omega) k hk
    rw [orI_s]
    by_cases q : k = n
    · subst q
      cases z : p k
      · rw [if_neg (by decide), ih, z, Bool.and_false, Bool.and_false]
      · rw [if_pos rfl, b_or, bt_bit (by omega) hk, ih, decide_eq_true rfl, Bool.or_true, decide_eq_true (by omega)]
        rfl
    · have e : decide (k < n + 1) = decide (k < n) := by
        by_cases y : k < n
        · rw [decide_eq_true y, decide_eq_true (by omega)]
        · rw [decide_eq_false y, decide_eq_false (by omega)]
      rw [e]
      cases z : p n
      · rw [if_neg (by decide), ih]
      · rw [if_pos rfl, b_or, bt_bit (by omega) hk, ih, decide_eq_false q, Bool.or_false]
/-- a set of slots that holds none but those of a word -/
def okB (p : Nat → Bool) (e : Nat) : Bool := alB (fun w => !e.testBit w || p w) 6
theorem sub_ok (p : Nat → Bool) {e : Nat} (he : e < 64) : ((nI e &&& (orI p 6 ^^^ m1)) = nI 0) = (okB p e = true) := by
  refine propext ⟨fun h => alB_t.mpr (fun w hw => ?_), fun h => b_ext (fun k hk => ?_)⟩
  · have h1 : bt (nI e &&& (orI p 6 ^^^ m1)) w = false := by
      rw [h]
      exact bt_nI0 w
    have hm : bt m1 w = true := b_m1 w (by omega)
    rw [b_and, b_xor, hm, orI_bt p 6 (Nat.le_refl _) w (by omega), decide_eq_true hw, Bool.true_and, bt_nat he (by omega)] at h1
    cases y : e.testBit w
    · rfl
    · rw [y] at h1
      cases z : p w
      · rw [z] at h1
        cases h1
      · rfl
  · have hm : bt m1 k = true := b_m1 k hk
    rw [b_and, b_xor, hm, orI_bt p 6 (Nat.le_refl _) k hk, bt_nI0, bt_nat he hk]
    by_cases y : k < 6
    · have h1 := alB_t.mp h k y
      rw [decide_eq_true y, Bool.true_and]
      cases z : e.testBit k
      · rfl
      · rw [z] at h1
        have h2 : p k = true := h1
        rw [h2]
        rfl
    · rw [Nat.testBit_lt_two_pow (Nat.lt_of_lt_of_le he (by
        have : 2 ^ 6 ≤ 2 ^ k := Nat.pow_le_pow_right (by decide) (by omega)
        exact this))]
      rfl
theorem okB_t {p : Nat → Bool} {e w : Nat} (h : okB p e = true) (hw : w < 6) (hb : e.testBit w = true) : p w = true := by
  have h1 := alB_t.mp h w hw
  rw [hb] at h1
  exact h1
theorem ok_xor (p : Nat → Bool) (e : Nat) : okB p (unN p 6 ^^^ e) = okB p e := by
  have key : ∀ w, w < 6 → (!(unN p 6 ^^^ e).testBit w || p w) = (!e.testBit w || p w) := fun w hw => by
    rw [Nat.testBit_xor, unN_bit p 6 w hw]
    cases p w <;> cases e.testBit w <;> rfl
  unfold okB
  cases z : alB (fun w => !e.testBit w || p w) 6
  · cases y : alB (fun w => !(unN p 6 ^^^ e).testBit w || p w) 6
    · rfl
    · have : alB (fun w => !e.testBit w || p w) 6 = true := alB_t.mpr (fun w hw => by rw [← key w hw]; exact alB_t.mp y w hw)
      rw [this] at z
      cases z
  · exact alB_t.mpr (fun w hw => by rw [key w hw]; exact alB_t.mp z w hw)
theorem bit_xor {p : Nat → Bool} {e w : Nat} (h : okB p e = true) (hw : w < 6) : (unN p 6 ^^^ e).testBit w = (p w && !e.testBit w) := by
  rw [Nat.testBit_xor, unN_bit p 6 w hw]
  cases y : e.testBit w
  · cases p w <;> rfl
  · rw [okB_t h hw y]
    rfl
def wM (p : Nat → Bool) (c e : Nat) : Nat := pM (fun w => if p w then (if e.testBit w then c else 100 - c) else 1) 6
def wC (p : Nat → Bool) (c e : Nat) : Nat := pM (fun w => if p w then (if e.testBit w then 100 - c else c) else 1) 6
theorem w_xor {p : Nat → Bool} {c e : Nat} (h : okB p e = true) : wC p c (unN p 6 ^^^ e) = wM p c e := by
  unfold wC wM
  refine pM_cong (fun w hw => ?_)
  cases z : p w
  · rfl
  · rw [if_pos rfl, if_pos rfl, bit_xor h hw, z, Bool.true_and]
    cases e.testBit w <;> rfl
theorem all_w (p : Nat → Bool) {c : Nat} (hc : c ≤ 100) : fb_sm (fun e => if okB p e then wM p c e else 0) 64 = pM (fun w => if p w then 100 else 1) 6 := by
  have h := sum_prod (fun w b => if p w then (if b then c else 100 - c) else (if b then 0 else 1)) 6
  have h64 : (2 : Nat) ^ 6 = 64 := rfl
  rw [h64] at h
  have e2 : pM (fun w => (if p w then (if true then c else 100 - c) else (if true then 0 else 1)) + (if p w then (if false then c else 100 - c) else (if false then 0 else 1))) 6 = pM (fun w => if p w then 100 else 1) 6 := pM_cong (fun w _ => by
    cases p w
    · rfl
    · show c + (100 - c) = 100
      omega)
  rw [← e2, ← h]
  refine fb_sm_cong (fun e he => ?_)
  cases z : okB p e
  · rw [if_neg (by decide)]
    have hx : ∃ w, w < 6 ∧ e.testBit w = true ∧ p w = false := by
      have h1 : ¬ ∀ w, w < 6 → (!e.testBit w || p w) = true := fun y => by
        have : okB p e = true := alB_t.mpr y
        rw [this] at z
        cases z
      have h2 : an (fun w => e.testBit w && !p w) 6 = true := by
        cases y : an (fun w => e.testBit w && !p w) 6
        · exact absurd (fun w hw => by
            cases b1 : e.testBit w
            · rfl
            · cases b2 : p w
              · have : an (fun w => e.testBit w && !p w) 6 = true := an_iff.mpr ⟨w, hw, by rw [b1, b2]; rfl⟩
                rw [this] at y
                cases y
              · rfl) h1
        · rfl
      obtain ⟨w, hw, e1⟩ := an_iff.mp h2
      rw [Bool.and_eq_true] at e1
      exact ⟨w, hw, e1.1, by cases b : p w; rfl; rw [b] at e1; exact absurd e1.2 (by decide)⟩
    obtain ⟨w, hw, b1, b2⟩ := hx
    have zero : ∀ (f : Nat → Nat) (k n : Nat), k < n → f k = 0 → pM f n = 0 := by
      intro f k n
      induction n with
      | zero => exact fun h => absurd h (Nat.not_lt_zero k)
      | succ n ih =>
        intro hk h0
        rw [pM_s]
        by_cases q : k = n
        · rw [← q, h0, Nat.mul_zero]
        · rw [ih (by omega) h0, Nat.zero_mul]
    refine (zero _ w 6 hw ?_).symm
    show (if p w then (if e.testBit w then c else 100 - c) else (if e.testBit w then 0 else 1)) = 0
    rw [b1, b2]
    rfl
  · rw [if_pos rfl]
    unfold wM
    refine pM_cong (fun w hw => ?_)
    cases y : p w
    · show (1 : Nat) = if e.testBit w then 0 else 1
      cases b : e.testBit w
      · rfl
      · rw [okB_t z hw b] at y
        cases y
    · rfl
