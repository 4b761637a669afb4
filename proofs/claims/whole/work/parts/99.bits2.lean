def byt : Nat → Nat → List Nat
  | 0, _ => []
  | k + 1, u => (u % 256) :: byt k (u / 256)
theorem byt_len : ∀ k u, (byt k u).length = k
  | 0, _ => rfl
  | k + 1, u => by
    show (byt k (u / 256)).length + 1 = k + 1
    rw [byt_len k]
theorem byt_lt : ∀ k u x, x ∈ byt k u → x < 256
  | 0, _, x, h => by cases h
  | k + 1, u, x, h => by
    rcases List.mem_cons.mp h with rfl | h
    · exact Nat.mod_lt _ (by decide)
    · exact byt_lt k _ x h
theorem byt_V : ∀ k u, Vb (byt k u) = u % 256 ^ k
  | 0, u => by
    show 0 = u % 1
    omega
  | k + 1, u => by
    show u % 256 + 256 * Vb (byt k (u / 256)) = u % 256 ^ (k + 1)
    rw [byt_V k, Nat.pow_succ, Nat.mul_comm (256 ^ k) 256, Nat.mod_mul]
def sumL : List Nat → Nat
  | [] => 0
  | a :: l => a + sumL l
theorem byt_ct : ∀ k u, fb_ct (fun i => u.testBit i) (8 * k) = sumL ((byt k u).map pc8)
  | 0, _ => rfl
  | k + 1, u => by
    show fb_ct (fun i => u.testBit i) (8 * (k + 1)) = pc8 (u % 256) + sumL ((byt k (u / 256)).map pc8)
    rw [show 8 * (k + 1) = 8 + 8 * k by omega, fb_ct_split, ← byt_ct k]
    congr 1
    · unfold pc8
      refine fb_ct_cong (fun i hi => ?_)
      rw [show 256 = 2 ^ 8 by decide, Nat.testBit_mod_two_pow, decide_eq_true hi, Bool.true_and]
    · refine fb_ct_cong (fun i hi => ?_)
      rw [show 256 = 2 ^ 8 by decide, Nat.testBit_div_two_pow, Nat.add_comm]
theorem map_map2 {f g h : Nat → Nat} : ∀ l : List Nat, (∀ x ∈ l, g (f x) = h x) → (l.map f).map g = l.map h
  | [], _ => rfl
  | a :: l, e => by
    show g (f a) :: (l.map f).map g = h a :: l.map h
    rw [e a List.mem_cons_self, map_map2 l (fun x hx => e x (List.mem_cons_of_mem _ hx))]
theorem sum8 (p0 p1 p2 p3 p4 p5 p6 p7 : Nat) (h0 : p0 ≤ 8) (h1 : p1 ≤ 8) (h2 : p2 ≤ 8) (h3 : p3 ≤ 8) (h4 : p4 ≤ 8) (h5 : p5 ≤ 8) (h6 : p6 ≤ 8) (h7 : p7 ≤ 8) {V D E F : Nat} (hV : V = p0 + 256 * (p1 + 256 * (p2 + 256 * (p3 + 256 * (p4 + 256 * (p5 + 256 * (p6 + 256 * p7))))))) (hD : D = V + V / 256) (hE : E = D + D / 65536) (hF : F = E + E / 4294967296) : F % 128 = p0 + (p1 + (p2 + (p3 + (p4 + (p5 + (p6 + (p7 + 0))))))) := by
  have d1 : V / 256 = p1 + 256 * (p2 + 256 * (p3 + 256 * (p4 + 256 * (p5 + 256 * (p6 + 256 * p7))))) := by omega
  have e1 : D = (p0 + p1 + 256 * (p1 + p2)) + 65536 * ((p2 + p3) + 256 * (p3 + p4) + 65536 * ((p4 + p5) + 256 * (p5 + p6) + 65536 * ((p6 + p7) + 256 * p7))) := by omega
  clear hD hV d1
  obtain ⟨a, ea⟩ : ∃ a, a = p0 + p1 + 256 * (p1 + p2) := ⟨_, rfl⟩
  obtain ⟨Y, eY⟩ : ∃ Y, Y = (p2 + p3) + 256 * (p3 + p4) + 65536 * ((p4 + p5) + 256 * (p5 + p6) + 65536 * ((p6 + p7) + 256 * p7)) := ⟨_, rfl⟩
  rw [← ea, ← eY] at e1
  have d2 : D / 65536 = Y := by omega
  have e2 : E = a + 65536 * Y + Y := by omega
  clear hE d2 e1
  obtain ⟨W, eW⟩ : ∃ W, W = (p4 + p5 + p6 + p7) + 256 * (p5 + p6 + p7) + 65536 * (p6 + p7) + 16777216 * p7 := ⟨_, rfl⟩
  obtain ⟨Lw, eL⟩ : ∃ Lw, Lw = (p0 + p1 + p2 + p3) + 256 * (p1 + p2 + p3 + p4) + 65536 * (p2 + p3 + p4 + p5) + 16777216 * (p3 + p4 + p5 + p6) := ⟨_, rfl⟩
  have e3 : E = Lw + 4294967296 * W := by omega
  have b1 : Lw < 4294967296 := by omega
  clear e2 ea eY
  have d3 : E / 4294967296 = W := by omega
  have e4 : F = Lw + 4294967296 * W + W := by omega
  clear hF d3 e3
  omega
theorem uncons {k : Nat} : ∀ {l : List Nat}, l.length = k + 1 → ∃ a t, l = a :: t ∧ t.length = k
  | [], h => by cases h
  | a :: t, h => ⟨a, t, rfl, Nat.succ.inj h⟩
theorem swar_key {l : List Nat} (hl0 : l.length = 8) (hx : ∀ x ∈ l, x ≤ 8) : ((Vb l + Vb l / 256) + (Vb l + Vb l / 256) / 65536 + ((Vb l + Vb l / 256) + (Vb l + Vb l / 256) / 65536) / 4294967296) % 128 = sumL l := by
  obtain ⟨p0, l1, rfl, hl1⟩ := uncons hl0
  obtain ⟨p1, l2, rfl, hl2⟩ := uncons hl1
  obtain ⟨p2, l3, rfl, hl3⟩ := uncons hl2
  obtain ⟨p3, l4, rfl, hl4⟩ := uncons hl3
  obtain ⟨p4, l5, rfl, hl5⟩ := uncons hl4
  obtain ⟨p5, l6, rfl, hl6⟩ := uncons hl5
  obtain ⟨p6, l7, rfl, hl7⟩ := uncons hl6
  obtain ⟨p7, l8, rfl, hl8⟩ := uncons hl7
  obtain rfl : l8 = [] := List.length_eq_zero_iff.mp hl8
  have h0 : p0 ≤ 8 := hx p0 (List.mem_cons_self)
  have h1 : p1 ≤ 8 := hx p1 (List.mem_cons_of_mem _ List.mem_cons_self)
  have h2 : p2 ≤ 8 := hx p2 (List.mem_cons_of_mem _ (List.mem_cons_of_mem _ List.mem_cons_self))
  have h3 : p3 ≤ 8 := hx p3 (List.mem_cons_of_mem _ (List.mem_cons_of_mem _ (List.mem_cons_of_mem _ List.mem_cons_self)))
  have h4 : p4 ≤ 8 := hx p4 (List.mem_cons_of_mem _ (List.mem_cons_of_mem _ (List.mem_cons_of_mem _ (List.mem_cons_of_mem _ List.mem_cons_self))))
  have h5 : p5 ≤ 8 := hx p5 (List.mem_cons_of_mem _ (List.mem_cons_of_mem _ (List.mem_cons_of_mem _ (List.mem_cons_of_mem _ (List.mem_cons_of_mem _ List.mem_cons_self)))))
  have h6 : p6 ≤ 8 := hx p6 (List.mem_cons_of_mem _ (List.mem_cons_of_mem _ (List.mem_cons_of_mem _ (List.mem_cons_of_mem _ (List.mem_cons_of_mem _ (List.mem_cons_of_mem _ List.mem_cons_self))))))
  have h7 : p7 ≤ 8 := hx p7 (List.mem_cons_of_mem _ (List.mem_cons_of_mem _ (List.mem_cons_of_mem _ (List.mem_cons_of_mem _ (List.mem_cons_of_mem _ (List.mem_cons_of_mem _ (List.mem_cons_of_mem _ List.mem_cons_self)))))))
  exact sum8 p0 p1 p2 p3 p4 p5 p6 p7 h0 h1 h2 h3 h4 h5 h6 h7 (V := Vb [p0, p1, p2, p3, p4, p5, p6, p7]) rfl rfl rfl rfl
theorem swar {u : Nat} (hu : u < 18446744073709551616) : ∃ a1 a2 a3, a1 + ((u / 2) &&& 6148914691236517205) = u ∧ a2 = (a1 &&& 3689348814741910323) + ((a1 / 4) &&& 3689348814741910323) ∧ a3 = (a2 + a2 / 16) &&& 1085102592571150095 ∧ a2 < 5000000000000000000 ∧ a3 < 600000000000000000 ∧ ((a3 + a3 / 256) + (a3 + a3 / 256) / 65536 + ((a3 + a3 / 256) + (a3 + a3 / 256) / 65536) / 4294967296) % 128 = fb_ct (fun i => u.testBit i) 64 := by
  have hl0 := byt_lt 8 u
  have e256 : (256 : Nat) ^ 8 = 18446744073709551616 := by decide +kernel
  have hV0 : Vb (byt 8 u) = u := by
    rw [byt_V, e256, Nat.mod_eq_of_lt hu]
  have hlen0 := byt_len 8 u
  have hct0 := byt_ct 8 u
  obtain ⟨l, el⟩ : ∃ l, l = byt 8 u := ⟨_, rfl⟩
  rw [← el] at hl0 hV0 hlen0 hct0
  have hl : ∀ x, x ∈ l → x < 256 := hl0
  have hV : Vb l = u := hV0
  have hlen : l.length = 8 := hlen0
  have hct : fb_ct (fun i => u.testBit i) 64 = sumL (l.map pc8) := hct0
  clear hl0 hV0 hlen0 hct0 el
  have r1 : Rb 85 8 = 6148914691236517205 := by decide +kernel
  have r2 : Rb 51 8 = 3689348814741910323 := by decide +kernel
  have r3 : Rb 15 8 = 1085102592571150095 := by decide +kernel
  have s1 := Vb_shr (m := 85) (s := 1) (t := 7) (by omega) (by decide) l hl
  rw [hlen, r1, hV] at s1
  have s2 := Vb_sub (fun x => (x / 2 ^ 1) &&& 85) (fun x => Nat.le_trans Nat.and_le_left (Nat.div_le_self _ _)) l
  have m1 : l.map (fun x => x - ((x / 2 ^ 1) &&& 85)) = l.map g1b := congrArg (fun f => l.map f) (funext fun x => rfl)
  rw [m1, hV, ← s1] at s2
  have hl1 : ∀ x ∈ l.map g1b, x < 256 := fun x hx => by
    obtain ⟨y, hy, rfl⟩ := List.mem_map.mp hx
    exact (byte_all ⟨y, hl y hy⟩).1
  have hlen1 : (l.map g1b).length = 8 := by rw [List.length_map, hlen]
  have t1 := Vb_and (m := 51) (by decide) _ hl1
  have t2 := Vb_shr (m := 51) (s := 2) (t := 6) (by omega) (by decide) _ hl1
  rw [hlen1, r2] at t1 t2
  have t3 := Vb_add (fun x => x &&& 51) (fun x => (x / 2 ^ 2) &&& 51) (l.map g1b)
  have m2 : (l.map g1b).map (fun x => (x &&& 51) + ((x / 2 ^ 2) &&& 51)) = l.map g2b := map_map2 _ (fun x hx => rfl)
  rw [m2, ← t1, ← t2] at t3
  have hl2 : ∀ x ∈ l.map g2b, x < 256 ∧ x % 16 ≤ 4 ∧ x / 16 ≤ 4 := fun x hx => by
    obtain ⟨y, hy, rfl⟩ := List.mem_map.mp hx
    obtain ⟨-, a, b, c, -⟩ := byte_all ⟨y, hl y hy⟩
    exact ⟨a, b, c⟩
  have hlen2 : (l.map g2b).length = 8 := by rw [List.length_map, hlen]
  have n1 := (Vb_nib _ hl2).1
  rw [hlen2, r3, map_map2 (h := pc8) _ (fun x hx => (byte_all ⟨x, hl x hx⟩).2.2.2.2.1)] at n1
  have hp : ∀ x ∈ l.map pc8, x ≤ 8 := fun x hx => by
    obtain ⟨y, hy, rfl⟩ := List.mem_map.mp hx
    exact (byte_all ⟨y, hl y hy⟩).2.2.2.2.2
  have hb68 : ∀ x ∈ l.map g2b, x ≤ 68 := fun x hx => by
    have := hl2 x hx
    omega
  have bnd : ∀ (M : Nat) (l : List Nat), (∀ x ∈ l, x ≤ M) → Vb l ≤ M * Rb 1 l.length := by
    intro M l
    induction l with
    | nil => intro _; exact Nat.zero_le _
    | cons a l ih =>
      intro h
      have h1 := h a List.mem_cons_self
      have h2 := ih (fun x hx => h x (List.mem_cons_of_mem _ hx))
      show a + 256 * Vb l ≤ M * (1 + 256 * Rb 1 l.length)
      have e : M * (1 + 256 * Rb 1 l.length) = M + 256 * (M * Rb 1 l.length) := by
        rw [Nat.mul_add, Nat.mul_one, Nat.mul_left_comm]
      omega
  have q2 := bnd 68 _ hb68
  have q3 := bnd 8 _ hp
  rw [hlen2] at q2
  rw [List.length_map, hlen] at q3
  have r0 : Rb 1 8 = 72340172838076673 := by decide +kernel
  rw [r0] at q2 q3
  refine ⟨Vb (l.map g1b), Vb (l.map g2b), Vb (l.map pc8), by rw [Nat.add_comm]; exact s2, t3.symm, n1.symm, by omega, by omega, ?_⟩
  rw [hct]
  exact swar_key (by rw [List.length_map, hlen]) hp
