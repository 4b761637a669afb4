/-! how many bits, as the machine counts them -/
theorem uN_and (x y : Int64) : uN (x &&& y) = uN x &&& uN y := by
  unfold uN
  show (x.toBitVec &&& y.toBitVec).toNat = _
  rw [BitVec.toNat_and]
  rfl
theorem uN_jush (x : Int64) {k : Nat} (hk : k < 64) : uN (jlushr x (nI k)) = uN x / 2 ^ k := uN_sk x hk
theorem uN_sub {x y : Int64} (h : uN y ≤ uN x) : uN (x - y) = uN x - uN y := by
  have e : (x - y) + y = x := Int64.sub_add_cancel x y
  have h1 := uN_add (x - y) y
  rw [e] at h1
  have h2 := uN_lt (x - y)
  have h3 := uN_lt x
  have h4 := uN_lt y
  omega
theorem low7 (x : Int64) : x.toInt32 &&& 127 = nI (uN x % 128) := by
  rw [pk_and x.toInt32 (m := 127) 7 (by decide)]
  congr 1
  have e : x.toInt32.toBitVec.toNat = uN x % 2 ^ 32 := by
    show (x.toBitVec.signExtend 32).toNat = _
    rw [BitVec.signExtend_eq_setWidth_of_le _ (by decide), BitVec.toNat_setWidth]
    rfl
  rw [e]
  omega
theorem bitCount_eq (x : Int64) : f_J13_bitCount_95d88 x = some (nI (fb_ct (lb x) 64)) := by
  obtain ⟨a1, a2, a3, h1, h2, h3, h4, h5, h6⟩ := swar (uN_lt x)
  have c1 : uN 6148914691236517205 = 6148914691236517205 := by decide +kernel
  have c2 : uN 3689348814741910323 = 3689348814741910323 := by decide +kernel
  have c3 : uN 1085102592571150095 = 1085102592571150095 := by decide +kernel
  have s1 : ∀ y, uN (jlushr y (1 : Int32)) = uN y / 2 := fun y => uN_jush y (by omega : 1 < 64)
  have s2 : ∀ y, uN (jlushr y (2 : Int32)) = uN y / 4 := fun y => uN_jush y (by omega : 2 < 64)
  have s4 : ∀ y, uN (jlushr y (4 : Int32)) = uN y / 16 := fun y => uN_jush y (by omega : 4 < 64)
  have s8 : ∀ y, uN (jlushr y (8 : Int32)) = uN y / 256 := fun y => uN_jush y (by omega : 8 < 64)
  have s16 : ∀ y, uN (jlushr y (16 : Int32)) = uN y / 65536 := fun y => uN_jush y (by omega : 16 < 64)
  have s32 : ∀ y, uN (jlushr y (32 : Int32)) = uN y / 4294967296 := fun y => uN_jush y (by omega : 32 < 64)
  unfold f_J13_bitCount_95d88
  obtain ⟨A, eA⟩ : ∃ A, A = x - ((jlushr x (1 : Int32)) &&& (6148914691236517205 : Int64)) := ⟨_, rfl⟩
  rw [← eA]
  have uA : uN A = a1 := by
    have hb : uN ((jlushr x (1 : Int32)) &&& (6148914691236517205 : Int64)) = (uN x / 2) &&& 6148914691236517205 := by rw [uN_and, s1, c1]
    have hle : (uN x / 2) &&& 6148914691236517205 ≤ uN x := Nat.le_trans Nat.and_le_left (Nat.div_le_self _ _)
    rw [eA, uN_sub (by rw [hb]; exact hle), hb]
    omega
  clear eA
  obtain ⟨B, eB⟩ : ∃ B, B = (A &&& (3689348814741910323 : Int64)) + ((jlushr A (2 : Int32)) &&& (3689348814741910323 : Int64)) := ⟨_, rfl⟩
  rw [← eB]
  have uB : uN B = a2 := by
    rw [eB, uN_add, uN_and, uN_and, s2, c2, uA, ← h2]
    exact Nat.mod_eq_of_lt (by omega)
  clear eB
  obtain ⟨C, eC⟩ : ∃ C, C = (B + (jlushr B (4 : Int32))) &&& (1085102592571150095 : Int64) := ⟨_, rfl⟩
  rw [← eC]
  have uC : uN C = a3 := by
    rw [eC, uN_and, uN_add, s4, c3, uB, Nat.mod_eq_of_lt (by omega), ← h3]
  clear eC
  obtain ⟨D, eD⟩ : ∃ D, D = C + (jlushr C (8 : Int32)) := ⟨_, rfl⟩
  rw [← eD]
  have uD : uN D = a3 + a3 / 256 := by
    rw [eD, uN_add, s8, uC]
    exact Nat.mod_eq_of_lt (by omega)
  clear eD
  obtain ⟨E, eE⟩ : ∃ E, E = D + (jlushr D (16 : Int32)) := ⟨_, rfl⟩
  rw [← eE]
  have uE : uN E = (a3 + a3 / 256) + (a3 + a3 / 256) / 65536 := by
    rw [eE, uN_add, s16, uD]
    exact Nat.mod_eq_of_lt (by omega)
  clear eE
  have uF : uN (E + (jlushr E (32 : Int32))) = ((a3 + a3 / 256) + (a3 + a3 / 256) / 65536) + ((a3 + a3 / 256) + (a3 + a3 / 256) / 65536) / 4294967296 := by
    rw [uN_add, s32, uE]
    exact Nat.mod_eq_of_lt (by omega)
  rw [low7, uF, h6]
  rfl
