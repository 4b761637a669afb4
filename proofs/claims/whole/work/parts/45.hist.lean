theorem gV_X4_X6_takeOver : GoodIn WT (wsV RX4 31 RX6 yX6_takeOver (.code yX6_takeOver cX6_takeOver 2 none :: WT)) := gzV q5_134 q3_175 q3_176 q1_3 q3_177
def b_X4_keep_22 (Sp1 : SRows) (St : SHi) (St_pool : SPool) (u1 : Int32) : Option (SHi × SPool) :=
  (if zib u1 16 then (f_X6_takeOver (St_pool.1 u1.toNatClampNeg) Sp1).bind (fun q2 =>
      some ((mkHi (if ((Hi_actCount St) + (1 : Int32)) < (16 : Int32) then ((Hi_actCount St) + (1 : Int32)) else (16 : Int32)) (Hi_imageCount St) u1), (va_up St_pool.1 u1.toNatClampNeg q2, St_pool.2))) else none)
set_option maxHeartbeats 4000000 in
set_option maxRecDepth 100000 in
theorem w_X4_keep_22 {p : Program} {e : Env} {s : State} {m : MethodId} {below : List Frame} {meth : Method} {c : Code} {A : Nat → Prop} {D : va_G} {cy : Nat → ClassId} {args : Array Value} {r : SHi × SPool} (l : Launch) (hp1 : Nat → Nat) (ht : Nat → Nat) (ht_before : Nat → Nat) (ht_images : Nat → Nat) (gB : Nat → Nat → Nat) (gI : Nat → Nat → Nat) (Sp1 : SRows) (C : zX p s m meth c cX4_keep 2 args RX4 none A D (zty cy)) :
    ∀ (St : SHi) (St_pool : SPool) (u1 : Int32) (H : Heap) (locs : List Loc) (ls : Array Slot), b_X4_keep_22 Sp1 St St_pool u1 = some r → va_P D vwCl (wRows hp1 cy Sp1 ++ (wHi ht (ht_before 0) (ht_images 0) cy St ++ (wPool gB gI (ht_before 0) (ht_images 0) cy St_pool))) H → va_D A (wRows hp1 cy Sp1 ++ (wHi ht (ht_before 0) (ht_images 0) cy St ++ (wPool gB gI (ht_before 0) (ht_images 0) cy St_pool))) → va_S A s.heap H locs → lv_has ls 2 [(0, .ref (ht 0)), (1, .ref (hp1 0))] → W p l e (zRm 2 61) s m args below meth c H locs 0 0 (MQ below (zQV D (zty cy) A (wRows hp1 cy Sp1 ++ (wHi ht (ht_before 0) (ht_images 0) cy r.1 ++ (wPool gB gI (ht_before 0) (ht_images 0) cy r.2)))) args s 0 0 A) (F0 m 22 ls [.int u1, .ref (ht 0)]) := by
  obtain ⟨hx, hb, hr, hts, hown, hlocks, hml, hA, hK⟩ := id C
  intro St St_pool u1 H locs ls hf hP hD hS hl
  refine z_put (w2 := wRows hp1 cy Sp1 ++ (vHi ht (ht_before 0) (ht_images 0) cy (Hi_actCount St) (Hi_imageCount St) u1 ++ (wPool gB gI (ht_before 0) (ht_images 0) cy St_pool))) hx hb hts in_X4 tyX4 tyX4_ok nmX4 hown hK hP hD hS 8 rfl rfl 2 (by decide) (hts _ q2_5) (fun _ h9 => h9) rfl rfl rfl (Nat.le_of_ble_eq_true rfl) dX4_keep_22 rfl (fun H locs hP hD hS => ?_)
  refine lv_aload_n hx hb dX4_keep_25 rfl (lv_at hl 0 rfl) ?_
  refine va_get (D := D) (ci := 1) (v := .ref (ht_before 0)) (C := RX4) (T := TX4) (N := 5) hx hb hts in_X4 hown hK hP 8 rfl rfl 3 (by decide) (hts _ q2_6) (fun _ h9 => h9) rfl dX4_keep_26 ?_
  refine lv_aload_n hx hb dX4_keep_29 rfl (lv_at hl 0 rfl) ?_
  refine va_get (D := D) (ci := 1) (v := .int u1) (C := RX4) (T := TX4) (N := 5) hx hb hts in_X4 hown hK hP 8 rfl rfl 2 (by decide) (hts _ q2_5) (fun _ h9 => h9) rfl dX4_keep_30 ?_
  refine z_aldq (g := fun i => gB i 0) hx hb hK hP 9 3 rfl rfl dX4_keep_33 hf (fun hz1 hf => ?_)
  refine lv_aload_n hx hb dX4_keep_34 rfl (lv_at hl 1 rfl) ?_
  obtain ⟨q2, hc, hf⟩ := zbd hf
  rw [← wHi_mk ht] at hP hD
  refine z_cVvp (As := [.ref (hp1 0)]) (rest := []) C (c_X6_takeOver l D cy (gB u1.toNatClampNeg) hp1 (St_pool.1 u1.toNatClampNeg) Sp1 q2 hc) gV_X4_X6_takeOver hd_X6_takeOver ⟨Nat.le_of_ble_eq_true rfl, Nat.le_of_ble_eq_true rfl⟩ ⟨Nat.le_refl _, Nat.le_refl _⟩ (va_recv (q0 := 0) (ci := 3) hK (zP_left (zP_perm hP (zpk1 (zppB gB gI (ht_before 0) (ht_images 0) cy St_pool u1.toNatClampNeg (zib_lt hz1))))) rfl rfl) hP hD hS (wHi ht (ht_before 0) (ht_images 0) cy (mkHi (Hi_actCount St) (Hi_imageCount St) u1) ++ rPoolB gB gI (ht_before 0) (ht_images 0) cy St_pool u1.toNatClampNeg) (zpk1 (zppB gB gI (ht_before 0) (ht_images 0) cy St_pool u1.toNatClampNeg (zib_lt hz1))) ((zpk1 (zppB' gB gI (ht_before 0) (ht_images 0) cy St_pool u1.toNatClampNeg (zib_lt hz1) q2)).symm) hl.1 (Nat.le_of_ble_eq_true rfl) dX4_keep_35 (fun H locs hP hD hS => ?_)
  have hP : va_P D vwCl (wRows hp1 cy Sp1 ++ (wHi ht (ht_before 0) (ht_images 0) cy (mkHi (Hi_actCount St) (Hi_imageCount St) u1) ++ (wPool gB gI (ht_before 0) (ht_images 0) cy (va_up St_pool.1 u1.toNatClampNeg q2, St_pool.2)))) H := hP
  have hD : va_D A (wRows hp1 cy Sp1 ++ (wHi ht (ht_before 0) (ht_images 0) cy (mkHi (Hi_actCount St) (Hi_imageCount St) u1) ++ (wPool gB gI (ht_before 0) (ht_images 0) cy (va_up St_pool.1 u1.toNatClampNeg q2, St_pool.2)))) := hD
  rw [wHi_mk ht] at hP hD
  refine lv_aload_n hx hb dX4_keep_38 rfl (lv_at hl 0 rfl) ?_
  refine lv_bipush (v := (16 : Int32)) hx hb dX4_keep_39 (by decide) ?_
  refine lv_aload_n hx hb dX4_keep_41 rfl (lv_at hl 0 rfl) ?_
  refine va_get (D := D) (ci := 1) (v := .int (Hi_actCount St)) (C := RX4) (T := TX4) (N := 5) hx hb hts in_X4 hown hK hP 8 rfl rfl 0 (by decide) (hts _ q2_1) (fun _ h9 => h9) rfl dX4_keep_42 ?_
  refine lv_iconst (v := (1 : Int32)) hx hb dX4_keep_45 (by decide) ?_
  refine lv_iadd hx hb dX4_keep_46 ?_
  refine va_mmin hx hb (hml.trans hl.1.symm) hown (hts _ q5_135) (hts _ q2_77) (hts _ q1_9) (hts _ q2_78) (by decide) (Nat.le_of_ble_eq_true rfl) (by decide) (by decide) dX4_keep_47 ?_
  refine z_put (w2 := wRows hp1 cy Sp1 ++ (vHi ht (ht_before 0) (ht_images 0) cy (if ((Hi_actCount St) + (1 : Int32)) < (16 : Int32) then ((Hi_actCount St) + (1 : Int32)) else (16 : Int32)) (Hi_imageCount St) u1 ++ (wPool gB gI (ht_before 0) (ht_images 0) cy (va_up St_pool.1 u1.toNatClampNeg q2, St_pool.2)))) hx hb hts in_X4 tyX4 tyX4_ok nmX4 hown hK hP hD hS 8 rfl rfl 0 (by decide) (hts _ q2_1) (fun _ h9 => h9) rfl rfl rfl (Nat.le_of_ble_eq_true rfl) dX4_keep_50 rfl (fun H locs hP hD hS => ?_)
  obtain rfl := Option.some.inj hf
  rw [← wHi_mk ht] at hP hD
  exact z_vret C hP hD hS dX4_keep_53
def f_X4_keep (Sp1 : SRows) (St : SHi) (St_pool : SPool) : Option (SHi × SPool) :=
  (if (16 : Int32) ≤ ((Hi_newest St) + (1 : Int32)) then
    (b_X4_keep_22 Sp1 St St_pool (0 : Int32))
    else
    (b_X4_keep_22 Sp1 St St_pool ((Hi_newest St) + (1 : Int32))))
set_option maxHeartbeats 4000000 in
set_option maxRecDepth 100000 in
theorem c_X4_keep (l : Launch) (D : va_G) (cy : Nat → ClassId) (hp1 : Nat → Nat) (ht : Nat → Nat) (ht_before : Nat → Nat) (ht_images : Nat → Nat) (gB : Nat → Nat → Nat) (gI : Nat → Nat → Nat) (Sp1 : SRows) (St : SHi) (St_pool : SPool) (r : SHi × SPool) (hf : f_X4_keep Sp1 St St_pool = some r) : zCV l yX4_keep cX4_keep 2 none 2 61 D (zty cy) [.ref (ht 0), .ref (hp1 0)] (wRows hp1 cy Sp1 ++ (wHi ht (ht_before 0) (ht_images 0) cy St ++ (wPool gB gI (ht_before 0) (ht_images 0) cy St_pool))) (wRows hp1 cy Sp1 ++ (wHi ht (ht_before 0) (ht_images 0) cy r.1 ++ (wPool gB gI (ht_before 0) (ht_images 0) cy r.2))) := by
  refine zCV_of (by decide +kernel) (Nat.le_of_ble_eq_true rfl) ?_
  intro p e s m below meth c A ls C hP hD hS hl
  generalize hargs : ([.ref (ht 0), .ref (hp1 0)] : List Value).toArray = args at C ⊢
  have C : zX p s m meth c cX4_keep 2 args RX4 none A D (zty cy) := C
  obtain ⟨hx, hb, hr, hts, hown, hlocks, hml, hA, hK⟩ := id C
  have hl : lv_has ls 2 [(0, .ref (ht 0)), (1, .ref (hp1 0))] := hl
  generalize hH : s.heap = H at hP ⊢
  have hS : va_S A s.heap H [] := by rw [← hH]; exact hS
  generalize ([] : List Loc) = locs at hS ⊢
  refine lv_aload_n hx hb dX4_keep_0 rfl (lv_at hl 0 rfl) ?_
  refine lv_aload_n hx hb dX4_keep_1 rfl (lv_at hl 0 rfl) ?_
  refine va_get (D := D) (ci := 1) (v := .int (Hi_newest St)) (C := RX4) (T := TX4) (N := 5) hx hb hts in_X4 hown hK hP 8 rfl rfl 2 (by decide) (hts _ q2_5) (fun _ h9 => h9) rfl dX4_keep_2 ?_
  refine lv_iconst (v := (1 : Int32)) hx hb dX4_keep_5 (by decide) ?_
  refine lv_iadd hx hb dX4_keep_6 ?_
  refine lv_bipush (v := (16 : Int32)) hx hb dX4_keep_7 (by decide) ?_
  refine z_icmp_ge (tgt := 21) hx hb dX4_keep_9 (by decide) hf (fun hf => ?_) (fun hf => ?_)
  · refine lv_iconst (v := (0 : Int32)) hx hb dX4_keep_21 (by decide) ?_
    exact w_X4_keep_22 l hp1 ht ht_before ht_images gB gI Sp1 C St St_pool (0 : Int32) H locs ls hf hP hD hS (lv_sub hl [0, 1] rfl)
  · refine lv_aload_n hx hb dX4_keep_12 rfl (lv_at hl 0 rfl) ?_
    refine va_get (D := D) (ci := 1) (v := .int (Hi_newest St)) (C := RX4) (T := TX4) (N := 5) hx hb hts in_X4 hown hK hP 8 rfl rfl 2 (by decide) (hts _ q2_5) (fun _ h9 => h9) rfl dX4_keep_13 ?_
    refine lv_iconst (v := (1 : Int32)) hx hb dX4_keep_16 (by decide) ?_
    refine lv_iadd hx hb dX4_keep_17 ?_
    refine lv_goto (tgt := 22) hx hb dX4_keep_18 (by decide) ?_
    exact w_X4_keep_22 l hp1 ht ht_before ht_images gB gI Sp1 C St St_pool ((Hi_newest St) + (1 : Int32)) H locs ls hf hP hD hS (lv_sub hl [0, 1] rfl)
def f_X4_takeBack (Sp1 : SRows) (St : SHi) (St_pool : SPool) : Option (Int32 × SRows × SHi) :=
  (if (Hi_actCount St) = 0 then
    some ((0 : Int32), Sp1, St)
    else
    (if zib (Hi_newest St) 16 then (f_X6_takeOver Sp1 (St_pool.1 (Hi_newest St).toNatClampNeg)).bind (fun q2 =>
        (if (Hi_newest St) ≤ 0 then
          some ((1 : Int32), q2, (mkHi ((Hi_actCount St) - (1 : Int32)) (Hi_imageCount St) (15 : Int32)))
          else
          some ((1 : Int32), q2, (mkHi ((Hi_actCount St) - (1 : Int32)) (Hi_imageCount St) ((Hi_newest St) - (1 : Int32)))))) else none))
set_option maxHeartbeats 4000000 in
set_option maxRecDepth 100000 in
theorem c_X4_takeBack (l : Launch) (D : va_G) (cy : Nat → ClassId) (hp1 : Nat → Nat) (ht : Nat → Nat) (ht_before : Nat → Nat) (ht_images : Nat → Nat) (gB : Nat → Nat → Nat) (gI : Nat → Nat → Nat) (Sp1 : SRows) (St : SHi) (St_pool : SPool) (r : Int32 × SRows × SHi) (hf : f_X4_takeBack Sp1 St St_pool = some r) : zCI l yX4_takeBack cX4_takeBack 2 (some FieldType.boolean) 2 61 D (zty cy) [.ref (ht 0), .ref (hp1 0)] (wRows hp1 cy Sp1 ++ (wHi ht (ht_before 0) (ht_images 0) cy St ++ (wPool gB gI (ht_before 0) (ht_images 0) cy St_pool))) (wRows hp1 cy r.2.1 ++ (wHi ht (ht_before 0) (ht_images 0) cy r.2.2 ++ (wPool gB gI (ht_before 0) (ht_images 0) cy St_pool))) r.1 := by
  refine zCI_of (by decide +kernel) (Nat.le_of_ble_eq_true rfl) ?_
  intro p e s m below meth c A ls C hP hD hS hl
  generalize hargs : ([.ref (ht 0), .ref (hp1 0)] : List Value).toArray = args at C ⊢
  have C : zX p s m meth c cX4_takeBack 2 args RX4 (some FieldType.boolean) A D (zty cy) := C
  obtain ⟨hx, hb, hr, hts, hown, hlocks, hml, hA, hK⟩ := id C
  have hl : lv_has ls 2 [(0, .ref (ht 0)), (1, .ref (hp1 0))] := hl
  generalize hH : s.heap = H at hP ⊢
  have hS : va_S A s.heap H [] := by rw [← hH]; exact hS
  generalize ([] : List Loc) = locs at hS ⊢
  refine lv_aload_n hx hb dX4_takeBack_0 rfl (lv_at hl 0 rfl) ?_
  refine va_get (D := D) (ci := 1) (v := .int (Hi_actCount St)) (C := RX4) (T := TX4) (N := 5) hx hb hts in_X4 hown hK hP 8 rfl rfl 0 (by decide) (hts _ q2_1) (fun _ h9 => h9) rfl dX4_takeBack_1 ?_
  refine z_if_ne (tgt := 9) hx hb dX4_takeBack_4 (by decide) hf (fun hf => ?_) (fun hf => ?_)
  · refine lv_aload_n hx hb dX4_takeBack_9 rfl (lv_at hl 1 rfl) ?_
    refine lv_aload_n hx hb dX4_takeBack_10 rfl (lv_at hl 0 rfl) ?_
    refine va_get (D := D) (ci := 1) (v := .ref (ht_before 0)) (C := RX4) (T := TX4) (N := 5) hx hb hts in_X4 hown hK hP 8 rfl rfl 3 (by decide) (hts _ q2_6) (fun _ h9 => h9) rfl dX4_takeBack_11 ?_
    refine lv_aload_n hx hb dX4_takeBack_14 rfl (lv_at hl 0 rfl) ?_
    refine va_get (D := D) (ci := 1) (v := .int (Hi_newest St)) (C := RX4) (T := TX4) (N := 5) hx hb hts in_X4 hown hK hP 8 rfl rfl 2 (by decide) (hts _ q2_5) (fun _ h9 => h9) rfl dX4_takeBack_15 ?_
    refine z_aldq (g := fun i => gB i 0) hx hb hK hP 9 3 rfl rfl dX4_takeBack_18 hf (fun hz1 hf => ?_)
    obtain ⟨q2, hc, hf⟩ := zbd hf
    refine z_cVvp (As := [.ref (gB (Hi_newest St).toNatClampNeg 0)]) (rest := []) C (c_X6_takeOver l D cy hp1 (gB (Hi_newest St).toNatClampNeg) Sp1 (St_pool.1 (Hi_newest St).toNatClampNeg) q2 hc) gV_X4_X6_takeOver hd_X6_takeOver ⟨Nat.le_of_ble_eq_true rfl, Nat.le_of_ble_eq_true rfl⟩ ⟨Nat.le_refl _, Nat.le_refl _⟩ (va_recv (q0 := 0) (ci := 3) hK (zP_left (zP_perm hP (zpk2 (zppB gB gI (ht_before 0) (ht_images 0) cy St_pool (Hi_newest St).toNatClampNeg (zib_lt hz1))))) rfl rfl) hP hD hS (wHi ht (ht_before 0) (ht_images 0) cy St ++ rPoolB gB gI (ht_before 0) (ht_images 0) cy St_pool (Hi_newest St).toNatClampNeg) (zpk2 (zppB gB gI (ht_before 0) (ht_images 0) cy St_pool (Hi_newest St).toNatClampNeg (zib_lt hz1))) ((zpk2 (zppB gB gI (ht_before 0) (ht_images 0) cy St_pool (Hi_newest St).toNatClampNeg (zib_lt hz1))).symm) hl.1 (Nat.le_of_ble_eq_true rfl) dX4_takeBack_19 (fun H locs hP hD hS => ?_)
    have hP : va_P D vwCl (wRows hp1 cy q2 ++ (wHi ht (ht_before 0) (ht_images 0) cy St ++ (wPool gB gI (ht_before 0) (ht_images 0) cy St_pool))) H := hP
    have hD : va_D A (wRows hp1 cy q2 ++ (wHi ht (ht_before 0) (ht_images 0) cy St ++ (wPool gB gI (ht_before 0) (ht_images 0) cy St_pool))) := hD
    refine lv_aload_n hx hb dX4_takeBack_22 rfl (lv_at hl 0 rfl) ?_
    refine lv_aload_n hx hb dX4_takeBack_23 rfl (lv_at hl 0 rfl) ?_
    refine va_get (D := D) (ci := 1) (v := .int (Hi_newest St)) (C := RX4) (T := TX4) (N := 5) hx hb hts in_X4 hown hK hP 8 rfl rfl 2 (by decide) (hts _ q2_5) (fun _ h9 => h9) rfl dX4_takeBack_24 ?_
    refine z_if_le (tgt := 39) hx hb dX4_takeBack_27 (by decide) hf (fun hf => ?_) (fun hf => ?_)
    · refine lv_bipush (v := (15 : Int32)) hx hb dX4_takeBack_39 (by decide) ?_
      refine z_put (w2 := wRows hp1 cy q2 ++ (vHi ht (ht_before 0) (ht_images 0) cy (Hi_actCount St) (Hi_imageCount St) (15 : Int32) ++ (wPool gB gI (ht_before 0) (ht_images 0) cy St_pool))) hx hb hts in_X4 tyX4 tyX4_ok nmX4 hown hK hP hD hS 8 rfl rfl 2 (by decide) (hts _ q2_5) (fun _ h9 => h9) rfl rfl rfl (Nat.le_of_ble_eq_true rfl) dX4_takeBack_41 rfl (fun H locs hP hD hS => ?_)
      refine lv_aload_n hx hb dX4_takeBack_44 rfl (lv_at hl 0 rfl) ?_
      refine lv_dup hx hb dX4_takeBack_45 rfl ?_
      refine va_get (D := D) (ci := 1) (v := .int (Hi_actCount St)) (C := RX4) (T := TX4) (N := 5) hx hb hts in_X4 hown hK hP 8 rfl rfl 0 (by decide) (hts _ q2_1) (fun _ h9 => h9) rfl dX4_takeBack_46 ?_
      refine lv_iconst (v := (1 : Int32)) hx hb dX4_takeBack_49 (by decide) ?_
      refine lv_isub hx hb dX4_takeBack_50 ?_
      refine z_put (w2 := wRows hp1 cy q2 ++ (vHi ht (ht_before 0) (ht_images 0) cy ((Hi_actCount St) - (1 : Int32)) (Hi_imageCount St) (15 : Int32) ++ (wPool gB gI (ht_before 0) (ht_images 0) cy St_pool))) hx hb hts in_X4 tyX4 tyX4_ok nmX4 hown hK hP hD hS 8 rfl rfl 0 (by decide) (hts _ q2_1) (fun _ h9 => h9) rfl rfl rfl (Nat.le_of_ble_eq_true rfl) dX4_takeBack_51 rfl (fun H locs hP hD hS => ?_)
      refine lv_iconst (v := (1 : Int32)) hx hb dX4_takeBack_54 (by decide) ?_
      obtain rfl := Option.some.inj hf
      rw [← wHi_mk ht] at hP hD
      exact z_zret (v := (1 : Int32)) C rfl hP hD hS dX4_takeBack_55
    · refine lv_aload_n hx hb dX4_takeBack_30 rfl (lv_at hl 0 rfl) ?_
      refine va_get (D := D) (ci := 1) (v := .int (Hi_newest St)) (C := RX4) (T := TX4) (N := 5) hx hb hts in_X4 hown hK hP 8 rfl rfl 2 (by decide) (hts _ q2_5) (fun _ h9 => h9) rfl dX4_takeBack_31 ?_
      refine lv_iconst (v := (1 : Int32)) hx hb dX4_takeBack_34 (by decide) ?_
      refine lv_isub hx hb dX4_takeBack_35 ?_
      refine lv_goto (tgt := 41) hx hb dX4_takeBack_36 (by decide) ?_
      refine z_put (w2 := wRows hp1 cy q2 ++ (vHi ht (ht_before 0) (ht_images 0) cy (Hi_actCount St) (Hi_imageCount St) ((Hi_newest St) - (1 : Int32)) ++ (wPool gB gI (ht_before 0) (ht_images 0) cy St_pool))) hx hb hts in_X4 tyX4 tyX4_ok nmX4 hown hK hP hD hS 8 rfl rfl 2 (by decide) (hts _ q2_5) (fun _ h9 => h9) rfl rfl rfl (Nat.le_of_ble_eq_true rfl) dX4_takeBack_41 rfl (fun H locs hP hD hS => ?_)
      refine lv_aload_n hx hb dX4_takeBack_44 rfl (lv_at hl 0 rfl) ?_
      refine lv_dup hx hb dX4_takeBack_45 rfl ?_
      refine va_get (D := D) (ci := 1) (v := .int (Hi_actCount St)) (C := RX4) (T := TX4) (N := 5) hx hb hts in_X4 hown hK hP 8 rfl rfl 0 (by decide) (hts _ q2_1) (fun _ h9 => h9) rfl dX4_takeBack_46 ?_
      refine lv_iconst (v := (1 : Int32)) hx hb dX4_takeBack_49 (by decide) ?_
      refine lv_isub hx hb dX4_takeBack_50 ?_
      refine z_put (w2 := wRows hp1 cy q2 ++ (vHi ht (ht_before 0) (ht_images 0) cy ((Hi_actCount St) - (1 : Int32)) (Hi_imageCount St) ((Hi_newest St) - (1 : Int32)) ++ (wPool gB gI (ht_before 0) (ht_images 0) cy St_pool))) hx hb hts in_X4 tyX4 tyX4_ok nmX4 hown hK hP hD hS 8 rfl rfl 0 (by decide) (hts _ q2_1) (fun _ h9 => h9) rfl rfl rfl (Nat.le_of_ble_eq_true rfl) dX4_takeBack_51 rfl (fun H locs hP hD hS => ?_)
      refine lv_iconst (v := (1 : Int32)) hx hb dX4_takeBack_54 (by decide) ?_
      obtain rfl := Option.some.inj hf
      rw [← wHi_mk ht] at hP hD
      exact z_zret (v := (1 : Int32)) C rfl hP hD hS dX4_takeBack_55
  · refine lv_iconst (v := (0 : Int32)) hx hb dX4_takeBack_7 (by decide) ?_
    obtain rfl := Option.some.inj hf
    exact z_zret (v := (0 : Int32)) C rfl hP hD hS dX4_takeBack_8
def f_X4_takeImage (Sp1 : SRows) (St : SHi) (St_pool : SPool) : Option (Int32 × SHi × SPool) :=
  (if (Hi_imageCount St) < (3 : Int32) then
    (if zib (Hi_imageCount St) 3 then (f_X6_takeOver (St_pool.2 (Hi_imageCount St).toNatClampNeg) Sp1).bind (fun q2 =>
        some ((((Hi_imageCount St) + (1 : Int32)) - (1 : Int32)), (mkHi (Hi_actCount St) ((Hi_imageCount St) + (1 : Int32)) (Hi_newest St)), (St_pool.1, va_up St_pool.2 (Hi_imageCount St).toNatClampNeg q2))) else none)
    else
    some ((-2 : Int32), St, St_pool))
set_option maxHeartbeats 4000000 in
set_option maxRecDepth 100000 in
theorem c_X4_takeImage (l : Launch) (D : va_G) (cy : Nat → ClassId) (hp1 : Nat → Nat) (ht : Nat → Nat) (ht_before : Nat → Nat) (ht_images : Nat → Nat) (gB : Nat → Nat → Nat) (gI : Nat → Nat → Nat) (Sp1 : SRows) (St : SHi) (St_pool : SPool) (r : Int32 × SHi × SPool) (hf : f_X4_takeImage Sp1 St St_pool = some r) : zCI l yX4_takeImage cX4_takeImage 2 (some FieldType.int) 2 61 D (zty cy) [.ref (ht 0), .ref (hp1 0)] (wRows hp1 cy Sp1 ++ (wHi ht (ht_before 0) (ht_images 0) cy St ++ (wPool gB gI (ht_before 0) (ht_images 0) cy St_pool))) (wRows hp1 cy Sp1 ++ (wHi ht (ht_before 0) (ht_images 0) cy r.2.1 ++ (wPool gB gI (ht_before 0) (ht_images 0) cy r.2.2))) r.1 := by
  refine zCI_of (by decide +kernel) (Nat.le_of_ble_eq_true rfl) ?_
  intro p e s m below meth c A ls C hP hD hS hl
  generalize hargs : ([.ref (ht 0), .ref (hp1 0)] : List Value).toArray = args at C ⊢
  have C : zX p s m meth c cX4_takeImage 2 args RX4 (some FieldType.int) A D (zty cy) := C
  obtain ⟨hx, hb, hr, hts, hown, hlocks, hml, hA, hK⟩ := id C
  have hl : lv_has ls 2 [(0, .ref (ht 0)), (1, .ref (hp1 0))] := hl
  generalize hH : s.heap = H at hP ⊢
  have hS : va_S A s.heap H [] := by rw [← hH]; exact hS
  generalize ([] : List Loc) = locs at hS ⊢
  refine lv_aload_n hx hb dX4_takeImage_0 rfl (lv_at hl 0 rfl) ?_
  refine va_get (D := D) (ci := 1) (v := .int (Hi_imageCount St)) (C := RX4) (T := TX4) (N := 5) hx hb hts in_X4 hown hK hP 8 rfl rfl 1 (by decide) (hts _ q2_3) (fun _ h9 => h9) rfl dX4_takeImage_1 ?_
  refine lv_iconst (v := (3 : Int32)) hx hb dX4_takeImage_4 (by decide) ?_
  refine z_icmp_lt (tgt := 11) hx hb dX4_takeImage_5 (by decide) hf (fun hf => ?_) (fun hf => ?_)
  · refine lv_aload_n hx hb dX4_takeImage_11 rfl (lv_at hl 0 rfl) ?_
    refine va_get (D := D) (ci := 1) (v := .ref (ht_images 0)) (C := RX4) (T := TX4) (N := 5) hx hb hts in_X4 hown hK hP 8 rfl rfl 4 (by decide) (hts _ q2_7) (fun _ h9 => h9) rfl dX4_takeImage_12 ?_
    refine lv_aload_n hx hb dX4_takeImage_15 rfl (lv_at hl 0 rfl) ?_
    refine va_get (D := D) (ci := 1) (v := .int (Hi_imageCount St)) (C := RX4) (T := TX4) (N := 5) hx hb hts in_X4 hown hK hP 8 rfl rfl 1 (by decide) (hts _ q2_3) (fun _ h9 => h9) rfl dX4_takeImage_16 ?_
    refine z_aldq (g := fun i => gI i 0) hx hb hK hP 10 3 rfl rfl dX4_takeImage_19 hf (fun hz1 hf => ?_)
    refine lv_aload_n hx hb dX4_takeImage_20 rfl (lv_at hl 1 rfl) ?_
    obtain ⟨q2, hc, hf⟩ := zbd hf
    refine z_cVvp (As := [.ref (hp1 0)]) (rest := []) C (c_X6_takeOver l D cy (gI (Hi_imageCount St).toNatClampNeg) hp1 (St_pool.2 (Hi_imageCount St).toNatClampNeg) Sp1 q2 hc) gV_X4_X6_takeOver hd_X6_takeOver ⟨Nat.le_of_ble_eq_true rfl, Nat.le_of_ble_eq_true rfl⟩ ⟨Nat.le_refl _, Nat.le_refl _⟩ (va_recv (q0 := 0) (ci := 3) hK (zP_left (zP_perm hP (zpk1 (zppI gB gI (ht_before 0) (ht_images 0) cy St_pool (Hi_imageCount St).toNatClampNeg (zib_lt hz1))))) rfl rfl) hP hD hS (wHi ht (ht_before 0) (ht_images 0) cy St ++ rPoolI gB gI (ht_before 0) (ht_images 0) cy St_pool (Hi_imageCount St).toNatClampNeg) (zpk1 (zppI gB gI (ht_before 0) (ht_images 0) cy St_pool (Hi_imageCount St).toNatClampNeg (zib_lt hz1))) ((zpk1 (zppI' gB gI (ht_before 0) (ht_images 0) cy St_pool (Hi_imageCount St).toNatClampNeg (zib_lt hz1) q2)).symm) hl.1 (Nat.le_of_ble_eq_true rfl) dX4_takeImage_21 (fun H locs hP hD hS => ?_)
    have hP : va_P D vwCl (wRows hp1 cy Sp1 ++ (wHi ht (ht_before 0) (ht_images 0) cy St ++ (wPool gB gI (ht_before 0) (ht_images 0) cy (St_pool.1, va_up St_pool.2 (Hi_imageCount St).toNatClampNeg q2)))) H := hP
    have hD : va_D A (wRows hp1 cy Sp1 ++ (wHi ht (ht_before 0) (ht_images 0) cy St ++ (wPool gB gI (ht_before 0) (ht_images 0) cy (St_pool.1, va_up St_pool.2 (Hi_imageCount St).toNatClampNeg q2)))) := hD
    refine lv_aload_n hx hb dX4_takeImage_24 rfl (lv_at hl 0 rfl) ?_
    refine lv_dup hx hb dX4_takeImage_25 rfl ?_
    refine va_get (D := D) (ci := 1) (v := .int (Hi_imageCount St)) (C := RX4) (T := TX4) (N := 5) hx hb hts in_X4 hown hK hP 8 rfl rfl 1 (by decide) (hts _ q2_3) (fun _ h9 => h9) rfl dX4_takeImage_26 ?_
    refine lv_iconst (v := (1 : Int32)) hx hb dX4_takeImage_29 (by decide) ?_
    refine lv_iadd hx hb dX4_takeImage_30 ?_
    refine z_put (w2 := wRows hp1 cy Sp1 ++ (vHi ht (ht_before 0) (ht_images 0) cy (Hi_actCount St) ((Hi_imageCount St) + (1 : Int32)) (Hi_newest St) ++ (wPool gB gI (ht_before 0) (ht_images 0) cy (St_pool.1, va_up St_pool.2 (Hi_imageCount St).toNatClampNeg q2)))) hx hb hts in_X4 tyX4 tyX4_ok nmX4 hown hK hP hD hS 8 rfl rfl 1 (by decide) (hts _ q2_3) (fun _ h9 => h9) rfl rfl rfl (Nat.le_of_ble_eq_true rfl) dX4_takeImage_31 rfl (fun H locs hP hD hS => ?_)
    refine lv_aload_n hx hb dX4_takeImage_34 rfl (lv_at hl 0 rfl) ?_
    refine va_get (D := D) (ci := 1) (v := .int ((Hi_imageCount St) + (1 : Int32))) (C := RX4) (T := TX4) (N := 5) hx hb hts in_X4 hown hK hP 8 rfl rfl 1 (by decide) (hts _ q2_3) (fun _ h9 => h9) rfl dX4_takeImage_35 ?_
    refine lv_iconst (v := (1 : Int32)) hx hb dX4_takeImage_38 (by decide) ?_
    refine lv_isub hx hb dX4_takeImage_39 ?_
    obtain rfl := Option.some.inj hf
    rw [← wHi_mk ht] at hP hD
    exact z_iret (v := (((Hi_imageCount St) + (1 : Int32)) - (1 : Int32))) C hP hD hS dX4_takeImage_40
  · refine lv_bipush (v := (-2 : Int32)) hx hb dX4_takeImage_8 (by decide) ?_
    obtain rfl := Option.some.inj hf
    exact z_iret (v := (-2 : Int32)) C hP hD hS dX4_takeImage_10
def f_X4_returnTo (Sp2 : SRows) (St : SHi) (St_pool : SPool) (x1 : Int32) : Option (Int32 × SRows × SHi) :=
  (if x1 < 0 then
    some ((0 : Int32), Sp2, St)
    else
    (if (Hi_imageCount St) ≤ x1 then
      some ((0 : Int32), Sp2, St)
      else
      (if x1 < (3 : Int32) then
        (if zib x1 3 then (f_X6_takeOver Sp2 (St_pool.2 x1.toNatClampNeg)).bind (fun q2 =>
            some ((1 : Int32), q2, (mkHi (0 : Int32) (Hi_imageCount St) (Hi_newest St)))) else none)
        else
        some ((0 : Int32), Sp2, St))))
set_option maxHeartbeats 4000000 in
set_option maxRecDepth 100000 in
theorem c_X4_returnTo (l : Launch) (D : va_G) (cy : Nat → ClassId) (hp2 : Nat → Nat) (ht : Nat → Nat) (ht_before : Nat → Nat) (ht_images : Nat → Nat) (gB : Nat → Nat → Nat) (gI : Nat → Nat → Nat) (Sp2 : SRows) (St : SHi) (St_pool : SPool) (x1 : Int32) (r : Int32 × SRows × SHi) (hf : f_X4_returnTo Sp2 St St_pool x1 = some r) : zCI l yX4_returnTo cX4_returnTo 3 (some FieldType.boolean) 2 61 D (zty cy) [.ref (ht 0), .int x1, .ref (hp2 0)] (wRows hp2 cy Sp2 ++ (wHi ht (ht_before 0) (ht_images 0) cy St ++ (wPool gB gI (ht_before 0) (ht_images 0) cy St_pool))) (wRows hp2 cy r.2.1 ++ (wHi ht (ht_before 0) (ht_images 0) cy r.2.2 ++ (wPool gB gI (ht_before 0) (ht_images 0) cy St_pool))) r.1 := by
  refine zCI_of (by decide +kernel) (Nat.le_of_ble_eq_true rfl) ?_
  intro p e s m below meth c A ls C hP hD hS hl
  generalize hargs : ([.ref (ht 0), .int x1, .ref (hp2 0)] : List Value).toArray = args at C ⊢
  have C : zX p s m meth c cX4_returnTo 3 args RX4 (some FieldType.boolean) A D (zty cy) := C
  obtain ⟨hx, hb, hr, hts, hown, hlocks, hml, hA, hK⟩ := id C
  have hl : lv_has ls 3 [(0, .ref (ht 0)), (1, .int x1), (2, .ref (hp2 0))] := hl
  generalize hH : s.heap = H at hP ⊢
  have hS : va_S A s.heap H [] := by rw [← hH]; exact hS
  generalize ([] : List Loc) = locs at hS ⊢
  refine lv_iload_n hx hb dX4_returnTo_0 rfl (lv_at hl 1 rfl) ?_
  refine z_if_lt (tgt := 17) hx hb dX4_returnTo_1 (by decide) hf (fun hf => ?_) (fun hf => ?_)
  · refine lv_iconst (v := (0 : Int32)) hx hb dX4_returnTo_17 (by decide) ?_
    obtain rfl := Option.some.inj hf
    exact z_zret (v := (0 : Int32)) C rfl hP hD hS dX4_returnTo_18
  · refine lv_iload_n hx hb dX4_returnTo_4 rfl (lv_at hl 1 rfl) ?_
    refine lv_aload_n hx hb dX4_returnTo_5 rfl (lv_at hl 0 rfl) ?_
    refine va_get (D := D) (ci := 1) (v := .int (Hi_imageCount St)) (C := RX4) (T := TX4) (N := 5) hx hb hts in_X4 hown hK hP 8 rfl rfl 1 (by decide) (hts _ q2_3) (fun _ h9 => h9) rfl dX4_returnTo_6 ?_
    refine z_icmp_ge (tgt := 17) hx hb dX4_returnTo_9 (by decide) hf (fun hf => ?_) (fun hf => ?_)
    · refine lv_iconst (v := (0 : Int32)) hx hb dX4_returnTo_17 (by decide) ?_
      obtain rfl := Option.some.inj hf
      exact z_zret (v := (0 : Int32)) C rfl hP hD hS dX4_returnTo_18
    · refine lv_iload_n hx hb dX4_returnTo_12 rfl (lv_at hl 1 rfl) ?_
      refine lv_iconst (v := (3 : Int32)) hx hb dX4_returnTo_13 (by decide) ?_
      refine z_icmp_lt (tgt := 19) hx hb dX4_returnTo_14 (by decide) hf (fun hf => ?_) (fun hf => ?_)
      · refine lv_aload_n hx hb dX4_returnTo_19 rfl (lv_at hl 2 rfl) ?_
        refine lv_aload_n hx hb dX4_returnTo_20 rfl (lv_at hl 0 rfl) ?_
        refine va_get (D := D) (ci := 1) (v := .ref (ht_images 0)) (C := RX4) (T := TX4) (N := 5) hx hb hts in_X4 hown hK hP 8 rfl rfl 4 (by decide) (hts _ q2_7) (fun _ h9 => h9) rfl dX4_returnTo_21 ?_
        refine lv_iload_n hx hb dX4_returnTo_24 rfl (lv_at hl 1 rfl) ?_
        refine z_aldq (g := fun i => gI i 0) hx hb hK hP 10 3 rfl rfl dX4_returnTo_25 hf (fun hz1 hf => ?_)
        obtain ⟨q2, hc, hf⟩ := zbd hf
        refine z_cVvp (As := [.ref (gI x1.toNatClampNeg 0)]) (rest := []) C (c_X6_takeOver l D cy hp2 (gI x1.toNatClampNeg) Sp2 (St_pool.2 x1.toNatClampNeg) q2 hc) gV_X4_X6_takeOver hd_X6_takeOver ⟨Nat.le_of_ble_eq_true rfl, Nat.le_of_ble_eq_true rfl⟩ ⟨Nat.le_refl _, Nat.le_refl _⟩ (va_recv (q0 := 0) (ci := 3) hK (zP_left (zP_perm hP (zpk2 (zppI gB gI (ht_before 0) (ht_images 0) cy St_pool x1.toNatClampNeg (zib_lt hz1))))) rfl rfl) hP hD hS (wHi ht (ht_before 0) (ht_images 0) cy St ++ rPoolI gB gI (ht_before 0) (ht_images 0) cy St_pool x1.toNatClampNeg) (zpk2 (zppI gB gI (ht_before 0) (ht_images 0) cy St_pool x1.toNatClampNeg (zib_lt hz1))) ((zpk2 (zppI gB gI (ht_before 0) (ht_images 0) cy St_pool x1.toNatClampNeg (zib_lt hz1))).symm) hl.1 (Nat.le_of_ble_eq_true rfl) dX4_returnTo_26 (fun H locs hP hD hS => ?_)
        have hP : va_P D vwCl (wRows hp2 cy q2 ++ (wHi ht (ht_before 0) (ht_images 0) cy St ++ (wPool gB gI (ht_before 0) (ht_images 0) cy St_pool))) H := hP
        have hD : va_D A (wRows hp2 cy q2 ++ (wHi ht (ht_before 0) (ht_images 0) cy St ++ (wPool gB gI (ht_before 0) (ht_images 0) cy St_pool))) := hD
        refine lv_aload_n hx hb dX4_returnTo_29 rfl (lv_at hl 0 rfl) ?_
        refine lv_iconst (v := (0 : Int32)) hx hb dX4_returnTo_30 (by decide) ?_
        refine z_put (w2 := wRows hp2 cy q2 ++ (vHi ht (ht_before 0) (ht_images 0) cy (0 : Int32) (Hi_imageCount St) (Hi_newest St) ++ (wPool gB gI (ht_before 0) (ht_images 0) cy St_pool))) hx hb hts in_X4 tyX4 tyX4_ok nmX4 hown hK hP hD hS 8 rfl rfl 0 (by decide) (hts _ q2_1) (fun _ h9 => h9) rfl rfl rfl (Nat.le_of_ble_eq_true rfl) dX4_returnTo_31 rfl (fun H locs hP hD hS => ?_)
        refine lv_iconst (v := (1 : Int32)) hx hb dX4_returnTo_34 (by decide) ?_
        obtain rfl := Option.some.inj hf
        rw [← wHi_mk ht] at hP hD
        exact z_zret (v := (1 : Int32)) C rfl hP hD hS dX4_returnTo_35
      · refine lv_iconst (v := (0 : Int32)) hx hb dX4_returnTo_17 (by decide) ?_
        obtain rfl := Option.some.inj hf
        exact z_zret (v := (0 : Int32)) C rfl hP hD hS dX4_returnTo_18
