/-! the History's constructor -/
abbrev S0R (g1 g2 : Nat → Int32) : SRows := (mkRows 0 0 0 0 0 0 0 0 0 g1 (fun _ => 0) g2 (fun _ => 0) (fun _ => 0) (fun _ => 0) (fun _ => 0))
def vHp (cy : Nat → ClassId) (b a1 a2 : Nat) (f1 f2 : Nat → Option Nat) : va_W := [(b, .inr (1, [.int 0, .int 0, .int 0, .ref a1, .ref a2])), (a1, .inl (cy 3, 16, .inr (.inr (.inr (.inr f1))))), (a2, .inl (cy 3, 3, .inr (.inr (.inr (.inr f2)))))]
def gf (g : Nat → Nat → Nat) (i : Nat) : Nat → Option Nat := fun j => if j < i then some (g j 0) else none
theorem gf_0 (g : Nat → Nat → Nat) : gf g 0 = fun _ => none := by funext j; simp [gf]
theorem gf_s (g : Nat → Nat → Nat) (i q : Nat) (h : Nat → Nat) (hq : h 0 = q) : va_up (gf g i) i (some q) = gf (va_up g i h) (i + 1) := by
  funext j
  by_cases e : j = i
  · subst e
    simp [va_up, gf, hq]
  · simp only [va_up, gf, if_neg e]
    by_cases hj : j < i
    · rw [if_pos hj, if_pos (by omega)]
    · rw [if_neg hj, if_neg (by omega)]
abbrev zFl (cy : Nat → ClassId) (g : Nat → Nat → Nat) (S : SRows) (i : Nat) : va_W := (List.range i).flatMap (fun j => wRows (g j) cy S)
theorem zFl_0 (cy : Nat → ClassId) (g : Nat → Nat → Nat) (S : SRows) : zFl cy g S 0 = [] := rfl
theorem zFl_s (cy : Nat → ClassId) (g : Nat → Nat → Nat) (S : SRows) (i : Nat) (h : Nat → Nat) : zFl cy g S i ++ wRows h cy S = zFl cy (va_up g i h) S (i + 1) := by
  unfold zFl
  rw [List.range_succ, List.flatMap_append]
  have e1 : (List.range i).flatMap (fun j => wRows (g j) cy S) = (List.range i).flatMap (fun j => wRows (va_up g i h j) cy S) := by
    have : ∀ (l : List Nat), (∀ j ∈ l, j ≠ i) → l.flatMap (fun j => wRows (g j) cy S) = l.flatMap (fun j => wRows (va_up g i h j) cy S) := by
      intro l
      induction l with
      | nil => intro _; rfl
      | cons x l ih => intro hh; simp only [List.flatMap_cons]; rw [va_up_ne _ _ (hh x List.mem_cons_self), ih (fun j hj => hh j (List.mem_cons_of_mem _ hj))]
    exact this _ (fun j hj => Nat.ne_of_lt (List.mem_range.mp hj))
  rw [e1]
  simp [va_up_self]
theorem zidx {X Y : va_W} {y : Nat × va_E} : (X ++ (y :: Y))[X.length]? = some y := by simp
theorem zarr_q {D : va_G} {c : ClassId} {n b : Nat} {f f' : Nat → Option Nat} {H : Heap} (h : ∀ j, j < n → f j = f' j) (hp : va_at D vwCl (b, .inl (c, n, .inr (.inr (.inr (.inr f))))) H) : va_at D vwCl (b, .inl (c, n, .inr (.inr (.inr (.inr f'))))) H := by
  have e : vp_cell c (n, .inr (.inr (.inr (.inr f)))) = vp_cell c (n, .inr (.inr (.inr (.inr f')))) := by
    rw [vp_cell_q, vp_cell_q]
    unfold arrV
    congr 1
    congr 1
    funext j
    show va_rf (f j.1) = va_rf (f' j.1)
    rw [h j.1 j.2]
  have hp' : H[b]? = some (vp_cell c (n, .inr (.inr (.inr (.inr f))))) := hp
  show H[b]? = some (vp_cell c (n, .inr (.inr (.inr (.inr f')))))
  rw [← e]
  exact hp'

set_option maxHeartbeats 4000000 in
set_option maxRecDepth 100000 in
theorem w_X4_init_A {p : Program} {e : Env} {s : State} {m : MethodId} {below : List Frame} {meth : Method} {c : Code} {A : Nat → Prop} {D : va_G} {cy : Nat → ClassId} {args : Array Value} {Q : State → Prop} (l : Launch) (b a1 a2 : Nat) (g1 g2 : Nat → Int32) (hg1 : f_J7_fill_53178 6 (fun _ => 0) (-2 : Int32) = some g1) (hg2 : f_J7_fill_53178 48 (fun _ => 0) (-2 : Int32) = some g2) (C : zX p s m meth c cX4_init 2 args RX4 none A D (zty cy)) (hN0 : zNx s)
    (KK : ∀ (g : Nat → Nat → Nat) (H : Heap) (locs : List Loc) (ls : Array Slot), va_P D vwCl (vHp cy b a1 a2 (gf g 16) (fun _ => none) ++ zFl cy g (S0R g1 g2) 16) H → va_D A (vHp cy b a1 a2 (gf g 16) (fun _ => none) ++ zFl cy g (S0R g1 g2) 16) → va_S A s.heap H locs → lv_has ls 2 [(0, .ref b)] → W p l e (zRn 2 60 154 5111) s m args below meth c H locs 130 4307 Q (F0 m 48 ls [])) :
    ∀ (k i : Nat) (g : Nat → Nat → Nat) (H : Heap) (locs : List Loc) (ls : Array Slot), i + k = 16 → va_P D vwCl (vHp cy b a1 a2 (gf g i) (fun _ => none) ++ zFl cy g (S0R g1 g2) i) H → va_D A (vHp cy b a1 a2 (gf g i) (fun _ => none) ++ zFl cy g (S0R g1 g2) i) → va_S A s.heap H locs → lv_has ls 2 [(1, .int (nI i)), (0, .ref b)] → W p l e (zRn 2 60 154 5111) s m args below meth c H locs (2 + 8 * i) (19 + 268 * i) Q (F0 m 23 ls []) := by
  obtain ⟨hx, hb, hr, hts, hown, hlocks, hml, hA, hK⟩ := id C
  intro k
  induction k with
  | zero =>
    intro i g H locs ls hi hP hD hS hl
    obtain rfl : i = 16 := by omega
    refine lv_iload_n hx hb dX4_init_23 rfl (lv_at hl 0 rfl) ?_
    refine lv_bipush (v := (16 : Int32)) hx hb dX4_init_24 (by decide) ?_
    refine lv_icmp_ge (tgt := 48) hx hb dX4_init_26 (by decide) (fun q => ?_) (fun q => absurd (by decide) q)
    exact KK g H locs ls hP hD hS (lv_sub hl [1] rfl)
  | succ k ih =>
    intro i g H locs ls hi hP hD hS hl
    have hlt : i < 16 := by omega
    refine lv_iload_n hx hb dX4_init_23 rfl (lv_at hl 0 rfl) ?_
    refine lv_bipush (v := (16 : Int32)) hx hb dX4_init_24 (by decide) ?_
    refine lv_icmp_ge (tgt := 48) hx hb dX4_init_26 (by decide) (fun q => absurd q (nI_ge hlt (by decide))) (fun q => ?_)
    refine lv_aload_n hx hb dX4_init_29 rfl (lv_at hl 1 rfl) ?_
    refine va_get (D := D) (ci := 1) (v := .ref a1) (C := RX4) (T := TX4) (N := 5) hx hb hts in_X4 hown hK hP 0 rfl rfl 3 (by decide) (hts _ q2_6) (fun _ h9 => h9) rfl dX4_init_30 ?_
    refine lv_iload_n hx hb dX4_init_33 rfl (lv_at hl 0 rfl) ?_
    refine va_new (ci := 3) (fs := [.int 0, .int 0, .int 0, .int 0, .int 0, .int 0, .long 0, .long 0, .long 0, .null, .null, .null, .null, .null, .null, .null]) (C := RX6) (T := TX6) (N := 16) hx hb hts in_X6 tyX6 tyX6_ok hown (hts _ q1_238) (hts _ q1_41) (hts _ q1_3) hK hP hD hS hA rfl (by decide +kernel) (by show 2 + 8 * i + 1 ≤ 154; omega) (by show 19 + 268 * i + 16 ≤ 5111; omega) dX4_init_34 (fun q0 H hP hD hS => ?_)
    refine lv_dup hx hb dX4_init_37 rfl ?_
    refine z_cI (rest := [.ref q0, .int (nI i), .ref a1]) C hN0 (c_X6_init l D cy q0 g1 g2 hg1 hg2) (z_cwI C q1_44 q1_3 q2_0 q1_43 rfl (by decide +kernel) ⟨Nat.le_of_ble_eq_true rfl, Nat.le_of_ble_eq_true rfl⟩) ⟨by show 2 + 8 * i + 1 + 7 ≤ 154; omega, by show 19 + 268 * i + 16 + 252 ≤ 5111; omega⟩ (vHp cy b a1 a2 (gf g i) (fun _ => none) ++ zFl cy g (S0R g1 g2) i) rfl hP hD hS hl.1 (Nat.le_of_ble_eq_true rfl) dX4_init_38 (fun H locs t ht hB hj hS => ?_)
    obtain ⟨h, he, hP1, hK1, hD1⟩ := hB
    rw [ht] at hP1
    obtain ⟨hP, hD⟩ := hj _ hP1 hD1
    refine va_astq (r := (RX6, TX6, 16)) hx hb hK hP hD hS 1 3 (vHp cy b a1 a2 (gf g i) (fun _ => none) ++ zFl cy g (S0R g1 g2) i).length 3 (f := gf g i) rfl rfl (by rw [← he]; exact zidx) rfl (vp_in_nI hlt (by decide)) dX4_init_41 (fun H locs hP hD hS => ?_)
    rw [nI_clamp (by omega)] at hP hD
    have hP : va_P D vwCl ((vHp cy b a1 a2 (va_up (gf g i) i (some q0)) (fun _ => none) ++ zFl cy g (S0R g1 g2) i) ++ wRows (h 0) cy (S0R g1 g2)) H := hP
    have hD : va_D A ((vHp cy b a1 a2 (va_up (gf g i) i (some q0)) (fun _ => none) ++ zFl cy g (S0R g1 g2) i) ++ wRows (h 0) cy (S0R g1 g2)) := hD
    rw [gf_s g i q0 (h 0) he] at hP hD
    rw [List.append_assoc, zFl_s] at hP hD
    refine lv_iinc (v := nI (i + 1)) (lv' := [(1, .int (nI (i + 1))), (0, .ref b)]) hx hb dX4_init_42 hl (k := 0) rfl (by rw [nI_succ]; rfl) (by decide) rfl (fun ls hl => ?_)
    refine lv_goto (tgt := 23) hx hb dX4_init_45 (by decide) ?_
    refine W.widen (k := 2 + 8 * (i + 1)) (n := 19 + 268 * (i + 1)) (by omega) (by omega) ?_
    exact ih (i + 1) (va_up g i (h 0)) H locs ls (by omega) hP hD hS hl
set_option maxHeartbeats 4000000 in
set_option maxRecDepth 100000 in
theorem w_X4_init_B {p : Program} {e : Env} {s : State} {m : MethodId} {below : List Frame} {meth : Method} {c : Code} {A : Nat → Prop} {D : va_G} {cy : Nat → ClassId} {args : Array Value} {Q : State → Prop} (l : Launch) (b a1 a2 : Nat) (fB : Nat → Option Nat) (Y : va_W) (g1 g2 : Nat → Int32) (hg1 : f_J7_fill_53178 6 (fun _ => 0) (-2 : Int32) = some g1) (hg2 : f_J7_fill_53178 48 (fun _ => 0) (-2 : Int32) = some g2) (C : zX p s m meth c cX4_init 2 args RX4 none A D (zty cy)) (hN0 : zNx s)
    (KK : ∀ (g : Nat → Nat → Nat) (H : Heap) (locs : List Loc) (ls : Array Slot), va_P D vwCl (vHp cy b a1 a2 fB (gf g 3) ++ (Y ++ zFl cy g (S0R g1 g2) 3)) H → va_D A (vHp cy b a1 a2 fB (gf g 3) ++ (Y ++ zFl cy g (S0R g1 g2) 3)) → va_S A s.heap H locs → lv_has ls 2 [(0, .ref b)] → W p l e (zRn 2 60 154 5111) s m args below meth c H locs 154 5111 Q (F0 m 74 ls [])) :
    ∀ (k i : Nat) (g : Nat → Nat → Nat) (H : Heap) (locs : List Loc) (ls : Array Slot), i + k = 3 → va_P D vwCl (vHp cy b a1 a2 fB (gf g i) ++ (Y ++ zFl cy g (S0R g1 g2) i)) H → va_D A (vHp cy b a1 a2 fB (gf g i) ++ (Y ++ zFl cy g (S0R g1 g2) i)) → va_S A s.heap H locs → lv_has ls 2 [(1, .int (nI i)), (0, .ref b)] → W p l e (zRn 2 60 154 5111) s m args below meth c H locs (130 + 8 * i) (4307 + 268 * i) Q (F0 m 50 ls []) := by
  obtain ⟨hx, hb, hr, hts, hown, hlocks, hml, hA, hK⟩ := id C
  intro k
  induction k with
  | zero =>
    intro i g H locs ls hi hP hD hS hl
    obtain rfl : i = 3 := by omega
    refine lv_iload_n hx hb dX4_init_50 rfl (lv_at hl 0 rfl) ?_
    refine lv_iconst (v := (3 : Int32)) hx hb dX4_init_51 (by decide) ?_
    refine lv_icmp_ge (tgt := 74) hx hb dX4_init_52 (by decide) (fun q => ?_) (fun q => absurd (by decide) q)
    exact KK g H locs ls hP hD hS (lv_sub hl [1] rfl)
  | succ k ih =>
    intro i g H locs ls hi hP hD hS hl
    have hlt : i < 3 := by omega
    refine lv_iload_n hx hb dX4_init_50 rfl (lv_at hl 0 rfl) ?_
    refine lv_iconst (v := (3 : Int32)) hx hb dX4_init_51 (by decide) ?_
    refine lv_icmp_ge (tgt := 74) hx hb dX4_init_52 (by decide) (fun q => absurd q (nI_ge hlt (by decide))) (fun q => ?_)
    refine lv_aload_n hx hb dX4_init_55 rfl (lv_at hl 1 rfl) ?_
    refine va_get (D := D) (ci := 1) (v := .ref a2) (C := RX4) (T := TX4) (N := 5) hx hb hts in_X4 hown hK hP 0 rfl rfl 4 (by decide) (hts _ q2_7) (fun _ h9 => h9) rfl dX4_init_56 ?_
    refine lv_iload_n hx hb dX4_init_59 rfl (lv_at hl 0 rfl) ?_
    refine va_new (ci := 3) (fs := [.int 0, .int 0, .int 0, .int 0, .int 0, .int 0, .long 0, .long 0, .long 0, .null, .null, .null, .null, .null, .null, .null]) (C := RX6) (T := TX6) (N := 16) hx hb hts in_X6 tyX6 tyX6_ok hown (hts _ q1_238) (hts _ q1_41) (hts _ q1_3) hK hP hD hS hA rfl (by decide +kernel) (by show 130 + 8 * i + 1 ≤ 154; omega) (by show 4307 + 268 * i + 16 ≤ 5111; omega) dX4_init_60 (fun q0 H hP hD hS => ?_)
    refine lv_dup hx hb dX4_init_63 rfl ?_
    refine z_cI (rest := [.ref q0, .int (nI i), .ref a2]) C hN0 (c_X6_init l D cy q0 g1 g2 hg1 hg2) (z_cwI C q1_44 q1_3 q2_0 q1_43 rfl (by decide +kernel) ⟨Nat.le_of_ble_eq_true rfl, Nat.le_of_ble_eq_true rfl⟩) ⟨by show 130 + 8 * i + 1 + 7 ≤ 154; omega, by show 4307 + 268 * i + 16 + 252 ≤ 5111; omega⟩ (vHp cy b a1 a2 fB (gf g i) ++ (Y ++ zFl cy g (S0R g1 g2) i)) rfl hP hD hS hl.1 (Nat.le_of_ble_eq_true rfl) dX4_init_64 (fun H locs t ht hB hj hS => ?_)
    obtain ⟨h, he, hP1, hK1, hD1⟩ := hB
    rw [ht] at hP1
    obtain ⟨hP, hD⟩ := hj _ hP1 hD1
    refine va_astq (r := (RX6, TX6, 16)) hx hb hK hP hD hS 2 3 (vHp cy b a1 a2 fB (gf g i) ++ (Y ++ zFl cy g (S0R g1 g2) i)).length 3 (f := gf g i) rfl rfl (by rw [← he]; exact zidx) rfl (vp_in_nI hlt (by decide)) dX4_init_67 (fun H locs hP hD hS => ?_)
    rw [nI_clamp (by omega)] at hP hD
    have hP : va_P D vwCl ((vHp cy b a1 a2 fB (va_up (gf g i) i (some q0)) ++ (Y ++ zFl cy g (S0R g1 g2) i)) ++ wRows (h 0) cy (S0R g1 g2)) H := hP
    have hD : va_D A ((vHp cy b a1 a2 fB (va_up (gf g i) i (some q0)) ++ (Y ++ zFl cy g (S0R g1 g2) i)) ++ wRows (h 0) cy (S0R g1 g2)) := hD
    rw [gf_s g i q0 (h 0) he] at hP hD
    rw [List.append_assoc, List.append_assoc, zFl_s] at hP hD
    refine lv_iinc (v := nI (i + 1)) (lv' := [(1, .int (nI (i + 1))), (0, .ref b)]) hx hb dX4_init_68 hl (k := 0) rfl (by rw [nI_succ]; rfl) (by decide) rfl (fun ls hl => ?_)
    refine lv_goto (tgt := 50) hx hb dX4_init_71 (by decide) ?_
    refine W.widen (k := 130 + 8 * (i + 1)) (n := 4307 + 268 * (i + 1)) (by omega) (by omega) ?_
    exact ih (i + 1) (va_up g i (h 0)) H locs ls (by omega) hP hD hS hl
def hH4 (b a1 a2 : Nat) (gB gI : Nat → Nat → Nat) : Nat → Nat → Nat := fun k => if k = 0 then (fun _ => b) else if k = 1 then (fun _ => a1) else if k = 2 then (fun _ => a2) else if k % 2 = 1 then gB ((k - 3) / 2) else gI ((k - 4) / 2)
theorem hH4_B (b a1 a2 : Nat) (gB gI : Nat → Nat → Nat) : (fun i => hH4 b a1 a2 gB gI (3 + 2 * i)) = gB := by
  funext i
  unfold hH4
  rw [if_neg (by omega), if_neg (by omega), if_neg (by omega), if_pos (by omega)]
  congr 1
  omega
theorem hH4_I (b a1 a2 : Nat) (gB gI : Nat → Nat → Nat) : (fun i => hH4 b a1 a2 gB gI (4 + 2 * i)) = gI := by
  funext i
  unfold hH4
  rw [if_neg (by omega), if_neg (by omega), if_neg (by omega), if_neg (by omega)]
  congr 1
  omega
theorem zhp {cy : Nat → ClassId} {b a1 a2 : Nat} {gB gI : Nat → Nat → Nat} {S : SRows} : (wHi (hH4 b a1 a2 gB gI 0) (hH4 b a1 a2 gB gI 1 0) (hH4 b a1 a2 gB gI 2 0) cy (mkHi 0 0 0) ++ wPool (fun i => hH4 b a1 a2 gB gI (3 + 2 * i)) (fun i => hH4 b a1 a2 gB gI (4 + 2 * i)) (hH4 b a1 a2 gB gI 1 0) (hH4 b a1 a2 gB gI 2 0) cy (fun _ => S, fun _ => S)) = ([(b, .inr (1, [.int 0, .int 0, .int 0, .ref a1, .ref a2]))] ++ (zbef gB a1 16 cy :: zbef gI a2 3 cy :: (zFl cy gB S 16 ++ zFl cy gI S 3))) := by
  rw [hH4_B, hH4_I]
  rfl
set_option maxHeartbeats 4000000 in
set_option maxRecDepth 100000 in
theorem c_X4_init (l : Launch) (D : va_G) (cy : Nat → ClassId) (b : Nat) (g1 g2 : Nat → Int32) (hg1 : f_J7_fill_53178 6 (fun _ => 0) (-2 : Int32) = some g1) (hg2 : f_J7_fill_53178 48 (fun _ => 0) (-2 : Int32) = some g2) : zCN l yX4_init cX4_init 2 2 60 154 5111 D (zty cy) b [(b, .inr (1, [.int 0, .int 0, .int 0, .null, .null]))] (fun A t => ∃ h : Nat → Nat → Nat, h 0 0 = b ∧ zT D (zty cy) (wHi (h 0) (h 1 0) (h 2 0) cy (mkHi 0 0 0) ++ wPool (fun i => h (3 + 2 * i)) (fun i => h (4 + 2 * i)) (h 1 0) (h 2 0) cy (fun _ => S0R g1 g2, fun _ => S0R g1 g2)) A t) := by
  refine zCN_of (by decide +kernel) (Nat.le_of_ble_eq_true rfl) rfl ?_
  intro p e s m below meth c A ls C hN0 hin hP hD hS hl
  generalize hargs : (#[.ref b] : Array Value) = args at C ⊢
  have C : zX p s m meth c cX4_init 2 args RX4 none A D (zty cy) := C
  obtain ⟨hx, hb, hr, hts, hown, hlocks, hml, hA, hK⟩ := id C
  generalize hH : s.heap = H at hP ⊢
  have hS : va_S A s.heap H [] := by rw [← hH]; exact hS
  generalize ([] : List Loc) = locs at hS ⊢
  refine lv_aload_n hx hb dX4_init_0 rfl (lv_at hl 0 rfl) ?_
  refine W.objInit hx hb hown (hts _ q1_237) (hts _ q1_32) (hts _ q1_33) rfl (by rw [hml]; exact hl.1) rfl dX4_init_1 (Nat.le_of_ble_eq_true rfl) (Nat.le_of_ble_eq_true rfl) ?_
  refine W.eq (g2 := F0 m 4 ls []) rfl ?_
  refine lv_aload_n hx hb dX4_init_4 rfl (lv_at hl 0 rfl) ?_
  refine lv_bipush (v := (16 : Int32)) hx hb dX4_init_5 (by decide) ?_
  refine z_new_rows (n := (16 : Int32)) (N' := 16) C hN0 hP hD hS (by decide) (by decide) (Nat.le_of_ble_eq_true rfl) (Nat.le_of_ble_eq_true rfl) (Nat.le_of_ble_eq_true rfl) dX4_init_7 q1_238 (fun a1 H hP hD hS => ?_)
  refine W.widen (k := 1) (n := 16) (Nat.le_of_ble_eq_true rfl) (Nat.le_of_ble_eq_true rfl) ?_
  refine va_putF (D := D) (ci := 1) (v := .ref a1) (C := RX4) (T := TX4) (N := 5) hx hb hts in_X4 tyX4 tyX4_ok nmX4 hown hK hP hD hS 0 rfl rfl 3 (by decide) (hts _ q2_6) (fun _ h9 => h9) rfl hin rfl (tyX4_ok 3 (by decide)) rfl rfl (Nat.le_of_ble_eq_true rfl) dX4_init_10 (fun H locs hP hD hS => ?_)
  refine lv_aload_n hx hb dX4_init_13 rfl (lv_at hl 0 rfl) ?_
  refine lv_iconst (v := (3 : Int32)) hx hb dX4_init_14 (by decide) ?_
  refine z_new_rows (n := (3 : Int32)) (N' := 3) C hN0 hP hD hS (by decide) (by decide) (Nat.le_of_ble_eq_true rfl) (Nat.le_of_ble_eq_true rfl) (Nat.le_of_ble_eq_true rfl) dX4_init_15 q1_238 (fun a2 H hP hD hS => ?_)
  refine W.widen (k := 2) (n := 19) (Nat.le_of_ble_eq_true rfl) (Nat.le_of_ble_eq_true rfl) ?_
  refine va_putF (D := D) (ci := 1) (v := .ref a2) (C := RX4) (T := TX4) (N := 5) hx hb hts in_X4 tyX4 tyX4_ok nmX4 hown hK hP hD hS 0 rfl rfl 4 (by decide) (hts _ q2_7) (fun _ h9 => h9) rfl hin rfl (tyX4_ok 4 (by decide)) rfl rfl (Nat.le_of_ble_eq_true rfl) dX4_init_18 (fun H locs hP hD hS => ?_)
  have hP : va_P D vwCl (vHp cy b a1 a2 (fun _ => none) (fun _ => none) ++ zFl cy (fun _ _ => 0) (S0R g1 g2) 0) H := hP
  have hD : va_D A (vHp cy b a1 a2 (fun _ => none) (fun _ => none) ++ zFl cy (fun _ _ => 0) (S0R g1 g2) 0) := hD
  rw [← gf_0 (fun _ _ => 0)] at hP hD
  refine lv_iconst (v := (0 : Int32)) hx hb dX4_init_21 (by decide) ?_
  refine lv_istore_n (lv' := [(1, .int (nI 0)), (0, .ref b)]) hx hb dX4_init_22 rfl hl (by decide) rfl (fun ls hl => ?_)
  have hP : va_P D vwCl (vHp cy b a1 a2 (gf (fun _ _ => 0) 0) (fun _ => none) ++ zFl cy (fun _ _ => 0) (S0R g1 g2) 0) H := by rw [gf_0] at hP ⊢; exact hP
  have hD : va_D A (vHp cy b a1 a2 (gf (fun _ _ => 0) 0) (fun _ => none) ++ zFl cy (fun _ _ => 0) (S0R g1 g2) 0) := by rw [gf_0] at hD ⊢; exact hD
  refine w_X4_init_A l b a1 a2 g1 g2 hg1 hg2 C hN0 (fun gB H locs ls hP hD hS hl => ?_) 16 0 (fun _ _ => 0) H locs ls rfl hP hD hS hl
  refine lv_iconst (v := (0 : Int32)) hx hb dX4_init_48 (by decide) ?_
  refine lv_istore_n (lv' := [(1, .int (nI 0)), (0, .ref b)]) hx hb dX4_init_49 rfl hl (by decide) rfl (fun ls hl => ?_)
  have hP : va_P D vwCl (vHp cy b a1 a2 (gf gB 16) (gf (fun _ _ => 0) 0) ++ (zFl cy gB (S0R g1 g2) 16 ++ zFl cy (fun _ _ => 0) (S0R g1 g2) 0)) H := by rw [gf_0, zFl_0, List.append_nil]; exact hP
  have hD : va_D A (vHp cy b a1 a2 (gf gB 16) (gf (fun _ _ => 0) 0) ++ (zFl cy gB (S0R g1 g2) 16 ++ zFl cy (fun _ _ => 0) (S0R g1 g2) 0)) := by rw [gf_0, zFl_0, List.append_nil]; exact hD
  refine w_X4_init_B l b a1 a2 (gf gB 16) (zFl cy gB (S0R g1 g2) 16) g1 g2 hg1 hg2 C hN0 (fun gI H locs ls hP hD hS hl => ?_) 3 0 (fun _ _ => 0) H locs ls rfl hP hD hS hl
  have hP9 : va_P D vwCl ([(b, .inr (1, [.int 0, .int 0, .int 0, .ref a1, .ref a2]))] ++ (zbef gB a1 16 cy :: zbef gI a2 3 cy :: (zFl cy gB (S0R g1 g2) 16 ++ zFl cy gI (S0R g1 g2) 3))) H := by
    rw [zP_iff] at hP ⊢
    intro q hq
    rcases List.mem_append.mp hq with h | h
    · exact hP q (List.mem_append_left _ (by rw [List.mem_singleton.mp h]; exact List.mem_cons_self))
    · rcases List.mem_cons.mp h with rfl | h
      · exact zarr_q (fun j hj => by simp [gf, hj]) (hP (a1, _) (List.mem_append_left _ (List.mem_cons_of_mem _ List.mem_cons_self)))
      · rcases List.mem_cons.mp h with rfl | h
        · exact zarr_q (fun j hj => by simp [gf, hj]) (hP (a2, _) (List.mem_append_left _ (List.mem_cons_of_mem _ (List.mem_cons_of_mem _ List.mem_cons_self))))
        · exact hP q (List.mem_append_right _ h)
  have hD9 : va_D A ([(b, .inr (1, [.int 0, .int 0, .int 0, .ref a1, .ref a2]))] ++ (zbef gB a1 16 cy :: zbef gI a2 3 cy :: (zFl cy gB (S0R g1 g2) 16 ++ zFl cy gI (S0R g1 g2) 3))) := by
    rw [zD_iff] at hD ⊢
    have e : ∀ (w w' : va_W), w.map Prod.fst = w'.map Prod.fst → (w.Pairwise (fun p q => p.1 ≠ q.1) ∧ ∀ q ∈ w, A q.1) → (w'.Pairwise (fun p q => p.1 ≠ q.1) ∧ ∀ q ∈ w', A q.1) := by
      intro w w' he ⟨h1, h2⟩
      constructor
      · have h3 : (w.map Prod.fst).Pairwise (· ≠ ·) := List.pairwise_map.mpr h1
        rw [he] at h3
        exact List.pairwise_map.mp h3
      · intro q hq
        have h3 : q.1 ∈ w'.map Prod.fst := List.mem_map.mpr ⟨q, hq, rfl⟩
        rw [← he] at h3
        obtain ⟨q2, hq2, e2⟩ := List.mem_map.mp h3
        rw [← e2]
        exact h2 q2 hq2
    exact e _ _ (by simp [vHp, zbef]) hD
  exact z_nret C (Nat.le_of_ble_eq_true rfl) (Nat.le_of_ble_eq_true rfl) (fun t ht hKt => ⟨hH4 b a1 a2 gB gI, rfl, by rw [ht, zhp]; exact hP9, hKt, by rw [zhp]; exact hD9⟩) hS dX4_init_74
