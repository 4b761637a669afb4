theorem hd_X1_commonDivisor : yX1_commonDivisor.cls ≠ "java/lang/invoke/MethodHandle" ∧ yX1_commonDivisor.cls ≠ "java/lang/invoke/VarHandle" ∧ (parseMethodDescriptor yX1_commonDivisor.desc).map (fun d => d.parameters.length) = some 2 := by decide +kernel
theorem gS_X1_X1_commonDivisor : GoodIn WT (va_wsS RX1 59 yX1_commonDivisor (.code yX1_commonDivisor cX1_commonDivisor 11 (some FieldType.long) :: WT)) := gzS q5_105 q5_106 q1_20 q5_107
theorem hd_X1_stampsOf : yX1_stampsOf.cls ≠ "java/lang/invoke/MethodHandle" ∧ yX1_stampsOf.cls ≠ "java/lang/invoke/VarHandle" ∧ (parseMethodDescriptor yX1_stampsOf.desc).map (fun d => d.parameters.length) = some 2 := by decide +kernel
theorem gS_X1_X1_stampsOf : GoodIn WT (va_wsS RX1 42 yX1_stampsOf (.code yX1_stampsOf cX1_stampsOf 5 (some FieldType.long) :: WT)) := gzS q5_89 q5_90 q1_20 q5_91
theorem hd_X1_uncertain : yX1_uncertain.cls ≠ "java/lang/invoke/MethodHandle" ∧ yX1_uncertain.cls ≠ "java/lang/invoke/VarHandle" ∧ (parseMethodDescriptor yX1_uncertain.desc).map (fun d => d.parameters.length) = some 1 := by decide +kernel
theorem gS_X1_X1_uncertain : GoodIn WT (va_wsS RX1 18 yX1_uncertain (.code yX1_uncertain cX1_uncertain 3 (some FieldType.int) :: WT)) := gzS q5_83 q5_84 q1_20 q5_85
theorem hd_X1_weightOf : yX1_weightOf.cls ≠ "java/lang/invoke/MethodHandle" ∧ yX1_weightOf.cls ≠ "java/lang/invoke/VarHandle" ∧ (parseMethodDescriptor yX1_weightOf.desc).map (fun d => d.parameters.length) = some 3 := by decide +kernel
theorem gS_X1_X1_weightOf : GoodIn WT (va_wsS RX1 50 yX1_weightOf (.code yX1_weightOf cX1_weightOf 6 (some FieldType.long) :: WT)) := gzS q5_95 q5_96 q1_20 q5_97
theorem gS_X1_X6_bitOf : GoodIn WT (va_wsS RX1 34 yX6_bitOf (.code yX6_bitOf cX6_bitOf 1 (some FieldType.long) :: WT)) := gzS q5_93 q3_22 q1_3 q3_23
theorem hd_X3_isRest : yX3_isRest.cls ≠ "java/lang/invoke/MethodHandle" ∧ yX3_isRest.cls ≠ "java/lang/invoke/VarHandle" ∧ (parseMethodDescriptor yX3_isRest.desc).map (fun d => d.parameters.length) = some 2 := by decide +kernel
theorem gS_X3_X3_isRest : GoodIn WT (va_wsS RX3 22 yX3_isRest (.code yX3_isRest cX3_isRest 4 (some FieldType.boolean) :: WT)) := gzS q5_56 q5_57 q1_19 q5_58
theorem hd_X3_oneWaits : yX3_oneWaits.cls ≠ "java/lang/invoke/MethodHandle" ∧ yX3_oneWaits.cls ≠ "java/lang/invoke/VarHandle" ∧ (parseMethodDescriptor yX3_oneWaits.desc).map (fun d => d.parameters.length) = some 1 := by decide +kernel
theorem gS_X3_X3_oneWaits : GoodIn WT (va_wsS RX3 11 yX3_oneWaits (.code yX3_oneWaits cX3_oneWaits 1 (some FieldType.boolean) :: WT)) := gzS q5_59 q5_60 q1_19 q5_61
theorem hd_X3_otherWaits : yX3_otherWaits.cls ≠ "java/lang/invoke/MethodHandle" ∧ yX3_otherWaits.cls ≠ "java/lang/invoke/VarHandle" ∧ (parseMethodDescriptor yX3_otherWaits.desc).map (fun d => d.parameters.length) = some 1 := by decide +kernel
theorem gS_X3_X3_otherWaits : GoodIn WT (va_wsS RX3 15 yX3_otherWaits (.code yX3_otherWaits cX3_otherWaits 1 (some FieldType.boolean) :: WT)) := gzS q5_62 q5_63 q1_19 q5_64
theorem hd_X3_payoff : yX3_payoff.cls ≠ "java/lang/invoke/MethodHandle" ∧ yX3_payoff.cls ≠ "java/lang/invoke/VarHandle" ∧ (parseMethodDescriptor yX3_payoff.desc).map (fun d => d.parameters.length) = some 3 := by decide +kernel
theorem gS_X3_X3_payoff : GoodIn WT (va_wsS RX3 18 yX3_payoff (.code yX3_payoff cX3_payoff 3 (some FieldType.int) :: WT)) := gzS q5_65 q5_47 q1_19 q5_48
theorem hd_X6_countingFresh : yX6_countingFresh.cls = RX6 ∧ yX6_countingFresh.cls ≠ "java/lang/invoke/MethodHandle" ∧ yX6_countingFresh.cls ≠ "java/lang/invoke/VarHandle" ∧ (parseMethodDescriptor yX6_countingFresh.desc).map (fun d => d.parameters.length) = some 0 := by decide +kernel
theorem gV_X1_X6_countingFresh : GoodIn WT (wsV RX1 38 RX6 yX6_countingFresh (.code yX6_countingFresh cX6_countingFresh 1 (some FieldType.long) :: WT)) := gzV q5_88 q3_191 q3_192 q1_3 q3_193
theorem gV_X1_X6_hasLost : GoodIn WT (wsV RX1 15 RX6 yX6_hasLost (.code yX6_hasLost cX6_hasLost 2 (some FieldType.boolean) :: WT)) := gzV q5_87 q3_56 q3_57 q1_3 q3_58
theorem gV_X1_X6_runs : GoodIn WT (wsV RX1 9 RX6 yX6_runs (.code yX6_runs cX6_runs 2 (some FieldType.boolean) :: WT)) := gzV q5_86 q3_60 q3_61 q1_3 q3_62
theorem gV_X1_X6_stampOf : GoodIn WT (wsV RX1 30 RX6 yX6_stampOf (.code yX6_stampOf cX6_stampOf 2 (some FieldType.int) :: WT)) := gzV q5_92 q3_108 q3_109 q1_3 q3_110
theorem hd_X6_sumSeen : yX6_sumSeen.cls = RX6 ∧ yX6_sumSeen.cls ≠ "java/lang/invoke/MethodHandle" ∧ yX6_sumSeen.cls ≠ "java/lang/invoke/VarHandle" ∧ (parseMethodDescriptor yX6_sumSeen.desc).map (fun d => d.parameters.length) = some 1 := by decide +kernel
theorem gV_X1_X6_sumSeen : GoodIn WT (wsV RX1 54 RX6 yX6_sumSeen (.code yX6_sumSeen cX6_sumSeen 7 (some FieldType.int) :: WT)) := gzV q5_115 q4_170 q4_171 q1_3 q4_172
theorem hd_X6_valueSeen : yX6_valueSeen.cls = RX6 ∧ yX6_valueSeen.cls ≠ "java/lang/invoke/MethodHandle" ∧ yX6_valueSeen.cls ≠ "java/lang/invoke/VarHandle" ∧ (parseMethodDescriptor yX6_valueSeen.desc).map (fun d => d.parameters.length) = some 2 := by decide +kernel
theorem gV_X1_X6_valueSeen : GoodIn WT (wsV RX1 46 RX6 yX6_valueSeen (.code yX6_valueSeen cX6_valueSeen 4 (some FieldType.int) :: WT)) := gzV q5_94 q3_199 q3_200 q1_3 q3_201
def b_X1_uncertain_4 (Sp1 : SRows) (k4 : Int32 → Int32 → Option (Int32)) (v1 : Int32) (v2 : Int32) : Option (Int32) :=
  (if (6 : Int32) ≤ v2 then
    some v1
    else
    (f_X6_runs Sp1 v2).bind (fun q1 =>
      (if q1 = 0 then
        (k4 v1 (v2 + (1 : Int32)))
        else
        (f_X6_hasLost Sp1 v2).bind (fun q2 =>
          (if q2 = 0 then
            (k4 (v1 ||| ((1 : Int32) <<< (v2 &&& 31))) (v2 + (1 : Int32)))
            else
            (k4 v1 (v2 + (1 : Int32))))))))
set_option maxHeartbeats 4000000 in
set_option maxRecDepth 100000 in
theorem w_X1_uncertain_4 {p : Program} {e : Env} {s : State} {m : MethodId} {below : List Frame} {meth : Method} {c : Code} {A : Nat → Prop} {D : va_G} {cy : Nat → ClassId} {args : Array Value} {r : Int32} (l : Launch) (hp1 : Nat → Nat) (Sp1 : SRows) (C : zX p s m meth c cX1_uncertain 3 args RX1 (some FieldType.int) A D (zty cy)) :
    ∀ (n : Nat) (v1 : Int32) (v2 : Int32) (H : Heap) (locs : List Loc) (ls : Array Slot), zl2 (b_X1_uncertain_4 Sp1) n v1 v2 = some r → va_P D vwCl (wRows hp1 cy Sp1) H → va_D A (wRows hp1 cy Sp1) → va_S A s.heap H locs → lv_has ls 3 [(0, .ref (hp1 0)), (1, .int v1), (2, .int v2)] → W p l e (zRm 2 42) s m args below meth c H locs 0 0 (MQ below (zQI D (zty cy) A (wRows hp1 cy Sp1) r) args s 0 0 A) (F0 m 4 ls []) := by
  obtain ⟨hx, hb, hr, hts, hown, hlocks, hml, hA, hK⟩ := id C
  intro n
  induction n with
  | zero => intro v1 v2 H locs ls hf; exact zno hf
  | succ n ih =>
    intro v1 v2 H locs ls hf hP hD hS hl
    have hf : b_X1_uncertain_4 Sp1 (zl2 (b_X1_uncertain_4 Sp1) n) v1 v2 = some r := hf
    have K4 := ih
    refine lv_iload_n hx hb dX1_uncertain_4 rfl (lv_at hl 2 rfl) ?_
    refine lv_bipush (v := (6 : Int32)) hx hb dX1_uncertain_5 (by decide) ?_
    refine z_icmp_ge (tgt := 38) hx hb dX1_uncertain_7 (by decide) hf (fun hf => ?_) (fun hf => ?_)
    · refine lv_iload_n hx hb dX1_uncertain_38 rfl (lv_at hl 1 rfl) ?_
      obtain rfl := Option.some.inj hf
      exact z_iret (v := v1) C hP hD hS dX1_uncertain_39
    · refine lv_aload_n hx hb dX1_uncertain_10 rfl (lv_at hl 0 rfl) ?_
      refine lv_iload_n hx hb dX1_uncertain_11 rfl (lv_at hl 2 rfl) ?_
      obtain ⟨q1, hc, hf⟩ := zbd hf
      refine z_cVi0 (As := [.int v2]) (rest := []) C (c_X6_runs l D cy hp1 Sp1 v2 q1 hc) gV_X1_X6_runs hd_X6_runs ⟨Nat.le_of_ble_eq_true rfl, Nat.le_of_ble_eq_true rfl⟩ ⟨Nat.le_refl _, Nat.le_refl _⟩ (va_recv hK hP (ci := 3) (q0 := 0) rfl rfl) hP hD hS hl.1 (Nat.le_of_ble_eq_true rfl) dX1_uncertain_12 (fun H locs hP hD hS => ?_)
      have hP : va_P D vwCl (wRows hp1 cy Sp1) H := hP
      have hD : va_D A (wRows hp1 cy Sp1) := hD
      refine z_if_eq (tgt := 32) hx hb dX1_uncertain_15 (by decide) hf (fun hf => ?_) (fun hf => ?_)
      · refine lv_iinc (v := (v2 + (1 : Int32))) (lv' := [(2, .int (v2 + (1 : Int32))), (0, .ref (hp1 0)), (1, .int v1)]) hx hb dX1_uncertain_32 hl (k := 2) rfl rfl (by decide) rfl (fun ls hl => ?_)
        refine lv_goto (tgt := 4) hx hb dX1_uncertain_35 (by decide) ?_
        exact K4 v1 (v2 + (1 : Int32)) H locs ls hf hP hD hS (lv_sub hl [1, 2, 0] rfl)
      · refine lv_aload_n hx hb dX1_uncertain_18 rfl (lv_at hl 0 rfl) ?_
        refine lv_iload_n hx hb dX1_uncertain_19 rfl (lv_at hl 2 rfl) ?_
        obtain ⟨q2, hc, hf⟩ := zbd hf
        refine z_cVi0 (As := [.int v2]) (rest := []) C (c_X6_hasLost l D cy hp1 Sp1 v2 q2 hc) gV_X1_X6_hasLost hd_X6_hasLost ⟨Nat.le_of_ble_eq_true rfl, Nat.le_of_ble_eq_true rfl⟩ ⟨Nat.le_refl _, Nat.le_refl _⟩ (va_recv hK hP (ci := 3) (q0 := 0) rfl rfl) hP hD hS hl.1 (Nat.le_of_ble_eq_true rfl) dX1_uncertain_20 (fun H locs hP hD hS => ?_)
        have hP : va_P D vwCl (wRows hp1 cy Sp1) H := hP
        have hD : va_D A (wRows hp1 cy Sp1) := hD
        refine z_if_ne (tgt := 32) hx hb dX1_uncertain_23 (by decide) hf (fun hf => ?_) (fun hf => ?_)
        · refine lv_iinc (v := (v2 + (1 : Int32))) (lv' := [(2, .int (v2 + (1 : Int32))), (0, .ref (hp1 0)), (1, .int v1)]) hx hb dX1_uncertain_32 hl (k := 2) rfl rfl (by decide) rfl (fun ls hl => ?_)
          refine lv_goto (tgt := 4) hx hb dX1_uncertain_35 (by decide) ?_
          exact K4 v1 (v2 + (1 : Int32)) H locs ls hf hP hD hS (lv_sub hl [1, 2, 0] rfl)
        · refine lv_iload_n hx hb dX1_uncertain_26 rfl (lv_at hl 1 rfl) ?_
          refine lv_iconst (v := (1 : Int32)) hx hb dX1_uncertain_27 (by decide) ?_
          refine lv_iload_n hx hb dX1_uncertain_28 rfl (lv_at hl 2 rfl) ?_
          refine lv_ishl hx hb dX1_uncertain_29 ?_
          refine lv_ior hx hb dX1_uncertain_30 ?_
          refine lv_istore_n (lv' := [(1, .int (v1 ||| ((1 : Int32) <<< (v2 &&& 31)))), (0, .ref (hp1 0)), (2, .int v2)]) hx hb dX1_uncertain_31 rfl hl (by decide) rfl (fun ls hl => ?_)
          refine lv_iinc (v := (v2 + (1 : Int32))) (lv' := [(2, .int (v2 + (1 : Int32))), (1, .int (v1 ||| ((1 : Int32) <<< (v2 &&& 31)))), (0, .ref (hp1 0))]) hx hb dX1_uncertain_32 hl (k := 2) rfl rfl (by decide) rfl (fun ls hl => ?_)
          refine lv_goto (tgt := 4) hx hb dX1_uncertain_35 (by decide) ?_
          exact K4 (v1 ||| ((1 : Int32) <<< (v2 &&& 31))) (v2 + (1 : Int32)) H locs ls hf hP hD hS (lv_sub hl [2, 1, 0] rfl)
def f_X1_uncertain (Sp1 : SRows) : Option (Int32) :=
  (zl2 (b_X1_uncertain_4 Sp1) FU (0 : Int32) (0 : Int32))
set_option maxHeartbeats 4000000 in
set_option maxRecDepth 100000 in
theorem c_X1_uncertain (l : Launch) (D : va_G) (cy : Nat → ClassId) (hp1 : Nat → Nat) (Sp1 : SRows) (r : Int32) (hf : f_X1_uncertain Sp1 = some r) : zCI l yX1_uncertain cX1_uncertain 3 (some FieldType.int) 2 42 D (zty cy) [.ref (hp1 0)] (wRows hp1 cy Sp1) (wRows hp1 cy Sp1) r := by
  refine zCI_of (by decide +kernel) (Nat.le_of_ble_eq_true rfl) ?_
  intro p e s m below meth c A ls C hP hD hS hl
  generalize hargs : ([.ref (hp1 0)] : List Value).toArray = args at C ⊢
  have C : zX p s m meth c cX1_uncertain 3 args RX1 (some FieldType.int) A D (zty cy) := C
  obtain ⟨hx, hb, hr, hts, hown, hlocks, hml, hA, hK⟩ := id C
  have hl : lv_has ls 3 [(0, .ref (hp1 0))] := hl
  generalize hH : s.heap = H at hP ⊢
  have hS : va_S A s.heap H [] := by rw [← hH]; exact hS
  generalize ([] : List Loc) = locs at hS ⊢
  refine lv_iconst (v := (0 : Int32)) hx hb dX1_uncertain_0 (by decide) ?_
  refine lv_istore_n (lv' := [(1, .int (0 : Int32)), (0, .ref (hp1 0))]) hx hb dX1_uncertain_1 rfl hl (by decide) rfl (fun ls hl => ?_)
  refine lv_iconst (v := (0 : Int32)) hx hb dX1_uncertain_2 (by decide) ?_
  refine lv_istore_n (lv' := [(2, .int (0 : Int32)), (1, .int (0 : Int32)), (0, .ref (hp1 0))]) hx hb dX1_uncertain_3 rfl hl (by decide) rfl (fun ls hl => ?_)
  exact w_X1_uncertain_4 l hp1 Sp1 C FU (0 : Int32) (0 : Int32) H locs ls hf hP hD hS (lv_sub hl [2, 1, 0] rfl)
def b_X1_wholeWeight_10 (Sp1 : SRows) (k10 : Int32 → Int64 → Int32 → Option (Int64)) (v1 : Int32) (v2 : Int64) (v4 : Int32) : Option (Int64) :=
  (if (6 : Int32) ≤ v4 then
    some v2
    else
    (if ((v1 >>> (v4 &&& 31)) &&& (1 : Int32)) = 0 then
      (k10 v1 v2 (v4 + (1 : Int32)))
      else
      (k10 v1 (v2 * (100 : Int64)) (v4 + (1 : Int32)))))
set_option maxHeartbeats 4000000 in
set_option maxRecDepth 100000 in
theorem w_X1_wholeWeight_10 {p : Program} {e : Env} {s : State} {m : MethodId} {below : List Frame} {meth : Method} {c : Code} {A : Nat → Prop} {D : va_G} {cy : Nat → ClassId} {args : Array Value} {r : Int64} (l : Launch) (hp1 : Nat → Nat) (Sp1 : SRows) (C : zX p s m meth c cX1_wholeWeight 5 args RX1 (some FieldType.long) A D (zty cy)) :
    ∀ (n : Nat) (v1 : Int32) (v2 : Int64) (v4 : Int32) (H : Heap) (locs : List Loc) (ls : Array Slot), zl3 (b_X1_wholeWeight_10 Sp1) n v1 v2 v4 = some r → va_P D vwCl (wRows hp1 cy Sp1) H → va_D A (wRows hp1 cy Sp1) → va_S A s.heap H locs → lv_has ls 5 [(1, .int v1), (2, .long v2), (4, .int v4)] → W p l e (zRm 3 64) s m args below meth c H locs 0 0 (MQ below (zQL D (zty cy) A (wRows hp1 cy Sp1) r) args s 0 0 A) (F0 m 10 ls []) := by
  obtain ⟨hx, hb, hr, hts, hown, hlocks, hml, hA, hK⟩ := id C
  intro n
  induction n with
  | zero => intro v1 v2 v4 H locs ls hf; exact zno hf
  | succ n ih =>
    intro v1 v2 v4 H locs ls hf hP hD hS hl
    have hf : b_X1_wholeWeight_10 Sp1 (zl3 (b_X1_wholeWeight_10 Sp1) n) v1 v2 v4 = some r := hf
    have K10 := ih
    refine lv_iload hx hb dX1_wholeWeight_10 (lv_at hl 2 rfl) ?_
    refine lv_bipush (v := (6 : Int32)) hx hb dX1_wholeWeight_12 (by decide) ?_
    refine z_icmp_ge (tgt := 38) hx hb dX1_wholeWeight_14 (by decide) hf (fun hf => ?_) (fun hf => ?_)
    · refine lv_lload_n hx hb dX1_wholeWeight_38 rfl (lv_at hl 1 rfl) ?_
      obtain rfl := Option.some.inj hf
      exact z_lret (v := v2) C hP hD hS dX1_wholeWeight_39
    · refine lv_iload_n hx hb dX1_wholeWeight_17 rfl (lv_at hl 0 rfl) ?_
      refine lv_iload hx hb dX1_wholeWeight_18 (lv_at hl 2 rfl) ?_
      refine lv_ishr hx hb dX1_wholeWeight_20 ?_
      refine lv_iconst (v := (1 : Int32)) hx hb dX1_wholeWeight_21 (by decide) ?_
      refine lv_iand hx hb dX1_wholeWeight_22 ?_
      refine z_if_eq (tgt := 32) hx hb dX1_wholeWeight_23 (by decide) hf (fun hf => ?_) (fun hf => ?_)
      · refine lv_iinc (v := (v4 + (1 : Int32))) (lv' := [(4, .int (v4 + (1 : Int32))), (1, .int v1), (2, .long v2)]) hx hb dX1_wholeWeight_32 hl (k := 2) rfl rfl (by decide) rfl (fun ls hl => ?_)
        refine lv_goto (tgt := 10) hx hb dX1_wholeWeight_35 (by decide) ?_
        exact K10 v1 v2 (v4 + (1 : Int32)) H locs ls hf hP hD hS (lv_sub hl [1, 2, 0] rfl)
      · refine lv_lload_n hx hb dX1_wholeWeight_26 rfl (lv_at hl 1 rfl) ?_
        refine lv_ldc2 (v := (100 : Int64)) hx hb hown (hts _ q5_101) dX1_wholeWeight_27 ?_
        refine lv_lmul hx hb dX1_wholeWeight_30 ?_
        refine lv_lstore_n (lv' := [(2, .long (v2 * (100 : Int64))), (1, .int v1), (4, .int v4)]) hx hb dX1_wholeWeight_31 rfl hl (by decide) rfl (fun ls hl => ?_)
        refine lv_iinc (v := (v4 + (1 : Int32))) (lv' := [(4, .int (v4 + (1 : Int32))), (2, .long (v2 * (100 : Int64))), (1, .int v1)]) hx hb dX1_wholeWeight_32 hl (k := 2) rfl rfl (by decide) rfl (fun ls hl => ?_)
        refine lv_goto (tgt := 10) hx hb dX1_wholeWeight_35 (by decide) ?_
        exact K10 v1 (v2 * (100 : Int64)) (v4 + (1 : Int32)) H locs ls hf hP hD hS (lv_sub hl [2, 1, 0] rfl)
def f_X1_wholeWeight (Sp1 : SRows) : Option (Int64) :=
  (f_X1_uncertain Sp1).bind (fun q1 =>
    (zl3 (b_X1_wholeWeight_10 Sp1) FU q1 (1 : Int64) (0 : Int32)))
set_option maxHeartbeats 4000000 in
set_option maxRecDepth 100000 in
theorem c_X1_wholeWeight (l : Launch) (D : va_G) (cy : Nat → ClassId) (hp1 : Nat → Nat) (Sp1 : SRows) (r : Int64) (hf : f_X1_wholeWeight Sp1 = some r) : zCL l yX1_wholeWeight cX1_wholeWeight 5 (some FieldType.long) 3 64 D (zty cy) [.ref (hp1 0)] (wRows hp1 cy Sp1) (wRows hp1 cy Sp1) r := by
  refine zCL_of (by decide +kernel) (Nat.le_of_ble_eq_true rfl) ?_
  intro p e s m below meth c A ls C hP hD hS hl
  generalize hargs : ([.ref (hp1 0)] : List Value).toArray = args at C ⊢
  have C : zX p s m meth c cX1_wholeWeight 5 args RX1 (some FieldType.long) A D (zty cy) := C
  obtain ⟨hx, hb, hr, hts, hown, hlocks, hml, hA, hK⟩ := id C
  have hl : lv_has ls 5 [(0, .ref (hp1 0))] := hl
  generalize hH : s.heap = H at hP ⊢
  have hS : va_S A s.heap H [] := by rw [← hH]; exact hS
  generalize ([] : List Loc) = locs at hS ⊢
  refine lv_aload_n hx hb dX1_wholeWeight_0 rfl (lv_at hl 0 rfl) ?_
  obtain ⟨q1, hc, hf⟩ := zbd hf
  refine z_cSi0 (As := [.ref (hp1 0)]) (rest := []) C (c_X1_uncertain l D cy hp1 Sp1 q1 hc) gS_X1_X1_uncertain hd_X1_uncertain ⟨Nat.le_of_ble_eq_true rfl, Nat.le_of_ble_eq_true rfl⟩ ⟨Nat.le_refl _, Nat.le_refl _⟩ hP hD hS hl.1 (Nat.le_of_ble_eq_true rfl) dX1_wholeWeight_1 (fun H locs hP hD hS => ?_)
  have hP : va_P D vwCl (wRows hp1 cy Sp1) H := hP
  have hD : va_D A (wRows hp1 cy Sp1) := hD
  refine lv_istore_n (lv' := [(1, .int q1), (0, .ref (hp1 0))]) hx hb dX1_wholeWeight_4 rfl hl (by decide) rfl (fun ls hl => ?_)
  refine lv_lconst (v := (1 : Int64)) hx hb dX1_wholeWeight_5 (by decide) ?_
  refine lv_lstore_n (lv' := [(2, .long (1 : Int64)), (1, .int q1), (0, .ref (hp1 0))]) hx hb dX1_wholeWeight_6 rfl hl (by decide) rfl (fun ls hl => ?_)
  refine lv_iconst (v := (0 : Int32)) hx hb dX1_wholeWeight_7 (by decide) ?_
  refine lv_istore (lv' := [(4, .int (0 : Int32)), (2, .long (1 : Int64)), (1, .int q1), (0, .ref (hp1 0))]) hx hb dX1_wholeWeight_8 hl (by decide) rfl (fun ls hl => ?_)
  exact w_X1_wholeWeight_10 l hp1 Sp1 C FU q1 (1 : Int64) (0 : Int32) H locs ls hf hP hD hS (lv_sub hl [2, 1, 0] rfl)
def b_X1_weightOf_5 (Sp1 : SRows) (x1 : Int32) (x2 : Int32) (k5 : Int64 → Int32 → Option (Int64)) (v3 : Int64) (v5 : Int32) : Option (Int64) :=
  (if (6 : Int32) ≤ v5 then
    some v3
    else
    (if ((x1 >>> (v5 &&& 31)) &&& (1 : Int32)) = 0 then
      (k5 v3 (v5 + (1 : Int32)))
      else
      (if ((x2 >>> (v5 &&& 31)) &&& (1 : Int32)) = 0 then
        (k5 (v3 * ((Rows_crash Sp1).toInt64)) (v5 + (1 : Int32)))
        else
        (k5 (v3 * (((100 : Int32) - (Rows_crash Sp1)).toInt64)) (v5 + (1 : Int32))))))
set_option maxHeartbeats 4000000 in
set_option maxRecDepth 100000 in
theorem w_X1_weightOf_5 {p : Program} {e : Env} {s : State} {m : MethodId} {below : List Frame} {meth : Method} {c : Code} {A : Nat → Prop} {D : va_G} {cy : Nat → ClassId} {args : Array Value} {r : Int64} (l : Launch) (hp1 : Nat → Nat) (Sp1 : SRows) (x1 : Int32) (x2 : Int32) (C : zX p s m meth c cX1_weightOf 6 args RX1 (some FieldType.long) A D (zty cy)) :
    ∀ (n : Nat) (v3 : Int64) (v5 : Int32) (H : Heap) (locs : List Loc) (ls : Array Slot), zl2 (b_X1_weightOf_5 Sp1 x1 x2) n v3 v5 = some r → va_P D vwCl (wRows hp1 cy Sp1) H → va_D A (wRows hp1 cy Sp1) → va_S A s.heap H locs → lv_has ls 6 [(0, .ref (hp1 0)), (1, .int x1), (2, .int x2), (3, .long v3), (5, .int v5)] → W p l e (zRm 0 0) s m args below meth c H locs 0 0 (MQ below (zQL D (zty cy) A (wRows hp1 cy Sp1) r) args s 0 0 A) (F0 m 5 ls []) := by
  obtain ⟨hx, hb, hr, hts, hown, hlocks, hml, hA, hK⟩ := id C
  intro n
  induction n with
  | zero => intro v3 v5 H locs ls hf; exact zno hf
  | succ n ih =>
    intro v3 v5 H locs ls hf hP hD hS hl
    have hf : b_X1_weightOf_5 Sp1 x1 x2 (zl2 (b_X1_weightOf_5 Sp1 x1 x2) n) v3 v5 = some r := hf
    have K5 := ih
    refine lv_iload hx hb dX1_weightOf_5 (lv_at hl 4 rfl) ?_
    refine lv_bipush (v := (6 : Int32)) hx hb dX1_weightOf_7 (by decide) ?_
    refine z_icmp_ge (tgt := 55) hx hb dX1_weightOf_9 (by decide) hf (fun hf => ?_) (fun hf => ?_)
    · refine lv_lload_n hx hb dX1_weightOf_55 rfl (lv_at hl 3 rfl) ?_
      obtain rfl := Option.some.inj hf
      exact z_lret (v := v3) C hP hD hS dX1_weightOf_56
    · refine lv_iload_n hx hb dX1_weightOf_12 rfl (lv_at hl 1 rfl) ?_
      refine lv_iload hx hb dX1_weightOf_13 (lv_at hl 4 rfl) ?_
      refine lv_ishr hx hb dX1_weightOf_15 ?_
      refine lv_iconst (v := (1 : Int32)) hx hb dX1_weightOf_16 (by decide) ?_
      refine lv_iand hx hb dX1_weightOf_17 ?_
      refine z_if_eq (tgt := 49) hx hb dX1_weightOf_18 (by decide) hf (fun hf => ?_) (fun hf => ?_)
      · refine lv_iinc (v := (v5 + (1 : Int32))) (lv' := [(5, .int (v5 + (1 : Int32))), (0, .ref (hp1 0)), (1, .int x1), (2, .int x2), (3, .long v3)]) hx hb dX1_weightOf_49 hl (k := 4) rfl rfl (by decide) rfl (fun ls hl => ?_)
        refine lv_goto (tgt := 5) hx hb dX1_weightOf_52 (by decide) ?_
        exact K5 v3 (v5 + (1 : Int32)) H locs ls hf hP hD hS (lv_sub hl [1, 2, 3, 4, 0] rfl)
      · refine lv_lload_n hx hb dX1_weightOf_21 rfl (lv_at hl 3 rfl) ?_
        refine lv_iload_n hx hb dX1_weightOf_22 rfl (lv_at hl 2 rfl) ?_
        refine lv_iload hx hb dX1_weightOf_23 (lv_at hl 4 rfl) ?_
        refine lv_ishr hx hb dX1_weightOf_25 ?_
        refine lv_iconst (v := (1 : Int32)) hx hb dX1_weightOf_26 (by decide) ?_
        refine lv_iand hx hb dX1_weightOf_27 ?_
        refine z_if_eq (tgt := 42) hx hb dX1_weightOf_28 (by decide) hf (fun hf => ?_) (fun hf => ?_)
        · refine lv_aload_n hx hb dX1_weightOf_42 rfl (lv_at hl 0 rfl) ?_
          refine va_get (D := D) (ci := 3) (v := .int (Rows_crash Sp1)) (C := RX6) (T := TX6) (N := 16) hx hb hts in_X6 hown hK hP 0 rfl rfl 2 (by decide) (hts _ q1_56) (fun _ h9 => h9) rfl dX1_weightOf_43 ?_
          refine lv_i2l (v := (Rows_crash Sp1).toInt64) hx hb dX1_weightOf_46 rfl ?_
          refine lv_lmul hx hb dX1_weightOf_47 ?_
          refine lv_lstore_n (lv' := [(3, .long (v3 * ((Rows_crash Sp1).toInt64))), (0, .ref (hp1 0)), (1, .int x1), (2, .int x2), (5, .int v5)]) hx hb dX1_weightOf_48 rfl hl (by decide) rfl (fun ls hl => ?_)
          refine lv_iinc (v := (v5 + (1 : Int32))) (lv' := [(5, .int (v5 + (1 : Int32))), (3, .long (v3 * ((Rows_crash Sp1).toInt64))), (0, .ref (hp1 0)), (1, .int x1), (2, .int x2)]) hx hb dX1_weightOf_49 hl (k := 4) rfl rfl (by decide) rfl (fun ls hl => ?_)
          refine lv_goto (tgt := 5) hx hb dX1_weightOf_52 (by decide) ?_
          exact K5 (v3 * ((Rows_crash Sp1).toInt64)) (v5 + (1 : Int32)) H locs ls hf hP hD hS (lv_sub hl [2, 3, 4, 1, 0] rfl)
        · refine lv_bipush (v := (100 : Int32)) hx hb dX1_weightOf_31 (by decide) ?_
          refine lv_aload_n hx hb dX1_weightOf_33 rfl (lv_at hl 0 rfl) ?_
          refine va_get (D := D) (ci := 3) (v := .int (Rows_crash Sp1)) (C := RX6) (T := TX6) (N := 16) hx hb hts in_X6 hown hK hP 0 rfl rfl 2 (by decide) (hts _ q1_56) (fun _ h9 => h9) rfl dX1_weightOf_34 ?_
          refine lv_isub hx hb dX1_weightOf_37 ?_
          refine lv_i2l (v := ((100 : Int32) - (Rows_crash Sp1)).toInt64) hx hb dX1_weightOf_38 rfl ?_
          refine lv_goto (tgt := 47) hx hb dX1_weightOf_39 (by decide) ?_
          refine lv_lmul hx hb dX1_weightOf_47 ?_
          refine lv_lstore_n (lv' := [(3, .long (v3 * (((100 : Int32) - (Rows_crash Sp1)).toInt64))), (0, .ref (hp1 0)), (1, .int x1), (2, .int x2), (5, .int v5)]) hx hb dX1_weightOf_48 rfl hl (by decide) rfl (fun ls hl => ?_)
          refine lv_iinc (v := (v5 + (1 : Int32))) (lv' := [(5, .int (v5 + (1 : Int32))), (3, .long (v3 * (((100 : Int32) - (Rows_crash Sp1)).toInt64))), (0, .ref (hp1 0)), (1, .int x1), (2, .int x2)]) hx hb dX1_weightOf_49 hl (k := 4) rfl rfl (by decide) rfl (fun ls hl => ?_)
          refine lv_goto (tgt := 5) hx hb dX1_weightOf_52 (by decide) ?_
          exact K5 (v3 * (((100 : Int32) - (Rows_crash Sp1)).toInt64)) (v5 + (1 : Int32)) H locs ls hf hP hD hS (lv_sub hl [2, 3, 4, 1, 0] rfl)
def f_X1_weightOf (Sp1 : SRows) (x1 : Int32) (x2 : Int32) : Option (Int64) :=
  (zl2 (b_X1_weightOf_5 Sp1 x1 x2) FU (1 : Int64) (0 : Int32))
set_option maxHeartbeats 4000000 in
set_option maxRecDepth 100000 in
theorem c_X1_weightOf (l : Launch) (D : va_G) (cy : Nat → ClassId) (hp1 : Nat → Nat) (Sp1 : SRows) (x1 : Int32) (x2 : Int32) (r : Int64) (hf : f_X1_weightOf Sp1 x1 x2 = some r) : zCL l yX1_weightOf cX1_weightOf 6 (some FieldType.long) 0 0 D (zty cy) [.ref (hp1 0), .int x1, .int x2] (wRows hp1 cy Sp1) (wRows hp1 cy Sp1) r := by
  refine zCL_of (by decide +kernel) (Nat.le_of_ble_eq_true rfl) ?_
  intro p e s m below meth c A ls C hP hD hS hl
  generalize hargs : ([.ref (hp1 0), .int x1, .int x2] : List Value).toArray = args at C ⊢
  have C : zX p s m meth c cX1_weightOf 6 args RX1 (some FieldType.long) A D (zty cy) := C
  obtain ⟨hx, hb, hr, hts, hown, hlocks, hml, hA, hK⟩ := id C
  have hl : lv_has ls 6 [(0, .ref (hp1 0)), (1, .int x1), (2, .int x2)] := hl
  generalize hH : s.heap = H at hP ⊢
  have hS : va_S A s.heap H [] := by rw [← hH]; exact hS
  generalize ([] : List Loc) = locs at hS ⊢
  refine lv_lconst (v := (1 : Int64)) hx hb dX1_weightOf_0 (by decide) ?_
  refine lv_lstore_n (lv' := [(3, .long (1 : Int64)), (0, .ref (hp1 0)), (1, .int x1), (2, .int x2)]) hx hb dX1_weightOf_1 rfl hl (by decide) rfl (fun ls hl => ?_)
  refine lv_iconst (v := (0 : Int32)) hx hb dX1_weightOf_2 (by decide) ?_
  refine lv_istore (lv' := [(5, .int (0 : Int32)), (3, .long (1 : Int64)), (0, .ref (hp1 0)), (1, .int x1), (2, .int x2)]) hx hb dX1_weightOf_3 hl (by decide) rfl (fun ls hl => ?_)
  exact w_X1_weightOf_5 l hp1 Sp1 x1 x2 C FU (1 : Int64) (0 : Int32) H locs ls hf hP hD hS (lv_sub hl [2, 3, 4, 1, 0] rfl)
def b_X1_stampsOf_5 (Sp1 : SRows) (x1 : Int32) (k5 : Int64 → Int32 → Option (Int64)) (v2 : Int64) (v4 : Int32) : Option (Int64) :=
  (if (6 : Int32) ≤ v4 then
    some v2
    else
    (if ((x1 >>> (v4 &&& 31)) &&& (1 : Int32)) = 0 then
      (k5 v2 (v4 + (1 : Int32)))
      else
      (f_X6_stampOf Sp1 v4).bind (fun q1 =>
        (f_X6_bitOf q1).bind (fun q2 =>
          (k5 (v2 ||| q2) (v4 + (1 : Int32)))))))
set_option maxHeartbeats 4000000 in
set_option maxRecDepth 100000 in
theorem w_X1_stampsOf_5 {p : Program} {e : Env} {s : State} {m : MethodId} {below : List Frame} {meth : Method} {c : Code} {A : Nat → Prop} {D : va_G} {cy : Nat → ClassId} {args : Array Value} {r : Int64} (l : Launch) (hp1 : Nat → Nat) (Sp1 : SRows) (x1 : Int32) (C : zX p s m meth c cX1_stampsOf 5 args RX1 (some FieldType.long) A D (zty cy)) :
    ∀ (n : Nat) (v2 : Int64) (v4 : Int32) (H : Heap) (locs : List Loc) (ls : Array Slot), zl2 (b_X1_stampsOf_5 Sp1 x1) n v2 v4 = some r → va_P D vwCl (wRows hp1 cy Sp1) H → va_D A (wRows hp1 cy Sp1) → va_S A s.heap H locs → lv_has ls 5 [(0, .ref (hp1 0)), (1, .int x1), (2, .long v2), (4, .int v4)] → W p l e (zRm 2 42) s m args below meth c H locs 0 0 (MQ below (zQL D (zty cy) A (wRows hp1 cy Sp1) r) args s 0 0 A) (F0 m 5 ls []) := by
  obtain ⟨hx, hb, hr, hts, hown, hlocks, hml, hA, hK⟩ := id C
  intro n
  induction n with
  | zero => intro v2 v4 H locs ls hf; exact zno hf
  | succ n ih =>
    intro v2 v4 H locs ls hf hP hD hS hl
    have hf : b_X1_stampsOf_5 Sp1 x1 (zl2 (b_X1_stampsOf_5 Sp1 x1) n) v2 v4 = some r := hf
    have K5 := ih
    refine lv_iload hx hb dX1_stampsOf_5 (lv_at hl 3 rfl) ?_
    refine lv_bipush (v := (6 : Int32)) hx hb dX1_stampsOf_7 (by decide) ?_
    refine z_icmp_ge (tgt := 39) hx hb dX1_stampsOf_9 (by decide) hf (fun hf => ?_) (fun hf => ?_)
    · refine lv_lload_n hx hb dX1_stampsOf_39 rfl (lv_at hl 2 rfl) ?_
      obtain rfl := Option.some.inj hf
      exact z_lret (v := v2) C hP hD hS dX1_stampsOf_40
    · refine lv_iload_n hx hb dX1_stampsOf_12 rfl (lv_at hl 1 rfl) ?_
      refine lv_iload hx hb dX1_stampsOf_13 (lv_at hl 3 rfl) ?_
      refine lv_ishr hx hb dX1_stampsOf_15 ?_
      refine lv_iconst (v := (1 : Int32)) hx hb dX1_stampsOf_16 (by decide) ?_
      refine lv_iand hx hb dX1_stampsOf_17 ?_
      refine z_if_eq (tgt := 33) hx hb dX1_stampsOf_18 (by decide) hf (fun hf => ?_) (fun hf => ?_)
      · refine lv_iinc (v := (v4 + (1 : Int32))) (lv' := [(4, .int (v4 + (1 : Int32))), (0, .ref (hp1 0)), (1, .int x1), (2, .long v2)]) hx hb dX1_stampsOf_33 hl (k := 3) rfl rfl (by decide) rfl (fun ls hl => ?_)
        refine lv_goto (tgt := 5) hx hb dX1_stampsOf_36 (by decide) ?_
        exact K5 v2 (v4 + (1 : Int32)) H locs ls hf hP hD hS (lv_sub hl [1, 2, 3, 0] rfl)
      · refine lv_lload_n hx hb dX1_stampsOf_21 rfl (lv_at hl 2 rfl) ?_
        refine lv_aload_n hx hb dX1_stampsOf_22 rfl (lv_at hl 0 rfl) ?_
        refine lv_iload hx hb dX1_stampsOf_23 (lv_at hl 3 rfl) ?_
        obtain ⟨q1, hc, hf⟩ := zbd hf
        refine z_cVi0 (As := [.int v4]) (rest := [.long v2]) C (c_X6_stampOf l D cy hp1 Sp1 v4 q1 hc) gV_X1_X6_stampOf hd_X6_stampOf ⟨Nat.le_of_ble_eq_true rfl, Nat.le_of_ble_eq_true rfl⟩ ⟨Nat.le_refl _, Nat.le_refl _⟩ (va_recv hK hP (ci := 3) (q0 := 0) rfl rfl) hP hD hS hl.1 (Nat.le_of_ble_eq_true rfl) dX1_stampsOf_25 (fun H locs hP hD hS => ?_)
        have hP : va_P D vwCl (wRows hp1 cy Sp1) H := hP
        have hD : va_D A (wRows hp1 cy Sp1) := hD
        obtain ⟨q2, hc, hf⟩ := zbd hf
        refine z_cSlE (As := [.int q1]) (rest := [.long v2]) C (c_X6_bitOf l D cy q1 q2 hc) gS_X1_X6_bitOf hd_X6_bitOf ⟨Nat.le_of_ble_eq_true rfl, Nat.le_of_ble_eq_true rfl⟩ ⟨Nat.le_refl _, Nat.le_refl _⟩ hP hD hS hl.1 (Nat.le_of_ble_eq_true rfl) dX1_stampsOf_28 (fun H locs hP hD hS => ?_)
        refine lv_lor hx hb dX1_stampsOf_31 ?_
        refine lv_lstore_n (lv' := [(2, .long (v2 ||| q2)), (0, .ref (hp1 0)), (1, .int x1), (4, .int v4)]) hx hb dX1_stampsOf_32 rfl hl (by decide) rfl (fun ls hl => ?_)
        refine lv_iinc (v := (v4 + (1 : Int32))) (lv' := [(4, .int (v4 + (1 : Int32))), (2, .long (v2 ||| q2)), (0, .ref (hp1 0)), (1, .int x1)]) hx hb dX1_stampsOf_33 hl (k := 3) rfl rfl (by decide) rfl (fun ls hl => ?_)
        refine lv_goto (tgt := 5) hx hb dX1_stampsOf_36 (by decide) ?_
        exact K5 (v2 ||| q2) (v4 + (1 : Int32)) H locs ls hf hP hD hS (lv_sub hl [2, 3, 1, 0] rfl)
def f_X1_stampsOf (Sp1 : SRows) (x1 : Int32) : Option (Int64) :=
  (zl2 (b_X1_stampsOf_5 Sp1 x1) FU (0 : Int64) (0 : Int32))
set_option maxHeartbeats 4000000 in
set_option maxRecDepth 100000 in
theorem c_X1_stampsOf (l : Launch) (D : va_G) (cy : Nat → ClassId) (hp1 : Nat → Nat) (Sp1 : SRows) (x1 : Int32) (r : Int64) (hf : f_X1_stampsOf Sp1 x1 = some r) : zCL l yX1_stampsOf cX1_stampsOf 5 (some FieldType.long) 2 42 D (zty cy) [.ref (hp1 0), .int x1] (wRows hp1 cy Sp1) (wRows hp1 cy Sp1) r := by
  refine zCL_of (by decide +kernel) (Nat.le_of_ble_eq_true rfl) ?_
  intro p e s m below meth c A ls C hP hD hS hl
  generalize hargs : ([.ref (hp1 0), .int x1] : List Value).toArray = args at C ⊢
  have C : zX p s m meth c cX1_stampsOf 5 args RX1 (some FieldType.long) A D (zty cy) := C
  obtain ⟨hx, hb, hr, hts, hown, hlocks, hml, hA, hK⟩ := id C
  have hl : lv_has ls 5 [(0, .ref (hp1 0)), (1, .int x1)] := hl
  generalize hH : s.heap = H at hP ⊢
  have hS : va_S A s.heap H [] := by rw [← hH]; exact hS
  generalize ([] : List Loc) = locs at hS ⊢
  refine lv_lconst (v := (0 : Int64)) hx hb dX1_stampsOf_0 (by decide) ?_
  refine lv_lstore_n (lv' := [(2, .long (0 : Int64)), (0, .ref (hp1 0)), (1, .int x1)]) hx hb dX1_stampsOf_1 rfl hl (by decide) rfl (fun ls hl => ?_)
  refine lv_iconst (v := (0 : Int32)) hx hb dX1_stampsOf_2 (by decide) ?_
  refine lv_istore (lv' := [(4, .int (0 : Int32)), (2, .long (0 : Int64)), (0, .ref (hp1 0)), (1, .int x1)]) hx hb dX1_stampsOf_3 hl (by decide) rfl (fun ls hl => ?_)
  exact w_X1_stampsOf_5 l hp1 Sp1 x1 C FU (0 : Int64) (0 : Int32) H locs ls hf hP hD hS (lv_sub hl [2, 3, 1, 0] rfl)
def b_X1_weightOfValue_17 (Sp1 : SRows) (x1 : Int32) (x2 : Int32) (k17 : Int32 → Int64 → Int64 → Int32 → Option (Int64)) (v3 : Int32) (v4 : Int64) (v6 : Int64) (v8 : Int32) : Option (Int64) :=
  (if (64 : Int32) ≤ v8 then
    some v6
    else
    (if (v8 &&& (v3 ^^^ (-1 : Int32))) = 0 then
      (f_X1_stampsOf Sp1 v8).bind (fun q1 =>
        (f_X6_valueSeen Sp1 x1 (v4 ||| q1)).bind (fun q2 =>
          (if q2 = x2 then
            (f_X1_weightOf Sp1 v3 v8).bind (fun q3 =>
              (k17 v3 v4 (v6 + q3) (v8 + (1 : Int32))))
            else
            (k17 v3 v4 v6 (v8 + (1 : Int32))))))
      else
      (k17 v3 v4 v6 (v8 + (1 : Int32)))))
set_option maxHeartbeats 4000000 in
set_option maxRecDepth 100000 in
theorem w_X1_weightOfValue_17 {p : Program} {e : Env} {s : State} {m : MethodId} {below : List Frame} {meth : Method} {c : Code} {A : Nat → Prop} {D : va_G} {cy : Nat → ClassId} {args : Array Value} {r : Int64} (l : Launch) (hp1 : Nat → Nat) (Sp1 : SRows) (x1 : Int32) (x2 : Int32) (C : zX p s m meth c cX1_weightOfValue 9 args RX1 (some FieldType.long) A D (zty cy)) :
    ∀ (n : Nat) (v3 : Int32) (v4 : Int64) (v6 : Int64) (v8 : Int32) (H : Heap) (locs : List Loc) (ls : Array Slot), zl4 (b_X1_weightOfValue_17 Sp1 x1 x2) n v3 v4 v6 v8 = some r → va_P D vwCl (wRows hp1 cy Sp1) H → va_D A (wRows hp1 cy Sp1) → va_S A s.heap H locs → lv_has ls 9 [(0, .ref (hp1 0)), (1, .int x1), (2, .int x2), (3, .int v3), (4, .long v4), (6, .long v6), (8, .int v8)] → W p l e (zRm 4 94) s m args below meth c H locs 0 0 (MQ below (zQL D (zty cy) A (wRows hp1 cy Sp1) r) args s 0 0 A) (F0 m 17 ls []) := by
  obtain ⟨hx, hb, hr, hts, hown, hlocks, hml, hA, hK⟩ := id C
  intro n
  induction n with
  | zero => intro v3 v4 v6 v8 H locs ls hf; exact zno hf
  | succ n ih =>
    intro v3 v4 v6 v8 H locs ls hf hP hD hS hl
    have hf : b_X1_weightOfValue_17 Sp1 x1 x2 (zl4 (b_X1_weightOfValue_17 Sp1 x1 x2) n) v3 v4 v6 v8 = some r := hf
    have K17 := ih
    refine lv_iload hx hb dX1_weightOfValue_17 (lv_at hl 6 rfl) ?_
    refine lv_bipush (v := (64 : Int32)) hx hb dX1_weightOfValue_19 (by decide) ?_
    refine z_icmp_ge (tgt := 69) hx hb dX1_weightOfValue_21 (by decide) hf (fun hf => ?_) (fun hf => ?_)
    · refine lv_lload hx hb dX1_weightOfValue_69 (lv_at hl 5 rfl) ?_
      obtain rfl := Option.some.inj hf
      exact z_lret (v := v6) C hP hD hS dX1_weightOfValue_71
    · refine lv_iload hx hb dX1_weightOfValue_24 (lv_at hl 6 rfl) ?_
      refine lv_iload_n hx hb dX1_weightOfValue_26 rfl (lv_at hl 3 rfl) ?_
      refine lv_iconst (v := (-1 : Int32)) hx hb dX1_weightOfValue_27 (by decide) ?_
      refine lv_ixor hx hb dX1_weightOfValue_28 ?_
      refine lv_iand hx hb dX1_weightOfValue_29 ?_
      refine z_if_ne (tgt := 63) hx hb dX1_weightOfValue_30 (by decide) hf (fun hf => ?_) (fun hf => ?_)
      · refine lv_iinc (v := (v8 + (1 : Int32))) (lv' := [(8, .int (v8 + (1 : Int32))), (0, .ref (hp1 0)), (1, .int x1), (2, .int x2), (3, .int v3), (4, .long v4), (6, .long v6)]) hx hb dX1_weightOfValue_63 hl (k := 6) rfl rfl (by decide) rfl (fun ls hl => ?_)
        refine lv_goto (tgt := 17) hx hb dX1_weightOfValue_66 (by decide) ?_
        exact K17 v3 v4 v6 (v8 + (1 : Int32)) H locs ls hf hP hD hS (lv_sub hl [1, 2, 3, 4, 5, 6, 0] rfl)
      · refine lv_aload_n hx hb dX1_weightOfValue_33 rfl (lv_at hl 0 rfl) ?_
        refine lv_iload_n hx hb dX1_weightOfValue_34 rfl (lv_at hl 1 rfl) ?_
        refine lv_lload hx hb dX1_weightOfValue_35 (lv_at hl 4 rfl) ?_
        refine lv_aload_n hx hb dX1_weightOfValue_37 rfl (lv_at hl 0 rfl) ?_
        refine lv_iload hx hb dX1_weightOfValue_38 (lv_at hl 6 rfl) ?_
        obtain ⟨q1, hc, hf⟩ := zbd hf
        refine z_cSl0 (As := [.ref (hp1 0), .int v8]) (rest := [.long v4, .int x1, .ref (hp1 0)]) C (c_X1_stampsOf l D cy hp1 Sp1 v8 q1 hc) gS_X1_X1_stampsOf hd_X1_stampsOf ⟨Nat.le_of_ble_eq_true rfl, Nat.le_of_ble_eq_true rfl⟩ ⟨Nat.le_refl _, Nat.le_refl _⟩ hP hD hS hl.1 (Nat.le_of_ble_eq_true rfl) dX1_weightOfValue_40 (fun H locs hP hD hS => ?_)
        have hP : va_P D vwCl (wRows hp1 cy Sp1) H := hP
        have hD : va_D A (wRows hp1 cy Sp1) := hD
        refine lv_lor hx hb dX1_weightOfValue_43 ?_
        obtain ⟨q2, hc, hf⟩ := zbd hf
        refine z_cVi0 (As := [.int x1, .long (v4 ||| q1)]) (rest := []) C (c_X6_valueSeen l D cy hp1 Sp1 x1 (v4 ||| q1) q2 hc) gV_X1_X6_valueSeen hd_X6_valueSeen ⟨Nat.le_of_ble_eq_true rfl, Nat.le_of_ble_eq_true rfl⟩ ⟨Nat.le_refl _, Nat.le_refl _⟩ (va_recv hK hP (ci := 3) (q0 := 0) rfl rfl) hP hD hS hl.1 (Nat.le_of_ble_eq_true rfl) dX1_weightOfValue_44 (fun H locs hP hD hS => ?_)
        have hP : va_P D vwCl (wRows hp1 cy Sp1) H := hP
        have hD : va_D A (wRows hp1 cy Sp1) := hD
        refine lv_iload_n hx hb dX1_weightOfValue_47 rfl (lv_at hl 2 rfl) ?_
        refine z_icmp_ne (tgt := 63) hx hb dX1_weightOfValue_48 (by decide) hf (fun hf => ?_) (fun hf => ?_)
        · refine lv_iinc (v := (v8 + (1 : Int32))) (lv' := [(8, .int (v8 + (1 : Int32))), (0, .ref (hp1 0)), (1, .int x1), (2, .int x2), (3, .int v3), (4, .long v4), (6, .long v6)]) hx hb dX1_weightOfValue_63 hl (k := 6) rfl rfl (by decide) rfl (fun ls hl => ?_)
          refine lv_goto (tgt := 17) hx hb dX1_weightOfValue_66 (by decide) ?_
          exact K17 v3 v4 v6 (v8 + (1 : Int32)) H locs ls hf hP hD hS (lv_sub hl [1, 2, 3, 4, 5, 6, 0] rfl)
        · refine lv_lload hx hb dX1_weightOfValue_51 (lv_at hl 5 rfl) ?_
          refine lv_aload_n hx hb dX1_weightOfValue_53 rfl (lv_at hl 0 rfl) ?_
          refine lv_iload_n hx hb dX1_weightOfValue_54 rfl (lv_at hl 3 rfl) ?_
          refine lv_iload hx hb dX1_weightOfValue_55 (lv_at hl 6 rfl) ?_
          obtain ⟨q3, hc, hf⟩ := zbd hf
          refine z_cSl0 (As := [.ref (hp1 0), .int v3, .int v8]) (rest := [.long v6]) C (c_X1_weightOf l D cy hp1 Sp1 v3 v8 q3 hc) gS_X1_X1_weightOf hd_X1_weightOf ⟨Nat.le_of_ble_eq_true rfl, Nat.le_of_ble_eq_true rfl⟩ ⟨Nat.le_refl _, Nat.le_refl _⟩ hP hD hS hl.1 (Nat.le_of_ble_eq_true rfl) dX1_weightOfValue_57 (fun H locs hP hD hS => ?_)
          have hP : va_P D vwCl (wRows hp1 cy Sp1) H := hP
          have hD : va_D A (wRows hp1 cy Sp1) := hD
          refine lv_ladd hx hb dX1_weightOfValue_60 ?_
          refine lv_lstore (lv' := [(6, .long (v6 + q3)), (0, .ref (hp1 0)), (1, .int x1), (2, .int x2), (3, .int v3), (4, .long v4), (8, .int v8)]) hx hb dX1_weightOfValue_61 hl (by decide) rfl (fun ls hl => ?_)
          refine lv_iinc (v := (v8 + (1 : Int32))) (lv' := [(8, .int (v8 + (1 : Int32))), (6, .long (v6 + q3)), (0, .ref (hp1 0)), (1, .int x1), (2, .int x2), (3, .int v3), (4, .long v4)]) hx hb dX1_weightOfValue_63 hl (k := 6) rfl rfl (by decide) rfl (fun ls hl => ?_)
          refine lv_goto (tgt := 17) hx hb dX1_weightOfValue_66 (by decide) ?_
          exact K17 v3 v4 (v6 + q3) (v8 + (1 : Int32)) H locs ls hf hP hD hS (lv_sub hl [2, 3, 4, 5, 6, 1, 0] rfl)
def f_X1_weightOfValue (Sp1 : SRows) (x1 : Int32) (x2 : Int32) : Option (Int64) :=
  (f_X1_uncertain Sp1).bind (fun q4 =>
    (f_X6_countingFresh Sp1).bind (fun q5 =>
      (zl4 (b_X1_weightOfValue_17 Sp1 x1 x2) FU q4 q5 (0 : Int64) (0 : Int32))))
set_option maxHeartbeats 4000000 in
set_option maxRecDepth 100000 in
theorem c_X1_weightOfValue (l : Launch) (D : va_G) (cy : Nat → ClassId) (hp1 : Nat → Nat) (Sp1 : SRows) (x1 : Int32) (x2 : Int32) (r : Int64) (hf : f_X1_weightOfValue Sp1 x1 x2 = some r) : zCL l yX1_weightOfValue cX1_weightOfValue 9 (some FieldType.long) 4 94 D (zty cy) [.ref (hp1 0), .int x1, .int x2] (wRows hp1 cy Sp1) (wRows hp1 cy Sp1) r := by
  refine zCL_of (by decide +kernel) (Nat.le_of_ble_eq_true rfl) ?_
  intro p e s m below meth c A ls C hP hD hS hl
  generalize hargs : ([.ref (hp1 0), .int x1, .int x2] : List Value).toArray = args at C ⊢
  have C : zX p s m meth c cX1_weightOfValue 9 args RX1 (some FieldType.long) A D (zty cy) := C
  obtain ⟨hx, hb, hr, hts, hown, hlocks, hml, hA, hK⟩ := id C
  have hl : lv_has ls 9 [(0, .ref (hp1 0)), (1, .int x1), (2, .int x2)] := hl
  generalize hH : s.heap = H at hP ⊢
  have hS : va_S A s.heap H [] := by rw [← hH]; exact hS
  generalize ([] : List Loc) = locs at hS ⊢
  refine lv_aload_n hx hb dX1_weightOfValue_0 rfl (lv_at hl 0 rfl) ?_
  obtain ⟨q4, hc, hf⟩ := zbd hf
  refine z_cSi0 (As := [.ref (hp1 0)]) (rest := []) C (c_X1_uncertain l D cy hp1 Sp1 q4 hc) gS_X1_X1_uncertain hd_X1_uncertain ⟨Nat.le_of_ble_eq_true rfl, Nat.le_of_ble_eq_true rfl⟩ ⟨Nat.le_refl _, Nat.le_refl _⟩ hP hD hS hl.1 (Nat.le_of_ble_eq_true rfl) dX1_weightOfValue_1 (fun H locs hP hD hS => ?_)
  have hP : va_P D vwCl (wRows hp1 cy Sp1) H := hP
  have hD : va_D A (wRows hp1 cy Sp1) := hD
  refine lv_istore_n (lv' := [(3, .int q4), (0, .ref (hp1 0)), (1, .int x1), (2, .int x2)]) hx hb dX1_weightOfValue_4 rfl hl (by decide) rfl (fun ls hl => ?_)
  refine lv_aload_n hx hb dX1_weightOfValue_5 rfl (lv_at hl 1 rfl) ?_
  obtain ⟨q5, hc, hf⟩ := zbd hf
  refine z_cVl0 (As := []) (rest := []) C (c_X6_countingFresh l D cy hp1 Sp1 q5 hc) gV_X1_X6_countingFresh hd_X6_countingFresh ⟨Nat.le_of_ble_eq_true rfl, Nat.le_of_ble_eq_true rfl⟩ ⟨Nat.le_refl _, Nat.le_refl _⟩ (va_recv hK hP (ci := 3) (q0 := 0) rfl rfl) hP hD hS hl.1 (Nat.le_of_ble_eq_true rfl) dX1_weightOfValue_6 (fun H locs hP hD hS => ?_)
  have hP : va_P D vwCl (wRows hp1 cy Sp1) H := hP
  have hD : va_D A (wRows hp1 cy Sp1) := hD
  refine lv_lstore (lv' := [(4, .long q5), (3, .int q4), (0, .ref (hp1 0)), (1, .int x1), (2, .int x2)]) hx hb dX1_weightOfValue_9 hl (by decide) rfl (fun ls hl => ?_)
  refine lv_lconst (v := (0 : Int64)) hx hb dX1_weightOfValue_11 (by decide) ?_
  refine lv_lstore (lv' := [(6, .long (0 : Int64)), (4, .long q5), (3, .int q4), (0, .ref (hp1 0)), (1, .int x1), (2, .int x2)]) hx hb dX1_weightOfValue_12 hl (by decide) rfl (fun ls hl => ?_)
  refine lv_iconst (v := (0 : Int32)) hx hb dX1_weightOfValue_14 (by decide) ?_
  refine lv_istore (lv' := [(8, .int (0 : Int32)), (6, .long (0 : Int64)), (4, .long q5), (3, .int q4), (0, .ref (hp1 0)), (1, .int x1), (2, .int x2)]) hx hb dX1_weightOfValue_15 hl (by decide) rfl (fun ls hl => ?_)
  exact w_X1_weightOfValue_17 l hp1 Sp1 x1 x2 C FU q4 q5 (0 : Int64) (0 : Int32) H locs ls hf hP hD hS (lv_sub hl [4, 5, 6, 3, 2, 1, 0] rfl)
def b_X1_weightedSum_16 (Sp1 : SRows) (k16 : Int32 → Int64 → Int64 → Int32 → Option (Int64)) (v1 : Int32) (v2 : Int64) (v4 : Int64) (v6 : Int32) : Option (Int64) :=
  (if (64 : Int32) ≤ v6 then
    some v4
    else
    (if (v6 &&& (v1 ^^^ (-1 : Int32))) = 0 then
      (f_X1_weightOf Sp1 v1 v6).bind (fun q1 =>
        (f_X1_stampsOf Sp1 v6).bind (fun q2 =>
          (f_X6_sumSeen Sp1 (v2 ||| q2)).bind (fun q3 =>
            (k16 v1 v2 (v4 + (q1 * (q3.toInt64))) (v6 + (1 : Int32))))))
      else
      (k16 v1 v2 v4 (v6 + (1 : Int32)))))
set_option maxHeartbeats 4000000 in
set_option maxRecDepth 100000 in
theorem w_X1_weightedSum_16 {p : Program} {e : Env} {s : State} {m : MethodId} {below : List Frame} {meth : Method} {c : Code} {A : Nat → Prop} {D : va_G} {cy : Nat → ClassId} {args : Array Value} {r : Int64} (l : Launch) (hp1 : Nat → Nat) (Sp1 : SRows) (C : zX p s m meth c cX1_weightedSum 7 args RX1 (some FieldType.long) A D (zty cy)) :
    ∀ (n : Nat) (v1 : Int32) (v2 : Int64) (v4 : Int64) (v6 : Int32) (H : Heap) (locs : List Loc) (ls : Array Slot), zl4 (b_X1_weightedSum_16 Sp1) n v1 v2 v4 v6 = some r → va_P D vwCl (wRows hp1 cy Sp1) H → va_D A (wRows hp1 cy Sp1) → va_S A s.heap H locs → lv_has ls 7 [(0, .ref (hp1 0)), (1, .int v1), (2, .long v2), (4, .long v4), (6, .int v6)] → W p l e (zRm 3 72) s m args below meth c H locs 0 0 (MQ below (zQL D (zty cy) A (wRows hp1 cy Sp1) r) args s 0 0 A) (F0 m 16 ls []) := by
  obtain ⟨hx, hb, hr, hts, hown, hlocks, hml, hA, hK⟩ := id C
  intro n
  induction n with
  | zero => intro v1 v2 v4 v6 H locs ls hf; exact zno hf
  | succ n ih =>
    intro v1 v2 v4 v6 H locs ls hf hP hD hS hl
    have hf : b_X1_weightedSum_16 Sp1 (zl4 (b_X1_weightedSum_16 Sp1) n) v1 v2 v4 v6 = some r := hf
    have K16 := ih
    refine lv_iload hx hb dX1_weightedSum_16 (lv_at hl 4 rfl) ?_
    refine lv_bipush (v := (64 : Int32)) hx hb dX1_weightedSum_18 (by decide) ?_
    refine z_icmp_ge (tgt := 64) hx hb dX1_weightedSum_20 (by decide) hf (fun hf => ?_) (fun hf => ?_)
    · refine lv_lload hx hb dX1_weightedSum_64 (lv_at hl 3 rfl) ?_
      obtain rfl := Option.some.inj hf
      exact z_lret (v := v4) C hP hD hS dX1_weightedSum_66
    · refine lv_iload hx hb dX1_weightedSum_23 (lv_at hl 4 rfl) ?_
      refine lv_iload_n hx hb dX1_weightedSum_25 rfl (lv_at hl 1 rfl) ?_
      refine lv_iconst (v := (-1 : Int32)) hx hb dX1_weightedSum_26 (by decide) ?_
      refine lv_ixor hx hb dX1_weightedSum_27 ?_
      refine lv_iand hx hb dX1_weightedSum_28 ?_
      refine z_if_ne (tgt := 58) hx hb dX1_weightedSum_29 (by decide) hf (fun hf => ?_) (fun hf => ?_)
      · refine lv_iinc (v := (v6 + (1 : Int32))) (lv' := [(6, .int (v6 + (1 : Int32))), (0, .ref (hp1 0)), (1, .int v1), (2, .long v2), (4, .long v4)]) hx hb dX1_weightedSum_58 hl (k := 4) rfl rfl (by decide) rfl (fun ls hl => ?_)
        refine lv_goto (tgt := 16) hx hb dX1_weightedSum_61 (by decide) ?_
        exact K16 v1 v2 v4 (v6 + (1 : Int32)) H locs ls hf hP hD hS (lv_sub hl [1, 2, 3, 4, 0] rfl)
      · refine lv_lload hx hb dX1_weightedSum_32 (lv_at hl 3 rfl) ?_
        refine lv_aload_n hx hb dX1_weightedSum_34 rfl (lv_at hl 0 rfl) ?_
        refine lv_iload_n hx hb dX1_weightedSum_35 rfl (lv_at hl 1 rfl) ?_
        refine lv_iload hx hb dX1_weightedSum_36 (lv_at hl 4 rfl) ?_
        obtain ⟨q1, hc, hf⟩ := zbd hf
        refine z_cSl0 (As := [.ref (hp1 0), .int v1, .int v6]) (rest := [.long v4]) C (c_X1_weightOf l D cy hp1 Sp1 v1 v6 q1 hc) gS_X1_X1_weightOf hd_X1_weightOf ⟨Nat.le_of_ble_eq_true rfl, Nat.le_of_ble_eq_true rfl⟩ ⟨Nat.le_refl _, Nat.le_refl _⟩ hP hD hS hl.1 (Nat.le_of_ble_eq_true rfl) dX1_weightedSum_38 (fun H locs hP hD hS => ?_)
        have hP : va_P D vwCl (wRows hp1 cy Sp1) H := hP
        have hD : va_D A (wRows hp1 cy Sp1) := hD
        refine lv_aload_n hx hb dX1_weightedSum_41 rfl (lv_at hl 0 rfl) ?_
        refine lv_lload_n hx hb dX1_weightedSum_42 rfl (lv_at hl 2 rfl) ?_
        refine lv_aload_n hx hb dX1_weightedSum_43 rfl (lv_at hl 0 rfl) ?_
        refine lv_iload hx hb dX1_weightedSum_44 (lv_at hl 4 rfl) ?_
        obtain ⟨q2, hc, hf⟩ := zbd hf
        refine z_cSl0 (As := [.ref (hp1 0), .int v6]) (rest := [.long v2, .ref (hp1 0), .long q1, .long v4]) C (c_X1_stampsOf l D cy hp1 Sp1 v6 q2 hc) gS_X1_X1_stampsOf hd_X1_stampsOf ⟨Nat.le_of_ble_eq_true rfl, Nat.le_of_ble_eq_true rfl⟩ ⟨Nat.le_refl _, Nat.le_refl _⟩ hP hD hS hl.1 (Nat.le_of_ble_eq_true rfl) dX1_weightedSum_46 (fun H locs hP hD hS => ?_)
        have hP : va_P D vwCl (wRows hp1 cy Sp1) H := hP
        have hD : va_D A (wRows hp1 cy Sp1) := hD
        refine lv_lor hx hb dX1_weightedSum_49 ?_
        obtain ⟨q3, hc, hf⟩ := zbd hf
        refine z_cVi0 (As := [.long (v2 ||| q2)]) (rest := [.long q1, .long v4]) C (c_X6_sumSeen l D cy hp1 Sp1 (v2 ||| q2) q3 hc) gV_X1_X6_sumSeen hd_X6_sumSeen ⟨Nat.le_of_ble_eq_true rfl, Nat.le_of_ble_eq_true rfl⟩ ⟨Nat.le_refl _, Nat.le_refl _⟩ (va_recv hK hP (ci := 3) (q0 := 0) rfl rfl) hP hD hS hl.1 (Nat.le_of_ble_eq_true rfl) dX1_weightedSum_50 (fun H locs hP hD hS => ?_)
        have hP : va_P D vwCl (wRows hp1 cy Sp1) H := hP
        have hD : va_D A (wRows hp1 cy Sp1) := hD
        refine lv_i2l (v := q3.toInt64) hx hb dX1_weightedSum_53 rfl ?_
        refine lv_lmul hx hb dX1_weightedSum_54 ?_
        refine lv_ladd hx hb dX1_weightedSum_55 ?_
        refine lv_lstore (lv' := [(4, .long (v4 + (q1 * (q3.toInt64)))), (0, .ref (hp1 0)), (1, .int v1), (2, .long v2), (6, .int v6)]) hx hb dX1_weightedSum_56 hl (by decide) rfl (fun ls hl => ?_)
        refine lv_iinc (v := (v6 + (1 : Int32))) (lv' := [(6, .int (v6 + (1 : Int32))), (4, .long (v4 + (q1 * (q3.toInt64)))), (0, .ref (hp1 0)), (1, .int v1), (2, .long v2)]) hx hb dX1_weightedSum_58 hl (k := 4) rfl rfl (by decide) rfl (fun ls hl => ?_)
        refine lv_goto (tgt := 16) hx hb dX1_weightedSum_61 (by decide) ?_
        exact K16 v1 v2 (v4 + (q1 * (q3.toInt64))) (v6 + (1 : Int32)) H locs ls hf hP hD hS (lv_sub hl [2, 3, 4, 1, 0] rfl)
def f_X1_weightedSum (Sp1 : SRows) : Option (Int64) :=
  (f_X1_uncertain Sp1).bind (fun q4 =>
    (f_X6_countingFresh Sp1).bind (fun q5 =>
      (zl4 (b_X1_weightedSum_16 Sp1) FU q4 q5 (0 : Int64) (0 : Int32))))
set_option maxHeartbeats 4000000 in
set_option maxRecDepth 100000 in
theorem c_X1_weightedSum (l : Launch) (D : va_G) (cy : Nat → ClassId) (hp1 : Nat → Nat) (Sp1 : SRows) (r : Int64) (hf : f_X1_weightedSum Sp1 = some r) : zCL l yX1_weightedSum cX1_weightedSum 7 (some FieldType.long) 3 72 D (zty cy) [.ref (hp1 0)] (wRows hp1 cy Sp1) (wRows hp1 cy Sp1) r := by
  refine zCL_of (by decide +kernel) (Nat.le_of_ble_eq_true rfl) ?_
  intro p e s m below meth c A ls C hP hD hS hl
  generalize hargs : ([.ref (hp1 0)] : List Value).toArray = args at C ⊢
  have C : zX p s m meth c cX1_weightedSum 7 args RX1 (some FieldType.long) A D (zty cy) := C
  obtain ⟨hx, hb, hr, hts, hown, hlocks, hml, hA, hK⟩ := id C
  have hl : lv_has ls 7 [(0, .ref (hp1 0))] := hl
  generalize hH : s.heap = H at hP ⊢
  have hS : va_S A s.heap H [] := by rw [← hH]; exact hS
  generalize ([] : List Loc) = locs at hS ⊢
  refine lv_aload_n hx hb dX1_weightedSum_0 rfl (lv_at hl 0 rfl) ?_
  obtain ⟨q4, hc, hf⟩ := zbd hf
  refine z_cSi0 (As := [.ref (hp1 0)]) (rest := []) C (c_X1_uncertain l D cy hp1 Sp1 q4 hc) gS_X1_X1_uncertain hd_X1_uncertain ⟨Nat.le_of_ble_eq_true rfl, Nat.le_of_ble_eq_true rfl⟩ ⟨Nat.le_refl _, Nat.le_refl _⟩ hP hD hS hl.1 (Nat.le_of_ble_eq_true rfl) dX1_weightedSum_1 (fun H locs hP hD hS => ?_)
  have hP : va_P D vwCl (wRows hp1 cy Sp1) H := hP
  have hD : va_D A (wRows hp1 cy Sp1) := hD
  refine lv_istore_n (lv' := [(1, .int q4), (0, .ref (hp1 0))]) hx hb dX1_weightedSum_4 rfl hl (by decide) rfl (fun ls hl => ?_)
  refine lv_aload_n hx hb dX1_weightedSum_5 rfl (lv_at hl 1 rfl) ?_
  obtain ⟨q5, hc, hf⟩ := zbd hf
  refine z_cVl0 (As := []) (rest := []) C (c_X6_countingFresh l D cy hp1 Sp1 q5 hc) gV_X1_X6_countingFresh hd_X6_countingFresh ⟨Nat.le_of_ble_eq_true rfl, Nat.le_of_ble_eq_true rfl⟩ ⟨Nat.le_refl _, Nat.le_refl _⟩ (va_recv hK hP (ci := 3) (q0 := 0) rfl rfl) hP hD hS hl.1 (Nat.le_of_ble_eq_true rfl) dX1_weightedSum_6 (fun H locs hP hD hS => ?_)
  have hP : va_P D vwCl (wRows hp1 cy Sp1) H := hP
  have hD : va_D A (wRows hp1 cy Sp1) := hD
  refine lv_lstore_n (lv' := [(2, .long q5), (1, .int q4), (0, .ref (hp1 0))]) hx hb dX1_weightedSum_9 rfl hl (by decide) rfl (fun ls hl => ?_)
  refine lv_lconst (v := (0 : Int64)) hx hb dX1_weightedSum_10 (by decide) ?_
  refine lv_lstore (lv' := [(4, .long (0 : Int64)), (2, .long q5), (1, .int q4), (0, .ref (hp1 0))]) hx hb dX1_weightedSum_11 hl (by decide) rfl (fun ls hl => ?_)
  refine lv_iconst (v := (0 : Int32)) hx hb dX1_weightedSum_13 (by decide) ?_
  refine lv_istore (lv' := [(6, .int (0 : Int32)), (4, .long (0 : Int64)), (2, .long q5), (1, .int q4), (0, .ref (hp1 0))]) hx hb dX1_weightedSum_14 hl (by decide) rfl (fun ls hl => ?_)
  exact w_X1_weightedSum_16 l hp1 Sp1 C FU q4 q5 (0 : Int64) (0 : Int32) H locs ls hf hP hD hS (lv_sub hl [4, 3, 2, 1, 0] rfl)
def b_X1_countingByDraws_11 (Sp1 : SRows) (x1 : Int32) (k11 : Int64 → Int32 → Int32 → Option (Int64)) (v2 : Int64) (v4 : Int32) (v5 : Int32) : Option (Int64) :=
  (if (6 : Int32) ≤ v5 then
    some v2
    else
    (f_X6_runs Sp1 v5).bind (fun q1 =>
      (if q1 = 0 then
        (k11 v2 v4 (v5 + (1 : Int32)))
        else
        (if (((((75 : Int32) * v4) + (74 : Int32)) - (((75 : Int32) * v4) + (74 : Int32)) / (65537 : Int32) * (65537 : Int32)) - ((((75 : Int32) * v4) + (74 : Int32)) - (((75 : Int32) * v4) + (74 : Int32)) / (65537 : Int32) * (65537 : Int32)) / (100 : Int32) * (100 : Int32)) < (Rows_crash Sp1) then
          (k11 v2 ((((75 : Int32) * v4) + (74 : Int32)) - (((75 : Int32) * v4) + (74 : Int32)) / (65537 : Int32) * (65537 : Int32)) (v5 + (1 : Int32)))
          else
          (f_X6_hasLost Sp1 v5).bind (fun q2 =>
            (if q2 = 0 then
              (f_X6_stampOf Sp1 v5).bind (fun q3 =>
                (f_X6_bitOf q3).bind (fun q4 =>
                  (k11 (v2 ||| q4) ((((75 : Int32) * v4) + (74 : Int32)) - (((75 : Int32) * v4) + (74 : Int32)) / (65537 : Int32) * (65537 : Int32)) (v5 + (1 : Int32)))))
              else
              (k11 v2 ((((75 : Int32) * v4) + (74 : Int32)) - (((75 : Int32) * v4) + (74 : Int32)) / (65537 : Int32) * (65537 : Int32)) (v5 + (1 : Int32)))))))))
set_option maxHeartbeats 4000000 in
set_option maxRecDepth 100000 in
theorem w_X1_countingByDraws_11 {p : Program} {e : Env} {s : State} {m : MethodId} {below : List Frame} {meth : Method} {c : Code} {A : Nat → Prop} {D : va_G} {cy : Nat → ClassId} {args : Array Value} {r : Int64} (l : Launch) (hp1 : Nat → Nat) (Sp1 : SRows) (x1 : Int32) (C : zX p s m meth c cX1_countingByDraws 6 args RX1 (some FieldType.long) A D (zty cy)) :
    ∀ (n : Nat) (v2 : Int64) (v4 : Int32) (v5 : Int32) (H : Heap) (locs : List Loc) (ls : Array Slot), zl3 (b_X1_countingByDraws_11 Sp1 x1) n v2 v4 v5 = some r → va_P D vwCl (wRows hp1 cy Sp1) H → va_D A (wRows hp1 cy Sp1) → va_S A s.heap H locs → lv_has ls 6 [(0, .ref (hp1 0)), (2, .long v2), (4, .int v4), (5, .int v5)] → W p l e (zRm 2 42) s m args below meth c H locs 0 0 (MQ below (zQL D (zty cy) A (wRows hp1 cy Sp1) r) args s 0 0 A) (F0 m 11 ls []) := by
  obtain ⟨hx, hb, hr, hts, hown, hlocks, hml, hA, hK⟩ := id C
  intro n
  induction n with
  | zero => intro v2 v4 v5 H locs ls hf; exact zno hf
  | succ n ih =>
    intro v2 v4 v5 H locs ls hf hP hD hS hl
    have hf : b_X1_countingByDraws_11 Sp1 x1 (zl3 (b_X1_countingByDraws_11 Sp1 x1) n) v2 v4 v5 = some r := hf
    have K11 := ih
    refine lv_iload hx hb dX1_countingByDraws_11 (lv_at hl 3 rfl) ?_
    refine lv_bipush (v := (6 : Int32)) hx hb dX1_countingByDraws_13 (by decide) ?_
    refine z_icmp_ge (tgt := 82) hx hb dX1_countingByDraws_15 (by decide) hf (fun hf => ?_) (fun hf => ?_)
    · refine lv_lload_n hx hb dX1_countingByDraws_82 rfl (lv_at hl 1 rfl) ?_
      obtain rfl := Option.some.inj hf
      exact z_lret (v := v2) C hP hD hS dX1_countingByDraws_83
    · refine lv_aload_n hx hb dX1_countingByDraws_18 rfl (lv_at hl 0 rfl) ?_
      refine lv_iload hx hb dX1_countingByDraws_19 (lv_at hl 3 rfl) ?_
      obtain ⟨q1, hc, hf⟩ := zbd hf
      refine z_cVi0 (As := [.int v5]) (rest := []) C (c_X6_runs l D cy hp1 Sp1 v5 q1 hc) gV_X1_X6_runs hd_X6_runs ⟨Nat.le_of_ble_eq_true rfl, Nat.le_of_ble_eq_true rfl⟩ ⟨Nat.le_refl _, Nat.le_refl _⟩ (va_recv hK hP (ci := 3) (q0 := 0) rfl rfl) hP hD hS hl.1 (Nat.le_of_ble_eq_true rfl) dX1_countingByDraws_21 (fun H locs hP hD hS => ?_)
      have hP : va_P D vwCl (wRows hp1 cy Sp1) H := hP
      have hD : va_D A (wRows hp1 cy Sp1) := hD
      refine z_if_ne (tgt := 30) hx hb dX1_countingByDraws_24 (by decide) hf (fun hf => ?_) (fun hf => ?_)
      · refine lv_bipush (v := (75 : Int32)) hx hb dX1_countingByDraws_30 (by decide) ?_
        refine lv_iload hx hb dX1_countingByDraws_32 (lv_at hl 2 rfl) ?_
        refine lv_imul hx hb dX1_countingByDraws_34 ?_
        refine lv_bipush (v := (74 : Int32)) hx hb dX1_countingByDraws_35 (by decide) ?_
        refine lv_iadd hx hb dX1_countingByDraws_37 ?_
        refine lv_ldc (v := (65537 : Int32)) hx hb hown (hts _ q5_124) dX1_countingByDraws_38 ?_
        refine lv_irem hx hb dX1_countingByDraws_40 (by decide) ?_
        refine lv_istore (lv' := [(4, .int ((((75 : Int32) * v4) + (74 : Int32)) - (((75 : Int32) * v4) + (74 : Int32)) / (65537 : Int32) * (65537 : Int32))), (0, .ref (hp1 0)), (2, .long v2), (5, .int v5)]) hx hb dX1_countingByDraws_41 hl (by decide) rfl (fun ls hl => ?_)
        refine lv_iload hx hb dX1_countingByDraws_43 (lv_at hl 0 rfl) ?_
        refine lv_bipush (v := (100 : Int32)) hx hb dX1_countingByDraws_45 (by decide) ?_
        refine lv_irem hx hb dX1_countingByDraws_47 (by decide) ?_
        refine lv_aload_n hx hb dX1_countingByDraws_48 rfl (lv_at hl 1 rfl) ?_
        refine va_get (D := D) (ci := 3) (v := .int (Rows_crash Sp1)) (C := RX6) (T := TX6) (N := 16) hx hb hts in_X6 hown hK hP 0 rfl rfl 2 (by decide) (hts _ q1_56) (fun _ h9 => h9) rfl dX1_countingByDraws_49 ?_
        refine z_icmp_lt (tgt := 76) hx hb dX1_countingByDraws_52 (by decide) hf (fun hf => ?_) (fun hf => ?_)
        · refine lv_iinc (v := (v5 + (1 : Int32))) (lv' := [(5, .int (v5 + (1 : Int32))), (4, .int ((((75 : Int32) * v4) + (74 : Int32)) - (((75 : Int32) * v4) + (74 : Int32)) / (65537 : Int32) * (65537 : Int32))), (0, .ref (hp1 0)), (2, .long v2)]) hx hb dX1_countingByDraws_76 hl (k := 3) rfl rfl (by decide) rfl (fun ls hl => ?_)
          refine lv_goto (tgt := 11) hx hb dX1_countingByDraws_79 (by decide) ?_
          exact K11 v2 ((((75 : Int32) * v4) + (74 : Int32)) - (((75 : Int32) * v4) + (74 : Int32)) / (65537 : Int32) * (65537 : Int32)) (v5 + (1 : Int32)) H locs ls hf hP hD hS (lv_sub hl [2, 3, 1, 0] rfl)
        · refine lv_aload_n hx hb dX1_countingByDraws_55 rfl (lv_at hl 1 rfl) ?_
          refine lv_iload hx hb dX1_countingByDraws_56 (lv_at hl 3 rfl) ?_
          obtain ⟨q2, hc, hf⟩ := zbd hf
          refine z_cVi0 (As := [.int v5]) (rest := []) C (c_X6_hasLost l D cy hp1 Sp1 v5 q2 hc) gV_X1_X6_hasLost hd_X6_hasLost ⟨Nat.le_of_ble_eq_true rfl, Nat.le_of_ble_eq_true rfl⟩ ⟨Nat.le_refl _, Nat.le_refl _⟩ (va_recv hK hP (ci := 3) (q0 := 0) rfl rfl) hP hD hS hl.1 (Nat.le_of_ble_eq_true rfl) dX1_countingByDraws_58 (fun H locs hP hD hS => ?_)
          have hP : va_P D vwCl (wRows hp1 cy Sp1) H := hP
          have hD : va_D A (wRows hp1 cy Sp1) := hD
          refine z_if_ne (tgt := 76) hx hb dX1_countingByDraws_61 (by decide) hf (fun hf => ?_) (fun hf => ?_)
          · refine lv_iinc (v := (v5 + (1 : Int32))) (lv' := [(5, .int (v5 + (1 : Int32))), (4, .int ((((75 : Int32) * v4) + (74 : Int32)) - (((75 : Int32) * v4) + (74 : Int32)) / (65537 : Int32) * (65537 : Int32))), (0, .ref (hp1 0)), (2, .long v2)]) hx hb dX1_countingByDraws_76 hl (k := 3) rfl rfl (by decide) rfl (fun ls hl => ?_)
            refine lv_goto (tgt := 11) hx hb dX1_countingByDraws_79 (by decide) ?_
            exact K11 v2 ((((75 : Int32) * v4) + (74 : Int32)) - (((75 : Int32) * v4) + (74 : Int32)) / (65537 : Int32) * (65537 : Int32)) (v5 + (1 : Int32)) H locs ls hf hP hD hS (lv_sub hl [2, 3, 1, 0] rfl)
          · refine lv_lload_n hx hb dX1_countingByDraws_64 rfl (lv_at hl 2 rfl) ?_
            refine lv_aload_n hx hb dX1_countingByDraws_65 rfl (lv_at hl 1 rfl) ?_
            refine lv_iload hx hb dX1_countingByDraws_66 (lv_at hl 3 rfl) ?_
            obtain ⟨q3, hc, hf⟩ := zbd hf
            refine z_cVi0 (As := [.int v5]) (rest := [.long v2]) C (c_X6_stampOf l D cy hp1 Sp1 v5 q3 hc) gV_X1_X6_stampOf hd_X6_stampOf ⟨Nat.le_of_ble_eq_true rfl, Nat.le_of_ble_eq_true rfl⟩ ⟨Nat.le_refl _, Nat.le_refl _⟩ (va_recv hK hP (ci := 3) (q0 := 0) rfl rfl) hP hD hS hl.1 (Nat.le_of_ble_eq_true rfl) dX1_countingByDraws_68 (fun H locs hP hD hS => ?_)
            have hP : va_P D vwCl (wRows hp1 cy Sp1) H := hP
            have hD : va_D A (wRows hp1 cy Sp1) := hD
            obtain ⟨q4, hc, hf⟩ := zbd hf
            refine z_cSlE (As := [.int q3]) (rest := [.long v2]) C (c_X6_bitOf l D cy q3 q4 hc) gS_X1_X6_bitOf hd_X6_bitOf ⟨Nat.le_of_ble_eq_true rfl, Nat.le_of_ble_eq_true rfl⟩ ⟨Nat.le_refl _, Nat.le_refl _⟩ hP hD hS hl.1 (Nat.le_of_ble_eq_true rfl) dX1_countingByDraws_71 (fun H locs hP hD hS => ?_)
            refine lv_lor hx hb dX1_countingByDraws_74 ?_
            refine lv_lstore_n (lv' := [(2, .long (v2 ||| q4)), (4, .int ((((75 : Int32) * v4) + (74 : Int32)) - (((75 : Int32) * v4) + (74 : Int32)) / (65537 : Int32) * (65537 : Int32))), (0, .ref (hp1 0)), (5, .int v5)]) hx hb dX1_countingByDraws_75 rfl hl (by decide) rfl (fun ls hl => ?_)
            refine lv_iinc (v := (v5 + (1 : Int32))) (lv' := [(5, .int (v5 + (1 : Int32))), (2, .long (v2 ||| q4)), (4, .int ((((75 : Int32) * v4) + (74 : Int32)) - (((75 : Int32) * v4) + (74 : Int32)) / (65537 : Int32) * (65537 : Int32))), (0, .ref (hp1 0))]) hx hb dX1_countingByDraws_76 hl (k := 3) rfl rfl (by decide) rfl (fun ls hl => ?_)
            refine lv_goto (tgt := 11) hx hb dX1_countingByDraws_79 (by decide) ?_
            exact K11 (v2 ||| q4) ((((75 : Int32) * v4) + (74 : Int32)) - (((75 : Int32) * v4) + (74 : Int32)) / (65537 : Int32) * (65537 : Int32)) (v5 + (1 : Int32)) H locs ls hf hP hD hS (lv_sub hl [3, 1, 2, 0] rfl)
      · refine lv_goto (tgt := 76) hx hb dX1_countingByDraws_27 (by decide) ?_
        refine lv_iinc (v := (v5 + (1 : Int32))) (lv' := [(5, .int (v5 + (1 : Int32))), (0, .ref (hp1 0)), (2, .long v2), (4, .int v4)]) hx hb dX1_countingByDraws_76 hl (k := 3) rfl rfl (by decide) rfl (fun ls hl => ?_)
        refine lv_goto (tgt := 11) hx hb dX1_countingByDraws_79 (by decide) ?_
        exact K11 v2 v4 (v5 + (1 : Int32)) H locs ls hf hP hD hS (lv_sub hl [1, 2, 3, 0] rfl)
def f_X1_countingByDraws (Sp1 : SRows) (x1 : Int32) : Option (Int64) :=
  (f_X6_countingFresh Sp1).bind (fun q5 =>
    (zl3 (b_X1_countingByDraws_11 Sp1 x1) FU q5 x1 (0 : Int32)))
set_option maxHeartbeats 4000000 in
set_option maxRecDepth 100000 in
theorem c_X1_countingByDraws (l : Launch) (D : va_G) (cy : Nat → ClassId) (hp1 : Nat → Nat) (Sp1 : SRows) (x1 : Int32) (r : Int64) (hf : f_X1_countingByDraws Sp1 x1 = some r) : zCL l yX1_countingByDraws cX1_countingByDraws 6 (some FieldType.long) 2 42 D (zty cy) [.ref (hp1 0), .int x1] (wRows hp1 cy Sp1) (wRows hp1 cy Sp1) r := by
  refine zCL_of (by decide +kernel) (Nat.le_of_ble_eq_true rfl) ?_
  intro p e s m below meth c A ls C hP hD hS hl
  generalize hargs : ([.ref (hp1 0), .int x1] : List Value).toArray = args at C ⊢
  have C : zX p s m meth c cX1_countingByDraws 6 args RX1 (some FieldType.long) A D (zty cy) := C
  obtain ⟨hx, hb, hr, hts, hown, hlocks, hml, hA, hK⟩ := id C
  have hl : lv_has ls 6 [(0, .ref (hp1 0)), (1, .int x1)] := hl
  generalize hH : s.heap = H at hP ⊢
  have hS : va_S A s.heap H [] := by rw [← hH]; exact hS
  generalize ([] : List Loc) = locs at hS ⊢
  refine lv_aload_n hx hb dX1_countingByDraws_0 rfl (lv_at hl 0 rfl) ?_
  obtain ⟨q5, hc, hf⟩ := zbd hf
  refine z_cVl0 (As := []) (rest := []) C (c_X6_countingFresh l D cy hp1 Sp1 q5 hc) gV_X1_X6_countingFresh hd_X6_countingFresh ⟨Nat.le_of_ble_eq_true rfl, Nat.le_of_ble_eq_true rfl⟩ ⟨Nat.le_refl _, Nat.le_refl _⟩ (va_recv hK hP (ci := 3) (q0 := 0) rfl rfl) hP hD hS hl.1 (Nat.le_of_ble_eq_true rfl) dX1_countingByDraws_1 (fun H locs hP hD hS => ?_)
  have hP : va_P D vwCl (wRows hp1 cy Sp1) H := hP
  have hD : va_D A (wRows hp1 cy Sp1) := hD
  refine lv_lstore_n (lv' := [(2, .long q5), (0, .ref (hp1 0)), (1, .int x1)]) hx hb dX1_countingByDraws_4 rfl hl (by decide) rfl (fun ls hl => ?_)
  refine lv_iload_n hx hb dX1_countingByDraws_5 rfl (lv_at hl 2 rfl) ?_
  refine lv_istore (lv' := [(4, .int x1), (2, .long q5), (0, .ref (hp1 0)), (1, .int x1)]) hx hb dX1_countingByDraws_6 hl (by decide) rfl (fun ls hl => ?_)
  refine lv_iconst (v := (0 : Int32)) hx hb dX1_countingByDraws_8 (by decide) ?_
  refine lv_istore (lv' := [(5, .int (0 : Int32)), (4, .int x1), (2, .long q5), (0, .ref (hp1 0)), (1, .int x1)]) hx hb dX1_countingByDraws_9 hl (by decide) rfl (fun ls hl => ?_)
  exact w_X1_countingByDraws_11 l hp1 Sp1 x1 C FU q5 x1 (0 : Int32) H locs ls hf hP hD hS (lv_sub hl [3, 2, 1, 0] rfl)
def b_X1_commonDivisor_9 (x0 : Int64) (x2 : Int64) (k9 : Int64 → Int64 → Int32 → Option (Int64)) (v4 : Int64) (v6 : Int64) (v8 : Int32) : Option (Int64) :=
  (if (200 : Int32) ≤ v8 then
    some v4
    else
    (if (lg_cmp v6 (0 : Int64)) = 0 then
      some v4
      else
      (if v6 = 0 then none else (k9 v6 (v4 - v4 / v6 * v6) (v8 + (1 : Int32))))))
set_option maxHeartbeats 4000000 in
set_option maxRecDepth 100000 in
theorem w_X1_commonDivisor_9 {p : Program} {e : Env} {s : State} {m : MethodId} {below : List Frame} {meth : Method} {c : Code} {A : Nat → Prop} {D : va_G} {cy : Nat → ClassId} {args : Array Value} {r : Int64} (l : Launch) (x0 : Int64) (x2 : Int64) (C : zX p s m meth c cX1_commonDivisor 11 args RX1 (some FieldType.long) A D (zty cy)) :
    ∀ (n : Nat) (v4 : Int64) (v6 : Int64) (v8 : Int32) (H : Heap) (locs : List Loc) (ls : Array Slot), zl3 (b_X1_commonDivisor_9 x0 x2) n v4 v6 v8 = some r → va_P D vwCl ([]) H → va_D A ([]) → va_S A s.heap H locs → lv_has ls 11 [(4, .long v4), (6, .long v6), (8, .int v8)] → W p l e (zRm 0 0) s m args below meth c H locs 0 0 (MQ below (zQL D (zty cy) A ([]) r) args s 0 0 A) (F0 m 9 ls []) := by
  obtain ⟨hx, hb, hr, hts, hown, hlocks, hml, hA, hK⟩ := id C
  intro n
  induction n with
  | zero => intro v4 v6 v8 H locs ls hf; exact zno hf
  | succ n ih =>
    intro v4 v6 v8 H locs ls hf hP hD hS hl
    have hf : b_X1_commonDivisor_9 x0 x2 (zl3 (b_X1_commonDivisor_9 x0 x2) n) v4 v6 v8 = some r := hf
    have K9 := ih
    refine lv_iload hx hb dX1_commonDivisor_9 (lv_at hl 2 rfl) ?_
    refine lv_sipush (v := (200 : Int32)) hx hb dX1_commonDivisor_11 (by decide) ?_
    refine z_icmp_ge (tgt := 45) hx hb dX1_commonDivisor_14 (by decide) hf (fun hf => ?_) (fun hf => ?_)
    · refine lv_lload hx hb dX1_commonDivisor_45 (lv_at hl 0 rfl) ?_
      obtain rfl := Option.some.inj hf
      exact z_lret (v := v4) C hP hD hS dX1_commonDivisor_47
    · refine lv_lload hx hb dX1_commonDivisor_17 (lv_at hl 1 rfl) ?_
      refine lv_lconst (v := (0 : Int64)) hx hb dX1_commonDivisor_19 (by decide) ?_
      refine W.lcmp hx hb dX1_commonDivisor_20 ?_
      refine z_if_eq (tgt := 45) hx hb dX1_commonDivisor_21 (by decide) hf (fun hf => ?_) (fun hf => ?_)
      · refine lv_lload hx hb dX1_commonDivisor_45 (lv_at hl 0 rfl) ?_
        obtain rfl := Option.some.inj hf
        exact z_lret (v := v4) C hP hD hS dX1_commonDivisor_47
      · refine lv_lload hx hb dX1_commonDivisor_24 (lv_at hl 0 rfl) ?_
        refine lv_lload hx hb dX1_commonDivisor_26 (lv_at hl 1 rfl) ?_
        refine z_lrem hx hb dX1_commonDivisor_28 hf (fun hf => ?_)
        refine lv_lstore (lv' := [(9, .long (v4 - v4 / v6 * v6)), (4, .long v4), (6, .long v6), (8, .int v8)]) hx hb dX1_commonDivisor_29 hl (by decide) rfl (fun ls hl => ?_)
        refine lv_lload hx hb dX1_commonDivisor_31 (lv_at hl 2 rfl) ?_
        refine lv_lstore (lv' := [(4, .long v6), (9, .long (v4 - v4 / v6 * v6)), (6, .long v6), (8, .int v8)]) hx hb dX1_commonDivisor_33 hl (by decide) rfl (fun ls hl => ?_)
        refine lv_lload hx hb dX1_commonDivisor_35 (lv_at hl 1 rfl) ?_
        refine lv_lstore (lv' := [(6, .long (v4 - v4 / v6 * v6)), (4, .long v6), (9, .long (v4 - v4 / v6 * v6)), (8, .int v8)]) hx hb dX1_commonDivisor_37 hl (by decide) rfl (fun ls hl => ?_)
        refine lv_iinc (v := (v8 + (1 : Int32))) (lv' := [(8, .int (v8 + (1 : Int32))), (6, .long (v4 - v4 / v6 * v6)), (4, .long v6), (9, .long (v4 - v4 / v6 * v6))]) hx hb dX1_commonDivisor_39 hl (k := 3) rfl rfl (by decide) rfl (fun ls hl => ?_)
        refine lv_goto (tgt := 9) hx hb dX1_commonDivisor_42 (by decide) ?_
        exact K9 v6 (v4 - v4 / v6 * v6) (v8 + (1 : Int32)) H locs ls hf hP hD hS (lv_sub hl [2, 1, 0] rfl)
def f_X1_commonDivisor (x0 : Int64) (x2 : Int64) : Option (Int64) :=
  (zl3 (b_X1_commonDivisor_9 x0 x2) FU x0 x2 (0 : Int32))
set_option maxHeartbeats 4000000 in
set_option maxRecDepth 100000 in
theorem c_X1_commonDivisor (l : Launch) (D : va_G) (cy : Nat → ClassId) (x0 : Int64) (x2 : Int64) (r : Int64) (hf : f_X1_commonDivisor x0 x2 = some r) : zCL l yX1_commonDivisor cX1_commonDivisor 11 (some FieldType.long) 0 0 D (zty cy) [.long x0, .long x2] ([]) ([]) r := by
  refine zCL_of (by decide +kernel) (Nat.le_of_ble_eq_true rfl) ?_
  intro p e s m below meth c A ls C hP hD hS hl
  generalize hargs : ([.long x0, .long x2] : List Value).toArray = args at C ⊢
  have C : zX p s m meth c cX1_commonDivisor 11 args RX1 (some FieldType.long) A D (zty cy) := C
  obtain ⟨hx, hb, hr, hts, hown, hlocks, hml, hA, hK⟩ := id C
  have hl : lv_has ls 11 [(0, .long x0), (2, .long x2)] := hl
  generalize hH : s.heap = H at hP ⊢
  have hS : va_S A s.heap H [] := by rw [← hH]; exact hS
  generalize ([] : List Loc) = locs at hS ⊢
  refine lv_lload_n hx hb dX1_commonDivisor_0 rfl (lv_at hl 0 rfl) ?_
  refine lv_lstore (lv' := [(4, .long x0), (0, .long x0), (2, .long x2)]) hx hb dX1_commonDivisor_1 hl (by decide) rfl (fun ls hl => ?_)
  refine lv_lload_n hx hb dX1_commonDivisor_3 rfl (lv_at hl 2 rfl) ?_
  refine lv_lstore (lv' := [(6, .long x2), (4, .long x0), (0, .long x0), (2, .long x2)]) hx hb dX1_commonDivisor_4 hl (by decide) rfl (fun ls hl => ?_)
  refine lv_iconst (v := (0 : Int32)) hx hb dX1_commonDivisor_6 (by decide) ?_
  refine lv_istore (lv' := [(8, .int (0 : Int32)), (6, .long x2), (4, .long x0), (0, .long x0), (2, .long x2)]) hx hb dX1_commonDivisor_7 hl (by decide) rfl (fun ls hl => ?_)
  exact w_X1_commonDivisor_9 l x0 x2 C FU x0 x2 (0 : Int32) H locs ls hf hP hD hS (lv_sub hl [2, 1, 0] rfl)
def b_X1_inLowestTerms_17 (x0 : Int64) (x2 : Int64) (x4 : Int32) (v5 : Int64) (u0 : Int64) : Option (Int64) :=
  (if (lg_cmp v5 (0 : Int64)) ≤ 0 then
    some u0
    else
    (if v5 = 0 then none else some (u0 / v5)))
set_option maxHeartbeats 4000000 in
set_option maxRecDepth 100000 in
theorem w_X1_inLowestTerms_17 {p : Program} {e : Env} {s : State} {m : MethodId} {below : List Frame} {meth : Method} {c : Code} {A : Nat → Prop} {D : va_G} {cy : Nat → ClassId} {args : Array Value} {r : Int64} (l : Launch) (x0 : Int64) (x2 : Int64) (x4 : Int32) (C : zX p s m meth c cX1_inLowestTerms 9 args RX1 (some FieldType.long) A D (zty cy)) :
    ∀ (v5 : Int64) (u0 : Int64) (H : Heap) (locs : List Loc) (ls : Array Slot), b_X1_inLowestTerms_17 x0 x2 x4 v5 u0 = some r → va_P D vwCl ([]) H → va_D A ([]) → va_S A s.heap H locs → lv_has ls 9 [(5, .long v5)] → W p l e (zRm 1 30) s m args below meth c H locs 0 0 (MQ below (zQL D (zty cy) A ([]) r) args s 0 0 A) (F0 m 17 ls [.long u0]) := by
  obtain ⟨hx, hb, hr, hts, hown, hlocks, hml, hA, hK⟩ := id C
  intro v5 u0 H locs ls hf hP hD hS hl
  refine lv_lstore (lv' := [(7, .long u0), (5, .long v5)]) hx hb dX1_inLowestTerms_17 hl (by decide) rfl (fun ls hl => ?_)
  refine lv_lload hx hb dX1_inLowestTerms_19 (lv_at hl 1 rfl) ?_
  refine lv_lconst (v := (0 : Int64)) hx hb dX1_inLowestTerms_21 (by decide) ?_
  refine W.lcmp hx hb dX1_inLowestTerms_22 ?_
  refine z_if_le (tgt := 34) hx hb dX1_inLowestTerms_23 (by decide) hf (fun hf => ?_) (fun hf => ?_)
  · refine lv_lload hx hb dX1_inLowestTerms_34 (lv_at hl 0 rfl) ?_
    obtain rfl := Option.some.inj hf
    exact z_lret (v := u0) C hP hD hS dX1_inLowestTerms_36
  · refine lv_lload hx hb dX1_inLowestTerms_26 (lv_at hl 0 rfl) ?_
    refine lv_lload hx hb dX1_inLowestTerms_28 (lv_at hl 1 rfl) ?_
    refine z_ldiv hx hb dX1_inLowestTerms_30 hf (fun hf => ?_)
    refine lv_goto (tgt := 36) hx hb dX1_inLowestTerms_31 (by decide) ?_
    obtain rfl := Option.some.inj hf
    exact z_lret (v := (u0 / v5)) C hP hD hS dX1_inLowestTerms_36
def f_X1_inLowestTerms (x0 : Int64) (x2 : Int64) (x4 : Int32) : Option (Int64) :=
  (f_X1_commonDivisor x0 x2).bind (fun q1 =>
    (if x4 = 0 then
      (b_X1_inLowestTerms_17 x0 x2 x4 q1 x0)
      else
      (b_X1_inLowestTerms_17 x0 x2 x4 q1 x2)))
set_option maxHeartbeats 4000000 in
set_option maxRecDepth 100000 in
theorem c_X1_inLowestTerms (l : Launch) (D : va_G) (cy : Nat → ClassId) (x0 : Int64) (x2 : Int64) (x4 : Int32) (r : Int64) (hf : f_X1_inLowestTerms x0 x2 x4 = some r) : zCL l yX1_inLowestTerms cX1_inLowestTerms 9 (some FieldType.long) 1 30 D (zty cy) [.long x0, .long x2, .int x4] ([]) ([]) r := by
  refine zCL_of (by decide +kernel) (Nat.le_of_ble_eq_true rfl) ?_
  intro p e s m below meth c A ls C hP hD hS hl
  generalize hargs : ([.long x0, .long x2, .int x4] : List Value).toArray = args at C ⊢
  have C : zX p s m meth c cX1_inLowestTerms 9 args RX1 (some FieldType.long) A D (zty cy) := C
  obtain ⟨hx, hb, hr, hts, hown, hlocks, hml, hA, hK⟩ := id C
  have hl : lv_has ls 9 [(0, .long x0), (2, .long x2), (4, .int x4)] := hl
  generalize hH : s.heap = H at hP ⊢
  have hS : va_S A s.heap H [] := by rw [← hH]; exact hS
  generalize ([] : List Loc) = locs at hS ⊢
  refine lv_lload_n hx hb dX1_inLowestTerms_0 rfl (lv_at hl 0 rfl) ?_
  refine lv_lload_n hx hb dX1_inLowestTerms_1 rfl (lv_at hl 1 rfl) ?_
  obtain ⟨q1, hc, hf⟩ := zbd hf
  refine z_cSlE (As := [.long x0, .long x2]) (rest := []) C (c_X1_commonDivisor l D cy x0 x2 q1 hc) gS_X1_X1_commonDivisor hd_X1_commonDivisor ⟨Nat.le_of_ble_eq_true rfl, Nat.le_of_ble_eq_true rfl⟩ ⟨Nat.le_refl _, Nat.le_refl _⟩ hP hD hS hl.1 (Nat.le_of_ble_eq_true rfl) dX1_inLowestTerms_2 (fun H locs hP hD hS => ?_)
  refine lv_lstore (lv' := [(5, .long q1), (0, .long x0), (2, .long x2), (4, .int x4)]) hx hb dX1_inLowestTerms_5 hl (by decide) rfl (fun ls hl => ?_)
  refine lv_iload hx hb dX1_inLowestTerms_7 (lv_at hl 3 rfl) ?_
  refine z_if_eq (tgt := 16) hx hb dX1_inLowestTerms_9 (by decide) hf (fun hf => ?_) (fun hf => ?_)
  · refine lv_lload_n hx hb dX1_inLowestTerms_16 rfl (lv_at hl 1 rfl) ?_
    exact w_X1_inLowestTerms_17 l x0 x2 x4 C q1 x0 H locs ls hf hP hD hS (lv_sub hl [0] rfl)
  · refine lv_lload_n hx hb dX1_inLowestTerms_12 rfl (lv_at hl 2 rfl) ?_
    refine lv_goto (tgt := 17) hx hb dX1_inLowestTerms_13 (by decide) ?_
    exact w_X1_inLowestTerms_17 l x0 x2 x4 C q1 x2 H locs ls hf hP hD hS (lv_sub hl [0] rfl)
def f_X3_payoff (x0 : Int32) (x1 : Int32) (x2 : Int32) : Option (Int32) :=
  (if x1 = 0 then
    (if x2 = 0 then
      some (2 : Int32)
      else
      some (1 : Int32))
    else
    (if x2 = 0 then
      some (4 : Int32)
      else
      some (-x0)))
set_option maxHeartbeats 4000000 in
set_option maxRecDepth 100000 in
theorem c_X3_payoff (l : Launch) (D : va_G) (cy : Nat → ClassId) (x0 : Int32) (x1 : Int32) (x2 : Int32) (r : Int32) (hf : f_X3_payoff x0 x1 x2 = some r) : zCI l yX3_payoff cX3_payoff 3 (some FieldType.int) 0 0 D (zty cy) [.int x0, .int x1, .int x2] ([]) ([]) r := by
  refine zCI_of (by decide +kernel) (Nat.le_of_ble_eq_true rfl) ?_
  intro p e s m below meth c A ls C hP hD hS hl
  generalize hargs : ([.int x0, .int x1, .int x2] : List Value).toArray = args at C ⊢
  have C : zX p s m meth c cX3_payoff 3 args RX3 (some FieldType.int) A D (zty cy) := C
  obtain ⟨hx, hb, hr, hts, hown, hlocks, hml, hA, hK⟩ := id C
  have hl : lv_has ls 3 [(0, .int x0), (1, .int x1), (2, .int x2)] := hl
  generalize hH : s.heap = H at hP ⊢
  have hS : va_S A s.heap H [] := by rw [← hH]; exact hS
  generalize ([] : List Loc) = locs at hS ⊢
  refine lv_iload_n hx hb dX3_payoff_0 rfl (lv_at hl 1 rfl) ?_
  refine z_if_eq (tgt := 15) hx hb dX3_payoff_1 (by decide) hf (fun hf => ?_) (fun hf => ?_)
  · refine lv_iload_n hx hb dX3_payoff_15 rfl (lv_at hl 2 rfl) ?_
    refine z_if_eq (tgt := 23) hx hb dX3_payoff_16 (by decide) hf (fun hf => ?_) (fun hf => ?_)
    · refine lv_iconst (v := (2 : Int32)) hx hb dX3_payoff_23 (by decide) ?_
      obtain rfl := Option.some.inj hf
      exact z_iret (v := (2 : Int32)) C hP hD hS dX3_payoff_24
    · refine lv_iconst (v := (1 : Int32)) hx hb dX3_payoff_19 (by decide) ?_
      refine lv_goto (tgt := 24) hx hb dX3_payoff_20 (by decide) ?_
      obtain rfl := Option.some.inj hf
      exact z_iret (v := (1 : Int32)) C hP hD hS dX3_payoff_24
  · refine lv_iload_n hx hb dX3_payoff_4 rfl (lv_at hl 2 rfl) ?_
    refine z_if_eq (tgt := 13) hx hb dX3_payoff_5 (by decide) hf (fun hf => ?_) (fun hf => ?_)
    · refine lv_iconst (v := (4 : Int32)) hx hb dX3_payoff_13 (by decide) ?_
      obtain rfl := Option.some.inj hf
      exact z_iret (v := (4 : Int32)) C hP hD hS dX3_payoff_14
    · refine lv_iload_n hx hb dX3_payoff_8 rfl (lv_at hl 0 rfl) ?_
      refine lv_ineg hx hb dX3_payoff_9 ?_
      refine lv_goto (tgt := 14) hx hb dX3_payoff_10 (by decide) ?_
      obtain rfl := Option.some.inj hf
      exact z_iret (v := (-x0)) C hP hD hS dX3_payoff_14
def f_X3_oneWaits (x0 : Int32) : Option (Int32) :=
  (if x0 < (2 : Int32) then
    some (0 : Int32)
    else
    some (1 : Int32))
set_option maxHeartbeats 4000000 in
set_option maxRecDepth 100000 in
theorem c_X3_oneWaits (l : Launch) (D : va_G) (cy : Nat → ClassId) (x0 : Int32) (r : Int32) (hf : f_X3_oneWaits x0 = some r) : zCI l yX3_oneWaits cX3_oneWaits 1 (some FieldType.boolean) 0 0 D (zty cy) [.int x0] ([]) ([]) r := by
  refine zCI_of (by decide +kernel) (Nat.le_of_ble_eq_true rfl) ?_
  intro p e s m below meth c A ls C hP hD hS hl
  generalize hargs : ([.int x0] : List Value).toArray = args at C ⊢
  have C : zX p s m meth c cX3_oneWaits 1 args RX3 (some FieldType.boolean) A D (zty cy) := C
  obtain ⟨hx, hb, hr, hts, hown, hlocks, hml, hA, hK⟩ := id C
  have hl : lv_has ls 1 [(0, .int x0)] := hl
  generalize hH : s.heap = H at hP ⊢
  have hS : va_S A s.heap H [] := by rw [← hH]; exact hS
  generalize ([] : List Loc) = locs at hS ⊢
  refine lv_iload_n hx hb dX3_oneWaits_0 rfl (lv_at hl 0 rfl) ?_
  refine lv_iconst (v := (2 : Int32)) hx hb dX3_oneWaits_1 (by decide) ?_
  refine z_icmp_lt (tgt := 9) hx hb dX3_oneWaits_2 (by decide) hf (fun hf => ?_) (fun hf => ?_)
  · refine lv_iconst (v := (0 : Int32)) hx hb dX3_oneWaits_9 (by decide) ?_
    obtain rfl := Option.some.inj hf
    exact z_zret (v := (0 : Int32)) C rfl hP hD hS dX3_oneWaits_10
  · refine lv_iconst (v := (1 : Int32)) hx hb dX3_oneWaits_5 (by decide) ?_
    refine lv_goto (tgt := 10) hx hb dX3_oneWaits_6 (by decide) ?_
    obtain rfl := Option.some.inj hf
    exact z_zret (v := (1 : Int32)) C rfl hP hD hS dX3_oneWaits_10
def f_X3_otherWaits (x0 : Int32) : Option (Int32) :=
  (if (x0 &&& (1 : Int32)) = 0 then
    some (0 : Int32)
    else
    some (1 : Int32))
set_option maxHeartbeats 4000000 in
set_option maxRecDepth 100000 in
theorem c_X3_otherWaits (l : Launch) (D : va_G) (cy : Nat → ClassId) (x0 : Int32) (r : Int32) (hf : f_X3_otherWaits x0 = some r) : zCI l yX3_otherWaits cX3_otherWaits 1 (some FieldType.boolean) 0 0 D (zty cy) [.int x0] ([]) ([]) r := by
  refine zCI_of (by decide +kernel) (Nat.le_of_ble_eq_true rfl) ?_
  intro p e s m below meth c A ls C hP hD hS hl
  generalize hargs : ([.int x0] : List Value).toArray = args at C ⊢
  have C : zX p s m meth c cX3_otherWaits 1 args RX3 (some FieldType.boolean) A D (zty cy) := C
  obtain ⟨hx, hb, hr, hts, hown, hlocks, hml, hA, hK⟩ := id C
  have hl : lv_has ls 1 [(0, .int x0)] := hl
  generalize hH : s.heap = H at hP ⊢
  have hS : va_S A s.heap H [] := by rw [← hH]; exact hS
  generalize ([] : List Loc) = locs at hS ⊢
  refine lv_iload_n hx hb dX3_otherWaits_0 rfl (lv_at hl 0 rfl) ?_
  refine lv_iconst (v := (1 : Int32)) hx hb dX3_otherWaits_1 (by decide) ?_
  refine lv_iand hx hb dX3_otherWaits_2 ?_
  refine z_if_eq (tgt := 10) hx hb dX3_otherWaits_3 (by decide) hf (fun hf => ?_) (fun hf => ?_)
  · refine lv_iconst (v := (0 : Int32)) hx hb dX3_otherWaits_10 (by decide) ?_
    obtain rfl := Option.some.inj hf
    exact z_zret (v := (0 : Int32)) C rfl hP hD hS dX3_otherWaits_11
  · refine lv_iconst (v := (1 : Int32)) hx hb dX3_otherWaits_6 (by decide) ?_
    refine lv_goto (tgt := 11) hx hb dX3_otherWaits_7 (by decide) ?_
    obtain rfl := Option.some.inj hf
    exact z_zret (v := (1 : Int32)) C rfl hP hD hS dX3_otherWaits_11
def b_X3_isRest_43 (x0 : Int32) (x1 : Int32) (v2 : Int32) (v3 : Int32) (u0 : Int32) (u1 : Int32) : Option (Int32) :=
  (f_X3_payoff u0 u1 v2).bind (fun q1 =>
    (f_X3_payoff x0 v3 v2).bind (fun q2 =>
      (if q2 < q1 then
        some (0 : Int32)
        else
        some (1 : Int32))))
set_option maxHeartbeats 4000000 in
set_option maxRecDepth 100000 in
theorem w_X3_isRest_43 {p : Program} {e : Env} {s : State} {m : MethodId} {below : List Frame} {meth : Method} {c : Code} {A : Nat → Prop} {D : va_G} {cy : Nat → ClassId} {args : Array Value} {r : Int32} (l : Launch) (x0 : Int32) (x1 : Int32) (C : zX p s m meth c cX3_isRest 4 args RX3 (some FieldType.boolean) A D (zty cy)) :
    ∀ (v2 : Int32) (v3 : Int32) (u0 : Int32) (u1 : Int32) (H : Heap) (locs : List Loc) (ls : Array Slot), b_X3_isRest_43 x0 x1 v2 v3 u0 u1 = some r → va_P D vwCl ([]) H → va_D A ([]) → va_S A s.heap H locs → lv_has ls 4 [(0, .int x0), (2, .int v2), (3, .int v3)] → W p l e (zRm 1 22) s m args below meth c H locs 0 0 (MQ below (zQI D (zty cy) A ([]) r) args s 0 0 A) (F0 m 43 ls [.int u1, .int u0]) := by
  obtain ⟨hx, hb, hr, hts, hown, hlocks, hml, hA, hK⟩ := id C
  intro v2 v3 u0 u1 H locs ls hf hP hD hS hl
  refine lv_iload_n hx hb dX3_isRest_43 rfl (lv_at hl 1 rfl) ?_
  obtain ⟨q1, hc, hf⟩ := zbd hf
  refine z_cSiE (As := [.int u0, .int u1, .int v2]) (rest := []) C (c_X3_payoff l D cy u0 u1 v2 q1 hc) gS_X3_X3_payoff hd_X3_payoff ⟨Nat.le_of_ble_eq_true rfl, Nat.le_of_ble_eq_true rfl⟩ ⟨Nat.le_refl _, Nat.le_refl _⟩ hP hD hS hl.1 (Nat.le_of_ble_eq_true rfl) dX3_isRest_44 (fun H locs hP hD hS => ?_)
  refine lv_iload_n hx hb dX3_isRest_47 rfl (lv_at hl 0 rfl) ?_
  refine lv_iload_n hx hb dX3_isRest_48 rfl (lv_at hl 2 rfl) ?_
  refine lv_iload_n hx hb dX3_isRest_49 rfl (lv_at hl 1 rfl) ?_
  obtain ⟨q2, hc, hf⟩ := zbd hf
  refine z_cSiE (As := [.int x0, .int v3, .int v2]) (rest := [.int q1]) C (c_X3_payoff l D cy x0 v3 v2 q2 hc) gS_X3_X3_payoff hd_X3_payoff ⟨Nat.le_of_ble_eq_true rfl, Nat.le_of_ble_eq_true rfl⟩ ⟨Nat.le_refl _, Nat.le_refl _⟩ hP hD hS hl.1 (Nat.le_of_ble_eq_true rfl) dX3_isRest_50 (fun H locs hP hD hS => ?_)
  refine z_icmp_gt (tgt := 60) hx hb dX3_isRest_53 (by decide) hf (fun hf => ?_) (fun hf => ?_)
  · refine lv_iconst (v := (0 : Int32)) hx hb dX3_isRest_60 (by decide) ?_
    obtain rfl := Option.some.inj hf
    exact z_zret (v := (0 : Int32)) C rfl hP hD hS dX3_isRest_61
  · refine lv_iconst (v := (1 : Int32)) hx hb dX3_isRest_56 (by decide) ?_
    refine lv_goto (tgt := 61) hx hb dX3_isRest_57 (by decide) ?_
    obtain rfl := Option.some.inj hf
    exact z_zret (v := (1 : Int32)) C rfl hP hD hS dX3_isRest_61
def b_X3_isRest_20 (x0 : Int32) (x1 : Int32) (v2 : Int32) (v3 : Int32) (u0 : Int32) (u1 : Int32) : Option (Int32) :=
  (f_X3_payoff u0 u1 v3).bind (fun q3 =>
    (f_X3_payoff x0 v2 v3).bind (fun q4 =>
      (if q4 < q3 then
        some (0 : Int32)
        else
        (if v3 = 0 then
          (b_X3_isRest_43 x0 x1 v2 v3 x0 (1 : Int32))
          else
          (b_X3_isRest_43 x0 x1 v2 v3 x0 (0 : Int32))))))
set_option maxHeartbeats 4000000 in
set_option maxRecDepth 100000 in
theorem w_X3_isRest_20 {p : Program} {e : Env} {s : State} {m : MethodId} {below : List Frame} {meth : Method} {c : Code} {A : Nat → Prop} {D : va_G} {cy : Nat → ClassId} {args : Array Value} {r : Int32} (l : Launch) (x0 : Int32) (x1 : Int32) (C : zX p s m meth c cX3_isRest 4 args RX3 (some FieldType.boolean) A D (zty cy)) :
    ∀ (v2 : Int32) (v3 : Int32) (u0 : Int32) (u1 : Int32) (H : Heap) (locs : List Loc) (ls : Array Slot), b_X3_isRest_20 x0 x1 v2 v3 u0 u1 = some r → va_P D vwCl ([]) H → va_D A ([]) → va_S A s.heap H locs → lv_has ls 4 [(0, .int x0), (2, .int v2), (3, .int v3)] → W p l e (zRm 1 22) s m args below meth c H locs 0 0 (MQ below (zQI D (zty cy) A ([]) r) args s 0 0 A) (F0 m 20 ls [.int u1, .int u0]) := by
  obtain ⟨hx, hb, hr, hts, hown, hlocks, hml, hA, hK⟩ := id C
  intro v2 v3 u0 u1 H locs ls hf hP hD hS hl
  refine lv_iload_n hx hb dX3_isRest_20 rfl (lv_at hl 2 rfl) ?_
  obtain ⟨q3, hc, hf⟩ := zbd hf
  refine z_cSiE (As := [.int u0, .int u1, .int v3]) (rest := []) C (c_X3_payoff l D cy u0 u1 v3 q3 hc) gS_X3_X3_payoff hd_X3_payoff ⟨Nat.le_of_ble_eq_true rfl, Nat.le_of_ble_eq_true rfl⟩ ⟨Nat.le_refl _, Nat.le_refl _⟩ hP hD hS hl.1 (Nat.le_of_ble_eq_true rfl) dX3_isRest_21 (fun H locs hP hD hS => ?_)
  refine lv_iload_n hx hb dX3_isRest_24 rfl (lv_at hl 0 rfl) ?_
  refine lv_iload_n hx hb dX3_isRest_25 rfl (lv_at hl 1 rfl) ?_
  refine lv_iload_n hx hb dX3_isRest_26 rfl (lv_at hl 2 rfl) ?_
  obtain ⟨q4, hc, hf⟩ := zbd hf
  refine z_cSiE (As := [.int x0, .int v2, .int v3]) (rest := [.int q3]) C (c_X3_payoff l D cy x0 v2 v3 q4 hc) gS_X3_X3_payoff hd_X3_payoff ⟨Nat.le_of_ble_eq_true rfl, Nat.le_of_ble_eq_true rfl⟩ ⟨Nat.le_refl _, Nat.le_refl _⟩ hP hD hS hl.1 (Nat.le_of_ble_eq_true rfl) dX3_isRest_27 (fun H locs hP hD hS => ?_)
  refine z_icmp_gt (tgt := 60) hx hb dX3_isRest_30 (by decide) hf (fun hf => ?_) (fun hf => ?_)
  · refine lv_iconst (v := (0 : Int32)) hx hb dX3_isRest_60 (by decide) ?_
    obtain rfl := Option.some.inj hf
    exact z_zret (v := (0 : Int32)) C rfl hP hD hS dX3_isRest_61
  · refine lv_iload_n hx hb dX3_isRest_33 rfl (lv_at hl 0 rfl) ?_
    refine lv_iload_n hx hb dX3_isRest_34 rfl (lv_at hl 2 rfl) ?_
    refine z_if_ne (tgt := 42) hx hb dX3_isRest_35 (by decide) hf (fun hf => ?_) (fun hf => ?_)
    · refine lv_iconst (v := (0 : Int32)) hx hb dX3_isRest_42 (by decide) ?_
      exact w_X3_isRest_43 l x0 x1 C v2 v3 x0 (0 : Int32) H locs ls hf hP hD hS (lv_sub hl [0, 1, 2] rfl)
    · refine lv_iconst (v := (1 : Int32)) hx hb dX3_isRest_38 (by decide) ?_
      refine lv_goto (tgt := 43) hx hb dX3_isRest_39 (by decide) ?_
      exact w_X3_isRest_43 l x0 x1 C v2 v3 x0 (1 : Int32) H locs ls hf hP hD hS (lv_sub hl [0, 1, 2] rfl)
def f_X3_isRest (x0 : Int32) (x1 : Int32) : Option (Int32) :=
  (f_X3_oneWaits x1).bind (fun q5 =>
    (f_X3_otherWaits x1).bind (fun q6 =>
      (if q5 = 0 then
        (b_X3_isRest_20 x0 x1 q5 q6 x0 (1 : Int32))
        else
        (b_X3_isRest_20 x0 x1 q5 q6 x0 (0 : Int32)))))
set_option maxHeartbeats 4000000 in
set_option maxRecDepth 100000 in
theorem c_X3_isRest (l : Launch) (D : va_G) (cy : Nat → ClassId) (x0 : Int32) (x1 : Int32) (r : Int32) (hf : f_X3_isRest x0 x1 = some r) : zCI l yX3_isRest cX3_isRest 4 (some FieldType.boolean) 1 22 D (zty cy) [.int x0, .int x1] ([]) ([]) r := by
  refine zCI_of (by decide +kernel) (Nat.le_of_ble_eq_true rfl) ?_
  intro p e s m below meth c A ls C hP hD hS hl
  generalize hargs : ([.int x0, .int x1] : List Value).toArray = args at C ⊢
  have C : zX p s m meth c cX3_isRest 4 args RX3 (some FieldType.boolean) A D (zty cy) := C
  obtain ⟨hx, hb, hr, hts, hown, hlocks, hml, hA, hK⟩ := id C
  have hl : lv_has ls 4 [(0, .int x0), (1, .int x1)] := hl
  generalize hH : s.heap = H at hP ⊢
  have hS : va_S A s.heap H [] := by rw [← hH]; exact hS
  generalize ([] : List Loc) = locs at hS ⊢
  refine lv_iload_n hx hb dX3_isRest_0 rfl (lv_at hl 1 rfl) ?_
  obtain ⟨q5, hc, hf⟩ := zbd hf
  refine z_cSiE (As := [.int x1]) (rest := []) C (c_X3_oneWaits l D cy x1 q5 hc) gS_X3_X3_oneWaits hd_X3_oneWaits ⟨Nat.le_of_ble_eq_true rfl, Nat.le_of_ble_eq_true rfl⟩ ⟨Nat.le_refl _, Nat.le_refl _⟩ hP hD hS hl.1 (Nat.le_of_ble_eq_true rfl) dX3_isRest_1 (fun H locs hP hD hS => ?_)
  refine lv_istore_n (lv' := [(2, .int q5), (0, .int x0), (1, .int x1)]) hx hb dX3_isRest_4 rfl hl (by decide) rfl (fun ls hl => ?_)
  refine lv_iload_n hx hb dX3_isRest_5 rfl (lv_at hl 2 rfl) ?_
  obtain ⟨q6, hc, hf⟩ := zbd hf
  refine z_cSiE (As := [.int x1]) (rest := []) C (c_X3_otherWaits l D cy x1 q6 hc) gS_X3_X3_otherWaits hd_X3_otherWaits ⟨Nat.le_of_ble_eq_true rfl, Nat.le_of_ble_eq_true rfl⟩ ⟨Nat.le_refl _, Nat.le_refl _⟩ hP hD hS hl.1 (Nat.le_of_ble_eq_true rfl) dX3_isRest_6 (fun H locs hP hD hS => ?_)
  refine lv_istore_n (lv' := [(3, .int q6), (2, .int q5), (0, .int x0), (1, .int x1)]) hx hb dX3_isRest_9 rfl hl (by decide) rfl (fun ls hl => ?_)
  refine lv_iload_n hx hb dX3_isRest_10 rfl (lv_at hl 2 rfl) ?_
  refine lv_iload_n hx hb dX3_isRest_11 rfl (lv_at hl 1 rfl) ?_
  refine z_if_ne (tgt := 19) hx hb dX3_isRest_12 (by decide) hf (fun hf => ?_) (fun hf => ?_)
  · refine lv_iconst (v := (0 : Int32)) hx hb dX3_isRest_19 (by decide) ?_
    exact w_X3_isRest_20 l x0 x1 C q5 q6 x0 (0 : Int32) H locs ls hf hP hD hS (lv_sub hl [2, 1, 0] rfl)
  · refine lv_iconst (v := (1 : Int32)) hx hb dX3_isRest_15 (by decide) ?_
    refine lv_goto (tgt := 20) hx hb dX3_isRest_16 (by decide) ?_
    exact w_X3_isRest_20 l x0 x1 C q5 q6 x0 (1 : Int32) H locs ls hf hP hD hS (lv_sub hl [2, 1, 0] rfl)
def b_X3_countRests_4 (x0 : Int32) (k4 : Int32 → Int32 → Option (Int32)) (v1 : Int32) (v2 : Int32) : Option (Int32) :=
  (if (4 : Int32) ≤ v2 then
    some v1
    else
    (f_X3_isRest x0 v2).bind (fun q1 =>
      (if q1 = 0 then
        (k4 v1 (v2 + (1 : Int32)))
        else
        (k4 (v1 + (1 : Int32)) (v2 + (1 : Int32))))))
set_option maxHeartbeats 4000000 in
set_option maxRecDepth 100000 in
theorem w_X3_countRests_4 {p : Program} {e : Env} {s : State} {m : MethodId} {below : List Frame} {meth : Method} {c : Code} {A : Nat → Prop} {D : va_G} {cy : Nat → ClassId} {args : Array Value} {r : Int32} (l : Launch) (x0 : Int32) (C : zX p s m meth c cX3_countRests 3 args RX3 (some FieldType.int) A D (zty cy)) :
    ∀ (n : Nat) (v1 : Int32) (v2 : Int32) (H : Heap) (locs : List Loc) (ls : Array Slot), zl2 (b_X3_countRests_4 x0) n v1 v2 = some r → va_P D vwCl ([]) H → va_D A ([]) → va_S A s.heap H locs → lv_has ls 3 [(0, .int x0), (1, .int v1), (2, .int v2)] → W p l e (zRm 2 45) s m args below meth c H locs 0 0 (MQ below (zQI D (zty cy) A ([]) r) args s 0 0 A) (F0 m 4 ls []) := by
  obtain ⟨hx, hb, hr, hts, hown, hlocks, hml, hA, hK⟩ := id C
  intro n
  induction n with
  | zero => intro v1 v2 H locs ls hf; exact zno hf
  | succ n ih =>
    intro v1 v2 H locs ls hf hP hD hS hl
    have hf : b_X3_countRests_4 x0 (zl2 (b_X3_countRests_4 x0) n) v1 v2 = some r := hf
    have K4 := ih
    refine lv_iload_n hx hb dX3_countRests_4 rfl (lv_at hl 2 rfl) ?_
    refine lv_iconst (v := (4 : Int32)) hx hb dX3_countRests_5 (by decide) ?_
    refine z_icmp_ge (tgt := 26) hx hb dX3_countRests_6 (by decide) hf (fun hf => ?_) (fun hf => ?_)
    · refine lv_iload_n hx hb dX3_countRests_26 rfl (lv_at hl 1 rfl) ?_
      obtain rfl := Option.some.inj hf
      exact z_iret (v := v1) C hP hD hS dX3_countRests_27
    · refine lv_iload_n hx hb dX3_countRests_9 rfl (lv_at hl 0 rfl) ?_
      refine lv_iload_n hx hb dX3_countRests_10 rfl (lv_at hl 2 rfl) ?_
      obtain ⟨q1, hc, hf⟩ := zbd hf
      refine z_cSiE (As := [.int x0, .int v2]) (rest := []) C (c_X3_isRest l D cy x0 v2 q1 hc) gS_X3_X3_isRest hd_X3_isRest ⟨Nat.le_of_ble_eq_true rfl, Nat.le_of_ble_eq_true rfl⟩ ⟨Nat.le_refl _, Nat.le_refl _⟩ hP hD hS hl.1 (Nat.le_of_ble_eq_true rfl) dX3_countRests_11 (fun H locs hP hD hS => ?_)
      refine z_if_eq (tgt := 20) hx hb dX3_countRests_14 (by decide) hf (fun hf => ?_) (fun hf => ?_)
      · refine lv_iinc (v := (v2 + (1 : Int32))) (lv' := [(2, .int (v2 + (1 : Int32))), (0, .int x0), (1, .int v1)]) hx hb dX3_countRests_20 hl (k := 2) rfl rfl (by decide) rfl (fun ls hl => ?_)
        refine lv_goto (tgt := 4) hx hb dX3_countRests_23 (by decide) ?_
        exact K4 v1 (v2 + (1 : Int32)) H locs ls hf hP hD hS (lv_sub hl [1, 2, 0] rfl)
      · refine lv_iinc (v := (v1 + (1 : Int32))) (lv' := [(1, .int (v1 + (1 : Int32))), (0, .int x0), (2, .int v2)]) hx hb dX3_countRests_17 hl (k := 1) rfl rfl (by decide) rfl (fun ls hl => ?_)
        refine lv_iinc (v := (v2 + (1 : Int32))) (lv' := [(2, .int (v2 + (1 : Int32))), (1, .int (v1 + (1 : Int32))), (0, .int x0)]) hx hb dX3_countRests_20 hl (k := 2) rfl rfl (by decide) rfl (fun ls hl => ?_)
        refine lv_goto (tgt := 4) hx hb dX3_countRests_23 (by decide) ?_
        exact K4 (v1 + (1 : Int32)) (v2 + (1 : Int32)) H locs ls hf hP hD hS (lv_sub hl [2, 1, 0] rfl)
def f_X3_countRests (x0 : Int32) : Option (Int32) :=
  (zl2 (b_X3_countRests_4 x0) FU (0 : Int32) (0 : Int32))
set_option maxHeartbeats 4000000 in
set_option maxRecDepth 100000 in
theorem c_X3_countRests (l : Launch) (D : va_G) (cy : Nat → ClassId) (x0 : Int32) (r : Int32) (hf : f_X3_countRests x0 = some r) : zCI l yX3_countRests cX3_countRests 3 (some FieldType.int) 2 45 D (zty cy) [.int x0] ([]) ([]) r := by
  refine zCI_of (by decide +kernel) (Nat.le_of_ble_eq_true rfl) ?_
  intro p e s m below meth c A ls C hP hD hS hl
  generalize hargs : ([.int x0] : List Value).toArray = args at C ⊢
  have C : zX p s m meth c cX3_countRests 3 args RX3 (some FieldType.int) A D (zty cy) := C
  obtain ⟨hx, hb, hr, hts, hown, hlocks, hml, hA, hK⟩ := id C
  have hl : lv_has ls 3 [(0, .int x0)] := hl
  generalize hH : s.heap = H at hP ⊢
  have hS : va_S A s.heap H [] := by rw [← hH]; exact hS
  generalize ([] : List Loc) = locs at hS ⊢
  refine lv_iconst (v := (0 : Int32)) hx hb dX3_countRests_0 (by decide) ?_
  refine lv_istore_n (lv' := [(1, .int (0 : Int32)), (0, .int x0)]) hx hb dX3_countRests_1 rfl hl (by decide) rfl (fun ls hl => ?_)
  refine lv_iconst (v := (0 : Int32)) hx hb dX3_countRests_2 (by decide) ?_
  refine lv_istore_n (lv' := [(2, .int (0 : Int32)), (1, .int (0 : Int32)), (0, .int x0)]) hx hb dX3_countRests_3 rfl hl (by decide) rfl (fun ls hl => ?_)
  exact w_X3_countRests_4 l x0 C FU (0 : Int32) (0 : Int32) H locs ls hf hP hD hS (lv_sub hl [2, 1, 0] rfl)
def b_X3_firstRest_28 (x0 : Int32) (v1 : Int32) (u0 : Int32) : Option (Int32) :=
  (f_X3_otherWaits v1).bind (fun q1 =>
    (if q1 = 0 then
      some (u0 + (0 : Int32))
      else
      some (u0 + (1 : Int32))))
set_option maxHeartbeats 4000000 in
set_option maxRecDepth 100000 in
theorem w_X3_firstRest_28 {p : Program} {e : Env} {s : State} {m : MethodId} {below : List Frame} {meth : Method} {c : Code} {A : Nat → Prop} {D : va_G} {cy : Nat → ClassId} {args : Array Value} {r : Int32} (l : Launch) (x0 : Int32) (C : zX p s m meth c cX3_firstRest 2 args RX3 (some FieldType.int) A D (zty cy)) :
    ∀ (v1 : Int32) (u0 : Int32) (H : Heap) (locs : List Loc) (ls : Array Slot), b_X3_firstRest_28 x0 v1 u0 = some r → va_P D vwCl ([]) H → va_D A ([]) → va_S A s.heap H locs → lv_has ls 2 [(1, .int v1)] → W p l e (zRm 2 45) s m args below meth c H locs 0 0 (MQ below (zQI D (zty cy) A ([]) r) args s 0 0 A) (F0 m 28 ls [.int u0]) := by
  obtain ⟨hx, hb, hr, hts, hown, hlocks, hml, hA, hK⟩ := id C
  intro v1 u0 H locs ls hf hP hD hS hl
  refine lv_iload_n hx hb dX3_firstRest_28 rfl (lv_at hl 0 rfl) ?_
  obtain ⟨q1, hc, hf⟩ := zbd hf
  refine z_cSiE (As := [.int v1]) (rest := [.int u0]) C (c_X3_otherWaits l D cy v1 q1 hc) gS_X3_X3_otherWaits hd_X3_otherWaits ⟨Nat.le_of_ble_eq_true rfl, Nat.le_of_ble_eq_true rfl⟩ ⟨Nat.le_refl _, Nat.le_refl _⟩ hP hD hS hl.1 (Nat.le_of_ble_eq_true rfl) dX3_firstRest_29 (fun H locs hP hD hS => ?_)
  refine z_if_eq (tgt := 39) hx hb dX3_firstRest_32 (by decide) hf (fun hf => ?_) (fun hf => ?_)
  · refine lv_iconst (v := (0 : Int32)) hx hb dX3_firstRest_39 (by decide) ?_
    refine lv_iadd hx hb dX3_firstRest_40 ?_
    obtain rfl := Option.some.inj hf
    exact z_iret (v := (u0 + (0 : Int32))) C hP hD hS dX3_firstRest_41
  · refine lv_iconst (v := (1 : Int32)) hx hb dX3_firstRest_35 (by decide) ?_
    refine lv_goto (tgt := 40) hx hb dX3_firstRest_36 (by decide) ?_
    refine lv_iadd hx hb dX3_firstRest_40 ?_
    obtain rfl := Option.some.inj hf
    exact z_iret (v := (u0 + (1 : Int32))) C hP hD hS dX3_firstRest_41
def b_X3_firstRest_2 (x0 : Int32) (k2 : Int32 → Option (Int32)) (v1 : Int32) : Option (Int32) :=
  (if (4 : Int32) ≤ v1 then
    some (-2 : Int32)
    else
    (f_X3_isRest x0 v1).bind (fun q2 =>
      (if q2 = 0 then
        (k2 (v1 + (1 : Int32)))
        else
        (f_X3_oneWaits v1).bind (fun q3 =>
          (if q3 = 0 then
            (b_X3_firstRest_28 x0 v1 (0 : Int32))
            else
            (b_X3_firstRest_28 x0 v1 (10 : Int32)))))))
set_option maxHeartbeats 4000000 in
set_option maxRecDepth 100000 in
theorem w_X3_firstRest_2 {p : Program} {e : Env} {s : State} {m : MethodId} {below : List Frame} {meth : Method} {c : Code} {A : Nat → Prop} {D : va_G} {cy : Nat → ClassId} {args : Array Value} {r : Int32} (l : Launch) (x0 : Int32) (C : zX p s m meth c cX3_firstRest 2 args RX3 (some FieldType.int) A D (zty cy)) :
    ∀ (n : Nat) (v1 : Int32) (H : Heap) (locs : List Loc) (ls : Array Slot), zl1 (b_X3_firstRest_2 x0) n v1 = some r → va_P D vwCl ([]) H → va_D A ([]) → va_S A s.heap H locs → lv_has ls 2 [(0, .int x0), (1, .int v1)] → W p l e (zRm 2 45) s m args below meth c H locs 0 0 (MQ below (zQI D (zty cy) A ([]) r) args s 0 0 A) (F0 m 2 ls []) := by
  obtain ⟨hx, hb, hr, hts, hown, hlocks, hml, hA, hK⟩ := id C
  intro n
  induction n with
  | zero => intro v1 H locs ls hf; exact zno hf
  | succ n ih =>
    intro v1 H locs ls hf hP hD hS hl
    have hf : b_X3_firstRest_2 x0 (zl1 (b_X3_firstRest_2 x0) n) v1 = some r := hf
    have K2 := ih
    refine lv_iload_n hx hb dX3_firstRest_2 rfl (lv_at hl 1 rfl) ?_
    refine lv_iconst (v := (4 : Int32)) hx hb dX3_firstRest_3 (by decide) ?_
    refine z_icmp_ge (tgt := 48) hx hb dX3_firstRest_4 (by decide) hf (fun hf => ?_) (fun hf => ?_)
    · refine lv_bipush (v := (-2 : Int32)) hx hb dX3_firstRest_48 (by decide) ?_
      obtain rfl := Option.some.inj hf
      exact z_iret (v := (-2 : Int32)) C hP hD hS dX3_firstRest_50
    · refine lv_iload_n hx hb dX3_firstRest_7 rfl (lv_at hl 0 rfl) ?_
      refine lv_iload_n hx hb dX3_firstRest_8 rfl (lv_at hl 1 rfl) ?_
      obtain ⟨q2, hc, hf⟩ := zbd hf
      refine z_cSiE (As := [.int x0, .int v1]) (rest := []) C (c_X3_isRest l D cy x0 v1 q2 hc) gS_X3_X3_isRest hd_X3_isRest ⟨Nat.le_of_ble_eq_true rfl, Nat.le_of_ble_eq_true rfl⟩ ⟨Nat.le_refl _, Nat.le_refl _⟩ hP hD hS hl.1 (Nat.le_of_ble_eq_true rfl) dX3_firstRest_9 (fun H locs hP hD hS => ?_)
      refine z_if_eq (tgt := 42) hx hb dX3_firstRest_12 (by decide) hf (fun hf => ?_) (fun hf => ?_)
      · refine lv_iinc (v := (v1 + (1 : Int32))) (lv' := [(1, .int (v1 + (1 : Int32))), (0, .int x0)]) hx hb dX3_firstRest_42 hl (k := 1) rfl rfl (by decide) rfl (fun ls hl => ?_)
        refine lv_goto (tgt := 2) hx hb dX3_firstRest_45 (by decide) ?_
        exact K2 (v1 + (1 : Int32)) H locs ls hf hP hD hS (lv_sub hl [1, 0] rfl)
      · refine lv_iload_n hx hb dX3_firstRest_15 rfl (lv_at hl 1 rfl) ?_
        obtain ⟨q3, hc, hf⟩ := zbd hf
        refine z_cSiE (As := [.int v1]) (rest := []) C (c_X3_oneWaits l D cy v1 q3 hc) gS_X3_X3_oneWaits hd_X3_oneWaits ⟨Nat.le_of_ble_eq_true rfl, Nat.le_of_ble_eq_true rfl⟩ ⟨Nat.le_refl _, Nat.le_refl _⟩ hP hD hS hl.1 (Nat.le_of_ble_eq_true rfl) dX3_firstRest_16 (fun H locs hP hD hS => ?_)
        refine z_if_eq (tgt := 27) hx hb dX3_firstRest_19 (by decide) hf (fun hf => ?_) (fun hf => ?_)
        · refine lv_iconst (v := (0 : Int32)) hx hb dX3_firstRest_27 (by decide) ?_
          exact w_X3_firstRest_28 l x0 C v1 (0 : Int32) H locs ls hf hP hD hS (lv_sub hl [1] rfl)
        · refine lv_bipush (v := (10 : Int32)) hx hb dX3_firstRest_22 (by decide) ?_
          refine lv_goto (tgt := 28) hx hb dX3_firstRest_24 (by decide) ?_
          exact w_X3_firstRest_28 l x0 C v1 (10 : Int32) H locs ls hf hP hD hS (lv_sub hl [1] rfl)
def f_X3_firstRest (x0 : Int32) : Option (Int32) :=
  (zl1 (b_X3_firstRest_2 x0) FU (0 : Int32))
set_option maxHeartbeats 4000000 in
set_option maxRecDepth 100000 in
theorem c_X3_firstRest (l : Launch) (D : va_G) (cy : Nat → ClassId) (x0 : Int32) (r : Int32) (hf : f_X3_firstRest x0 = some r) : zCI l yX3_firstRest cX3_firstRest 2 (some FieldType.int) 2 45 D (zty cy) [.int x0] ([]) ([]) r := by
  refine zCI_of (by decide +kernel) (Nat.le_of_ble_eq_true rfl) ?_
  intro p e s m below meth c A ls C hP hD hS hl
  generalize hargs : ([.int x0] : List Value).toArray = args at C ⊢
  have C : zX p s m meth c cX3_firstRest 2 args RX3 (some FieldType.int) A D (zty cy) := C
  obtain ⟨hx, hb, hr, hts, hown, hlocks, hml, hA, hK⟩ := id C
  have hl : lv_has ls 2 [(0, .int x0)] := hl
  generalize hH : s.heap = H at hP ⊢
  have hS : va_S A s.heap H [] := by rw [← hH]; exact hS
  generalize ([] : List Loc) = locs at hS ⊢
  refine lv_iconst (v := (0 : Int32)) hx hb dX3_firstRest_0 (by decide) ?_
  refine lv_istore_n (lv' := [(1, .int (0 : Int32)), (0, .int x0)]) hx hb dX3_firstRest_1 rfl hl (by decide) rfl (fun ls hl => ?_)
  exact w_X3_firstRest_2 l x0 C FU (0 : Int32) H locs ls hf hP hD hS (lv_sub hl [1, 0] rfl)
