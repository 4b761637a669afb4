theorem hd_X2_firstNotSo : yX2_firstNotSo.cls = RX2 ∧ yX2_firstNotSo.cls ≠ "java/lang/invoke/MethodHandle" ∧ yX2_firstNotSo.cls ≠ "java/lang/invoke/VarHandle" ∧ (parseMethodDescriptor yX2_firstNotSo.desc).map (fun d => d.parameters.length) = some 2 := by decide +kernel
theorem gV_X2_X2_firstNotSo : GoodIn WT (wsV RX2 47 RX2 yX2_firstNotSo (.code yX2_firstNotSo cX2_firstNotSo 5 (some FieldType.int) :: WT)) := gzV q3_194 q3_196 s_X2_firstNotSo q1_5 q3_197
theorem hd_X2_fitNumber : yX2_fitNumber.cls = RX2 ∧ yX2_fitNumber.cls ≠ "java/lang/invoke/MethodHandle" ∧ yX2_fitNumber.cls ≠ "java/lang/invoke/VarHandle" ∧ (parseMethodDescriptor yX2_fitNumber.desc).map (fun d => d.parameters.length) = some 1 := by decide +kernel
theorem gV_X2_X2_fitNumber : GoodIn WT (wsV RX2 62 RX2 yX2_fitNumber (.code yX2_fitNumber cX2_fitNumber 2 (some FieldType.int) :: WT)) := gzV q5_7 q4_236 q4_237 q1_5 q4_238
theorem hd_X2_flipsOf : yX2_flipsOf.cls = RX2 ∧ yX2_flipsOf.cls ≠ "java/lang/invoke/MethodHandle" ∧ yX2_flipsOf.cls ≠ "java/lang/invoke/VarHandle" ∧ (parseMethodDescriptor yX2_flipsOf.desc).map (fun d => d.parameters.length) = some 1 := by decide +kernel
theorem gV_X2_X2_flipsOf : GoodIn WT (wsV RX2 54 RX2 yX2_flipsOf (.code yX2_flipsOf cX2_flipsOf 5 (some FieldType.long) :: WT)) := gzV q3_206 q3_208 s_X2_flipsOf q1_5 q3_209
theorem hd_X2_leftAtMost : yX2_leftAtMost.cls = RX2 ∧ yX2_leftAtMost.cls ≠ "java/lang/invoke/MethodHandle" ∧ yX2_leftAtMost.cls ≠ "java/lang/invoke/VarHandle" ∧ (parseMethodDescriptor yX2_leftAtMost.desc).map (fun d => d.parameters.length) = some 1 := by decide +kernel
theorem gV_X2_X2_leftAtMost : GoodIn WT (wsV RX2 72 RX2 yX2_leftAtMost (.code yX2_leftAtMost cX2_leftAtMost 4 (some FieldType.int) :: WT)) := gzV q5_24 q5_25 q5_26 q1_5 q5_27
theorem gV_X2_X6_countingFresh : GoodIn WT (wsV RX2 41 RX6 yX6_countingFresh (.code yX6_countingFresh cX6_countingFresh 1 (some FieldType.long) :: WT)) := gzV q3_190 q3_191 q3_192 q1_3 q3_193
theorem gV_X2_X6_valueSeen : GoodIn WT (wsV RX2 58 RX6 yX6_valueSeen (.code yX6_valueSeen cX6_valueSeen 4 (some FieldType.int) :: WT)) := gzV q3_198 q3_199 q3_200 q1_3 q3_201
theorem hd_X7_advance : yX7_advance.cls = RX7 ∧ yX7_advance.cls ≠ "java/lang/invoke/MethodHandle" ∧ yX7_advance.cls ≠ "java/lang/invoke/VarHandle" ∧ (parseMethodDescriptor yX7_advance.desc).map (fun d => d.parameters.length) = some 0 := by decide +kernel
theorem gV_X7_X7_advance : GoodIn WT (wsV RX7 31 RX7 yX7_advance (.code yX7_advance cX7_advance 2 none :: WT)) := gzV q2_79 q2_80 q2_81 q1_6 q2_82
theorem hd_X7_scanWhole : yX7_scanWhole.cls = RX7 ∧ yX7_scanWhole.cls ≠ "java/lang/invoke/MethodHandle" ∧ yX7_scanWhole.cls ≠ "java/lang/invoke/VarHandle" ∧ (parseMethodDescriptor yX7_scanWhole.desc).map (fun d => d.parameters.length) = some 0 := by decide +kernel
theorem gV_X7_X7_scanWhole : GoodIn WT (wsV RX7 43 RX7 yX7_scanWhole (.code yX7_scanWhole cX7_scanWhole 1 none :: WT)) := gzV q2_88 q2_90 s_X7_scanWhole q1_6 q2_91
theorem hd_X7_scanWord : yX7_scanWord.cls = RX7 ∧ yX7_scanWord.cls ≠ "java/lang/invoke/MethodHandle" ∧ yX7_scanWord.cls ≠ "java/lang/invoke/VarHandle" ∧ (parseMethodDescriptor yX7_scanWord.desc).map (fun d => d.parameters.length) = some 0 := by decide +kernel
theorem gV_X7_X7_scanWord : GoodIn WT (wsV RX7 40 RX7 yX7_scanWord (.code yX7_scanWord cX7_scanWord 1 none :: WT)) := gzV q2_83 q2_85 s_X7_scanWord q1_6 q2_86
def f_X2_startAnew (St : SEv) : Option (SEv) :=
  some (mkEv (0 : Int32) (0 : Int32) (Ev_fitCount St) (Ev_firstWrong St) (Ev_flips St) (Ev_seenRows St) (Ev_seenValues St) (Ev_fitSets St))
set_option maxHeartbeats 4000000 in
set_option maxRecDepth 100000 in
theorem c_X2_startAnew (l : Launch) (D : va_G) (cy : Nat → ClassId) (ht : Nat → Nat) (St : SEv) (r : SEv) (hf : f_X2_startAnew St = some r) : zCV l yX2_startAnew cX2_startAnew 1 none 0 0 D (zty cy) [.ref (ht 0)] (wEv ht cy St) (wEv ht cy r) := by
  refine zCV_of (by decide +kernel) (Nat.le_of_ble_eq_true rfl) ?_
  intro p e s m below meth c A ls C hP hD hS hl
  generalize hargs : ([.ref (ht 0)] : List Value).toArray = args at C ⊢
  have C : zX p s m meth c cX2_startAnew 1 args RX2 none A D (zty cy) := C
  obtain ⟨hx, hb, hr, hts, hown, hlocks, hml, hA, hK⟩ := id C
  have hl : lv_has ls 1 [(0, .ref (ht 0))] := hl
  generalize hH : s.heap = H at hP ⊢
  have hS : va_S A s.heap H [] := by rw [← hH]; exact hS
  generalize ([] : List Loc) = locs at hS ⊢
  refine lv_aload_n hx hb dX2_startAnew_0 rfl (lv_at hl 0 rfl) ?_
  refine lv_iconst (v := (0 : Int32)) hx hb dX2_startAnew_1 (by decide) ?_
  refine z_put (w2 := vEv ht cy (0 : Int32) (Ev_seenCount St) (Ev_fitCount St) (Ev_firstWrong St) (Ev_flips St) (Ev_seenRows St) (Ev_seenValues St) (Ev_fitSets St)) hx hb hts in_X2 tyX2 tyX2_ok nmX2 hown hK hP hD hS 0 rfl rfl 0 (by decide) (hts _ q1_115) (fun _ h9 => h9) rfl rfl rfl (Nat.le_of_ble_eq_true rfl) dX2_startAnew_2 rfl (fun H locs hP hD hS => ?_)
  refine lv_aload_n hx hb dX2_startAnew_5 rfl (lv_at hl 0 rfl) ?_
  refine lv_iconst (v := (0 : Int32)) hx hb dX2_startAnew_6 (by decide) ?_
  refine z_put (w2 := vEv ht cy (0 : Int32) (0 : Int32) (Ev_fitCount St) (Ev_firstWrong St) (Ev_flips St) (Ev_seenRows St) (Ev_seenValues St) (Ev_fitSets St)) hx hb hts in_X2 tyX2 tyX2_ok nmX2 hown hK hP hD hS 0 rfl rfl 1 (by decide) (hts _ q1_117) (fun _ h9 => h9) rfl rfl rfl (Nat.le_of_ble_eq_true rfl) dX2_startAnew_7 rfl (fun H locs hP hD hS => ?_)
  obtain rfl := Option.some.inj hf
  rw [← wEv_mk ht] at hP hD
  exact z_vret C hP hD hS dX2_startAnew_10
def f_X2_takeOver (St : SEv) (Sp1 : SEv) : Option (SEv) :=
  some (mkEv (Ev_unsureCount Sp1) (Ev_seenCount Sp1) (Ev_fitCount St) (Ev_firstWrong St) (va_cpy (Ev_flips Sp1) (Ev_flips St) (0 : Int32).toNatClampNeg (0 : Int32).toNatClampNeg (4 : Int32).toNatClampNeg) (va_cpy (Ev_seenRows Sp1) (Ev_seenRows St) (0 : Int32).toNatClampNeg (0 : Int32).toNatClampNeg (8 : Int32).toNatClampNeg) (va_cpy (Ev_seenValues Sp1) (Ev_seenValues St) (0 : Int32).toNatClampNeg (0 : Int32).toNatClampNeg (8 : Int32).toNatClampNeg) (Ev_fitSets St))
set_option maxHeartbeats 4000000 in
set_option maxRecDepth 100000 in
theorem c_X2_takeOver (l : Launch) (D : va_G) (cy : Nat → ClassId) (ht : Nat → Nat) (hp1 : Nat → Nat) (St : SEv) (Sp1 : SEv) (r : SEv) (hf : f_X2_takeOver St Sp1 = some r) : zCV l yX2_takeOver cX2_takeOver 2 none 1 40 D (zty cy) [.ref (ht 0), .ref (hp1 0)] (wEv ht cy St ++ (wEv hp1 cy Sp1)) (wEv ht cy r ++ (wEv hp1 cy Sp1)) := by
  refine zCV_of (by decide +kernel) (Nat.le_of_ble_eq_true rfl) ?_
  intro p e s m below meth c A ls C hP hD hS hl
  generalize hargs : ([.ref (ht 0), .ref (hp1 0)] : List Value).toArray = args at C ⊢
  have C : zX p s m meth c cX2_takeOver 2 args RX2 none A D (zty cy) := C
  obtain ⟨hx, hb, hr, hts, hown, hlocks, hml, hA, hK⟩ := id C
  have hl : lv_has ls 2 [(0, .ref (ht 0)), (1, .ref (hp1 0))] := hl
  generalize hH : s.heap = H at hP ⊢
  have hS : va_S A s.heap H [] := by rw [← hH]; exact hS
  generalize ([] : List Loc) = locs at hS ⊢
  refine lv_aload_n hx hb dX2_takeOver_0 rfl (lv_at hl 0 rfl) ?_
  refine lv_aload_n hx hb dX2_takeOver_1 rfl (lv_at hl 1 rfl) ?_
  refine va_get (D := D) (ci := 0) (v := .int (Ev_unsureCount Sp1)) (C := RX2) (T := TX2) (N := 8) hx hb hts in_X2 hown hK hP 5 rfl rfl 0 (by decide) (hts _ q1_115) (fun _ h9 => h9) rfl dX2_takeOver_2 ?_
  refine z_put (w2 := vEv ht cy (Ev_unsureCount Sp1) (Ev_seenCount St) (Ev_fitCount St) (Ev_firstWrong St) (Ev_flips St) (Ev_seenRows St) (Ev_seenValues St) (Ev_fitSets St) ++ (wEv hp1 cy Sp1)) hx hb hts in_X2 tyX2 tyX2_ok nmX2 hown hK hP hD hS 0 rfl rfl 0 (by decide) (hts _ q1_115) (fun _ h9 => h9) rfl rfl rfl (Nat.le_of_ble_eq_true rfl) dX2_takeOver_5 rfl (fun H locs hP hD hS => ?_)
  refine lv_aload_n hx hb dX2_takeOver_8 rfl (lv_at hl 0 rfl) ?_
  refine lv_aload_n hx hb dX2_takeOver_9 rfl (lv_at hl 1 rfl) ?_
  refine va_get (D := D) (ci := 0) (v := .int (Ev_seenCount Sp1)) (C := RX2) (T := TX2) (N := 8) hx hb hts in_X2 hown hK hP 5 rfl rfl 1 (by decide) (hts _ q1_117) (fun _ h9 => h9) rfl dX2_takeOver_10 ?_
  refine z_put (w2 := vEv ht cy (Ev_unsureCount Sp1) (Ev_seenCount Sp1) (Ev_fitCount St) (Ev_firstWrong St) (Ev_flips St) (Ev_seenRows St) (Ev_seenValues St) (Ev_fitSets St) ++ (wEv hp1 cy Sp1)) hx hb hts in_X2 tyX2 tyX2_ok nmX2 hown hK hP hD hS 0 rfl rfl 1 (by decide) (hts _ q1_117) (fun _ h9 => h9) rfl rfl rfl (Nat.le_of_ble_eq_true rfl) dX2_takeOver_13 rfl (fun H locs hP hD hS => ?_)
  refine lv_aload_n hx hb dX2_takeOver_16 rfl (lv_at hl 1 rfl) ?_
  refine va_get (D := D) (ci := 0) (v := .ref (hp1 1)) (C := RX2) (T := TX2) (N := 8) hx hb hts in_X2 hown hK hP 5 rfl rfl 4 (by decide) (hts _ q1_123) (fun _ h9 => h9) rfl dX2_takeOver_17 ?_
  refine lv_iconst (v := (0 : Int32)) hx hb dX2_takeOver_20 (by decide) ?_
  refine lv_aload_n hx hb dX2_takeOver_21 rfl (lv_at hl 0 rfl) ?_
  refine va_get (D := D) (ci := 0) (v := .ref (ht 1)) (C := RX2) (T := TX2) (N := 8) hx hb hts in_X2 hown hK hP 0 rfl rfl 4 (by decide) (hts _ q1_123) (fun _ h9 => h9) rfl dX2_takeOver_22 ?_
  refine lv_iconst (v := (0 : Int32)) hx hb dX2_takeOver_25 (by decide) ?_
  refine lv_iconst (v := (4 : Int32)) hx hb dX2_takeOver_26 (by decide) ?_
  refine z_copyl (f := (Ev_flips Sp1)) (g := (Ev_flips St)) (w2 := vEv ht cy (Ev_unsureCount Sp1) (Ev_seenCount Sp1) (Ev_fitCount St) (Ev_firstWrong St) (va_cpy (Ev_flips Sp1) (Ev_flips St) (0 : Int32).toNatClampNeg (0 : Int32).toNatClampNeg (4 : Int32).toNatClampNeg) (Ev_seenRows St) (Ev_seenValues St) (Ev_fitSets St) ++ (wEv hp1 cy Sp1)) hx hb (hml.trans hl.1.symm) hown (hts _ q3_185) (hts _ q3_180) (hts _ q3_179) (hts _ q1_17) hK hP hD hS 6 1 1 1 rfl rfl rfl rfl rfl (by decide) (by decide) (by decide) (by decide) (by decide) (fun _ _ => rfl) (by decide) (Nat.le_of_ble_eq_true rfl) dX2_takeOver_27 rfl (fun H locs hP hD hS => ?_)
  refine lv_aload_n hx hb dX2_takeOver_30 rfl (lv_at hl 1 rfl) ?_
  refine va_get (D := D) (ci := 0) (v := .ref (hp1 2)) (C := RX2) (T := TX2) (N := 8) hx hb hts in_X2 hown hK hP 5 rfl rfl 5 (by decide) (hts _ q1_124) (fun _ h9 => h9) rfl dX2_takeOver_31 ?_
  refine lv_iconst (v := (0 : Int32)) hx hb dX2_takeOver_34 (by decide) ?_
  refine lv_aload_n hx hb dX2_takeOver_35 rfl (lv_at hl 0 rfl) ?_
  refine va_get (D := D) (ci := 0) (v := .ref (ht 2)) (C := RX2) (T := TX2) (N := 8) hx hb hts in_X2 hown hK hP 0 rfl rfl 5 (by decide) (hts _ q1_124) (fun _ h9 => h9) rfl dX2_takeOver_36 ?_
  refine lv_iconst (v := (0 : Int32)) hx hb dX2_takeOver_39 (by decide) ?_
  refine lv_bipush (v := (8 : Int32)) hx hb dX2_takeOver_40 (by decide) ?_
  refine z_copyi (f := (Ev_seenRows Sp1)) (g := (Ev_seenRows St)) (w2 := vEv ht cy (Ev_unsureCount Sp1) (Ev_seenCount Sp1) (Ev_fitCount St) (Ev_firstWrong St) (va_cpy (Ev_flips Sp1) (Ev_flips St) (0 : Int32).toNatClampNeg (0 : Int32).toNatClampNeg (4 : Int32).toNatClampNeg) (va_cpy (Ev_seenRows Sp1) (Ev_seenRows St) (0 : Int32).toNatClampNeg (0 : Int32).toNatClampNeg (8 : Int32).toNatClampNeg) (Ev_seenValues St) (Ev_fitSets St) ++ (wEv hp1 cy Sp1)) hx hb (hml.trans hl.1.symm) hown (hts _ q3_185) (hts _ q3_180) (hts _ q3_179) (hts _ q1_17) hK hP hD hS 7 2 0 0 rfl rfl rfl rfl rfl (by decide) (by decide) (by decide) (by decide) (by decide) (fun _ _ => rfl) (by decide) (Nat.le_of_ble_eq_true rfl) dX2_takeOver_42 rfl (fun H locs hP hD hS => ?_)
  refine lv_aload_n hx hb dX2_takeOver_45 rfl (lv_at hl 1 rfl) ?_
  refine va_get (D := D) (ci := 0) (v := .ref (hp1 3)) (C := RX2) (T := TX2) (N := 8) hx hb hts in_X2 hown hK hP 5 rfl rfl 6 (by decide) (hts _ q1_125) (fun _ h9 => h9) rfl dX2_takeOver_46 ?_
  refine lv_iconst (v := (0 : Int32)) hx hb dX2_takeOver_49 (by decide) ?_
  refine lv_aload_n hx hb dX2_takeOver_50 rfl (lv_at hl 0 rfl) ?_
  refine va_get (D := D) (ci := 0) (v := .ref (ht 3)) (C := RX2) (T := TX2) (N := 8) hx hb hts in_X2 hown hK hP 0 rfl rfl 6 (by decide) (hts _ q1_125) (fun _ h9 => h9) rfl dX2_takeOver_51 ?_
  refine lv_iconst (v := (0 : Int32)) hx hb dX2_takeOver_54 (by decide) ?_
  refine lv_bipush (v := (8 : Int32)) hx hb dX2_takeOver_55 (by decide) ?_
  refine z_copyi (f := (Ev_seenValues Sp1)) (g := (Ev_seenValues St)) (w2 := vEv ht cy (Ev_unsureCount Sp1) (Ev_seenCount Sp1) (Ev_fitCount St) (Ev_firstWrong St) (va_cpy (Ev_flips Sp1) (Ev_flips St) (0 : Int32).toNatClampNeg (0 : Int32).toNatClampNeg (4 : Int32).toNatClampNeg) (va_cpy (Ev_seenRows Sp1) (Ev_seenRows St) (0 : Int32).toNatClampNeg (0 : Int32).toNatClampNeg (8 : Int32).toNatClampNeg) (va_cpy (Ev_seenValues Sp1) (Ev_seenValues St) (0 : Int32).toNatClampNeg (0 : Int32).toNatClampNeg (8 : Int32).toNatClampNeg) (Ev_fitSets St) ++ (wEv hp1 cy Sp1)) hx hb (hml.trans hl.1.symm) hown (hts _ q3_185) (hts _ q3_180) (hts _ q3_179) (hts _ q1_17) hK hP hD hS 8 3 0 0 rfl rfl rfl rfl rfl (by decide) (by decide) (by decide) (by decide) (by decide) (fun _ _ => rfl) (by decide) (Nat.le_of_ble_eq_true rfl) dX2_takeOver_57 rfl (fun H locs hP hD hS => ?_)
  obtain rfl := Option.some.inj hf
  rw [← wEv_mk ht] at hP hD
  exact z_vret C hP hD hS dX2_takeOver_60
def f_X2_addUnsure (St : SEv) (x1 : Int64) : Option (SEv) :=
  (if (4 : Int32) ≤ (Ev_unsureCount St) then
    some St
    else
    (if zib (Ev_unsureCount St) 4 then some (mkEv ((Ev_unsureCount St) + (1 : Int32)) (Ev_seenCount St) (Ev_fitCount St) (Ev_firstWrong St) (vp_updL (Ev_flips St) (Ev_unsureCount St).toNatClampNeg x1) (Ev_seenRows St) (Ev_seenValues St) (Ev_fitSets St)) else none))
set_option maxHeartbeats 4000000 in
set_option maxRecDepth 100000 in
theorem c_X2_addUnsure (l : Launch) (D : va_G) (cy : Nat → ClassId) (ht : Nat → Nat) (St : SEv) (x1 : Int64) (r : SEv) (hf : f_X2_addUnsure St x1 = some r) : zCV l yX2_addUnsure cX2_addUnsure 3 none 0 0 D (zty cy) [.ref (ht 0), .long x1] (wEv ht cy St) (wEv ht cy r) := by
  refine zCV_of (by decide +kernel) (Nat.le_of_ble_eq_true rfl) ?_
  intro p e s m below meth c A ls C hP hD hS hl
  generalize hargs : ([.ref (ht 0), .long x1] : List Value).toArray = args at C ⊢
  have C : zX p s m meth c cX2_addUnsure 3 args RX2 none A D (zty cy) := C
  obtain ⟨hx, hb, hr, hts, hown, hlocks, hml, hA, hK⟩ := id C
  have hl : lv_has ls 3 [(0, .ref (ht 0)), (1, .long x1)] := hl
  generalize hH : s.heap = H at hP ⊢
  have hS : va_S A s.heap H [] := by rw [← hH]; exact hS
  generalize ([] : List Loc) = locs at hS ⊢
  refine lv_aload_n hx hb dX2_addUnsure_0 rfl (lv_at hl 0 rfl) ?_
  refine va_get (D := D) (ci := 0) (v := .int (Ev_unsureCount St)) (C := RX2) (T := TX2) (N := 8) hx hb hts in_X2 hown hK hP 0 rfl rfl 0 (by decide) (hts _ q1_115) (fun _ h9 => h9) rfl dX2_addUnsure_1 ?_
  refine lv_iconst (v := (4 : Int32)) hx hb dX2_addUnsure_4 (by decide) ?_
  refine z_icmp_ge (tgt := 28) hx hb dX2_addUnsure_5 (by decide) hf (fun hf => ?_) (fun hf => ?_)
  · obtain rfl := Option.some.inj hf
    exact z_vret C hP hD hS dX2_addUnsure_28
  · refine lv_aload_n hx hb dX2_addUnsure_8 rfl (lv_at hl 0 rfl) ?_
    refine va_get (D := D) (ci := 0) (v := .ref (ht 1)) (C := RX2) (T := TX2) (N := 8) hx hb hts in_X2 hown hK hP 0 rfl rfl 4 (by decide) (hts _ q1_123) (fun _ h9 => h9) rfl dX2_addUnsure_9 ?_
    refine lv_aload_n hx hb dX2_addUnsure_12 rfl (lv_at hl 0 rfl) ?_
    refine va_get (D := D) (ci := 0) (v := .int (Ev_unsureCount St)) (C := RX2) (T := TX2) (N := 8) hx hb hts in_X2 hown hK hP 0 rfl rfl 0 (by decide) (hts _ q1_115) (fun _ h9 => h9) rfl dX2_addUnsure_13 ?_
    refine lv_lload_n hx hb dX2_addUnsure_16 rfl (lv_at hl 1 rfl) ?_
    refine z_last (f := (Ev_flips St)) (w2 := vEv ht cy (Ev_unsureCount St) (Ev_seenCount St) (Ev_fitCount St) (Ev_firstWrong St) (vp_updL (Ev_flips St) (Ev_unsureCount St).toNatClampNeg x1) (Ev_seenRows St) (Ev_seenValues St) (Ev_fitSets St)) hx hb hK hP hD hS 1 1 rfl rfl dX2_addUnsure_17 hf rfl (fun hf H locs hP hD hS => ?_)
    refine lv_aload_n hx hb dX2_addUnsure_18 rfl (lv_at hl 0 rfl) ?_
    refine lv_dup hx hb dX2_addUnsure_19 rfl ?_
    refine va_get (D := D) (ci := 0) (v := .int (Ev_unsureCount St)) (C := RX2) (T := TX2) (N := 8) hx hb hts in_X2 hown hK hP 0 rfl rfl 0 (by decide) (hts _ q1_115) (fun _ h9 => h9) rfl dX2_addUnsure_20 ?_
    refine lv_iconst (v := (1 : Int32)) hx hb dX2_addUnsure_23 (by decide) ?_
    refine lv_iadd hx hb dX2_addUnsure_24 ?_
    refine z_put (w2 := vEv ht cy ((Ev_unsureCount St) + (1 : Int32)) (Ev_seenCount St) (Ev_fitCount St) (Ev_firstWrong St) (vp_updL (Ev_flips St) (Ev_unsureCount St).toNatClampNeg x1) (Ev_seenRows St) (Ev_seenValues St) (Ev_fitSets St)) hx hb hts in_X2 tyX2 tyX2_ok nmX2 hown hK hP hD hS 0 rfl rfl 0 (by decide) (hts _ q1_115) (fun _ h9 => h9) rfl rfl rfl (Nat.le_of_ble_eq_true rfl) dX2_addUnsure_25 rfl (fun H locs hP hD hS => ?_)
    obtain rfl := Option.some.inj hf
    rw [← wEv_mk ht] at hP hD
    exact z_vret C hP hD hS dX2_addUnsure_28
def f_X2_addSeen (St : SEv) (x1 : Int32) (x2 : Int32) : Option (SEv) :=
  (if (8 : Int32) ≤ (Ev_seenCount St) then
    some St
    else
    (if zib (Ev_seenCount St) 8 then (if zib (Ev_seenCount St) 8 then some (mkEv (Ev_unsureCount St) ((Ev_seenCount St) + (1 : Int32)) (Ev_fitCount St) (Ev_firstWrong St) (Ev_flips St) (upd (Ev_seenRows St) (Ev_seenCount St).toNatClampNeg x1) (upd (Ev_seenValues St) (Ev_seenCount St).toNatClampNeg x2) (Ev_fitSets St)) else none) else none))
set_option maxHeartbeats 4000000 in
set_option maxRecDepth 100000 in
theorem c_X2_addSeen (l : Launch) (D : va_G) (cy : Nat → ClassId) (ht : Nat → Nat) (St : SEv) (x1 : Int32) (x2 : Int32) (r : SEv) (hf : f_X2_addSeen St x1 x2 = some r) : zCV l yX2_addSeen cX2_addSeen 3 none 0 0 D (zty cy) [.ref (ht 0), .int x1, .int x2] (wEv ht cy St) (wEv ht cy r) := by
  refine zCV_of (by decide +kernel) (Nat.le_of_ble_eq_true rfl) ?_
  intro p e s m below meth c A ls C hP hD hS hl
  generalize hargs : ([.ref (ht 0), .int x1, .int x2] : List Value).toArray = args at C ⊢
  have C : zX p s m meth c cX2_addSeen 3 args RX2 none A D (zty cy) := C
  obtain ⟨hx, hb, hr, hts, hown, hlocks, hml, hA, hK⟩ := id C
  have hl : lv_has ls 3 [(0, .ref (ht 0)), (1, .int x1), (2, .int x2)] := hl
  generalize hH : s.heap = H at hP ⊢
  have hS : va_S A s.heap H [] := by rw [← hH]; exact hS
  generalize ([] : List Loc) = locs at hS ⊢
  refine lv_aload_n hx hb dX2_addSeen_0 rfl (lv_at hl 0 rfl) ?_
  refine va_get (D := D) (ci := 0) (v := .int (Ev_seenCount St)) (C := RX2) (T := TX2) (N := 8) hx hb hts in_X2 hown hK hP 0 rfl rfl 1 (by decide) (hts _ q1_117) (fun _ h9 => h9) rfl dX2_addSeen_1 ?_
  refine lv_bipush (v := (8 : Int32)) hx hb dX2_addSeen_4 (by decide) ?_
  refine z_icmp_ge (tgt := 39) hx hb dX2_addSeen_6 (by decide) hf (fun hf => ?_) (fun hf => ?_)
  · obtain rfl := Option.some.inj hf
    exact z_vret C hP hD hS dX2_addSeen_39
  · refine lv_aload_n hx hb dX2_addSeen_9 rfl (lv_at hl 0 rfl) ?_
    refine va_get (D := D) (ci := 0) (v := .ref (ht 2)) (C := RX2) (T := TX2) (N := 8) hx hb hts in_X2 hown hK hP 0 rfl rfl 5 (by decide) (hts _ q1_124) (fun _ h9 => h9) rfl dX2_addSeen_10 ?_
    refine lv_aload_n hx hb dX2_addSeen_13 rfl (lv_at hl 0 rfl) ?_
    refine va_get (D := D) (ci := 0) (v := .int (Ev_seenCount St)) (C := RX2) (T := TX2) (N := 8) hx hb hts in_X2 hown hK hP 0 rfl rfl 1 (by decide) (hts _ q1_117) (fun _ h9 => h9) rfl dX2_addSeen_14 ?_
    refine lv_iload_n hx hb dX2_addSeen_17 rfl (lv_at hl 1 rfl) ?_
    refine z_iast (f := (Ev_seenRows St)) (w2 := vEv ht cy (Ev_unsureCount St) (Ev_seenCount St) (Ev_fitCount St) (Ev_firstWrong St) (Ev_flips St) (upd (Ev_seenRows St) (Ev_seenCount St).toNatClampNeg x1) (Ev_seenValues St) (Ev_fitSets St)) hx hb hK hP hD hS 2 0 rfl rfl dX2_addSeen_18 hf rfl (fun hf H locs hP hD hS => ?_)
    refine lv_aload_n hx hb dX2_addSeen_19 rfl (lv_at hl 0 rfl) ?_
    refine va_get (D := D) (ci := 0) (v := .ref (ht 3)) (C := RX2) (T := TX2) (N := 8) hx hb hts in_X2 hown hK hP 0 rfl rfl 6 (by decide) (hts _ q1_125) (fun _ h9 => h9) rfl dX2_addSeen_20 ?_
    refine lv_aload_n hx hb dX2_addSeen_23 rfl (lv_at hl 0 rfl) ?_
    refine va_get (D := D) (ci := 0) (v := .int (Ev_seenCount St)) (C := RX2) (T := TX2) (N := 8) hx hb hts in_X2 hown hK hP 0 rfl rfl 1 (by decide) (hts _ q1_117) (fun _ h9 => h9) rfl dX2_addSeen_24 ?_
    refine lv_iload_n hx hb dX2_addSeen_27 rfl (lv_at hl 2 rfl) ?_
    refine z_iast (f := (Ev_seenValues St)) (w2 := vEv ht cy (Ev_unsureCount St) (Ev_seenCount St) (Ev_fitCount St) (Ev_firstWrong St) (Ev_flips St) (upd (Ev_seenRows St) (Ev_seenCount St).toNatClampNeg x1) (upd (Ev_seenValues St) (Ev_seenCount St).toNatClampNeg x2) (Ev_fitSets St)) hx hb hK hP hD hS 3 0 rfl rfl dX2_addSeen_28 hf rfl (fun hf H locs hP hD hS => ?_)
    refine lv_aload_n hx hb dX2_addSeen_29 rfl (lv_at hl 0 rfl) ?_
    refine lv_dup hx hb dX2_addSeen_30 rfl ?_
    refine va_get (D := D) (ci := 0) (v := .int (Ev_seenCount St)) (C := RX2) (T := TX2) (N := 8) hx hb hts in_X2 hown hK hP 0 rfl rfl 1 (by decide) (hts _ q1_117) (fun _ h9 => h9) rfl dX2_addSeen_31 ?_
    refine lv_iconst (v := (1 : Int32)) hx hb dX2_addSeen_34 (by decide) ?_
    refine lv_iadd hx hb dX2_addSeen_35 ?_
    refine z_put (w2 := vEv ht cy (Ev_unsureCount St) ((Ev_seenCount St) + (1 : Int32)) (Ev_fitCount St) (Ev_firstWrong St) (Ev_flips St) (upd (Ev_seenRows St) (Ev_seenCount St).toNatClampNeg x1) (upd (Ev_seenValues St) (Ev_seenCount St).toNatClampNeg x2) (Ev_fitSets St)) hx hb hts in_X2 tyX2 tyX2_ok nmX2 hown hK hP hD hS 0 rfl rfl 1 (by decide) (hts _ q1_117) (fun _ h9 => h9) rfl rfl rfl (Nat.le_of_ble_eq_true rfl) dX2_addSeen_36 rfl (fun H locs hP hD hS => ?_)
    obtain rfl := Option.some.inj hf
    rw [← wEv_mk ht] at hP hD
    exact z_vret C hP hD hS dX2_addSeen_39
def b_X2_isRowSeen_2 (St : SEv) (x1 : Int32) (k2 : Int32 → Option (Int32)) (v2 : Int32) : Option (Int32) :=
  (if (Ev_seenCount St) ≤ v2 then
    some (0 : Int32)
    else
    (if (8 : Int32) ≤ v2 then
      some (0 : Int32)
      else
      (if zib v2 8 then (if ((Ev_seenRows St) v2.toNatClampNeg) = x1 then
          some (1 : Int32)
          else
          (k2 (v2 + (1 : Int32)))) else none)))
set_option maxHeartbeats 4000000 in
set_option maxRecDepth 100000 in
theorem w_X2_isRowSeen_2 {p : Program} {e : Env} {s : State} {m : MethodId} {below : List Frame} {meth : Method} {c : Code} {A : Nat → Prop} {D : va_G} {cy : Nat → ClassId} {args : Array Value} {r : Int32} (l : Launch) (ht : Nat → Nat) (St : SEv) (x1 : Int32) (C : zX p s m meth c cX2_isRowSeen 3 args RX2 (some FieldType.boolean) A D (zty cy)) :
    ∀ (n : Nat) (v2 : Int32) (H : Heap) (locs : List Loc) (ls : Array Slot), zl1 (b_X2_isRowSeen_2 St x1) n v2 = some r → va_P D vwCl (wEv ht cy St) H → va_D A (wEv ht cy St) → va_S A s.heap H locs → lv_has ls 3 [(0, .ref (ht 0)), (1, .int x1), (2, .int v2)] → W p l e (zRm 0 0) s m args below meth c H locs 0 0 (MQ below (zQI D (zty cy) A (wEv ht cy St) r) args s 0 0 A) (F0 m 2 ls []) := by
  obtain ⟨hx, hb, hr, hts, hown, hlocks, hml, hA, hK⟩ := id C
  intro n
  induction n with
  | zero => intro v2 H locs ls hf; exact zno hf
  | succ n ih =>
    intro v2 H locs ls hf hP hD hS hl
    have hf : b_X2_isRowSeen_2 St x1 (zl1 (b_X2_isRowSeen_2 St x1) n) v2 = some r := hf
    have K2 := ih
    refine lv_iload_n hx hb dX2_isRowSeen_2 rfl (lv_at hl 2 rfl) ?_
    refine lv_aload_n hx hb dX2_isRowSeen_3 rfl (lv_at hl 0 rfl) ?_
    refine va_get (D := D) (ci := 0) (v := .int (Ev_seenCount St)) (C := RX2) (T := TX2) (N := 8) hx hb hts in_X2 hown hK hP 0 rfl rfl 1 (by decide) (hts _ q1_117) (fun _ h9 => h9) rfl dX2_isRowSeen_4 ?_
    refine z_icmp_ge (tgt := 34) hx hb dX2_isRowSeen_7 (by decide) hf (fun hf => ?_) (fun hf => ?_)
    · refine lv_iconst (v := (0 : Int32)) hx hb dX2_isRowSeen_34 (by decide) ?_
      obtain rfl := Option.some.inj hf
      exact z_zret (v := (0 : Int32)) C rfl hP hD hS dX2_isRowSeen_35
    · refine lv_iload_n hx hb dX2_isRowSeen_10 rfl (lv_at hl 2 rfl) ?_
      refine lv_bipush (v := (8 : Int32)) hx hb dX2_isRowSeen_11 (by decide) ?_
      refine z_icmp_ge (tgt := 34) hx hb dX2_isRowSeen_13 (by decide) hf (fun hf => ?_) (fun hf => ?_)
      · refine lv_iconst (v := (0 : Int32)) hx hb dX2_isRowSeen_34 (by decide) ?_
        obtain rfl := Option.some.inj hf
        exact z_zret (v := (0 : Int32)) C rfl hP hD hS dX2_isRowSeen_35
      · refine lv_aload_n hx hb dX2_isRowSeen_16 rfl (lv_at hl 0 rfl) ?_
        refine va_get (D := D) (ci := 0) (v := .ref (ht 2)) (C := RX2) (T := TX2) (N := 8) hx hb hts in_X2 hown hK hP 0 rfl rfl 5 (by decide) (hts _ q1_124) (fun _ h9 => h9) rfl dX2_isRowSeen_17 ?_
        refine lv_iload_n hx hb dX2_isRowSeen_20 rfl (lv_at hl 2 rfl) ?_
        refine z_iald (f := (Ev_seenRows St)) hx hb hK hP 2 0 rfl rfl dX2_isRowSeen_21 hf (fun hf => ?_)
        refine lv_iload_n hx hb dX2_isRowSeen_22 rfl (lv_at hl 1 rfl) ?_
        refine z_icmp_ne (tgt := 28) hx hb dX2_isRowSeen_23 (by decide) hf (fun hf => ?_) (fun hf => ?_)
        · refine lv_iinc (v := (v2 + (1 : Int32))) (lv' := [(2, .int (v2 + (1 : Int32))), (0, .ref (ht 0)), (1, .int x1)]) hx hb dX2_isRowSeen_28 hl (k := 2) rfl rfl (by decide) rfl (fun ls hl => ?_)
          refine lv_goto (tgt := 2) hx hb dX2_isRowSeen_31 (by decide) ?_
          exact K2 (v2 + (1 : Int32)) H locs ls hf hP hD hS (lv_sub hl [1, 2, 0] rfl)
        · refine lv_iconst (v := (1 : Int32)) hx hb dX2_isRowSeen_26 (by decide) ?_
          obtain rfl := Option.some.inj hf
          exact z_zret (v := (1 : Int32)) C rfl hP hD hS dX2_isRowSeen_27
def f_X2_isRowSeen (St : SEv) (x1 : Int32) : Option (Int32) :=
  (zl1 (b_X2_isRowSeen_2 St x1) FU (0 : Int32))
set_option maxHeartbeats 4000000 in
set_option maxRecDepth 100000 in
theorem c_X2_isRowSeen (l : Launch) (D : va_G) (cy : Nat → ClassId) (ht : Nat → Nat) (St : SEv) (x1 : Int32) (r : Int32) (hf : f_X2_isRowSeen St x1 = some r) : zCI l yX2_isRowSeen cX2_isRowSeen 3 (some FieldType.boolean) 0 0 D (zty cy) [.ref (ht 0), .int x1] (wEv ht cy St) (wEv ht cy St) r := by
  refine zCI_of (by decide +kernel) (Nat.le_of_ble_eq_true rfl) ?_
  intro p e s m below meth c A ls C hP hD hS hl
  generalize hargs : ([.ref (ht 0), .int x1] : List Value).toArray = args at C ⊢
  have C : zX p s m meth c cX2_isRowSeen 3 args RX2 (some FieldType.boolean) A D (zty cy) := C
  obtain ⟨hx, hb, hr, hts, hown, hlocks, hml, hA, hK⟩ := id C
  have hl : lv_has ls 3 [(0, .ref (ht 0)), (1, .int x1)] := hl
  generalize hH : s.heap = H at hP ⊢
  have hS : va_S A s.heap H [] := by rw [← hH]; exact hS
  generalize ([] : List Loc) = locs at hS ⊢
  refine lv_iconst (v := (0 : Int32)) hx hb dX2_isRowSeen_0 (by decide) ?_
  refine lv_istore_n (lv' := [(2, .int (0 : Int32)), (0, .ref (ht 0)), (1, .int x1)]) hx hb dX2_isRowSeen_1 rfl hl (by decide) rfl (fun ls hl => ?_)
  exact w_X2_isRowSeen_2 l ht St x1 C FU (0 : Int32) H locs ls hf hP hD hS (lv_sub hl [1, 2, 0] rfl)
def b_X2_firstNotSo_3 (St : SEv) (Sp1 : SRows) (x2 : Int64) (k3 : Int32 → Option (Int32)) (v4 : Int32) : Option (Int32) :=
  (if (Ev_seenCount St) ≤ v4 then
    some (-2 : Int32)
    else
    (if (8 : Int32) ≤ v4 then
      some (-2 : Int32)
      else
      (if zib v4 8 then (f_X6_valueSeen Sp1 ((Ev_seenRows St) v4.toNatClampNeg) x2).bind (fun q1 =>
          (if zib v4 8 then (if q1 = ((Ev_seenValues St) v4.toNatClampNeg) then
              (k3 (v4 + (1 : Int32)))
              else
              some v4) else none)) else none)))
set_option maxHeartbeats 4000000 in
set_option maxRecDepth 100000 in
theorem w_X2_firstNotSo_3 {p : Program} {e : Env} {s : State} {m : MethodId} {below : List Frame} {meth : Method} {c : Code} {A : Nat → Prop} {D : va_G} {cy : Nat → ClassId} {args : Array Value} {r : Int32} (l : Launch) (ht : Nat → Nat) (hp1 : Nat → Nat) (St : SEv) (Sp1 : SRows) (x2 : Int64) (C : zX p s m meth c cX2_firstNotSo 5 args RX2 (some FieldType.int) A D (zty cy)) :
    ∀ (n : Nat) (v4 : Int32) (H : Heap) (locs : List Loc) (ls : Array Slot), zl1 (b_X2_firstNotSo_3 St Sp1 x2) n v4 = some r → va_P D vwCl (wEv ht cy St ++ (wRows hp1 cy Sp1)) H → va_D A (wEv ht cy St ++ (wRows hp1 cy Sp1)) → va_S A s.heap H locs → lv_has ls 5 [(0, .ref (ht 0)), (1, .ref (hp1 0)), (2, .long x2), (4, .int v4)] → W p l e (zRm 4 94) s m args below meth c H locs 0 0 (MQ below (zQI D (zty cy) A (wEv ht cy St ++ (wRows hp1 cy Sp1)) r) args s 0 0 A) (F0 m 3 ls []) := by
  obtain ⟨hx, hb, hr, hts, hown, hlocks, hml, hA, hK⟩ := id C
  intro n
  induction n with
  | zero => intro v4 H locs ls hf; exact zno hf
  | succ n ih =>
    intro v4 H locs ls hf hP hD hS hl
    have hf : b_X2_firstNotSo_3 St Sp1 x2 (zl1 (b_X2_firstNotSo_3 St Sp1 x2) n) v4 = some r := hf
    have K3 := ih
    refine lv_iload hx hb dX2_firstNotSo_3 (lv_at hl 3 rfl) ?_
    refine lv_aload_n hx hb dX2_firstNotSo_5 rfl (lv_at hl 0 rfl) ?_
    refine va_get (D := D) (ci := 0) (v := .int (Ev_seenCount St)) (C := RX2) (T := TX2) (N := 8) hx hb hts in_X2 hown hK hP 0 rfl rfl 1 (by decide) (hts _ q1_117) (fun _ h9 => h9) rfl dX2_firstNotSo_6 ?_
    refine z_icmp_ge (tgt := 50) hx hb dX2_firstNotSo_9 (by decide) hf (fun hf => ?_) (fun hf => ?_)
    · refine lv_bipush (v := (-2 : Int32)) hx hb dX2_firstNotSo_50 (by decide) ?_
      obtain rfl := Option.some.inj hf
      exact z_iret (v := (-2 : Int32)) C hP hD hS dX2_firstNotSo_52
    · refine lv_iload hx hb dX2_firstNotSo_12 (lv_at hl 3 rfl) ?_
      refine lv_bipush (v := (8 : Int32)) hx hb dX2_firstNotSo_14 (by decide) ?_
      refine z_icmp_ge (tgt := 50) hx hb dX2_firstNotSo_16 (by decide) hf (fun hf => ?_) (fun hf => ?_)
      · refine lv_bipush (v := (-2 : Int32)) hx hb dX2_firstNotSo_50 (by decide) ?_
        obtain rfl := Option.some.inj hf
        exact z_iret (v := (-2 : Int32)) C hP hD hS dX2_firstNotSo_52
      · refine lv_aload_n hx hb dX2_firstNotSo_19 rfl (lv_at hl 1 rfl) ?_
        refine lv_aload_n hx hb dX2_firstNotSo_20 rfl (lv_at hl 0 rfl) ?_
        refine va_get (D := D) (ci := 0) (v := .ref (ht 2)) (C := RX2) (T := TX2) (N := 8) hx hb hts in_X2 hown hK hP 0 rfl rfl 5 (by decide) (hts _ q1_124) (fun _ h9 => h9) rfl dX2_firstNotSo_21 ?_
        refine lv_iload hx hb dX2_firstNotSo_24 (lv_at hl 3 rfl) ?_
        refine z_iald (f := (Ev_seenRows St)) hx hb hK hP 2 0 rfl rfl dX2_firstNotSo_26 hf (fun hf => ?_)
        refine lv_lload_n hx hb dX2_firstNotSo_27 rfl (lv_at hl 2 rfl) ?_
        obtain ⟨q1, hc, hf⟩ := zbd hf
        refine z_cVi (As := [.int ((Ev_seenRows St) v4.toNatClampNeg), .long x2]) (rest := []) C (c_X6_valueSeen l D cy hp1 Sp1 ((Ev_seenRows St) v4.toNatClampNeg) x2 q1 hc) gV_X2_X6_valueSeen hd_X6_valueSeen ⟨Nat.le_of_ble_eq_true rfl, Nat.le_of_ble_eq_true rfl⟩ ⟨Nat.le_refl _, Nat.le_refl _⟩ (va_recv hK hP (ci := 3) (q0 := 5) rfl rfl) hP hD hS (w2 := wEv ht cy St ++ (wRows hp1 cy Sp1)) [5, 6, 7, 8, 9, 10, 11, 12] [0, 1, 2, 3, 4] [0, 1, 2, 3, 4, 5, 6, 7, 8, 9, 10, 11, 12] rfl rfl rfl rfl rfl rfl (by decide) hl.1 (Nat.le_of_ble_eq_true rfl) dX2_firstNotSo_28 (fun H locs hP hD hS => ?_)
        refine lv_aload_n hx hb dX2_firstNotSo_31 rfl (lv_at hl 0 rfl) ?_
        refine va_get (D := D) (ci := 0) (v := .ref (ht 3)) (C := RX2) (T := TX2) (N := 8) hx hb hts in_X2 hown hK hP 0 rfl rfl 6 (by decide) (hts _ q1_125) (fun _ h9 => h9) rfl dX2_firstNotSo_32 ?_
        refine lv_iload hx hb dX2_firstNotSo_35 (lv_at hl 3 rfl) ?_
        refine z_iald (f := (Ev_seenValues St)) hx hb hK hP 3 0 rfl rfl dX2_firstNotSo_37 hf (fun hf => ?_)
        refine z_icmp_eq (tgt := 44) hx hb dX2_firstNotSo_38 (by decide) hf (fun hf => ?_) (fun hf => ?_)
        · refine lv_iinc (v := (v4 + (1 : Int32))) (lv' := [(4, .int (v4 + (1 : Int32))), (0, .ref (ht 0)), (1, .ref (hp1 0)), (2, .long x2)]) hx hb dX2_firstNotSo_44 hl (k := 3) rfl rfl (by decide) rfl (fun ls hl => ?_)
          refine lv_goto (tgt := 3) hx hb dX2_firstNotSo_47 (by decide) ?_
          exact K3 (v4 + (1 : Int32)) H locs ls hf hP hD hS (lv_sub hl [1, 2, 3, 0] rfl)
        · refine lv_iload hx hb dX2_firstNotSo_41 (lv_at hl 3 rfl) ?_
          obtain rfl := Option.some.inj hf
          exact z_iret (v := v4) C hP hD hS dX2_firstNotSo_43
def f_X2_firstNotSo (St : SEv) (Sp1 : SRows) (x2 : Int64) : Option (Int32) :=
  (zl1 (b_X2_firstNotSo_3 St Sp1 x2) FU (0 : Int32))
set_option maxHeartbeats 4000000 in
set_option maxRecDepth 100000 in
theorem c_X2_firstNotSo (l : Launch) (D : va_G) (cy : Nat → ClassId) (ht : Nat → Nat) (hp1 : Nat → Nat) (St : SEv) (Sp1 : SRows) (x2 : Int64) (r : Int32) (hf : f_X2_firstNotSo St Sp1 x2 = some r) : zCI l yX2_firstNotSo cX2_firstNotSo 5 (some FieldType.int) 4 94 D (zty cy) [.ref (ht 0), .ref (hp1 0), .long x2] (wEv ht cy St ++ (wRows hp1 cy Sp1)) (wEv ht cy St ++ (wRows hp1 cy Sp1)) r := by
  refine zCI_of (by decide +kernel) (Nat.le_of_ble_eq_true rfl) ?_
  intro p e s m below meth c A ls C hP hD hS hl
  generalize hargs : ([.ref (ht 0), .ref (hp1 0), .long x2] : List Value).toArray = args at C ⊢
  have C : zX p s m meth c cX2_firstNotSo 5 args RX2 (some FieldType.int) A D (zty cy) := C
  obtain ⟨hx, hb, hr, hts, hown, hlocks, hml, hA, hK⟩ := id C
  have hl : lv_has ls 5 [(0, .ref (ht 0)), (1, .ref (hp1 0)), (2, .long x2)] := hl
  generalize hH : s.heap = H at hP ⊢
  have hS : va_S A s.heap H [] := by rw [← hH]; exact hS
  generalize ([] : List Loc) = locs at hS ⊢
  refine lv_iconst (v := (0 : Int32)) hx hb dX2_firstNotSo_0 (by decide) ?_
  refine lv_istore (lv' := [(4, .int (0 : Int32)), (0, .ref (ht 0)), (1, .ref (hp1 0)), (2, .long x2)]) hx hb dX2_firstNotSo_1 hl (by decide) rfl (fun ls hl => ?_)
  exact w_X2_firstNotSo_3 l ht hp1 St Sp1 x2 C FU (0 : Int32) H locs ls hf hP hD hS (lv_sub hl [1, 2, 3, 0] rfl)
def b_X2_flipsOf_5 (St : SEv) (x1 : Int32) (k5 : Int64 → Int32 → Option (Int64)) (v2 : Int64) (v4 : Int32) : Option (Int64) :=
  (if (4 : Int32) ≤ v4 then
    some v2
    else
    (if ((x1 >>> (v4 &&& 31)) &&& (1 : Int32)) = 0 then
      (k5 v2 (v4 + (1 : Int32)))
      else
      (if zib v4 4 then (k5 (v2 ^^^ ((Ev_flips St) v4.toNatClampNeg)) (v4 + (1 : Int32))) else none)))
set_option maxHeartbeats 4000000 in
set_option maxRecDepth 100000 in
theorem w_X2_flipsOf_5 {p : Program} {e : Env} {s : State} {m : MethodId} {below : List Frame} {meth : Method} {c : Code} {A : Nat → Prop} {D : va_G} {cy : Nat → ClassId} {args : Array Value} {r : Int64} (l : Launch) (ht : Nat → Nat) (St : SEv) (x1 : Int32) (C : zX p s m meth c cX2_flipsOf 5 args RX2 (some FieldType.long) A D (zty cy)) :
    ∀ (n : Nat) (v2 : Int64) (v4 : Int32) (H : Heap) (locs : List Loc) (ls : Array Slot), zl2 (b_X2_flipsOf_5 St x1) n v2 v4 = some r → va_P D vwCl (wEv ht cy St) H → va_D A (wEv ht cy St) → va_S A s.heap H locs → lv_has ls 5 [(0, .ref (ht 0)), (1, .int x1), (2, .long v2), (4, .int v4)] → W p l e (zRm 0 0) s m args below meth c H locs 0 0 (MQ below (zQL D (zty cy) A (wEv ht cy St) r) args s 0 0 A) (F0 m 5 ls []) := by
  obtain ⟨hx, hb, hr, hts, hown, hlocks, hml, hA, hK⟩ := id C
  intro n
  induction n with
  | zero => intro v2 v4 H locs ls hf; exact zno hf
  | succ n ih =>
    intro v2 v4 H locs ls hf hP hD hS hl
    have hf : b_X2_flipsOf_5 St x1 (zl2 (b_X2_flipsOf_5 St x1) n) v2 v4 = some r := hf
    have K5 := ih
    refine lv_iload hx hb dX2_flipsOf_5 (lv_at hl 3 rfl) ?_
    refine lv_iconst (v := (4 : Int32)) hx hb dX2_flipsOf_7 (by decide) ?_
    refine z_icmp_ge (tgt := 36) hx hb dX2_flipsOf_8 (by decide) hf (fun hf => ?_) (fun hf => ?_)
    · refine lv_lload_n hx hb dX2_flipsOf_36 rfl (lv_at hl 2 rfl) ?_
      obtain rfl := Option.some.inj hf
      exact z_lret (v := v2) C hP hD hS dX2_flipsOf_37
    · refine lv_iload_n hx hb dX2_flipsOf_11 rfl (lv_at hl 1 rfl) ?_
      refine lv_iload hx hb dX2_flipsOf_12 (lv_at hl 3 rfl) ?_
      refine lv_ishr hx hb dX2_flipsOf_14 ?_
      refine lv_iconst (v := (1 : Int32)) hx hb dX2_flipsOf_15 (by decide) ?_
      refine lv_iand hx hb dX2_flipsOf_16 ?_
      refine z_if_eq (tgt := 30) hx hb dX2_flipsOf_17 (by decide) hf (fun hf => ?_) (fun hf => ?_)
      · refine lv_iinc (v := (v4 + (1 : Int32))) (lv' := [(4, .int (v4 + (1 : Int32))), (0, .ref (ht 0)), (1, .int x1), (2, .long v2)]) hx hb dX2_flipsOf_30 hl (k := 3) rfl rfl (by decide) rfl (fun ls hl => ?_)
        refine lv_goto (tgt := 5) hx hb dX2_flipsOf_33 (by decide) ?_
        exact K5 v2 (v4 + (1 : Int32)) H locs ls hf hP hD hS (lv_sub hl [1, 2, 3, 0] rfl)
      · refine lv_lload_n hx hb dX2_flipsOf_20 rfl (lv_at hl 2 rfl) ?_
        refine lv_aload_n hx hb dX2_flipsOf_21 rfl (lv_at hl 0 rfl) ?_
        refine va_get (D := D) (ci := 0) (v := .ref (ht 1)) (C := RX2) (T := TX2) (N := 8) hx hb hts in_X2 hown hK hP 0 rfl rfl 4 (by decide) (hts _ q1_123) (fun _ h9 => h9) rfl dX2_flipsOf_22 ?_
        refine lv_iload hx hb dX2_flipsOf_25 (lv_at hl 3 rfl) ?_
        refine z_lald (f := (Ev_flips St)) hx hb hK hP 1 1 rfl rfl dX2_flipsOf_27 hf (fun hf => ?_)
        refine lv_lxor hx hb dX2_flipsOf_28 ?_
        refine lv_lstore_n (lv' := [(2, .long (v2 ^^^ ((Ev_flips St) v4.toNatClampNeg))), (0, .ref (ht 0)), (1, .int x1), (4, .int v4)]) hx hb dX2_flipsOf_29 rfl hl (by decide) rfl (fun ls hl => ?_)
        refine lv_iinc (v := (v4 + (1 : Int32))) (lv' := [(4, .int (v4 + (1 : Int32))), (2, .long (v2 ^^^ ((Ev_flips St) v4.toNatClampNeg))), (0, .ref (ht 0)), (1, .int x1)]) hx hb dX2_flipsOf_30 hl (k := 3) rfl rfl (by decide) rfl (fun ls hl => ?_)
        refine lv_goto (tgt := 5) hx hb dX2_flipsOf_33 (by decide) ?_
        exact K5 (v2 ^^^ ((Ev_flips St) v4.toNatClampNeg)) (v4 + (1 : Int32)) H locs ls hf hP hD hS (lv_sub hl [2, 3, 1, 0] rfl)
def f_X2_flipsOf (St : SEv) (x1 : Int32) : Option (Int64) :=
  (zl2 (b_X2_flipsOf_5 St x1) FU (0 : Int64) (0 : Int32))
set_option maxHeartbeats 4000000 in
set_option maxRecDepth 100000 in
theorem c_X2_flipsOf (l : Launch) (D : va_G) (cy : Nat → ClassId) (ht : Nat → Nat) (St : SEv) (x1 : Int32) (r : Int64) (hf : f_X2_flipsOf St x1 = some r) : zCL l yX2_flipsOf cX2_flipsOf 5 (some FieldType.long) 0 0 D (zty cy) [.ref (ht 0), .int x1] (wEv ht cy St) (wEv ht cy St) r := by
  refine zCL_of (by decide +kernel) (Nat.le_of_ble_eq_true rfl) ?_
  intro p e s m below meth c A ls C hP hD hS hl
  generalize hargs : ([.ref (ht 0), .int x1] : List Value).toArray = args at C ⊢
  have C : zX p s m meth c cX2_flipsOf 5 args RX2 (some FieldType.long) A D (zty cy) := C
  obtain ⟨hx, hb, hr, hts, hown, hlocks, hml, hA, hK⟩ := id C
  have hl : lv_has ls 5 [(0, .ref (ht 0)), (1, .int x1)] := hl
  generalize hH : s.heap = H at hP ⊢
  have hS : va_S A s.heap H [] := by rw [← hH]; exact hS
  generalize ([] : List Loc) = locs at hS ⊢
  refine lv_lconst (v := (0 : Int64)) hx hb dX2_flipsOf_0 (by decide) ?_
  refine lv_lstore_n (lv' := [(2, .long (0 : Int64)), (0, .ref (ht 0)), (1, .int x1)]) hx hb dX2_flipsOf_1 rfl hl (by decide) rfl (fun ls hl => ?_)
  refine lv_iconst (v := (0 : Int32)) hx hb dX2_flipsOf_2 (by decide) ?_
  refine lv_istore (lv' := [(4, .int (0 : Int32)), (2, .long (0 : Int64)), (0, .ref (ht 0)), (1, .int x1)]) hx hb dX2_flipsOf_3 hl (by decide) rfl (fun ls hl => ?_)
  exact w_X2_flipsOf_5 l ht St x1 C FU (0 : Int64) (0 : Int32) H locs ls hf hP hD hS (lv_sub hl [2, 3, 1, 0] rfl)
def b_X2_weigh_23 (Sp1 : SRows) (k23 : SEv → Int64 → Int32 → Option (SEv)) (St : SEv) (v2 : Int64) (v4 : Int32) : Option (SEv) :=
  (if ((1 : Int32) <<< ((Ev_unsureCount St) &&& 31)) ≤ v4 then
    some St
    else
    (if (16 : Int32) ≤ (Ev_fitCount St) then
      some St
      else
      (f_X2_flipsOf St v4).bind (fun q1 =>
        (f_X2_firstNotSo St Sp1 (v2 ^^^ q1)).bind (fun q2 =>
          (if q2 = (-2 : Int32) then
            (if zib (Ev_fitCount St) 16 then (k23 (mkEv (Ev_unsureCount St) (Ev_seenCount St) ((Ev_fitCount St) + (1 : Int32)) (Ev_firstWrong St) (Ev_flips St) (Ev_seenRows St) (Ev_seenValues St) (upd (Ev_fitSets St) (Ev_fitCount St).toNatClampNeg v4)) v2 (v4 + (1 : Int32))) else none)
            else
            (k23 St v2 (v4 + (1 : Int32))))))))
set_option maxHeartbeats 4000000 in
set_option maxRecDepth 100000 in
theorem w_X2_weigh_23 {p : Program} {e : Env} {s : State} {m : MethodId} {below : List Frame} {meth : Method} {c : Code} {A : Nat → Prop} {D : va_G} {cy : Nat → ClassId} {args : Array Value} {r : SEv} (l : Launch) (ht : Nat → Nat) (hp1 : Nat → Nat) (Sp1 : SRows) (C : zX p s m meth c cX2_weigh 5 args RX2 none A D (zty cy)) :
    ∀ (n : Nat) (St : SEv) (v2 : Int64) (v4 : Int32) (H : Heap) (locs : List Loc) (ls : Array Slot), zl3 (b_X2_weigh_23 Sp1) n St v2 v4 = some r → va_P D vwCl (wEv ht cy St ++ (wRows hp1 cy Sp1)) H → va_D A (wEv ht cy St ++ (wRows hp1 cy Sp1)) → va_S A s.heap H locs → lv_has ls 5 [(0, .ref (ht 0)), (1, .ref (hp1 0)), (2, .long v2), (4, .int v4)] → W p l e (zRm 5 118) s m args below meth c H locs 0 0 (MQ below (zQV D (zty cy) A (wEv ht cy r ++ (wRows hp1 cy Sp1))) args s 0 0 A) (F0 m 23 ls []) := by
  obtain ⟨hx, hb, hr, hts, hown, hlocks, hml, hA, hK⟩ := id C
  intro n
  induction n with
  | zero => intro St v2 v4 H locs ls hf; exact zno hf
  | succ n ih =>
    intro St v2 v4 H locs ls hf hP hD hS hl
    have hf : b_X2_weigh_23 Sp1 (zl3 (b_X2_weigh_23 Sp1) n) St v2 v4 = some r := hf
    have K23 := ih
    refine lv_iload hx hb dX2_weigh_23 (lv_at hl 3 rfl) ?_
    refine lv_iconst (v := (1 : Int32)) hx hb dX2_weigh_25 (by decide) ?_
    refine lv_aload_n hx hb dX2_weigh_26 rfl (lv_at hl 0 rfl) ?_
    refine va_get (D := D) (ci := 0) (v := .int (Ev_unsureCount St)) (C := RX2) (T := TX2) (N := 8) hx hb hts in_X2 hown hK hP 0 rfl rfl 0 (by decide) (hts _ q1_115) (fun _ h9 => h9) rfl dX2_weigh_27 ?_
    refine lv_ishl hx hb dX2_weigh_30 ?_
    refine z_icmp_ge (tgt := 91) hx hb dX2_weigh_31 (by decide) hf (fun hf => ?_) (fun hf => ?_)
    · obtain rfl := Option.some.inj hf
      exact z_vret C hP hD hS dX2_weigh_91
    · refine lv_aload_n hx hb dX2_weigh_34 rfl (lv_at hl 0 rfl) ?_
      refine va_get (D := D) (ci := 0) (v := .int (Ev_fitCount St)) (C := RX2) (T := TX2) (N := 8) hx hb hts in_X2 hown hK hP 0 rfl rfl 2 (by decide) (hts _ q1_119) (fun _ h9 => h9) rfl dX2_weigh_35 ?_
      refine lv_aload_n hx hb dX2_weigh_38 rfl (lv_at hl 0 rfl) ?_
      refine va_get (D := D) (ci := 0) (v := .ref (ht 4)) (C := RX2) (T := TX2) (N := 8) hx hb hts in_X2 hown hK hP 0 rfl rfl 7 (by decide) (hts _ q1_126) (fun _ h9 => h9) rfl dX2_weigh_39 ?_
      refine va_alen (v := (16 : Int32)) hx hb hK hP 4 0 rfl rfl rfl dX2_weigh_42 ?_
      refine z_icmp_ge (tgt := 91) hx hb dX2_weigh_43 (by decide) hf (fun hf => ?_) (fun hf => ?_)
      · obtain rfl := Option.some.inj hf
        exact z_vret C hP hD hS dX2_weigh_91
      · refine lv_aload_n hx hb dX2_weigh_46 rfl (lv_at hl 0 rfl) ?_
        refine lv_aload_n hx hb dX2_weigh_47 rfl (lv_at hl 1 rfl) ?_
        refine lv_lload_n hx hb dX2_weigh_48 rfl (lv_at hl 2 rfl) ?_
        refine lv_aload_n hx hb dX2_weigh_49 rfl (lv_at hl 0 rfl) ?_
        refine lv_iload hx hb dX2_weigh_50 (lv_at hl 3 rfl) ?_
        obtain ⟨q1, hc, hf⟩ := zbd hf
        refine z_cVl (As := [.int v4]) (rest := [.long v2, .ref (hp1 0), .ref (ht 0)]) C (c_X2_flipsOf l D cy ht St v4 q1 hc) gV_X2_X2_flipsOf hd_X2_flipsOf ⟨Nat.le_of_ble_eq_true rfl, Nat.le_of_ble_eq_true rfl⟩ ⟨Nat.le_refl _, Nat.le_refl _⟩ (va_recv hK hP (ci := 0) (q0 := 0) rfl rfl) hP hD hS (w2 := wEv ht cy St ++ (wRows hp1 cy Sp1)) [0, 1, 2, 3, 4] [5, 6, 7, 8, 9, 10, 11, 12] [8, 9, 10, 11, 12, 0, 1, 2, 3, 4, 5, 6, 7] rfl rfl rfl rfl rfl rfl (by decide) hl.1 (Nat.le_of_ble_eq_true rfl) dX2_weigh_52 (fun H locs hP hD hS => ?_)
        refine lv_lxor hx hb dX2_weigh_55 ?_
        obtain ⟨q2, hc, hf⟩ := zbd hf
        refine z_cVi0 (As := [.ref (hp1 0), .long (v2 ^^^ q1)]) (rest := []) C (c_X2_firstNotSo l D cy ht hp1 St Sp1 (v2 ^^^ q1) q2 hc) gV_X2_X2_firstNotSo hd_X2_firstNotSo ⟨Nat.le_of_ble_eq_true rfl, Nat.le_of_ble_eq_true rfl⟩ ⟨Nat.le_refl _, Nat.le_refl _⟩ (va_recv hK hP (ci := 0) (q0 := 0) rfl rfl) hP hD hS hl.1 (Nat.le_of_ble_eq_true rfl) dX2_weigh_56 (fun H locs hP hD hS => ?_)
        have hP : va_P D vwCl (wEv ht cy St ++ (wRows hp1 cy Sp1)) H := hP
        have hD : va_D A (wEv ht cy St ++ (wRows hp1 cy Sp1)) := hD
        refine lv_bipush (v := (-2 : Int32)) hx hb dX2_weigh_59 (by decide) ?_
        refine z_icmp_ne (tgt := 85) hx hb dX2_weigh_61 (by decide) hf (fun hf => ?_) (fun hf => ?_)
        · refine lv_iinc (v := (v4 + (1 : Int32))) (lv' := [(4, .int (v4 + (1 : Int32))), (0, .ref (ht 0)), (1, .ref (hp1 0)), (2, .long v2)]) hx hb dX2_weigh_85 hl (k := 3) rfl rfl (by decide) rfl (fun ls hl => ?_)
          refine lv_goto (tgt := 23) hx hb dX2_weigh_88 (by decide) ?_
          exact K23 St v2 (v4 + (1 : Int32)) H locs ls hf hP hD hS (lv_sub hl [1, 2, 3, 0] rfl)
        · refine lv_aload_n hx hb dX2_weigh_64 rfl (lv_at hl 0 rfl) ?_
          refine va_get (D := D) (ci := 0) (v := .ref (ht 4)) (C := RX2) (T := TX2) (N := 8) hx hb hts in_X2 hown hK hP 0 rfl rfl 7 (by decide) (hts _ q1_126) (fun _ h9 => h9) rfl dX2_weigh_65 ?_
          refine lv_aload_n hx hb dX2_weigh_68 rfl (lv_at hl 0 rfl) ?_
          refine va_get (D := D) (ci := 0) (v := .int (Ev_fitCount St)) (C := RX2) (T := TX2) (N := 8) hx hb hts in_X2 hown hK hP 0 rfl rfl 2 (by decide) (hts _ q1_119) (fun _ h9 => h9) rfl dX2_weigh_69 ?_
          refine lv_iload hx hb dX2_weigh_72 (lv_at hl 3 rfl) ?_
          refine z_iast (f := (Ev_fitSets St)) (w2 := vEv ht cy (Ev_unsureCount St) (Ev_seenCount St) (Ev_fitCount St) (Ev_firstWrong St) (Ev_flips St) (Ev_seenRows St) (Ev_seenValues St) (upd (Ev_fitSets St) (Ev_fitCount St).toNatClampNeg v4) ++ (wRows hp1 cy Sp1)) hx hb hK hP hD hS 4 0 rfl rfl dX2_weigh_74 hf rfl (fun hf H locs hP hD hS => ?_)
          refine lv_aload_n hx hb dX2_weigh_75 rfl (lv_at hl 0 rfl) ?_
          refine lv_dup hx hb dX2_weigh_76 rfl ?_
          refine va_get (D := D) (ci := 0) (v := .int (Ev_fitCount St)) (C := RX2) (T := TX2) (N := 8) hx hb hts in_X2 hown hK hP 0 rfl rfl 2 (by decide) (hts _ q1_119) (fun _ h9 => h9) rfl dX2_weigh_77 ?_
          refine lv_iconst (v := (1 : Int32)) hx hb dX2_weigh_80 (by decide) ?_
          refine lv_iadd hx hb dX2_weigh_81 ?_
          refine z_put (w2 := vEv ht cy (Ev_unsureCount St) (Ev_seenCount St) ((Ev_fitCount St) + (1 : Int32)) (Ev_firstWrong St) (Ev_flips St) (Ev_seenRows St) (Ev_seenValues St) (upd (Ev_fitSets St) (Ev_fitCount St).toNatClampNeg v4) ++ (wRows hp1 cy Sp1)) hx hb hts in_X2 tyX2 tyX2_ok nmX2 hown hK hP hD hS 0 rfl rfl 2 (by decide) (hts _ q1_119) (fun _ h9 => h9) rfl rfl rfl (Nat.le_of_ble_eq_true rfl) dX2_weigh_82 rfl (fun H locs hP hD hS => ?_)
          refine lv_iinc (v := (v4 + (1 : Int32))) (lv' := [(4, .int (v4 + (1 : Int32))), (0, .ref (ht 0)), (1, .ref (hp1 0)), (2, .long v2)]) hx hb dX2_weigh_85 hl (k := 3) rfl rfl (by decide) rfl (fun ls hl => ?_)
          refine lv_goto (tgt := 23) hx hb dX2_weigh_88 (by decide) ?_
          rw [← wEv_mk ht] at hP hD
          exact K23 (mkEv (Ev_unsureCount St) (Ev_seenCount St) ((Ev_fitCount St) + (1 : Int32)) (Ev_firstWrong St) (Ev_flips St) (Ev_seenRows St) (Ev_seenValues St) (upd (Ev_fitSets St) (Ev_fitCount St).toNatClampNeg v4)) v2 (v4 + (1 : Int32)) H locs ls hf hP hD hS (lv_sub hl [1, 2, 3, 0] rfl)
def f_X2_weigh (St : SEv) (Sp1 : SRows) : Option (SEv) :=
  (f_X6_countingFresh Sp1).bind (fun q3 =>
    (f_X2_firstNotSo St Sp1 q3).bind (fun q4 =>
      (zl3 (b_X2_weigh_23 Sp1) FU (mkEv (Ev_unsureCount St) (Ev_seenCount St) (0 : Int32) q4 (Ev_flips St) (Ev_seenRows St) (Ev_seenValues St) (Ev_fitSets St)) q3 (0 : Int32))))
set_option maxHeartbeats 4000000 in
set_option maxRecDepth 100000 in
theorem c_X2_weigh (l : Launch) (D : va_G) (cy : Nat → ClassId) (ht : Nat → Nat) (hp1 : Nat → Nat) (St : SEv) (Sp1 : SRows) (r : SEv) (hf : f_X2_weigh St Sp1 = some r) : zCV l yX2_weigh cX2_weigh 5 none 5 118 D (zty cy) [.ref (ht 0), .ref (hp1 0)] (wEv ht cy St ++ (wRows hp1 cy Sp1)) (wEv ht cy r ++ (wRows hp1 cy Sp1)) := by
  refine zCV_of (by decide +kernel) (Nat.le_of_ble_eq_true rfl) ?_
  intro p e s m below meth c A ls C hP hD hS hl
  generalize hargs : ([.ref (ht 0), .ref (hp1 0)] : List Value).toArray = args at C ⊢
  have C : zX p s m meth c cX2_weigh 5 args RX2 none A D (zty cy) := C
  obtain ⟨hx, hb, hr, hts, hown, hlocks, hml, hA, hK⟩ := id C
  have hl : lv_has ls 5 [(0, .ref (ht 0)), (1, .ref (hp1 0))] := hl
  generalize hH : s.heap = H at hP ⊢
  have hS : va_S A s.heap H [] := by rw [← hH]; exact hS
  generalize ([] : List Loc) = locs at hS ⊢
  refine lv_aload_n hx hb dX2_weigh_0 rfl (lv_at hl 1 rfl) ?_
  obtain ⟨q3, hc, hf⟩ := zbd hf
  refine z_cVl (As := []) (rest := []) C (c_X6_countingFresh l D cy hp1 Sp1 q3 hc) gV_X2_X6_countingFresh hd_X6_countingFresh ⟨Nat.le_of_ble_eq_true rfl, Nat.le_of_ble_eq_true rfl⟩ ⟨Nat.le_refl _, Nat.le_refl _⟩ (va_recv hK hP (ci := 3) (q0 := 5) rfl rfl) hP hD hS (w2 := wEv ht cy St ++ (wRows hp1 cy Sp1)) [5, 6, 7, 8, 9, 10, 11, 12] [0, 1, 2, 3, 4] [0, 1, 2, 3, 4, 5, 6, 7, 8, 9, 10, 11, 12] rfl rfl rfl rfl rfl rfl (by decide) hl.1 (Nat.le_of_ble_eq_true rfl) dX2_weigh_1 (fun H locs hP hD hS => ?_)
  refine lv_lstore_n (lv' := [(2, .long q3), (0, .ref (ht 0)), (1, .ref (hp1 0))]) hx hb dX2_weigh_4 rfl hl (by decide) rfl (fun ls hl => ?_)
  refine lv_aload_n hx hb dX2_weigh_5 rfl (lv_at hl 1 rfl) ?_
  refine lv_aload_n hx hb dX2_weigh_6 rfl (lv_at hl 1 rfl) ?_
  refine lv_aload_n hx hb dX2_weigh_7 rfl (lv_at hl 2 rfl) ?_
  refine lv_lload_n hx hb dX2_weigh_8 rfl (lv_at hl 0 rfl) ?_
  obtain ⟨q4, hc, hf⟩ := zbd hf
  refine z_cVi0 (As := [.ref (hp1 0), .long q3]) (rest := [.ref (ht 0)]) C (c_X2_firstNotSo l D cy ht hp1 St Sp1 q3 q4 hc) gV_X2_X2_firstNotSo hd_X2_firstNotSo ⟨Nat.le_of_ble_eq_true rfl, Nat.le_of_ble_eq_true rfl⟩ ⟨Nat.le_refl _, Nat.le_refl _⟩ (va_recv hK hP (ci := 0) (q0 := 0) rfl rfl) hP hD hS hl.1 (Nat.le_of_ble_eq_true rfl) dX2_weigh_9 (fun H locs hP hD hS => ?_)
  have hP : va_P D vwCl (wEv ht cy St ++ (wRows hp1 cy Sp1)) H := hP
  have hD : va_D A (wEv ht cy St ++ (wRows hp1 cy Sp1)) := hD
  refine z_put (w2 := vEv ht cy (Ev_unsureCount St) (Ev_seenCount St) (Ev_fitCount St) q4 (Ev_flips St) (Ev_seenRows St) (Ev_seenValues St) (Ev_fitSets St) ++ (wRows hp1 cy Sp1)) hx hb hts in_X2 tyX2 tyX2_ok nmX2 hown hK hP hD hS 0 rfl rfl 3 (by decide) (hts _ q1_121) (fun _ h9 => h9) rfl rfl rfl (Nat.le_of_ble_eq_true rfl) dX2_weigh_12 rfl (fun H locs hP hD hS => ?_)
  refine lv_aload_n hx hb dX2_weigh_15 rfl (lv_at hl 1 rfl) ?_
  refine lv_iconst (v := (0 : Int32)) hx hb dX2_weigh_16 (by decide) ?_
  refine z_put (w2 := vEv ht cy (Ev_unsureCount St) (Ev_seenCount St) (0 : Int32) q4 (Ev_flips St) (Ev_seenRows St) (Ev_seenValues St) (Ev_fitSets St) ++ (wRows hp1 cy Sp1)) hx hb hts in_X2 tyX2 tyX2_ok nmX2 hown hK hP hD hS 0 rfl rfl 2 (by decide) (hts _ q1_119) (fun _ h9 => h9) rfl rfl rfl (Nat.le_of_ble_eq_true rfl) dX2_weigh_17 rfl (fun H locs hP hD hS => ?_)
  refine lv_iconst (v := (0 : Int32)) hx hb dX2_weigh_20 (by decide) ?_
  refine lv_istore (lv' := [(4, .int (0 : Int32)), (2, .long q3), (0, .ref (ht 0)), (1, .ref (hp1 0))]) hx hb dX2_weigh_21 hl (by decide) rfl (fun ls hl => ?_)
  rw [← wEv_mk ht] at hP hD
  exact w_X2_weigh_23 l ht hp1 Sp1 C FU (mkEv (Ev_unsureCount St) (Ev_seenCount St) (0 : Int32) q4 (Ev_flips St) (Ev_seenRows St) (Ev_seenValues St) (Ev_fitSets St)) q3 (0 : Int32) H locs ls hf hP hD hS (lv_sub hl [2, 3, 1, 0] rfl)
def f_X2_fitNumber (St : SEv) (x1 : Int32) : Option (Int32) :=
  (if x1 < 0 then
    some (-2 : Int32)
    else
    (if (Ev_fitCount St) ≤ x1 then
      some (-2 : Int32)
      else
      (if (16 : Int32) ≤ x1 then
        some (-2 : Int32)
        else
        (if zib x1 16 then some ((Ev_fitSets St) x1.toNatClampNeg) else none))))
set_option maxHeartbeats 4000000 in
set_option maxRecDepth 100000 in
theorem c_X2_fitNumber (l : Launch) (D : va_G) (cy : Nat → ClassId) (ht : Nat → Nat) (St : SEv) (x1 : Int32) (r : Int32) (hf : f_X2_fitNumber St x1 = some r) : zCI l yX2_fitNumber cX2_fitNumber 2 (some FieldType.int) 0 0 D (zty cy) [.ref (ht 0), .int x1] (wEv ht cy St) (wEv ht cy St) r := by
  refine zCI_of (by decide +kernel) (Nat.le_of_ble_eq_true rfl) ?_
  intro p e s m below meth c A ls C hP hD hS hl
  generalize hargs : ([.ref (ht 0), .int x1] : List Value).toArray = args at C ⊢
  have C : zX p s m meth c cX2_fitNumber 2 args RX2 (some FieldType.int) A D (zty cy) := C
  obtain ⟨hx, hb, hr, hts, hown, hlocks, hml, hA, hK⟩ := id C
  have hl : lv_has ls 2 [(0, .ref (ht 0)), (1, .int x1)] := hl
  generalize hH : s.heap = H at hP ⊢
  have hS : va_S A s.heap H [] := by rw [← hH]; exact hS
  generalize ([] : List Loc) = locs at hS ⊢
  refine lv_iload_n hx hb dX2_fitNumber_0 rfl (lv_at hl 1 rfl) ?_
  refine z_if_lt (tgt := 30) hx hb dX2_fitNumber_1 (by decide) hf (fun hf => ?_) (fun hf => ?_)
  · refine lv_bipush (v := (-2 : Int32)) hx hb dX2_fitNumber_30 (by decide) ?_
    obtain rfl := Option.some.inj hf
    exact z_iret (v := (-2 : Int32)) C hP hD hS dX2_fitNumber_32
  · refine lv_iload_n hx hb dX2_fitNumber_4 rfl (lv_at hl 1 rfl) ?_
    refine lv_aload_n hx hb dX2_fitNumber_5 rfl (lv_at hl 0 rfl) ?_
    refine va_get (D := D) (ci := 0) (v := .int (Ev_fitCount St)) (C := RX2) (T := TX2) (N := 8) hx hb hts in_X2 hown hK hP 0 rfl rfl 2 (by decide) (hts _ q1_119) (fun _ h9 => h9) rfl dX2_fitNumber_6 ?_
    refine z_icmp_ge (tgt := 30) hx hb dX2_fitNumber_9 (by decide) hf (fun hf => ?_) (fun hf => ?_)
    · refine lv_bipush (v := (-2 : Int32)) hx hb dX2_fitNumber_30 (by decide) ?_
      obtain rfl := Option.some.inj hf
      exact z_iret (v := (-2 : Int32)) C hP hD hS dX2_fitNumber_32
    · refine lv_iload_n hx hb dX2_fitNumber_12 rfl (lv_at hl 1 rfl) ?_
      refine lv_aload_n hx hb dX2_fitNumber_13 rfl (lv_at hl 0 rfl) ?_
      refine va_get (D := D) (ci := 0) (v := .ref (ht 4)) (C := RX2) (T := TX2) (N := 8) hx hb hts in_X2 hown hK hP 0 rfl rfl 7 (by decide) (hts _ q1_126) (fun _ h9 => h9) rfl dX2_fitNumber_14 ?_
      refine va_alen (v := (16 : Int32)) hx hb hK hP 4 0 rfl rfl rfl dX2_fitNumber_17 ?_
      refine z_icmp_ge (tgt := 30) hx hb dX2_fitNumber_18 (by decide) hf (fun hf => ?_) (fun hf => ?_)
      · refine lv_bipush (v := (-2 : Int32)) hx hb dX2_fitNumber_30 (by decide) ?_
        obtain rfl := Option.some.inj hf
        exact z_iret (v := (-2 : Int32)) C hP hD hS dX2_fitNumber_32
      · refine lv_aload_n hx hb dX2_fitNumber_21 rfl (lv_at hl 0 rfl) ?_
        refine va_get (D := D) (ci := 0) (v := .ref (ht 4)) (C := RX2) (T := TX2) (N := 8) hx hb hts in_X2 hown hK hP 0 rfl rfl 7 (by decide) (hts _ q1_126) (fun _ h9 => h9) rfl dX2_fitNumber_22 ?_
        refine lv_iload_n hx hb dX2_fitNumber_25 rfl (lv_at hl 1 rfl) ?_
        refine z_iald (f := (Ev_fitSets St)) hx hb hK hP 4 0 rfl rfl dX2_fitNumber_26 hf (fun hf => ?_)
        refine lv_goto (tgt := 32) hx hb dX2_fitNumber_27 (by decide) ?_
        obtain rfl := Option.some.inj hf
        exact z_iret (v := ((Ev_fitSets St) x1.toNatClampNeg)) C hP hD hS dX2_fitNumber_32
def b_X2_inSomeFit_4 (St : SEv) (k4 : Int32 → Int32 → Option (Int32)) (v1 : Int32) (v2 : Int32) : Option (Int32) :=
  (if (Ev_fitCount St) ≤ v2 then
    some v1
    else
    (f_X2_fitNumber St v2).bind (fun q1 =>
      (k4 (v1 ||| q1) (v2 + (1 : Int32)))))
set_option maxHeartbeats 4000000 in
set_option maxRecDepth 100000 in
theorem w_X2_inSomeFit_4 {p : Program} {e : Env} {s : State} {m : MethodId} {below : List Frame} {meth : Method} {c : Code} {A : Nat → Prop} {D : va_G} {cy : Nat → ClassId} {args : Array Value} {r : Int32} (l : Launch) (ht : Nat → Nat) (St : SEv) (C : zX p s m meth c cX2_inSomeFit 3 args RX2 (some FieldType.int) A D (zty cy)) :
    ∀ (n : Nat) (v1 : Int32) (v2 : Int32) (H : Heap) (locs : List Loc) (ls : Array Slot), zl2 (b_X2_inSomeFit_4 St) n v1 v2 = some r → va_P D vwCl (wEv ht cy St) H → va_D A (wEv ht cy St) → va_S A s.heap H locs → lv_has ls 3 [(0, .ref (ht 0)), (1, .int v1), (2, .int v2)] → W p l e (zRm 1 21) s m args below meth c H locs 0 0 (MQ below (zQI D (zty cy) A (wEv ht cy St) r) args s 0 0 A) (F0 m 4 ls []) := by
  obtain ⟨hx, hb, hr, hts, hown, hlocks, hml, hA, hK⟩ := id C
  intro n
  induction n with
  | zero => intro v1 v2 H locs ls hf; exact zno hf
  | succ n ih =>
    intro v1 v2 H locs ls hf hP hD hS hl
    have hf : b_X2_inSomeFit_4 St (zl2 (b_X2_inSomeFit_4 St) n) v1 v2 = some r := hf
    have K4 := ih
    refine lv_iload_n hx hb dX2_inSomeFit_4 rfl (lv_at hl 2 rfl) ?_
    refine lv_aload_n hx hb dX2_inSomeFit_5 rfl (lv_at hl 0 rfl) ?_
    refine va_get (D := D) (ci := 0) (v := .int (Ev_fitCount St)) (C := RX2) (T := TX2) (N := 8) hx hb hts in_X2 hown hK hP 0 rfl rfl 2 (by decide) (hts _ q1_119) (fun _ h9 => h9) rfl dX2_inSomeFit_6 ?_
    refine z_icmp_ge (tgt := 26) hx hb dX2_inSomeFit_9 (by decide) hf (fun hf => ?_) (fun hf => ?_)
    · refine lv_iload_n hx hb dX2_inSomeFit_26 rfl (lv_at hl 1 rfl) ?_
      obtain rfl := Option.some.inj hf
      exact z_iret (v := v1) C hP hD hS dX2_inSomeFit_27
    · refine lv_iload_n hx hb dX2_inSomeFit_12 rfl (lv_at hl 1 rfl) ?_
      refine lv_aload_n hx hb dX2_inSomeFit_13 rfl (lv_at hl 0 rfl) ?_
      refine lv_iload_n hx hb dX2_inSomeFit_14 rfl (lv_at hl 2 rfl) ?_
      obtain ⟨q1, hc, hf⟩ := zbd hf
      refine z_cVi0 (As := [.int v2]) (rest := [.int v1]) C (c_X2_fitNumber l D cy ht St v2 q1 hc) gV_X2_X2_fitNumber hd_X2_fitNumber ⟨Nat.le_of_ble_eq_true rfl, Nat.le_of_ble_eq_true rfl⟩ ⟨Nat.le_refl _, Nat.le_refl _⟩ (va_recv hK hP (ci := 0) (q0 := 0) rfl rfl) hP hD hS hl.1 (Nat.le_of_ble_eq_true rfl) dX2_inSomeFit_15 (fun H locs hP hD hS => ?_)
      have hP : va_P D vwCl (wEv ht cy St) H := hP
      have hD : va_D A (wEv ht cy St) := hD
      refine lv_ior hx hb dX2_inSomeFit_18 ?_
      refine lv_istore_n (lv' := [(1, .int (v1 ||| q1)), (0, .ref (ht 0)), (2, .int v2)]) hx hb dX2_inSomeFit_19 rfl hl (by decide) rfl (fun ls hl => ?_)
      refine lv_iinc (v := (v2 + (1 : Int32))) (lv' := [(2, .int (v2 + (1 : Int32))), (1, .int (v1 ||| q1)), (0, .ref (ht 0))]) hx hb dX2_inSomeFit_20 hl (k := 2) rfl rfl (by decide) rfl (fun ls hl => ?_)
      refine lv_goto (tgt := 4) hx hb dX2_inSomeFit_23 (by decide) ?_
      exact K4 (v1 ||| q1) (v2 + (1 : Int32)) H locs ls hf hP hD hS (lv_sub hl [2, 1, 0] rfl)
def f_X2_inSomeFit (St : SEv) : Option (Int32) :=
  (zl2 (b_X2_inSomeFit_4 St) FU (0 : Int32) (0 : Int32))
set_option maxHeartbeats 4000000 in
set_option maxRecDepth 100000 in
theorem c_X2_inSomeFit (l : Launch) (D : va_G) (cy : Nat → ClassId) (ht : Nat → Nat) (St : SEv) (r : Int32) (hf : f_X2_inSomeFit St = some r) : zCI l yX2_inSomeFit cX2_inSomeFit 3 (some FieldType.int) 1 21 D (zty cy) [.ref (ht 0)] (wEv ht cy St) (wEv ht cy St) r := by
  refine zCI_of (by decide +kernel) (Nat.le_of_ble_eq_true rfl) ?_
  intro p e s m below meth c A ls C hP hD hS hl
  generalize hargs : ([.ref (ht 0)] : List Value).toArray = args at C ⊢
  have C : zX p s m meth c cX2_inSomeFit 3 args RX2 (some FieldType.int) A D (zty cy) := C
  obtain ⟨hx, hb, hr, hts, hown, hlocks, hml, hA, hK⟩ := id C
  have hl : lv_has ls 3 [(0, .ref (ht 0))] := hl
  generalize hH : s.heap = H at hP ⊢
  have hS : va_S A s.heap H [] := by rw [← hH]; exact hS
  generalize ([] : List Loc) = locs at hS ⊢
  refine lv_iconst (v := (0 : Int32)) hx hb dX2_inSomeFit_0 (by decide) ?_
  refine lv_istore_n (lv' := [(1, .int (0 : Int32)), (0, .ref (ht 0))]) hx hb dX2_inSomeFit_1 rfl hl (by decide) rfl (fun ls hl => ?_)
  refine lv_iconst (v := (0 : Int32)) hx hb dX2_inSomeFit_2 (by decide) ?_
  refine lv_istore_n (lv' := [(2, .int (0 : Int32)), (1, .int (0 : Int32)), (0, .ref (ht 0))]) hx hb dX2_inSomeFit_3 rfl hl (by decide) rfl (fun ls hl => ?_)
  exact w_X2_inSomeFit_4 l ht St C FU (0 : Int32) (0 : Int32) H locs ls hf hP hD hS (lv_sub hl [2, 1, 0] rfl)
def b_X2_inEveryFit_19 (St : SEv) (k19 : Int32 → Int32 → Option (Int32)) (v1 : Int32) (v2 : Int32) : Option (Int32) :=
  (if (Ev_fitCount St) ≤ v2 then
    some v1
    else
    (f_X2_fitNumber St v2).bind (fun q1 =>
      (k19 (v1 &&& q1) (v2 + (1 : Int32)))))
set_option maxHeartbeats 4000000 in
set_option maxRecDepth 100000 in
theorem w_X2_inEveryFit_19 {p : Program} {e : Env} {s : State} {m : MethodId} {below : List Frame} {meth : Method} {c : Code} {A : Nat → Prop} {D : va_G} {cy : Nat → ClassId} {args : Array Value} {r : Int32} (l : Launch) (ht : Nat → Nat) (St : SEv) (C : zX p s m meth c cX2_inEveryFit 3 args RX2 (some FieldType.int) A D (zty cy)) :
    ∀ (n : Nat) (v1 : Int32) (v2 : Int32) (H : Heap) (locs : List Loc) (ls : Array Slot), zl2 (b_X2_inEveryFit_19 St) n v1 v2 = some r → va_P D vwCl (wEv ht cy St) H → va_D A (wEv ht cy St) → va_S A s.heap H locs → lv_has ls 3 [(0, .ref (ht 0)), (1, .int v1), (2, .int v2)] → W p l e (zRm 1 21) s m args below meth c H locs 0 0 (MQ below (zQI D (zty cy) A (wEv ht cy St) r) args s 0 0 A) (F0 m 19 ls []) := by
  obtain ⟨hx, hb, hr, hts, hown, hlocks, hml, hA, hK⟩ := id C
  intro n
  induction n with
  | zero => intro v1 v2 H locs ls hf; exact zno hf
  | succ n ih =>
    intro v1 v2 H locs ls hf hP hD hS hl
    have hf : b_X2_inEveryFit_19 St (zl2 (b_X2_inEveryFit_19 St) n) v1 v2 = some r := hf
    have K19 := ih
    refine lv_iload_n hx hb dX2_inEveryFit_19 rfl (lv_at hl 2 rfl) ?_
    refine lv_aload_n hx hb dX2_inEveryFit_20 rfl (lv_at hl 0 rfl) ?_
    refine va_get (D := D) (ci := 0) (v := .int (Ev_fitCount St)) (C := RX2) (T := TX2) (N := 8) hx hb hts in_X2 hown hK hP 0 rfl rfl 2 (by decide) (hts _ q1_119) (fun _ h9 => h9) rfl dX2_inEveryFit_21 ?_
    refine z_icmp_ge (tgt := 41) hx hb dX2_inEveryFit_24 (by decide) hf (fun hf => ?_) (fun hf => ?_)
    · refine lv_iload_n hx hb dX2_inEveryFit_41 rfl (lv_at hl 1 rfl) ?_
      obtain rfl := Option.some.inj hf
      exact z_iret (v := v1) C hP hD hS dX2_inEveryFit_42
    · refine lv_iload_n hx hb dX2_inEveryFit_27 rfl (lv_at hl 1 rfl) ?_
      refine lv_aload_n hx hb dX2_inEveryFit_28 rfl (lv_at hl 0 rfl) ?_
      refine lv_iload_n hx hb dX2_inEveryFit_29 rfl (lv_at hl 2 rfl) ?_
      obtain ⟨q1, hc, hf⟩ := zbd hf
      refine z_cVi0 (As := [.int v2]) (rest := [.int v1]) C (c_X2_fitNumber l D cy ht St v2 q1 hc) gV_X2_X2_fitNumber hd_X2_fitNumber ⟨Nat.le_of_ble_eq_true rfl, Nat.le_of_ble_eq_true rfl⟩ ⟨Nat.le_refl _, Nat.le_refl _⟩ (va_recv hK hP (ci := 0) (q0 := 0) rfl rfl) hP hD hS hl.1 (Nat.le_of_ble_eq_true rfl) dX2_inEveryFit_30 (fun H locs hP hD hS => ?_)
      have hP : va_P D vwCl (wEv ht cy St) H := hP
      have hD : va_D A (wEv ht cy St) := hD
      refine lv_iand hx hb dX2_inEveryFit_33 ?_
      refine lv_istore_n (lv' := [(1, .int (v1 &&& q1)), (0, .ref (ht 0)), (2, .int v2)]) hx hb dX2_inEveryFit_34 rfl hl (by decide) rfl (fun ls hl => ?_)
      refine lv_iinc (v := (v2 + (1 : Int32))) (lv' := [(2, .int (v2 + (1 : Int32))), (1, .int (v1 &&& q1)), (0, .ref (ht 0))]) hx hb dX2_inEveryFit_35 hl (k := 2) rfl rfl (by decide) rfl (fun ls hl => ?_)
      refine lv_goto (tgt := 19) hx hb dX2_inEveryFit_38 (by decide) ?_
      exact K19 (v1 &&& q1) (v2 + (1 : Int32)) H locs ls hf hP hD hS (lv_sub hl [2, 1, 0] rfl)
def f_X2_inEveryFit (St : SEv) : Option (Int32) :=
  (if (Ev_fitCount St) = 0 then
    (zl2 (b_X2_inEveryFit_19 St) FU (0 : Int32) (1 : Int32))
    else
    (f_X2_fitNumber St (0 : Int32)).bind (fun q2 =>
      (zl2 (b_X2_inEveryFit_19 St) FU q2 (1 : Int32))))
set_option maxHeartbeats 4000000 in
set_option maxRecDepth 100000 in
theorem c_X2_inEveryFit (l : Launch) (D : va_G) (cy : Nat → ClassId) (ht : Nat → Nat) (St : SEv) (r : Int32) (hf : f_X2_inEveryFit St = some r) : zCI l yX2_inEveryFit cX2_inEveryFit 3 (some FieldType.int) 1 21 D (zty cy) [.ref (ht 0)] (wEv ht cy St) (wEv ht cy St) r := by
  refine zCI_of (by decide +kernel) (Nat.le_of_ble_eq_true rfl) ?_
  intro p e s m below meth c A ls C hP hD hS hl
  generalize hargs : ([.ref (ht 0)] : List Value).toArray = args at C ⊢
  have C : zX p s m meth c cX2_inEveryFit 3 args RX2 (some FieldType.int) A D (zty cy) := C
  obtain ⟨hx, hb, hr, hts, hown, hlocks, hml, hA, hK⟩ := id C
  have hl : lv_has ls 3 [(0, .ref (ht 0))] := hl
  generalize hH : s.heap = H at hP ⊢
  have hS : va_S A s.heap H [] := by rw [← hH]; exact hS
  generalize ([] : List Loc) = locs at hS ⊢
  refine lv_aload_n hx hb dX2_inEveryFit_0 rfl (lv_at hl 0 rfl) ?_
  refine va_get (D := D) (ci := 0) (v := .int (Ev_fitCount St)) (C := RX2) (T := TX2) (N := 8) hx hb hts in_X2 hown hK hP 0 rfl rfl 2 (by decide) (hts _ q1_119) (fun _ h9 => h9) rfl dX2_inEveryFit_1 ?_
  refine z_if_ne (tgt := 11) hx hb dX2_inEveryFit_4 (by decide) hf (fun hf => ?_) (fun hf => ?_)
  · refine lv_aload_n hx hb dX2_inEveryFit_11 rfl (lv_at hl 0 rfl) ?_
    refine lv_iconst (v := (0 : Int32)) hx hb dX2_inEveryFit_12 (by decide) ?_
    obtain ⟨q2, hc, hf⟩ := zbd hf
    refine z_cVi0 (As := [.int (0 : Int32)]) (rest := []) C (c_X2_fitNumber l D cy ht St (0 : Int32) q2 hc) gV_X2_X2_fitNumber hd_X2_fitNumber ⟨Nat.le_of_ble_eq_true rfl, Nat.le_of_ble_eq_true rfl⟩ ⟨Nat.le_refl _, Nat.le_refl _⟩ (va_recv hK hP (ci := 0) (q0 := 0) rfl rfl) hP hD hS hl.1 (Nat.le_of_ble_eq_true rfl) dX2_inEveryFit_13 (fun H locs hP hD hS => ?_)
    have hP : va_P D vwCl (wEv ht cy St) H := hP
    have hD : va_D A (wEv ht cy St) := hD
    refine lv_istore_n (lv' := [(1, .int q2), (0, .ref (ht 0))]) hx hb dX2_inEveryFit_16 rfl hl (by decide) rfl (fun ls hl => ?_)
    refine lv_iconst (v := (1 : Int32)) hx hb dX2_inEveryFit_17 (by decide) ?_
    refine lv_istore_n (lv' := [(2, .int (1 : Int32)), (1, .int q2), (0, .ref (ht 0))]) hx hb dX2_inEveryFit_18 rfl hl (by decide) rfl (fun ls hl => ?_)
    exact w_X2_inEveryFit_19 l ht St C FU q2 (1 : Int32) H locs ls hf hP hD hS (lv_sub hl [2, 1, 0] rfl)
  · refine lv_iconst (v := (0 : Int32)) hx hb dX2_inEveryFit_7 (by decide) ?_
    refine lv_goto (tgt := 16) hx hb dX2_inEveryFit_8 (by decide) ?_
    refine lv_istore_n (lv' := [(1, .int (0 : Int32)), (0, .ref (ht 0))]) hx hb dX2_inEveryFit_16 rfl hl (by decide) rfl (fun ls hl => ?_)
    refine lv_iconst (v := (1 : Int32)) hx hb dX2_inEveryFit_17 (by decide) ?_
    refine lv_istore_n (lv' := [(2, .int (1 : Int32)), (1, .int (0 : Int32)), (0, .ref (ht 0))]) hx hb dX2_inEveryFit_18 rfl hl (by decide) rfl (fun ls hl => ?_)
    exact w_X2_inEveryFit_19 l ht St C FU (0 : Int32) (1 : Int32) H locs ls hf hP hD hS (lv_sub hl [2, 1, 0] rfl)
def b_X2_leftAtMost_4 (St : SEv) (x1 : Int32) (k4 : Int32 → Int32 → Option (Int32)) (v2 : Int32) (v3 : Int32) : Option (Int32) :=
  (if (Ev_fitCount St) ≤ v3 then
    some (if v2 < ((Ev_fitCount St) - v2) then ((Ev_fitCount St) - v2) else v2)
    else
    (f_X2_fitNumber St v3).bind (fun q1 =>
      (k4 (v2 + ((q1 >>> (x1 &&& 31)) &&& (1 : Int32))) (v3 + (1 : Int32)))))
set_option maxHeartbeats 4000000 in
set_option maxRecDepth 100000 in
theorem w_X2_leftAtMost_4 {p : Program} {e : Env} {s : State} {m : MethodId} {below : List Frame} {meth : Method} {c : Code} {A : Nat → Prop} {D : va_G} {cy : Nat → ClassId} {args : Array Value} {r : Int32} (l : Launch) (ht : Nat → Nat) (St : SEv) (x1 : Int32) (C : zX p s m meth c cX2_leftAtMost 4 args RX2 (some FieldType.int) A D (zty cy)) :
    ∀ (n : Nat) (v2 : Int32) (v3 : Int32) (H : Heap) (locs : List Loc) (ls : Array Slot), zl2 (b_X2_leftAtMost_4 St x1) n v2 v3 = some r → va_P D vwCl (wEv ht cy St) H → va_D A (wEv ht cy St) → va_S A s.heap H locs → lv_has ls 4 [(0, .ref (ht 0)), (1, .int x1), (2, .int v2), (3, .int v3)] → W p l e (zRm 1 40) s m args below meth c H locs 0 0 (MQ below (zQI D (zty cy) A (wEv ht cy St) r) args s 0 0 A) (F0 m 4 ls []) := by
  obtain ⟨hx, hb, hr, hts, hown, hlocks, hml, hA, hK⟩ := id C
  intro n
  induction n with
  | zero => intro v2 v3 H locs ls hf; exact zno hf
  | succ n ih =>
    intro v2 v3 H locs ls hf hP hD hS hl
    have hf : b_X2_leftAtMost_4 St x1 (zl2 (b_X2_leftAtMost_4 St x1) n) v2 v3 = some r := hf
    have K4 := ih
    refine lv_iload_n hx hb dX2_leftAtMost_4 rfl (lv_at hl 3 rfl) ?_
    refine lv_aload_n hx hb dX2_leftAtMost_5 rfl (lv_at hl 0 rfl) ?_
    refine va_get (D := D) (ci := 0) (v := .int (Ev_fitCount St)) (C := RX2) (T := TX2) (N := 8) hx hb hts in_X2 hown hK hP 0 rfl rfl 2 (by decide) (hts _ q1_119) (fun _ h9 => h9) rfl dX2_leftAtMost_6 ?_
    refine z_icmp_ge (tgt := 30) hx hb dX2_leftAtMost_9 (by decide) hf (fun hf => ?_) (fun hf => ?_)
    · refine lv_iload_n hx hb dX2_leftAtMost_30 rfl (lv_at hl 2 rfl) ?_
      refine lv_aload_n hx hb dX2_leftAtMost_31 rfl (lv_at hl 0 rfl) ?_
      refine va_get (D := D) (ci := 0) (v := .int (Ev_fitCount St)) (C := RX2) (T := TX2) (N := 8) hx hb hts in_X2 hown hK hP 0 rfl rfl 2 (by decide) (hts _ q1_119) (fun _ h9 => h9) rfl dX2_leftAtMost_32 ?_
      refine lv_iload_n hx hb dX2_leftAtMost_35 rfl (lv_at hl 2 rfl) ?_
      refine lv_isub hx hb dX2_leftAtMost_36 ?_
      refine va_mmax hx hb (hml.trans hl.1.symm) hown (hts _ q5_28) (hts _ q3_36) (hts _ q1_9) (hts _ q3_37) (by decide) (Nat.le_of_ble_eq_true rfl) (by decide) (by decide) dX2_leftAtMost_37 ?_
      obtain rfl := Option.some.inj hf
      exact z_iret (v := (if v2 < ((Ev_fitCount St) - v2) then ((Ev_fitCount St) - v2) else v2)) C hP hD hS dX2_leftAtMost_40
    · refine lv_iload_n hx hb dX2_leftAtMost_12 rfl (lv_at hl 2 rfl) ?_
      refine lv_aload_n hx hb dX2_leftAtMost_13 rfl (lv_at hl 0 rfl) ?_
      refine lv_iload_n hx hb dX2_leftAtMost_14 rfl (lv_at hl 3 rfl) ?_
      obtain ⟨q1, hc, hf⟩ := zbd hf
      refine z_cVi0 (As := [.int v3]) (rest := [.int v2]) C (c_X2_fitNumber l D cy ht St v3 q1 hc) gV_X2_X2_fitNumber hd_X2_fitNumber ⟨Nat.le_of_ble_eq_true rfl, Nat.le_of_ble_eq_true rfl⟩ ⟨Nat.le_refl _, Nat.le_refl _⟩ (va_recv hK hP (ci := 0) (q0 := 0) rfl rfl) hP hD hS hl.1 (Nat.le_of_ble_eq_true rfl) dX2_leftAtMost_15 (fun H locs hP hD hS => ?_)
      have hP : va_P D vwCl (wEv ht cy St) H := hP
      have hD : va_D A (wEv ht cy St) := hD
      refine lv_iload_n hx hb dX2_leftAtMost_18 rfl (lv_at hl 1 rfl) ?_
      refine lv_ishr hx hb dX2_leftAtMost_19 ?_
      refine lv_iconst (v := (1 : Int32)) hx hb dX2_leftAtMost_20 (by decide) ?_
      refine lv_iand hx hb dX2_leftAtMost_21 ?_
      refine lv_iadd hx hb dX2_leftAtMost_22 ?_
      refine lv_istore_n (lv' := [(2, .int (v2 + ((q1 >>> (x1 &&& 31)) &&& (1 : Int32)))), (0, .ref (ht 0)), (1, .int x1), (3, .int v3)]) hx hb dX2_leftAtMost_23 rfl hl (by decide) rfl (fun ls hl => ?_)
      refine lv_iinc (v := (v3 + (1 : Int32))) (lv' := [(3, .int (v3 + (1 : Int32))), (2, .int (v2 + ((q1 >>> (x1 &&& 31)) &&& (1 : Int32)))), (0, .ref (ht 0)), (1, .int x1)]) hx hb dX2_leftAtMost_24 hl (k := 3) rfl rfl (by decide) rfl (fun ls hl => ?_)
      refine lv_goto (tgt := 4) hx hb dX2_leftAtMost_27 (by decide) ?_
      exact K4 (v2 + ((q1 >>> (x1 &&& 31)) &&& (1 : Int32))) (v3 + (1 : Int32)) H locs ls hf hP hD hS (lv_sub hl [2, 3, 1, 0] rfl)
def f_X2_leftAtMost (St : SEv) (x1 : Int32) : Option (Int32) :=
  (zl2 (b_X2_leftAtMost_4 St x1) FU (0 : Int32) (0 : Int32))
set_option maxHeartbeats 4000000 in
set_option maxRecDepth 100000 in
theorem c_X2_leftAtMost (l : Launch) (D : va_G) (cy : Nat → ClassId) (ht : Nat → Nat) (St : SEv) (x1 : Int32) (r : Int32) (hf : f_X2_leftAtMost St x1 = some r) : zCI l yX2_leftAtMost cX2_leftAtMost 4 (some FieldType.int) 1 40 D (zty cy) [.ref (ht 0), .int x1] (wEv ht cy St) (wEv ht cy St) r := by
  refine zCI_of (by decide +kernel) (Nat.le_of_ble_eq_true rfl) ?_
  intro p e s m below meth c A ls C hP hD hS hl
  generalize hargs : ([.ref (ht 0), .int x1] : List Value).toArray = args at C ⊢
  have C : zX p s m meth c cX2_leftAtMost 4 args RX2 (some FieldType.int) A D (zty cy) := C
  obtain ⟨hx, hb, hr, hts, hown, hlocks, hml, hA, hK⟩ := id C
  have hl : lv_has ls 4 [(0, .ref (ht 0)), (1, .int x1)] := hl
  generalize hH : s.heap = H at hP ⊢
  have hS : va_S A s.heap H [] := by rw [← hH]; exact hS
  generalize ([] : List Loc) = locs at hS ⊢
  refine lv_iconst (v := (0 : Int32)) hx hb dX2_leftAtMost_0 (by decide) ?_
  refine lv_istore_n (lv' := [(2, .int (0 : Int32)), (0, .ref (ht 0)), (1, .int x1)]) hx hb dX2_leftAtMost_1 rfl hl (by decide) rfl (fun ls hl => ?_)
  refine lv_iconst (v := (0 : Int32)) hx hb dX2_leftAtMost_2 (by decide) ?_
  refine lv_istore_n (lv' := [(3, .int (0 : Int32)), (2, .int (0 : Int32)), (0, .ref (ht 0)), (1, .int x1)]) hx hb dX2_leftAtMost_3 rfl hl (by decide) rfl (fun ls hl => ?_)
  exact w_X2_leftAtMost_4 l ht St x1 C FU (0 : Int32) (0 : Int32) H locs ls hf hP hD hS (lv_sub hl [2, 3, 1, 0] rfl)
def b_X2_bestToAsk_21 (St : SEv) (k21 : Int32 → Int32 → Option (Int32)) (v1 : Int32) (v2 : Int32) : Option (Int32) :=
  (if (Ev_unsureCount St) ≤ v2 then
    some v1
    else
    (f_X2_leftAtMost St v2).bind (fun q1 =>
      (f_X2_leftAtMost St v1).bind (fun q2 =>
        (if q2 ≤ q1 then
          (k21 v1 (v2 + (1 : Int32)))
          else
          (k21 v2 (v2 + (1 : Int32)))))))
set_option maxHeartbeats 4000000 in
set_option maxRecDepth 100000 in
theorem w_X2_bestToAsk_21 {p : Program} {e : Env} {s : State} {m : MethodId} {below : List Frame} {meth : Method} {c : Code} {A : Nat → Prop} {D : va_G} {cy : Nat → ClassId} {args : Array Value} {r : Int32} (l : Launch) (ht : Nat → Nat) (St : SEv) (C : zX p s m meth c cX2_bestToAsk 3 args RX2 (some FieldType.int) A D (zty cy)) :
    ∀ (n : Nat) (v1 : Int32) (v2 : Int32) (H : Heap) (locs : List Loc) (ls : Array Slot), zl2 (b_X2_bestToAsk_21 St) n v1 v2 = some r → va_P D vwCl (wEv ht cy St) H → va_D A (wEv ht cy St) → va_S A s.heap H locs → lv_has ls 3 [(0, .ref (ht 0)), (1, .int v1), (2, .int v2)] → W p l e (zRm 2 63) s m args below meth c H locs 0 0 (MQ below (zQI D (zty cy) A (wEv ht cy St) r) args s 0 0 A) (F0 m 21 ls []) := by
  obtain ⟨hx, hb, hr, hts, hown, hlocks, hml, hA, hK⟩ := id C
  intro n
  induction n with
  | zero => intro v1 v2 H locs ls hf; exact zno hf
  | succ n ih =>
    intro v1 v2 H locs ls hf hP hD hS hl
    have hf : b_X2_bestToAsk_21 St (zl2 (b_X2_bestToAsk_21 St) n) v1 v2 = some r := hf
    have K21 := ih
    refine lv_iload_n hx hb dX2_bestToAsk_21 rfl (lv_at hl 2 rfl) ?_
    refine lv_aload_n hx hb dX2_bestToAsk_22 rfl (lv_at hl 0 rfl) ?_
    refine va_get (D := D) (ci := 0) (v := .int (Ev_unsureCount St)) (C := RX2) (T := TX2) (N := 8) hx hb hts in_X2 hown hK hP 0 rfl rfl 0 (by decide) (hts _ q1_115) (fun _ h9 => h9) rfl dX2_bestToAsk_23 ?_
    refine z_icmp_ge (tgt := 50) hx hb dX2_bestToAsk_26 (by decide) hf (fun hf => ?_) (fun hf => ?_)
    · refine lv_iload_n hx hb dX2_bestToAsk_50 rfl (lv_at hl 1 rfl) ?_
      obtain rfl := Option.some.inj hf
      exact z_iret (v := v1) C hP hD hS dX2_bestToAsk_51
    · refine lv_aload_n hx hb dX2_bestToAsk_29 rfl (lv_at hl 0 rfl) ?_
      refine lv_iload_n hx hb dX2_bestToAsk_30 rfl (lv_at hl 2 rfl) ?_
      obtain ⟨q1, hc, hf⟩ := zbd hf
      refine z_cVi0 (As := [.int v2]) (rest := []) C (c_X2_leftAtMost l D cy ht St v2 q1 hc) gV_X2_X2_leftAtMost hd_X2_leftAtMost ⟨Nat.le_of_ble_eq_true rfl, Nat.le_of_ble_eq_true rfl⟩ ⟨Nat.le_refl _, Nat.le_refl _⟩ (va_recv hK hP (ci := 0) (q0 := 0) rfl rfl) hP hD hS hl.1 (Nat.le_of_ble_eq_true rfl) dX2_bestToAsk_31 (fun H locs hP hD hS => ?_)
      have hP : va_P D vwCl (wEv ht cy St) H := hP
      have hD : va_D A (wEv ht cy St) := hD
      refine lv_aload_n hx hb dX2_bestToAsk_34 rfl (lv_at hl 0 rfl) ?_
      refine lv_iload_n hx hb dX2_bestToAsk_35 rfl (lv_at hl 1 rfl) ?_
      obtain ⟨q2, hc, hf⟩ := zbd hf
      refine z_cVi0 (As := [.int v1]) (rest := [.int q1]) C (c_X2_leftAtMost l D cy ht St v1 q2 hc) gV_X2_X2_leftAtMost hd_X2_leftAtMost ⟨Nat.le_of_ble_eq_true rfl, Nat.le_of_ble_eq_true rfl⟩ ⟨Nat.le_refl _, Nat.le_refl _⟩ (va_recv hK hP (ci := 0) (q0 := 0) rfl rfl) hP hD hS hl.1 (Nat.le_of_ble_eq_true rfl) dX2_bestToAsk_36 (fun H locs hP hD hS => ?_)
      have hP : va_P D vwCl (wEv ht cy St) H := hP
      have hD : va_D A (wEv ht cy St) := hD
      refine z_icmp_ge (tgt := 44) hx hb dX2_bestToAsk_39 (by decide) hf (fun hf => ?_) (fun hf => ?_)
      · refine lv_iinc (v := (v2 + (1 : Int32))) (lv' := [(2, .int (v2 + (1 : Int32))), (0, .ref (ht 0)), (1, .int v1)]) hx hb dX2_bestToAsk_44 hl (k := 2) rfl rfl (by decide) rfl (fun ls hl => ?_)
        refine lv_goto (tgt := 21) hx hb dX2_bestToAsk_47 (by decide) ?_
        exact K21 v1 (v2 + (1 : Int32)) H locs ls hf hP hD hS (lv_sub hl [1, 2, 0] rfl)
      · refine lv_iload_n hx hb dX2_bestToAsk_42 rfl (lv_at hl 2 rfl) ?_
        refine lv_istore_n (lv' := [(1, .int v2), (0, .ref (ht 0)), (2, .int v2)]) hx hb dX2_bestToAsk_43 rfl hl (by decide) rfl (fun ls hl => ?_)
        refine lv_iinc (v := (v2 + (1 : Int32))) (lv' := [(2, .int (v2 + (1 : Int32))), (1, .int v2), (0, .ref (ht 0))]) hx hb dX2_bestToAsk_44 hl (k := 2) rfl rfl (by decide) rfl (fun ls hl => ?_)
        refine lv_goto (tgt := 21) hx hb dX2_bestToAsk_47 (by decide) ?_
        exact K21 v2 (v2 + (1 : Int32)) H locs ls hf hP hD hS (lv_sub hl [2, 1, 0] rfl)
def f_X2_bestToAsk (St : SEv) : Option (Int32) :=
  (if (Ev_fitCount St) = 0 then
    some (-2 : Int32)
    else
    (if (Ev_unsureCount St) = 0 then
      some (-2 : Int32)
      else
      (zl2 (b_X2_bestToAsk_21 St) FU (0 : Int32) (1 : Int32))))
set_option maxHeartbeats 4000000 in
set_option maxRecDepth 100000 in
theorem c_X2_bestToAsk (l : Launch) (D : va_G) (cy : Nat → ClassId) (ht : Nat → Nat) (St : SEv) (r : Int32) (hf : f_X2_bestToAsk St = some r) : zCI l yX2_bestToAsk cX2_bestToAsk 3 (some FieldType.int) 2 63 D (zty cy) [.ref (ht 0)] (wEv ht cy St) (wEv ht cy St) r := by
  refine zCI_of (by decide +kernel) (Nat.le_of_ble_eq_true rfl) ?_
  intro p e s m below meth c A ls C hP hD hS hl
  generalize hargs : ([.ref (ht 0)] : List Value).toArray = args at C ⊢
  have C : zX p s m meth c cX2_bestToAsk 3 args RX2 (some FieldType.int) A D (zty cy) := C
  obtain ⟨hx, hb, hr, hts, hown, hlocks, hml, hA, hK⟩ := id C
  have hl : lv_has ls 3 [(0, .ref (ht 0))] := hl
  generalize hH : s.heap = H at hP ⊢
  have hS : va_S A s.heap H [] := by rw [← hH]; exact hS
  generalize ([] : List Loc) = locs at hS ⊢
  refine lv_aload_n hx hb dX2_bestToAsk_0 rfl (lv_at hl 0 rfl) ?_
  refine va_get (D := D) (ci := 0) (v := .int (Ev_fitCount St)) (C := RX2) (T := TX2) (N := 8) hx hb hts in_X2 hown hK hP 0 rfl rfl 2 (by decide) (hts _ q1_119) (fun _ h9 => h9) rfl dX2_bestToAsk_1 ?_
  refine z_if_eq (tgt := 14) hx hb dX2_bestToAsk_4 (by decide) hf (fun hf => ?_) (fun hf => ?_)
  · refine lv_bipush (v := (-2 : Int32)) hx hb dX2_bestToAsk_14 (by decide) ?_
    obtain rfl := Option.some.inj hf
    exact z_iret (v := (-2 : Int32)) C hP hD hS dX2_bestToAsk_16
  · refine lv_aload_n hx hb dX2_bestToAsk_7 rfl (lv_at hl 0 rfl) ?_
    refine va_get (D := D) (ci := 0) (v := .int (Ev_unsureCount St)) (C := RX2) (T := TX2) (N := 8) hx hb hts in_X2 hown hK hP 0 rfl rfl 0 (by decide) (hts _ q1_115) (fun _ h9 => h9) rfl dX2_bestToAsk_8 ?_
    refine z_if_ne (tgt := 17) hx hb dX2_bestToAsk_11 (by decide) hf (fun hf => ?_) (fun hf => ?_)
    · refine lv_iconst (v := (0 : Int32)) hx hb dX2_bestToAsk_17 (by decide) ?_
      refine lv_istore_n (lv' := [(1, .int (0 : Int32)), (0, .ref (ht 0))]) hx hb dX2_bestToAsk_18 rfl hl (by decide) rfl (fun ls hl => ?_)
      refine lv_iconst (v := (1 : Int32)) hx hb dX2_bestToAsk_19 (by decide) ?_
      refine lv_istore_n (lv' := [(2, .int (1 : Int32)), (1, .int (0 : Int32)), (0, .ref (ht 0))]) hx hb dX2_bestToAsk_20 rfl hl (by decide) rfl (fun ls hl => ?_)
      exact w_X2_bestToAsk_21 l ht St C FU (0 : Int32) (1 : Int32) H locs ls hf hP hD hS (lv_sub hl [2, 1, 0] rfl)
    · refine lv_bipush (v := (-2 : Int32)) hx hb dX2_bestToAsk_14 (by decide) ?_
      obtain rfl := Option.some.inj hf
      exact z_iret (v := (-2 : Int32)) C hP hD hS dX2_bestToAsk_16
def b_X7_addFour_3 (x1 : Int32) (k3 : STape → Int32 → Option (STape)) (St : STape) (v2 : Int32) : Option (STape) :=
  (if v2 < 0 then
    some St
    else
    (if (900 : Int32) ≤ (Tape_size St) then
      some St
      else
      (if zib (Tape_size St) 900 then (k3 (mkTape ((Tape_size St) + (1 : Int32)) (Tape_kind St) (Tape_start St) (Tape_value St) (Tape_after St) (Tape_length St) (upd (Tape_bytes St) (Tape_size St).toNatClampNeg (vp_nar .byte ((jiushr x1 v2).toInt8.toInt32)))) (v2 + (-8 : Int32))) else none)))
set_option maxHeartbeats 4000000 in
set_option maxRecDepth 100000 in
theorem w_X7_addFour_3 {p : Program} {e : Env} {s : State} {m : MethodId} {below : List Frame} {meth : Method} {c : Code} {A : Nat → Prop} {D : va_G} {cy : Nat → ClassId} {args : Array Value} {r : STape} (l : Launch) (ht : Nat → Nat) (x1 : Int32) (C : zX p s m meth c cX7_addFour 3 args RX7 none A D (zty cy)) :
    ∀ (n : Nat) (St : STape) (v2 : Int32) (H : Heap) (locs : List Loc) (ls : Array Slot), zl2 (b_X7_addFour_3 x1) n St v2 = some r → va_P D vwCl (wTape ht cy St) H → va_D A (wTape ht cy St) → va_S A s.heap H locs → lv_has ls 3 [(0, .ref (ht 0)), (1, .int x1), (2, .int v2)] → W p l e (zRm 0 0) s m args below meth c H locs 0 0 (MQ below (zQV D (zty cy) A (wTape ht cy r)) args s 0 0 A) (F0 m 3 ls []) := by
  obtain ⟨hx, hb, hr, hts, hown, hlocks, hml, hA, hK⟩ := id C
  intro n
  induction n with
  | zero => intro St v2 H locs ls hf; exact zno hf
  | succ n ih =>
    intro St v2 H locs ls hf hP hD hS hl
    have hf : b_X7_addFour_3 x1 (zl2 (b_X7_addFour_3 x1) n) St v2 = some r := hf
    have K3 := ih
    refine lv_iload_n hx hb dX7_addFour_3 rfl (lv_at hl 2 rfl) ?_
    refine z_if_lt (tgt := 46) hx hb dX7_addFour_4 (by decide) hf (fun hf => ?_) (fun hf => ?_)
    · obtain rfl := Option.some.inj hf
      exact z_vret C hP hD hS dX7_addFour_46
    · refine lv_aload_n hx hb dX7_addFour_7 rfl (lv_at hl 0 rfl) ?_
      refine va_get (D := D) (ci := 4) (v := .int (Tape_size St)) (C := RX7) (T := TX7) (N := 7) hx hb hts in_X7 hown hK hP 0 rfl rfl 0 (by decide) (hts _ q1_150) (fun _ h9 => h9) rfl dX7_addFour_8 ?_
      refine lv_sipush (v := (900 : Int32)) hx hb dX7_addFour_11 (by decide) ?_
      refine z_icmp_ge (tgt := 46) hx hb dX7_addFour_14 (by decide) hf (fun hf => ?_) (fun hf => ?_)
      · obtain rfl := Option.some.inj hf
        exact z_vret C hP hD hS dX7_addFour_46
      · refine lv_aload_n hx hb dX7_addFour_17 rfl (lv_at hl 0 rfl) ?_
        refine va_get (D := D) (ci := 4) (v := .ref (ht 1)) (C := RX7) (T := TX7) (N := 7) hx hb hts in_X7 hown hK hP 0 rfl rfl 6 (by decide) (hts _ q1_160) (fun _ h9 => h9) rfl dX7_addFour_18 ?_
        refine lv_aload_n hx hb dX7_addFour_21 rfl (lv_at hl 0 rfl) ?_
        refine va_get (D := D) (ci := 4) (v := .int (Tape_size St)) (C := RX7) (T := TX7) (N := 7) hx hb hts in_X7 hown hK hP 0 rfl rfl 0 (by decide) (hts _ q1_150) (fun _ h9 => h9) rfl dX7_addFour_22 ?_
        refine lv_iload_n hx hb dX7_addFour_25 rfl (lv_at hl 1 rfl) ?_
        refine lv_iload_n hx hb dX7_addFour_26 rfl (lv_at hl 2 rfl) ?_
        refine lv_iushr (v := (jiushr x1 v2)) hx hb dX7_addFour_27 rfl ?_
        refine lv_i2b (v := (jiushr x1 v2).toInt8.toInt32) hx hb dX7_addFour_28 rfl ?_
        refine z_bast (f := (Tape_bytes St)) (w2 := vTape ht cy (Tape_size St) (Tape_kind St) (Tape_start St) (Tape_value St) (Tape_after St) (Tape_length St) (upd (Tape_bytes St) (Tape_size St).toNatClampNeg (vp_nar .byte ((jiushr x1 v2).toInt8.toInt32)))) hx hb hK hP hD hS 1 2 rfl rfl dX7_addFour_29 hf rfl (fun hf H locs hP hD hS => ?_)
        refine lv_aload_n hx hb dX7_addFour_30 rfl (lv_at hl 0 rfl) ?_
        refine lv_dup hx hb dX7_addFour_31 rfl ?_
        refine va_get (D := D) (ci := 4) (v := .int (Tape_size St)) (C := RX7) (T := TX7) (N := 7) hx hb hts in_X7 hown hK hP 0 rfl rfl 0 (by decide) (hts _ q1_150) (fun _ h9 => h9) rfl dX7_addFour_32 ?_
        refine lv_iconst (v := (1 : Int32)) hx hb dX7_addFour_35 (by decide) ?_
        refine lv_iadd hx hb dX7_addFour_36 ?_
        refine z_put (w2 := vTape ht cy ((Tape_size St) + (1 : Int32)) (Tape_kind St) (Tape_start St) (Tape_value St) (Tape_after St) (Tape_length St) (upd (Tape_bytes St) (Tape_size St).toNatClampNeg (vp_nar .byte ((jiushr x1 v2).toInt8.toInt32)))) hx hb hts in_X7 tyX7 tyX7_ok nmX7 hown hK hP hD hS 0 rfl rfl 0 (by decide) (hts _ q1_150) (fun _ h9 => h9) rfl rfl rfl (Nat.le_of_ble_eq_true rfl) dX7_addFour_37 rfl (fun H locs hP hD hS => ?_)
        refine lv_iinc (v := (v2 + (-8 : Int32))) (lv' := [(2, .int (v2 + (-8 : Int32))), (0, .ref (ht 0)), (1, .int x1)]) hx hb dX7_addFour_40 hl (k := 2) rfl rfl (by decide) rfl (fun ls hl => ?_)
        refine lv_goto (tgt := 3) hx hb dX7_addFour_43 (by decide) ?_
        rw [← wTape_mk ht] at hP hD
        exact K3 (mkTape ((Tape_size St) + (1 : Int32)) (Tape_kind St) (Tape_start St) (Tape_value St) (Tape_after St) (Tape_length St) (upd (Tape_bytes St) (Tape_size St).toNatClampNeg (vp_nar .byte ((jiushr x1 v2).toInt8.toInt32)))) (v2 + (-8 : Int32)) H locs ls hf hP hD hS (lv_sub hl [1, 2, 0] rfl)
def f_X7_addFour (St : STape) (x1 : Int32) : Option (STape) :=
  (zl2 (b_X7_addFour_3 x1) FU St (24 : Int32))
set_option maxHeartbeats 4000000 in
set_option maxRecDepth 100000 in
theorem c_X7_addFour (l : Launch) (D : va_G) (cy : Nat → ClassId) (ht : Nat → Nat) (St : STape) (x1 : Int32) (r : STape) (hf : f_X7_addFour St x1 = some r) : zCV l yX7_addFour cX7_addFour 3 none 0 0 D (zty cy) [.ref (ht 0), .int x1] (wTape ht cy St) (wTape ht cy r) := by
  refine zCV_of (by decide +kernel) (Nat.le_of_ble_eq_true rfl) ?_
  intro p e s m below meth c A ls C hP hD hS hl
  generalize hargs : ([.ref (ht 0), .int x1] : List Value).toArray = args at C ⊢
  have C : zX p s m meth c cX7_addFour 3 args RX7 none A D (zty cy) := C
  obtain ⟨hx, hb, hr, hts, hown, hlocks, hml, hA, hK⟩ := id C
  have hl : lv_has ls 3 [(0, .ref (ht 0)), (1, .int x1)] := hl
  generalize hH : s.heap = H at hP ⊢
  have hS : va_S A s.heap H [] := by rw [← hH]; exact hS
  generalize ([] : List Loc) = locs at hS ⊢
  refine lv_bipush (v := (24 : Int32)) hx hb dX7_addFour_0 (by decide) ?_
  refine lv_istore_n (lv' := [(2, .int (24 : Int32)), (0, .ref (ht 0)), (1, .int x1)]) hx hb dX7_addFour_2 rfl hl (by decide) rfl (fun ls hl => ?_)
  exact w_X7_addFour_3 l ht x1 C FU St (24 : Int32) H locs ls hf hP hD hS (lv_sub hl [1, 2, 0] rfl)
def b_X7_scanWord_85 (St : STape) : Option (STape) :=
  (if (8 : Int32) < ((Tape_after St) - (Tape_start St)) then
    some (mkTape (Tape_size St) (4 : Int32) (Tape_start St) (Tape_value St) (Tape_after St) (Tape_length St) (Tape_bytes St))
    else
    some (mkTape (Tape_size St) (1 : Int32) (Tape_start St) (Tape_value St) (Tape_after St) (Tape_length St) (Tape_bytes St)))
set_option maxHeartbeats 4000000 in
set_option maxRecDepth 100000 in
theorem w_X7_scanWord_85 {p : Program} {e : Env} {s : State} {m : MethodId} {below : List Frame} {meth : Method} {c : Code} {A : Nat → Prop} {D : va_G} {cy : Nat → ClassId} {args : Array Value} {r : STape} (l : Launch) (ht : Nat → Nat) (C : zX p s m meth c cX7_scanWord 1 args RX7 none A D (zty cy)) :
    ∀ (St : STape) (H : Heap) (locs : List Loc) (ls : Array Slot), b_X7_scanWord_85 St = some r → va_P D vwCl (wTape ht cy St) H → va_D A (wTape ht cy St) → va_S A s.heap H locs → lv_has ls 1 [(0, .ref (ht 0))] → W p l e (zRm 0 0) s m args below meth c H locs 0 0 (MQ below (zQV D (zty cy) A (wTape ht cy r)) args s 0 0 A) (F0 m 85 ls []) := by
  obtain ⟨hx, hb, hr, hts, hown, hlocks, hml, hA, hK⟩ := id C
  intro St H locs ls hf hP hD hS hl
  refine lv_aload_n hx hb dX7_scanWord_85 rfl (lv_at hl 0 rfl) ?_
  refine lv_aload_n hx hb dX7_scanWord_86 rfl (lv_at hl 0 rfl) ?_
  refine va_get (D := D) (ci := 4) (v := .int (Tape_after St)) (C := RX7) (T := TX7) (N := 7) hx hb hts in_X7 hown hK hP 0 rfl rfl 4 (by decide) (hts _ q1_158) (fun _ h9 => h9) rfl dX7_scanWord_87 ?_
  refine lv_aload_n hx hb dX7_scanWord_90 rfl (lv_at hl 0 rfl) ?_
  refine va_get (D := D) (ci := 4) (v := .int (Tape_start St)) (C := RX7) (T := TX7) (N := 7) hx hb hts in_X7 hown hK hP 0 rfl rfl 2 (by decide) (hts _ q1_155) (fun _ h9 => h9) rfl dX7_scanWord_91 ?_
  refine lv_isub hx hb dX7_scanWord_94 ?_
  refine lv_bipush (v := (8 : Int32)) hx hb dX7_scanWord_95 (by decide) ?_
  refine z_icmp_gt (tgt := 104) hx hb dX7_scanWord_97 (by decide) hf (fun hf => ?_) (fun hf => ?_)
  · refine lv_iconst (v := (4 : Int32)) hx hb dX7_scanWord_104 (by decide) ?_
    refine z_put (w2 := vTape ht cy (Tape_size St) (4 : Int32) (Tape_start St) (Tape_value St) (Tape_after St) (Tape_length St) (Tape_bytes St)) hx hb hts in_X7 tyX7 tyX7_ok nmX7 hown hK hP hD hS 0 rfl rfl 1 (by decide) (hts _ q1_153) (fun _ h9 => h9) rfl rfl rfl (Nat.le_of_ble_eq_true rfl) dX7_scanWord_105 rfl (fun H locs hP hD hS => ?_)
    obtain rfl := Option.some.inj hf
    rw [← wTape_mk ht] at hP hD
    exact z_vret C hP hD hS dX7_scanWord_108
  · refine lv_iconst (v := (1 : Int32)) hx hb dX7_scanWord_100 (by decide) ?_
    refine lv_goto (tgt := 105) hx hb dX7_scanWord_101 (by decide) ?_
    refine z_put (w2 := vTape ht cy (Tape_size St) (1 : Int32) (Tape_start St) (Tape_value St) (Tape_after St) (Tape_length St) (Tape_bytes St)) hx hb hts in_X7 tyX7 tyX7_ok nmX7 hown hK hP hD hS 0 rfl rfl 1 (by decide) (hts _ q1_153) (fun _ h9 => h9) rfl rfl rfl (Nat.le_of_ble_eq_true rfl) dX7_scanWord_105 rfl (fun H locs hP hD hS => ?_)
    obtain rfl := Option.some.inj hf
    rw [← wTape_mk ht] at hP hD
    exact z_vret C hP hD hS dX7_scanWord_108
def b_X7_scanWord_5 (k5 : STape → Option (STape)) (St : STape) : Option (STape) :=
  (if (Tape_length St) ≤ (Tape_after St) then
    (b_X7_scanWord_85 St)
    else
    (if zib (Tape_after St) 900 then (if ((Tape_bytes St) (Tape_after St).toNatClampNeg) < (97 : Int32) then
        (b_X7_scanWord_85 St)
        else
        (if zib (Tape_after St) 900 then (if (122 : Int32) < ((Tape_bytes St) (Tape_after St).toNatClampNeg) then
            (b_X7_scanWord_85 St)
            else
            (if zib (Tape_after St) 900 then (k5 (mkTape (Tape_size St) (Tape_kind St) (Tape_start St) (((Tape_value St) * (32 : Int64)) + (((((Tape_bytes St) (Tape_after St).toNatClampNeg) - (97 : Int32)) + (1 : Int32)).toInt64)) ((Tape_after St) + (1 : Int32)) (Tape_length St) (Tape_bytes St))) else none)) else none)) else none))
set_option maxHeartbeats 4000000 in
set_option maxRecDepth 100000 in
theorem w_X7_scanWord_5 {p : Program} {e : Env} {s : State} {m : MethodId} {below : List Frame} {meth : Method} {c : Code} {A : Nat → Prop} {D : va_G} {cy : Nat → ClassId} {args : Array Value} {r : STape} (l : Launch) (ht : Nat → Nat) (C : zX p s m meth c cX7_scanWord 1 args RX7 none A D (zty cy)) :
    ∀ (n : Nat) (St : STape) (H : Heap) (locs : List Loc) (ls : Array Slot), zl1 (b_X7_scanWord_5) n St = some r → va_P D vwCl (wTape ht cy St) H → va_D A (wTape ht cy St) → va_S A s.heap H locs → lv_has ls 1 [(0, .ref (ht 0))] → W p l e (zRm 0 0) s m args below meth c H locs 0 0 (MQ below (zQV D (zty cy) A (wTape ht cy r)) args s 0 0 A) (F0 m 5 ls []) := by
  obtain ⟨hx, hb, hr, hts, hown, hlocks, hml, hA, hK⟩ := id C
  intro n
  induction n with
  | zero => intro St H locs ls hf; exact zno hf
  | succ n ih =>
    intro St H locs ls hf hP hD hS hl
    have hf : b_X7_scanWord_5 (zl1 (b_X7_scanWord_5) n) St = some r := hf
    have K5 := ih
    refine lv_aload_n hx hb dX7_scanWord_5 rfl (lv_at hl 0 rfl) ?_
    refine va_get (D := D) (ci := 4) (v := .int (Tape_after St)) (C := RX7) (T := TX7) (N := 7) hx hb hts in_X7 hown hK hP 0 rfl rfl 4 (by decide) (hts _ q1_158) (fun _ h9 => h9) rfl dX7_scanWord_6 ?_
    refine lv_aload_n hx hb dX7_scanWord_9 rfl (lv_at hl 0 rfl) ?_
    refine va_get (D := D) (ci := 4) (v := .int (Tape_length St)) (C := RX7) (T := TX7) (N := 7) hx hb hts in_X7 hown hK hP 0 rfl rfl 5 (by decide) (hts _ q1_159) (fun _ h9 => h9) rfl dX7_scanWord_10 ?_
    refine z_icmp_ge (tgt := 85) hx hb dX7_scanWord_13 (by decide) hf (fun hf => ?_) (fun hf => ?_)
    · exact w_X7_scanWord_85 l ht C St H locs ls hf hP hD hS (lv_sub hl [0] rfl)
    · refine lv_aload_n hx hb dX7_scanWord_16 rfl (lv_at hl 0 rfl) ?_
      refine va_get (D := D) (ci := 4) (v := .ref (ht 1)) (C := RX7) (T := TX7) (N := 7) hx hb hts in_X7 hown hK hP 0 rfl rfl 6 (by decide) (hts _ q1_160) (fun _ h9 => h9) rfl dX7_scanWord_17 ?_
      refine lv_aload_n hx hb dX7_scanWord_20 rfl (lv_at hl 0 rfl) ?_
      refine va_get (D := D) (ci := 4) (v := .int (Tape_after St)) (C := RX7) (T := TX7) (N := 7) hx hb hts in_X7 hown hK hP 0 rfl rfl 4 (by decide) (hts _ q1_158) (fun _ h9 => h9) rfl dX7_scanWord_21 ?_
      refine z_bald (f := (Tape_bytes St)) hx hb hK hP 1 2 rfl rfl dX7_scanWord_24 hf (fun hf => ?_)
      refine lv_bipush (v := (97 : Int32)) hx hb dX7_scanWord_25 (by decide) ?_
      refine z_icmp_lt (tgt := 85) hx hb dX7_scanWord_27 (by decide) hf (fun hf => ?_) (fun hf => ?_)
      · exact w_X7_scanWord_85 l ht C St H locs ls hf hP hD hS (lv_sub hl [0] rfl)
      · refine lv_aload_n hx hb dX7_scanWord_30 rfl (lv_at hl 0 rfl) ?_
        refine va_get (D := D) (ci := 4) (v := .ref (ht 1)) (C := RX7) (T := TX7) (N := 7) hx hb hts in_X7 hown hK hP 0 rfl rfl 6 (by decide) (hts _ q1_160) (fun _ h9 => h9) rfl dX7_scanWord_31 ?_
        refine lv_aload_n hx hb dX7_scanWord_34 rfl (lv_at hl 0 rfl) ?_
        refine va_get (D := D) (ci := 4) (v := .int (Tape_after St)) (C := RX7) (T := TX7) (N := 7) hx hb hts in_X7 hown hK hP 0 rfl rfl 4 (by decide) (hts _ q1_158) (fun _ h9 => h9) rfl dX7_scanWord_35 ?_
        refine z_bald (f := (Tape_bytes St)) hx hb hK hP 1 2 rfl rfl dX7_scanWord_38 hf (fun hf => ?_)
        refine lv_bipush (v := (122 : Int32)) hx hb dX7_scanWord_39 (by decide) ?_
        refine z_icmp_gt (tgt := 85) hx hb dX7_scanWord_41 (by decide) hf (fun hf => ?_) (fun hf => ?_)
        · exact w_X7_scanWord_85 l ht C St H locs ls hf hP hD hS (lv_sub hl [0] rfl)
        · refine lv_aload_n hx hb dX7_scanWord_44 rfl (lv_at hl 0 rfl) ?_
          refine lv_aload_n hx hb dX7_scanWord_45 rfl (lv_at hl 0 rfl) ?_
          refine va_get (D := D) (ci := 4) (v := .long (Tape_value St)) (C := RX7) (T := TX7) (N := 7) hx hb hts in_X7 hown hK hP 0 rfl rfl 3 (by decide) (hts _ q1_156) (fun _ h9 => h9) rfl dX7_scanWord_46 ?_
          refine lv_ldc2 (v := (32 : Int64)) hx hb hown (hts _ q2_87) dX7_scanWord_49 ?_
          refine lv_lmul hx hb dX7_scanWord_52 ?_
          refine lv_aload_n hx hb dX7_scanWord_53 rfl (lv_at hl 0 rfl) ?_
          refine va_get (D := D) (ci := 4) (v := .ref (ht 1)) (C := RX7) (T := TX7) (N := 7) hx hb hts in_X7 hown hK hP 0 rfl rfl 6 (by decide) (hts _ q1_160) (fun _ h9 => h9) rfl dX7_scanWord_54 ?_
          refine lv_aload_n hx hb dX7_scanWord_57 rfl (lv_at hl 0 rfl) ?_
          refine va_get (D := D) (ci := 4) (v := .int (Tape_after St)) (C := RX7) (T := TX7) (N := 7) hx hb hts in_X7 hown hK hP 0 rfl rfl 4 (by decide) (hts _ q1_158) (fun _ h9 => h9) rfl dX7_scanWord_58 ?_
          refine z_bald (f := (Tape_bytes St)) hx hb hK hP 1 2 rfl rfl dX7_scanWord_61 hf (fun hf => ?_)
          refine lv_bipush (v := (97 : Int32)) hx hb dX7_scanWord_62 (by decide) ?_
          refine lv_isub hx hb dX7_scanWord_64 ?_
          refine lv_iconst (v := (1 : Int32)) hx hb dX7_scanWord_65 (by decide) ?_
          refine lv_iadd hx hb dX7_scanWord_66 ?_
          refine lv_i2l (v := ((((Tape_bytes St) (Tape_after St).toNatClampNeg) - (97 : Int32)) + (1 : Int32)).toInt64) hx hb dX7_scanWord_67 rfl ?_
          refine lv_ladd hx hb dX7_scanWord_68 ?_
          refine z_put (w2 := vTape ht cy (Tape_size St) (Tape_kind St) (Tape_start St) (((Tape_value St) * (32 : Int64)) + (((((Tape_bytes St) (Tape_after St).toNatClampNeg) - (97 : Int32)) + (1 : Int32)).toInt64)) (Tape_after St) (Tape_length St) (Tape_bytes St)) hx hb hts in_X7 tyX7 tyX7_ok nmX7 hown hK hP hD hS 0 rfl rfl 3 (by decide) (hts _ q1_156) (fun _ h9 => h9) rfl rfl rfl (Nat.le_of_ble_eq_true rfl) dX7_scanWord_69 rfl (fun H locs hP hD hS => ?_)
          refine lv_aload_n hx hb dX7_scanWord_72 rfl (lv_at hl 0 rfl) ?_
          refine lv_dup hx hb dX7_scanWord_73 rfl ?_
          refine va_get (D := D) (ci := 4) (v := .int (Tape_after St)) (C := RX7) (T := TX7) (N := 7) hx hb hts in_X7 hown hK hP 0 rfl rfl 4 (by decide) (hts _ q1_158) (fun _ h9 => h9) rfl dX7_scanWord_74 ?_
          refine lv_iconst (v := (1 : Int32)) hx hb dX7_scanWord_77 (by decide) ?_
          refine lv_iadd hx hb dX7_scanWord_78 ?_
          refine z_put (w2 := vTape ht cy (Tape_size St) (Tape_kind St) (Tape_start St) (((Tape_value St) * (32 : Int64)) + (((((Tape_bytes St) (Tape_after St).toNatClampNeg) - (97 : Int32)) + (1 : Int32)).toInt64)) ((Tape_after St) + (1 : Int32)) (Tape_length St) (Tape_bytes St)) hx hb hts in_X7 tyX7 tyX7_ok nmX7 hown hK hP hD hS 0 rfl rfl 4 (by decide) (hts _ q1_158) (fun _ h9 => h9) rfl rfl rfl (Nat.le_of_ble_eq_true rfl) dX7_scanWord_79 rfl (fun H locs hP hD hS => ?_)
          refine lv_goto (tgt := 5) hx hb dX7_scanWord_82 (by decide) ?_
          rw [← wTape_mk ht] at hP hD
          exact K5 (mkTape (Tape_size St) (Tape_kind St) (Tape_start St) (((Tape_value St) * (32 : Int64)) + (((((Tape_bytes St) (Tape_after St).toNatClampNeg) - (97 : Int32)) + (1 : Int32)).toInt64)) ((Tape_after St) + (1 : Int32)) (Tape_length St) (Tape_bytes St)) H locs ls hf hP hD hS (lv_sub hl [0] rfl)
def f_X7_scanWord (St : STape) : Option (STape) :=
  (zl1 (b_X7_scanWord_5) FU (mkTape (Tape_size St) (Tape_kind St) (Tape_start St) (0 : Int64) (Tape_after St) (Tape_length St) (Tape_bytes St)))
set_option maxHeartbeats 4000000 in
set_option maxRecDepth 100000 in
theorem c_X7_scanWord (l : Launch) (D : va_G) (cy : Nat → ClassId) (ht : Nat → Nat) (St : STape) (r : STape) (hf : f_X7_scanWord St = some r) : zCV l yX7_scanWord cX7_scanWord 1 none 0 0 D (zty cy) [.ref (ht 0)] (wTape ht cy St) (wTape ht cy r) := by
  refine zCV_of (by decide +kernel) (Nat.le_of_ble_eq_true rfl) ?_
  intro p e s m below meth c A ls C hP hD hS hl
  generalize hargs : ([.ref (ht 0)] : List Value).toArray = args at C ⊢
  have C : zX p s m meth c cX7_scanWord 1 args RX7 none A D (zty cy) := C
  obtain ⟨hx, hb, hr, hts, hown, hlocks, hml, hA, hK⟩ := id C
  have hl : lv_has ls 1 [(0, .ref (ht 0))] := hl
  generalize hH : s.heap = H at hP ⊢
  have hS : va_S A s.heap H [] := by rw [← hH]; exact hS
  generalize ([] : List Loc) = locs at hS ⊢
  refine lv_aload_n hx hb dX7_scanWord_0 rfl (lv_at hl 0 rfl) ?_
  refine lv_lconst (v := (0 : Int64)) hx hb dX7_scanWord_1 (by decide) ?_
  refine z_put (w2 := vTape ht cy (Tape_size St) (Tape_kind St) (Tape_start St) (0 : Int64) (Tape_after St) (Tape_length St) (Tape_bytes St)) hx hb hts in_X7 tyX7 tyX7_ok nmX7 hown hK hP hD hS 0 rfl rfl 3 (by decide) (hts _ q1_156) (fun _ h9 => h9) rfl rfl rfl (Nat.le_of_ble_eq_true rfl) dX7_scanWord_2 rfl (fun H locs hP hD hS => ?_)
  rw [← wTape_mk ht] at hP hD
  exact w_X7_scanWord_5 l ht C FU (mkTape (Tape_size St) (Tape_kind St) (Tape_start St) (0 : Int64) (Tape_after St) (Tape_length St) (Tape_bytes St)) H locs ls hf hP hD hS (lv_sub hl [0] rfl)
def b_X7_scanWhole_83 (St : STape) : Option (STape) :=
  (if (3 : Int32) < ((Tape_after St) - (Tape_start St)) then
    some (mkTape (Tape_size St) (4 : Int32) (Tape_start St) (Tape_value St) (Tape_after St) (Tape_length St) (Tape_bytes St))
    else
    some (mkTape (Tape_size St) (2 : Int32) (Tape_start St) (Tape_value St) (Tape_after St) (Tape_length St) (Tape_bytes St)))
set_option maxHeartbeats 4000000 in
set_option maxRecDepth 100000 in
theorem w_X7_scanWhole_83 {p : Program} {e : Env} {s : State} {m : MethodId} {below : List Frame} {meth : Method} {c : Code} {A : Nat → Prop} {D : va_G} {cy : Nat → ClassId} {args : Array Value} {r : STape} (l : Launch) (ht : Nat → Nat) (C : zX p s m meth c cX7_scanWhole 1 args RX7 none A D (zty cy)) :
    ∀ (St : STape) (H : Heap) (locs : List Loc) (ls : Array Slot), b_X7_scanWhole_83 St = some r → va_P D vwCl (wTape ht cy St) H → va_D A (wTape ht cy St) → va_S A s.heap H locs → lv_has ls 1 [(0, .ref (ht 0))] → W p l e (zRm 0 0) s m args below meth c H locs 0 0 (MQ below (zQV D (zty cy) A (wTape ht cy r)) args s 0 0 A) (F0 m 83 ls []) := by
  obtain ⟨hx, hb, hr, hts, hown, hlocks, hml, hA, hK⟩ := id C
  intro St H locs ls hf hP hD hS hl
  refine lv_aload_n hx hb dX7_scanWhole_83 rfl (lv_at hl 0 rfl) ?_
  refine lv_aload_n hx hb dX7_scanWhole_84 rfl (lv_at hl 0 rfl) ?_
  refine va_get (D := D) (ci := 4) (v := .int (Tape_after St)) (C := RX7) (T := TX7) (N := 7) hx hb hts in_X7 hown hK hP 0 rfl rfl 4 (by decide) (hts _ q1_158) (fun _ h9 => h9) rfl dX7_scanWhole_85 ?_
  refine lv_aload_n hx hb dX7_scanWhole_88 rfl (lv_at hl 0 rfl) ?_
  refine va_get (D := D) (ci := 4) (v := .int (Tape_start St)) (C := RX7) (T := TX7) (N := 7) hx hb hts in_X7 hown hK hP 0 rfl rfl 2 (by decide) (hts _ q1_155) (fun _ h9 => h9) rfl dX7_scanWhole_89 ?_
  refine lv_isub hx hb dX7_scanWhole_92 ?_
  refine lv_iconst (v := (3 : Int32)) hx hb dX7_scanWhole_93 (by decide) ?_
  refine z_icmp_gt (tgt := 101) hx hb dX7_scanWhole_94 (by decide) hf (fun hf => ?_) (fun hf => ?_)
  · refine lv_iconst (v := (4 : Int32)) hx hb dX7_scanWhole_101 (by decide) ?_
    refine z_put (w2 := vTape ht cy (Tape_size St) (4 : Int32) (Tape_start St) (Tape_value St) (Tape_after St) (Tape_length St) (Tape_bytes St)) hx hb hts in_X7 tyX7 tyX7_ok nmX7 hown hK hP hD hS 0 rfl rfl 1 (by decide) (hts _ q1_153) (fun _ h9 => h9) rfl rfl rfl (Nat.le_of_ble_eq_true rfl) dX7_scanWhole_102 rfl (fun H locs hP hD hS => ?_)
    obtain rfl := Option.some.inj hf
    rw [← wTape_mk ht] at hP hD
    exact z_vret C hP hD hS dX7_scanWhole_105
  · refine lv_iconst (v := (2 : Int32)) hx hb dX7_scanWhole_97 (by decide) ?_
    refine lv_goto (tgt := 102) hx hb dX7_scanWhole_98 (by decide) ?_
    refine z_put (w2 := vTape ht cy (Tape_size St) (2 : Int32) (Tape_start St) (Tape_value St) (Tape_after St) (Tape_length St) (Tape_bytes St)) hx hb hts in_X7 tyX7 tyX7_ok nmX7 hown hK hP hD hS 0 rfl rfl 1 (by decide) (hts _ q1_153) (fun _ h9 => h9) rfl rfl rfl (Nat.le_of_ble_eq_true rfl) dX7_scanWhole_102 rfl (fun H locs hP hD hS => ?_)
    obtain rfl := Option.some.inj hf
    rw [← wTape_mk ht] at hP hD
    exact z_vret C hP hD hS dX7_scanWhole_105
def b_X7_scanWhole_5 (k5 : STape → Option (STape)) (St : STape) : Option (STape) :=
  (if (Tape_length St) ≤ (Tape_after St) then
    (b_X7_scanWhole_83 St)
    else
    (if zib (Tape_after St) 900 then (if ((Tape_bytes St) (Tape_after St).toNatClampNeg) < (48 : Int32) then
        (b_X7_scanWhole_83 St)
        else
        (if zib (Tape_after St) 900 then (if (57 : Int32) < ((Tape_bytes St) (Tape_after St).toNatClampNeg) then
            (b_X7_scanWhole_83 St)
            else
            (if zib (Tape_after St) 900 then (k5 (mkTape (Tape_size St) (Tape_kind St) (Tape_start St) (((Tape_value St) * (10 : Int64)) + ((((Tape_bytes St) (Tape_after St).toNatClampNeg) - (48 : Int32)).toInt64)) ((Tape_after St) + (1 : Int32)) (Tape_length St) (Tape_bytes St))) else none)) else none)) else none))
set_option maxHeartbeats 4000000 in
set_option maxRecDepth 100000 in
theorem w_X7_scanWhole_5 {p : Program} {e : Env} {s : State} {m : MethodId} {below : List Frame} {meth : Method} {c : Code} {A : Nat → Prop} {D : va_G} {cy : Nat → ClassId} {args : Array Value} {r : STape} (l : Launch) (ht : Nat → Nat) (C : zX p s m meth c cX7_scanWhole 1 args RX7 none A D (zty cy)) :
    ∀ (n : Nat) (St : STape) (H : Heap) (locs : List Loc) (ls : Array Slot), zl1 (b_X7_scanWhole_5) n St = some r → va_P D vwCl (wTape ht cy St) H → va_D A (wTape ht cy St) → va_S A s.heap H locs → lv_has ls 1 [(0, .ref (ht 0))] → W p l e (zRm 0 0) s m args below meth c H locs 0 0 (MQ below (zQV D (zty cy) A (wTape ht cy r)) args s 0 0 A) (F0 m 5 ls []) := by
  obtain ⟨hx, hb, hr, hts, hown, hlocks, hml, hA, hK⟩ := id C
  intro n
  induction n with
  | zero => intro St H locs ls hf; exact zno hf
  | succ n ih =>
    intro St H locs ls hf hP hD hS hl
    have hf : b_X7_scanWhole_5 (zl1 (b_X7_scanWhole_5) n) St = some r := hf
    have K5 := ih
    refine lv_aload_n hx hb dX7_scanWhole_5 rfl (lv_at hl 0 rfl) ?_
    refine va_get (D := D) (ci := 4) (v := .int (Tape_after St)) (C := RX7) (T := TX7) (N := 7) hx hb hts in_X7 hown hK hP 0 rfl rfl 4 (by decide) (hts _ q1_158) (fun _ h9 => h9) rfl dX7_scanWhole_6 ?_
    refine lv_aload_n hx hb dX7_scanWhole_9 rfl (lv_at hl 0 rfl) ?_
    refine va_get (D := D) (ci := 4) (v := .int (Tape_length St)) (C := RX7) (T := TX7) (N := 7) hx hb hts in_X7 hown hK hP 0 rfl rfl 5 (by decide) (hts _ q1_159) (fun _ h9 => h9) rfl dX7_scanWhole_10 ?_
    refine z_icmp_ge (tgt := 83) hx hb dX7_scanWhole_13 (by decide) hf (fun hf => ?_) (fun hf => ?_)
    · exact w_X7_scanWhole_83 l ht C St H locs ls hf hP hD hS (lv_sub hl [0] rfl)
    · refine lv_aload_n hx hb dX7_scanWhole_16 rfl (lv_at hl 0 rfl) ?_
      refine va_get (D := D) (ci := 4) (v := .ref (ht 1)) (C := RX7) (T := TX7) (N := 7) hx hb hts in_X7 hown hK hP 0 rfl rfl 6 (by decide) (hts _ q1_160) (fun _ h9 => h9) rfl dX7_scanWhole_17 ?_
      refine lv_aload_n hx hb dX7_scanWhole_20 rfl (lv_at hl 0 rfl) ?_
      refine va_get (D := D) (ci := 4) (v := .int (Tape_after St)) (C := RX7) (T := TX7) (N := 7) hx hb hts in_X7 hown hK hP 0 rfl rfl 4 (by decide) (hts _ q1_158) (fun _ h9 => h9) rfl dX7_scanWhole_21 ?_
      refine z_bald (f := (Tape_bytes St)) hx hb hK hP 1 2 rfl rfl dX7_scanWhole_24 hf (fun hf => ?_)
      refine lv_bipush (v := (48 : Int32)) hx hb dX7_scanWhole_25 (by decide) ?_
      refine z_icmp_lt (tgt := 83) hx hb dX7_scanWhole_27 (by decide) hf (fun hf => ?_) (fun hf => ?_)
      · exact w_X7_scanWhole_83 l ht C St H locs ls hf hP hD hS (lv_sub hl [0] rfl)
      · refine lv_aload_n hx hb dX7_scanWhole_30 rfl (lv_at hl 0 rfl) ?_
        refine va_get (D := D) (ci := 4) (v := .ref (ht 1)) (C := RX7) (T := TX7) (N := 7) hx hb hts in_X7 hown hK hP 0 rfl rfl 6 (by decide) (hts _ q1_160) (fun _ h9 => h9) rfl dX7_scanWhole_31 ?_
        refine lv_aload_n hx hb dX7_scanWhole_34 rfl (lv_at hl 0 rfl) ?_
        refine va_get (D := D) (ci := 4) (v := .int (Tape_after St)) (C := RX7) (T := TX7) (N := 7) hx hb hts in_X7 hown hK hP 0 rfl rfl 4 (by decide) (hts _ q1_158) (fun _ h9 => h9) rfl dX7_scanWhole_35 ?_
        refine z_bald (f := (Tape_bytes St)) hx hb hK hP 1 2 rfl rfl dX7_scanWhole_38 hf (fun hf => ?_)
        refine lv_bipush (v := (57 : Int32)) hx hb dX7_scanWhole_39 (by decide) ?_
        refine z_icmp_gt (tgt := 83) hx hb dX7_scanWhole_41 (by decide) hf (fun hf => ?_) (fun hf => ?_)
        · exact w_X7_scanWhole_83 l ht C St H locs ls hf hP hD hS (lv_sub hl [0] rfl)
        · refine lv_aload_n hx hb dX7_scanWhole_44 rfl (lv_at hl 0 rfl) ?_
          refine lv_aload_n hx hb dX7_scanWhole_45 rfl (lv_at hl 0 rfl) ?_
          refine va_get (D := D) (ci := 4) (v := .long (Tape_value St)) (C := RX7) (T := TX7) (N := 7) hx hb hts in_X7 hown hK hP 0 rfl rfl 3 (by decide) (hts _ q1_156) (fun _ h9 => h9) rfl dX7_scanWhole_46 ?_
          refine lv_ldc2 (v := (10 : Int64)) hx hb hown (hts _ q2_92) dX7_scanWhole_49 ?_
          refine lv_lmul hx hb dX7_scanWhole_52 ?_
          refine lv_aload_n hx hb dX7_scanWhole_53 rfl (lv_at hl 0 rfl) ?_
          refine va_get (D := D) (ci := 4) (v := .ref (ht 1)) (C := RX7) (T := TX7) (N := 7) hx hb hts in_X7 hown hK hP 0 rfl rfl 6 (by decide) (hts _ q1_160) (fun _ h9 => h9) rfl dX7_scanWhole_54 ?_
          refine lv_aload_n hx hb dX7_scanWhole_57 rfl (lv_at hl 0 rfl) ?_
          refine va_get (D := D) (ci := 4) (v := .int (Tape_after St)) (C := RX7) (T := TX7) (N := 7) hx hb hts in_X7 hown hK hP 0 rfl rfl 4 (by decide) (hts _ q1_158) (fun _ h9 => h9) rfl dX7_scanWhole_58 ?_
          refine z_bald (f := (Tape_bytes St)) hx hb hK hP 1 2 rfl rfl dX7_scanWhole_61 hf (fun hf => ?_)
          refine lv_bipush (v := (48 : Int32)) hx hb dX7_scanWhole_62 (by decide) ?_
          refine lv_isub hx hb dX7_scanWhole_64 ?_
          refine lv_i2l (v := (((Tape_bytes St) (Tape_after St).toNatClampNeg) - (48 : Int32)).toInt64) hx hb dX7_scanWhole_65 rfl ?_
          refine lv_ladd hx hb dX7_scanWhole_66 ?_
          refine z_put (w2 := vTape ht cy (Tape_size St) (Tape_kind St) (Tape_start St) (((Tape_value St) * (10 : Int64)) + ((((Tape_bytes St) (Tape_after St).toNatClampNeg) - (48 : Int32)).toInt64)) (Tape_after St) (Tape_length St) (Tape_bytes St)) hx hb hts in_X7 tyX7 tyX7_ok nmX7 hown hK hP hD hS 0 rfl rfl 3 (by decide) (hts _ q1_156) (fun _ h9 => h9) rfl rfl rfl (Nat.le_of_ble_eq_true rfl) dX7_scanWhole_67 rfl (fun H locs hP hD hS => ?_)
          refine lv_aload_n hx hb dX7_scanWhole_70 rfl (lv_at hl 0 rfl) ?_
          refine lv_dup hx hb dX7_scanWhole_71 rfl ?_
          refine va_get (D := D) (ci := 4) (v := .int (Tape_after St)) (C := RX7) (T := TX7) (N := 7) hx hb hts in_X7 hown hK hP 0 rfl rfl 4 (by decide) (hts _ q1_158) (fun _ h9 => h9) rfl dX7_scanWhole_72 ?_
          refine lv_iconst (v := (1 : Int32)) hx hb dX7_scanWhole_75 (by decide) ?_
          refine lv_iadd hx hb dX7_scanWhole_76 ?_
          refine z_put (w2 := vTape ht cy (Tape_size St) (Tape_kind St) (Tape_start St) (((Tape_value St) * (10 : Int64)) + ((((Tape_bytes St) (Tape_after St).toNatClampNeg) - (48 : Int32)).toInt64)) ((Tape_after St) + (1 : Int32)) (Tape_length St) (Tape_bytes St)) hx hb hts in_X7 tyX7 tyX7_ok nmX7 hown hK hP hD hS 0 rfl rfl 4 (by decide) (hts _ q1_158) (fun _ h9 => h9) rfl rfl rfl (Nat.le_of_ble_eq_true rfl) dX7_scanWhole_77 rfl (fun H locs hP hD hS => ?_)
          refine lv_goto (tgt := 5) hx hb dX7_scanWhole_80 (by decide) ?_
          rw [← wTape_mk ht] at hP hD
          exact K5 (mkTape (Tape_size St) (Tape_kind St) (Tape_start St) (((Tape_value St) * (10 : Int64)) + ((((Tape_bytes St) (Tape_after St).toNatClampNeg) - (48 : Int32)).toInt64)) ((Tape_after St) + (1 : Int32)) (Tape_length St) (Tape_bytes St)) H locs ls hf hP hD hS (lv_sub hl [0] rfl)
def f_X7_scanWhole (St : STape) : Option (STape) :=
  (zl1 (b_X7_scanWhole_5) FU (mkTape (Tape_size St) (Tape_kind St) (Tape_start St) (0 : Int64) (Tape_after St) (Tape_length St) (Tape_bytes St)))
set_option maxHeartbeats 4000000 in
set_option maxRecDepth 100000 in
theorem c_X7_scanWhole (l : Launch) (D : va_G) (cy : Nat → ClassId) (ht : Nat → Nat) (St : STape) (r : STape) (hf : f_X7_scanWhole St = some r) : zCV l yX7_scanWhole cX7_scanWhole 1 none 0 0 D (zty cy) [.ref (ht 0)] (wTape ht cy St) (wTape ht cy r) := by
  refine zCV_of (by decide +kernel) (Nat.le_of_ble_eq_true rfl) ?_
  intro p e s m below meth c A ls C hP hD hS hl
  generalize hargs : ([.ref (ht 0)] : List Value).toArray = args at C ⊢
  have C : zX p s m meth c cX7_scanWhole 1 args RX7 none A D (zty cy) := C
  obtain ⟨hx, hb, hr, hts, hown, hlocks, hml, hA, hK⟩ := id C
  have hl : lv_has ls 1 [(0, .ref (ht 0))] := hl
  generalize hH : s.heap = H at hP ⊢
  have hS : va_S A s.heap H [] := by rw [← hH]; exact hS
  generalize ([] : List Loc) = locs at hS ⊢
  refine lv_aload_n hx hb dX7_scanWhole_0 rfl (lv_at hl 0 rfl) ?_
  refine lv_lconst (v := (0 : Int64)) hx hb dX7_scanWhole_1 (by decide) ?_
  refine z_put (w2 := vTape ht cy (Tape_size St) (Tape_kind St) (Tape_start St) (0 : Int64) (Tape_after St) (Tape_length St) (Tape_bytes St)) hx hb hts in_X7 tyX7 tyX7_ok nmX7 hown hK hP hD hS 0 rfl rfl 3 (by decide) (hts _ q1_156) (fun _ h9 => h9) rfl rfl rfl (Nat.le_of_ble_eq_true rfl) dX7_scanWhole_2 rfl (fun H locs hP hD hS => ?_)
  rw [← wTape_mk ht] at hP hD
  exact w_X7_scanWhole_5 l ht C FU (mkTape (Tape_size St) (Tape_kind St) (Tape_start St) (0 : Int64) (Tape_after St) (Tape_length St) (Tape_bytes St)) H locs ls hf hP hD hS (lv_sub hl [0] rfl)
def b_X7_advance_124 (St : STape) (v1 : Int32) : Option (STape) :=
  (if v1 < (48 : Int32) then
    some (mkTape (Tape_size St) (4 : Int32) (Tape_start St) (Tape_value St) (Tape_after St) (Tape_length St) (Tape_bytes St))
    else
    (if (57 : Int32) < v1 then
      some (mkTape (Tape_size St) (4 : Int32) (Tape_start St) (Tape_value St) (Tape_after St) (Tape_length St) (Tape_bytes St))
      else
      (f_X7_scanWhole St).bind (fun q1 =>
        some q1)))
set_option maxHeartbeats 4000000 in
set_option maxRecDepth 100000 in
theorem w_X7_advance_124 {p : Program} {e : Env} {s : State} {m : MethodId} {below : List Frame} {meth : Method} {c : Code} {A : Nat → Prop} {D : va_G} {cy : Nat → ClassId} {args : Array Value} {r : STape} (l : Launch) (ht : Nat → Nat) (C : zX p s m meth c cX7_advance 2 args RX7 none A D (zty cy)) :
    ∀ (St : STape) (v1 : Int32) (H : Heap) (locs : List Loc) (ls : Array Slot), b_X7_advance_124 St v1 = some r → va_P D vwCl (wTape ht cy St) H → va_D A (wTape ht cy St) → va_S A s.heap H locs → lv_has ls 2 [(0, .ref (ht 0)), (1, .int v1)] → W p l e (zRm 1 20) s m args below meth c H locs 0 0 (MQ below (zQV D (zty cy) A (wTape ht cy r)) args s 0 0 A) (F0 m 124 ls []) := by
  obtain ⟨hx, hb, hr, hts, hown, hlocks, hml, hA, hK⟩ := id C
  intro St v1 H locs ls hf hP hD hS hl
  refine lv_iload_n hx hb dX7_advance_124 rfl (lv_at hl 1 rfl) ?_
  refine lv_bipush (v := (48 : Int32)) hx hb dX7_advance_125 (by decide) ?_
  refine z_icmp_lt (tgt := 143) hx hb dX7_advance_127 (by decide) hf (fun hf => ?_) (fun hf => ?_)
  · refine lv_aload_n hx hb dX7_advance_143 rfl (lv_at hl 0 rfl) ?_
    refine lv_iconst (v := (4 : Int32)) hx hb dX7_advance_144 (by decide) ?_
    refine z_put (w2 := vTape ht cy (Tape_size St) (4 : Int32) (Tape_start St) (Tape_value St) (Tape_after St) (Tape_length St) (Tape_bytes St)) hx hb hts in_X7 tyX7 tyX7_ok nmX7 hown hK hP hD hS 0 rfl rfl 1 (by decide) (hts _ q1_153) (fun _ h9 => h9) rfl rfl rfl (Nat.le_of_ble_eq_true rfl) dX7_advance_145 rfl (fun H locs hP hD hS => ?_)
    obtain rfl := Option.some.inj hf
    rw [← wTape_mk ht] at hP hD
    exact z_vret C hP hD hS dX7_advance_148
  · refine lv_iload_n hx hb dX7_advance_130 rfl (lv_at hl 1 rfl) ?_
    refine lv_bipush (v := (57 : Int32)) hx hb dX7_advance_131 (by decide) ?_
    refine z_icmp_gt (tgt := 143) hx hb dX7_advance_133 (by decide) hf (fun hf => ?_) (fun hf => ?_)
    · refine lv_aload_n hx hb dX7_advance_143 rfl (lv_at hl 0 rfl) ?_
      refine lv_iconst (v := (4 : Int32)) hx hb dX7_advance_144 (by decide) ?_
      refine z_put (w2 := vTape ht cy (Tape_size St) (4 : Int32) (Tape_start St) (Tape_value St) (Tape_after St) (Tape_length St) (Tape_bytes St)) hx hb hts in_X7 tyX7 tyX7_ok nmX7 hown hK hP hD hS 0 rfl rfl 1 (by decide) (hts _ q1_153) (fun _ h9 => h9) rfl rfl rfl (Nat.le_of_ble_eq_true rfl) dX7_advance_145 rfl (fun H locs hP hD hS => ?_)
      obtain rfl := Option.some.inj hf
      rw [← wTape_mk ht] at hP hD
      exact z_vret C hP hD hS dX7_advance_148
    · refine lv_aload_n hx hb dX7_advance_136 rfl (lv_at hl 0 rfl) ?_
      obtain ⟨q1, hc, hf⟩ := zbd hf
      refine z_cVv0 (As := []) (rest := []) C (c_X7_scanWhole l D cy ht St q1 hc) gV_X7_X7_scanWhole hd_X7_scanWhole ⟨Nat.le_of_ble_eq_true rfl, Nat.le_of_ble_eq_true rfl⟩ ⟨Nat.le_refl _, Nat.le_refl _⟩ (va_recv hK hP (ci := 4) (q0 := 0) rfl rfl) hP hD hS hl.1 (Nat.le_of_ble_eq_true rfl) dX7_advance_137 (fun H locs hP hD hS => ?_)
      have hP : va_P D vwCl (wTape ht cy q1) H := hP
      have hD : va_D A (wTape ht cy q1) := hD
      refine lv_goto (tgt := 148) hx hb dX7_advance_140 (by decide) ?_
      obtain rfl := Option.some.inj hf
      exact z_vret C hP hD hS dX7_advance_148
def b_X7_advance_46 (St : STape) : Option (STape) :=
  (if (Tape_start St) < (Tape_length St) then
    (if zib (Tape_start St) 900 then (if ((Tape_bytes St) (Tape_start St).toNatClampNeg) = (59 : Int32) then
        some (mkTape (Tape_size St) (3 : Int32) (Tape_start St) (Tape_value St) ((Tape_start St) + (1 : Int32)) (Tape_length St) (Tape_bytes St))
        else
        (if ((Tape_bytes St) (Tape_start St).toNatClampNeg) < (97 : Int32) then
          (b_X7_advance_124 (mkTape (Tape_size St) (Tape_kind St) (Tape_start St) (Tape_value St) (Tape_start St) (Tape_length St) (Tape_bytes St)) ((Tape_bytes St) (Tape_start St).toNatClampNeg))
          else
          (if (122 : Int32) < ((Tape_bytes St) (Tape_start St).toNatClampNeg) then
            (b_X7_advance_124 (mkTape (Tape_size St) (Tape_kind St) (Tape_start St) (Tape_value St) (Tape_start St) (Tape_length St) (Tape_bytes St)) ((Tape_bytes St) (Tape_start St).toNatClampNeg))
            else
            (f_X7_scanWord (mkTape (Tape_size St) (Tape_kind St) (Tape_start St) (Tape_value St) (Tape_start St) (Tape_length St) (Tape_bytes St))).bind (fun q2 =>
              some q2)))) else none)
    else
    some (mkTape (Tape_size St) (0 : Int32) (Tape_start St) (Tape_value St) (Tape_start St) (Tape_length St) (Tape_bytes St)))
set_option maxHeartbeats 4000000 in
set_option maxRecDepth 100000 in
theorem w_X7_advance_46 {p : Program} {e : Env} {s : State} {m : MethodId} {below : List Frame} {meth : Method} {c : Code} {A : Nat → Prop} {D : va_G} {cy : Nat → ClassId} {args : Array Value} {r : STape} (l : Launch) (ht : Nat → Nat) (C : zX p s m meth c cX7_advance 2 args RX7 none A D (zty cy)) :
    ∀ (St : STape) (H : Heap) (locs : List Loc) (ls : Array Slot), b_X7_advance_46 St = some r → va_P D vwCl (wTape ht cy St) H → va_D A (wTape ht cy St) → va_S A s.heap H locs → lv_has ls 2 [(0, .ref (ht 0))] → W p l e (zRm 1 20) s m args below meth c H locs 0 0 (MQ below (zQV D (zty cy) A (wTape ht cy r)) args s 0 0 A) (F0 m 46 ls []) := by
  obtain ⟨hx, hb, hr, hts, hown, hlocks, hml, hA, hK⟩ := id C
  intro St H locs ls hf hP hD hS hl
  refine lv_aload_n hx hb dX7_advance_46 rfl (lv_at hl 0 rfl) ?_
  refine lv_aload_n hx hb dX7_advance_47 rfl (lv_at hl 0 rfl) ?_
  refine va_get (D := D) (ci := 4) (v := .int (Tape_start St)) (C := RX7) (T := TX7) (N := 7) hx hb hts in_X7 hown hK hP 0 rfl rfl 2 (by decide) (hts _ q1_155) (fun _ h9 => h9) rfl dX7_advance_48 ?_
  refine z_put (w2 := vTape ht cy (Tape_size St) (Tape_kind St) (Tape_start St) (Tape_value St) (Tape_start St) (Tape_length St) (Tape_bytes St)) hx hb hts in_X7 tyX7 tyX7_ok nmX7 hown hK hP hD hS 0 rfl rfl 4 (by decide) (hts _ q1_158) (fun _ h9 => h9) rfl rfl rfl (Nat.le_of_ble_eq_true rfl) dX7_advance_51 rfl (fun H locs hP hD hS => ?_)
  refine lv_aload_n hx hb dX7_advance_54 rfl (lv_at hl 0 rfl) ?_
  refine va_get (D := D) (ci := 4) (v := .int (Tape_start St)) (C := RX7) (T := TX7) (N := 7) hx hb hts in_X7 hown hK hP 0 rfl rfl 2 (by decide) (hts _ q1_155) (fun _ h9 => h9) rfl dX7_advance_55 ?_
  refine lv_aload_n hx hb dX7_advance_58 rfl (lv_at hl 0 rfl) ?_
  refine va_get (D := D) (ci := 4) (v := .int (Tape_length St)) (C := RX7) (T := TX7) (N := 7) hx hb hts in_X7 hown hK hP 0 rfl rfl 5 (by decide) (hts _ q1_159) (fun _ h9 => h9) rfl dX7_advance_59 ?_
  refine z_icmp_lt (tgt := 71) hx hb dX7_advance_62 (by decide) hf (fun hf => ?_) (fun hf => ?_)
  · refine lv_aload_n hx hb dX7_advance_71 rfl (lv_at hl 0 rfl) ?_
    refine va_get (D := D) (ci := 4) (v := .ref (ht 1)) (C := RX7) (T := TX7) (N := 7) hx hb hts in_X7 hown hK hP 0 rfl rfl 6 (by decide) (hts _ q1_160) (fun _ h9 => h9) rfl dX7_advance_72 ?_
    refine lv_aload_n hx hb dX7_advance_75 rfl (lv_at hl 0 rfl) ?_
    refine va_get (D := D) (ci := 4) (v := .int (Tape_start St)) (C := RX7) (T := TX7) (N := 7) hx hb hts in_X7 hown hK hP 0 rfl rfl 2 (by decide) (hts _ q1_155) (fun _ h9 => h9) rfl dX7_advance_76 ?_
    refine z_bald (f := (Tape_bytes St)) hx hb hK hP 1 2 rfl rfl dX7_advance_79 hf (fun hf => ?_)
    refine lv_istore_n (lv' := [(1, .int ((Tape_bytes St) (Tape_start St).toNatClampNeg)), (0, .ref (ht 0))]) hx hb dX7_advance_80 rfl hl (by decide) rfl (fun ls hl => ?_)
    refine lv_iload_n hx hb dX7_advance_81 rfl (lv_at hl 0 rfl) ?_
    refine lv_bipush (v := (59 : Int32)) hx hb dX7_advance_82 (by decide) ?_
    refine z_icmp_ne (tgt := 105) hx hb dX7_advance_84 (by decide) hf (fun hf => ?_) (fun hf => ?_)
    · refine lv_iload_n hx hb dX7_advance_105 rfl (lv_at hl 0 rfl) ?_
      refine lv_bipush (v := (97 : Int32)) hx hb dX7_advance_106 (by decide) ?_
      refine z_icmp_lt (tgt := 124) hx hb dX7_advance_108 (by decide) hf (fun hf => ?_) (fun hf => ?_)
      · rw [← wTape_mk ht] at hP hD
        exact w_X7_advance_124 l ht C (mkTape (Tape_size St) (Tape_kind St) (Tape_start St) (Tape_value St) (Tape_start St) (Tape_length St) (Tape_bytes St)) ((Tape_bytes St) (Tape_start St).toNatClampNeg) H locs ls hf hP hD hS (lv_sub hl [1, 0] rfl)
      · refine lv_iload_n hx hb dX7_advance_111 rfl (lv_at hl 0 rfl) ?_
        refine lv_bipush (v := (122 : Int32)) hx hb dX7_advance_112 (by decide) ?_
        refine z_icmp_gt (tgt := 124) hx hb dX7_advance_114 (by decide) hf (fun hf => ?_) (fun hf => ?_)
        · rw [← wTape_mk ht] at hP hD
          exact w_X7_advance_124 l ht C (mkTape (Tape_size St) (Tape_kind St) (Tape_start St) (Tape_value St) (Tape_start St) (Tape_length St) (Tape_bytes St)) ((Tape_bytes St) (Tape_start St).toNatClampNeg) H locs ls hf hP hD hS (lv_sub hl [1, 0] rfl)
        · refine lv_aload_n hx hb dX7_advance_117 rfl (lv_at hl 1 rfl) ?_
          obtain ⟨q2, hc, hf⟩ := zbd hf
          rw [← wTape_mk ht] at hP hD
          refine z_cVv0 (As := []) (rest := []) C (c_X7_scanWord l D cy ht (mkTape (Tape_size St) (Tape_kind St) (Tape_start St) (Tape_value St) (Tape_start St) (Tape_length St) (Tape_bytes St)) q2 hc) gV_X7_X7_scanWord hd_X7_scanWord ⟨Nat.le_of_ble_eq_true rfl, Nat.le_of_ble_eq_true rfl⟩ ⟨Nat.le_refl _, Nat.le_refl _⟩ (va_recv hK hP (ci := 4) (q0 := 0) rfl rfl) hP hD hS hl.1 (Nat.le_of_ble_eq_true rfl) dX7_advance_118 (fun H locs hP hD hS => ?_)
          have hP : va_P D vwCl (wTape ht cy q2) H := hP
          have hD : va_D A (wTape ht cy q2) := hD
          refine lv_goto (tgt := 148) hx hb dX7_advance_121 (by decide) ?_
          obtain rfl := Option.some.inj hf
          exact z_vret C hP hD hS dX7_advance_148
    · refine lv_aload_n hx hb dX7_advance_87 rfl (lv_at hl 1 rfl) ?_
      refine lv_iconst (v := (3 : Int32)) hx hb dX7_advance_88 (by decide) ?_
      refine z_put (w2 := vTape ht cy (Tape_size St) (3 : Int32) (Tape_start St) (Tape_value St) (Tape_start St) (Tape_length St) (Tape_bytes St)) hx hb hts in_X7 tyX7 tyX7_ok nmX7 hown hK hP hD hS 0 rfl rfl 1 (by decide) (hts _ q1_153) (fun _ h9 => h9) rfl rfl rfl (Nat.le_of_ble_eq_true rfl) dX7_advance_89 rfl (fun H locs hP hD hS => ?_)
      refine lv_aload_n hx hb dX7_advance_92 rfl (lv_at hl 1 rfl) ?_
      refine lv_aload_n hx hb dX7_advance_93 rfl (lv_at hl 1 rfl) ?_
      refine va_get (D := D) (ci := 4) (v := .int (Tape_start St)) (C := RX7) (T := TX7) (N := 7) hx hb hts in_X7 hown hK hP 0 rfl rfl 2 (by decide) (hts _ q1_155) (fun _ h9 => h9) rfl dX7_advance_94 ?_
      refine lv_iconst (v := (1 : Int32)) hx hb dX7_advance_97 (by decide) ?_
      refine lv_iadd hx hb dX7_advance_98 ?_
      refine z_put (w2 := vTape ht cy (Tape_size St) (3 : Int32) (Tape_start St) (Tape_value St) ((Tape_start St) + (1 : Int32)) (Tape_length St) (Tape_bytes St)) hx hb hts in_X7 tyX7 tyX7_ok nmX7 hown hK hP hD hS 0 rfl rfl 4 (by decide) (hts _ q1_158) (fun _ h9 => h9) rfl rfl rfl (Nat.le_of_ble_eq_true rfl) dX7_advance_99 rfl (fun H locs hP hD hS => ?_)
      refine lv_goto (tgt := 148) hx hb dX7_advance_102 (by decide) ?_
      obtain rfl := Option.some.inj hf
      rw [← wTape_mk ht] at hP hD
      exact z_vret C hP hD hS dX7_advance_148
  · refine lv_aload_n hx hb dX7_advance_65 rfl (lv_at hl 0 rfl) ?_
    refine lv_iconst (v := (0 : Int32)) hx hb dX7_advance_66 (by decide) ?_
    refine z_put (w2 := vTape ht cy (Tape_size St) (0 : Int32) (Tape_start St) (Tape_value St) (Tape_start St) (Tape_length St) (Tape_bytes St)) hx hb hts in_X7 tyX7 tyX7_ok nmX7 hown hK hP hD hS 0 rfl rfl 1 (by decide) (hts _ q1_153) (fun _ h9 => h9) rfl rfl rfl (Nat.le_of_ble_eq_true rfl) dX7_advance_67 rfl (fun H locs hP hD hS => ?_)
    obtain rfl := Option.some.inj hf
    rw [← wTape_mk ht] at hP hD
    exact z_vret C hP hD hS dX7_advance_70
def b_X7_advance_8 (k8 : STape → Option (STape)) (St : STape) : Option (STape) :=
  (if (Tape_length St) ≤ (Tape_start St) then
    (b_X7_advance_46 St)
    else
    (if zib (Tape_start St) 900 then (if ((Tape_bytes St) (Tape_start St).toNatClampNeg) = (32 : Int32) then
        (k8 (mkTape (Tape_size St) (Tape_kind St) ((Tape_start St) + (1 : Int32)) (Tape_value St) (Tape_after St) (Tape_length St) (Tape_bytes St)))
        else
        (b_X7_advance_46 St)) else none))
set_option maxHeartbeats 4000000 in
set_option maxRecDepth 100000 in
theorem w_X7_advance_8 {p : Program} {e : Env} {s : State} {m : MethodId} {below : List Frame} {meth : Method} {c : Code} {A : Nat → Prop} {D : va_G} {cy : Nat → ClassId} {args : Array Value} {r : STape} (l : Launch) (ht : Nat → Nat) (C : zX p s m meth c cX7_advance 2 args RX7 none A D (zty cy)) :
    ∀ (n : Nat) (St : STape) (H : Heap) (locs : List Loc) (ls : Array Slot), zl1 (b_X7_advance_8) n St = some r → va_P D vwCl (wTape ht cy St) H → va_D A (wTape ht cy St) → va_S A s.heap H locs → lv_has ls 2 [(0, .ref (ht 0))] → W p l e (zRm 1 20) s m args below meth c H locs 0 0 (MQ below (zQV D (zty cy) A (wTape ht cy r)) args s 0 0 A) (F0 m 8 ls []) := by
  obtain ⟨hx, hb, hr, hts, hown, hlocks, hml, hA, hK⟩ := id C
  intro n
  induction n with
  | zero => intro St H locs ls hf; exact zno hf
  | succ n ih =>
    intro St H locs ls hf hP hD hS hl
    have hf : b_X7_advance_8 (zl1 (b_X7_advance_8) n) St = some r := hf
    have K8 := ih
    refine lv_aload_n hx hb dX7_advance_8 rfl (lv_at hl 0 rfl) ?_
    refine va_get (D := D) (ci := 4) (v := .int (Tape_start St)) (C := RX7) (T := TX7) (N := 7) hx hb hts in_X7 hown hK hP 0 rfl rfl 2 (by decide) (hts _ q1_155) (fun _ h9 => h9) rfl dX7_advance_9 ?_
    refine lv_aload_n hx hb dX7_advance_12 rfl (lv_at hl 0 rfl) ?_
    refine va_get (D := D) (ci := 4) (v := .int (Tape_length St)) (C := RX7) (T := TX7) (N := 7) hx hb hts in_X7 hown hK hP 0 rfl rfl 5 (by decide) (hts _ q1_159) (fun _ h9 => h9) rfl dX7_advance_13 ?_
    refine z_icmp_ge (tgt := 46) hx hb dX7_advance_16 (by decide) hf (fun hf => ?_) (fun hf => ?_)
    · exact w_X7_advance_46 l ht C St H locs ls hf hP hD hS (lv_sub hl [0] rfl)
    · refine lv_aload_n hx hb dX7_advance_19 rfl (lv_at hl 0 rfl) ?_
      refine va_get (D := D) (ci := 4) (v := .ref (ht 1)) (C := RX7) (T := TX7) (N := 7) hx hb hts in_X7 hown hK hP 0 rfl rfl 6 (by decide) (hts _ q1_160) (fun _ h9 => h9) rfl dX7_advance_20 ?_
      refine lv_aload_n hx hb dX7_advance_23 rfl (lv_at hl 0 rfl) ?_
      refine va_get (D := D) (ci := 4) (v := .int (Tape_start St)) (C := RX7) (T := TX7) (N := 7) hx hb hts in_X7 hown hK hP 0 rfl rfl 2 (by decide) (hts _ q1_155) (fun _ h9 => h9) rfl dX7_advance_24 ?_
      refine z_bald (f := (Tape_bytes St)) hx hb hK hP 1 2 rfl rfl dX7_advance_27 hf (fun hf => ?_)
      refine lv_bipush (v := (32 : Int32)) hx hb dX7_advance_28 (by decide) ?_
      refine z_icmp_ne (tgt := 46) hx hb dX7_advance_30 (by decide) hf (fun hf => ?_) (fun hf => ?_)
      · exact w_X7_advance_46 l ht C St H locs ls hf hP hD hS (lv_sub hl [0] rfl)
      · refine lv_aload_n hx hb dX7_advance_33 rfl (lv_at hl 0 rfl) ?_
        refine lv_dup hx hb dX7_advance_34 rfl ?_
        refine va_get (D := D) (ci := 4) (v := .int (Tape_start St)) (C := RX7) (T := TX7) (N := 7) hx hb hts in_X7 hown hK hP 0 rfl rfl 2 (by decide) (hts _ q1_155) (fun _ h9 => h9) rfl dX7_advance_35 ?_
        refine lv_iconst (v := (1 : Int32)) hx hb dX7_advance_38 (by decide) ?_
        refine lv_iadd hx hb dX7_advance_39 ?_
        refine z_put (w2 := vTape ht cy (Tape_size St) (Tape_kind St) ((Tape_start St) + (1 : Int32)) (Tape_value St) (Tape_after St) (Tape_length St) (Tape_bytes St)) hx hb hts in_X7 tyX7 tyX7_ok nmX7 hown hK hP hD hS 0 rfl rfl 2 (by decide) (hts _ q1_155) (fun _ h9 => h9) rfl rfl rfl (Nat.le_of_ble_eq_true rfl) dX7_advance_40 rfl (fun H locs hP hD hS => ?_)
        refine lv_goto (tgt := 8) hx hb dX7_advance_43 (by decide) ?_
        rw [← wTape_mk ht] at hP hD
        exact K8 (mkTape (Tape_size St) (Tape_kind St) ((Tape_start St) + (1 : Int32)) (Tape_value St) (Tape_after St) (Tape_length St) (Tape_bytes St)) H locs ls hf hP hD hS (lv_sub hl [0] rfl)
def f_X7_advance (St : STape) : Option (STape) :=
  (zl1 (b_X7_advance_8) FU (mkTape (Tape_size St) (Tape_kind St) (Tape_after St) (Tape_value St) (Tape_after St) (Tape_length St) (Tape_bytes St)))
set_option maxHeartbeats 4000000 in
set_option maxRecDepth 100000 in
theorem c_X7_advance (l : Launch) (D : va_G) (cy : Nat → ClassId) (ht : Nat → Nat) (St : STape) (r : STape) (hf : f_X7_advance St = some r) : zCV l yX7_advance cX7_advance 2 none 1 20 D (zty cy) [.ref (ht 0)] (wTape ht cy St) (wTape ht cy r) := by
  refine zCV_of (by decide +kernel) (Nat.le_of_ble_eq_true rfl) ?_
  intro p e s m below meth c A ls C hP hD hS hl
  generalize hargs : ([.ref (ht 0)] : List Value).toArray = args at C ⊢
  have C : zX p s m meth c cX7_advance 2 args RX7 none A D (zty cy) := C
  obtain ⟨hx, hb, hr, hts, hown, hlocks, hml, hA, hK⟩ := id C
  have hl : lv_has ls 2 [(0, .ref (ht 0))] := hl
  generalize hH : s.heap = H at hP ⊢
  have hS : va_S A s.heap H [] := by rw [← hH]; exact hS
  generalize ([] : List Loc) = locs at hS ⊢
  refine lv_aload_n hx hb dX7_advance_0 rfl (lv_at hl 0 rfl) ?_
  refine lv_aload_n hx hb dX7_advance_1 rfl (lv_at hl 0 rfl) ?_
  refine va_get (D := D) (ci := 4) (v := .int (Tape_after St)) (C := RX7) (T := TX7) (N := 7) hx hb hts in_X7 hown hK hP 0 rfl rfl 4 (by decide) (hts _ q1_158) (fun _ h9 => h9) rfl dX7_advance_2 ?_
  refine z_put (w2 := vTape ht cy (Tape_size St) (Tape_kind St) (Tape_after St) (Tape_value St) (Tape_after St) (Tape_length St) (Tape_bytes St)) hx hb hts in_X7 tyX7 tyX7_ok nmX7 hown hK hP hD hS 0 rfl rfl 2 (by decide) (hts _ q1_155) (fun _ h9 => h9) rfl rfl rfl (Nat.le_of_ble_eq_true rfl) dX7_advance_5 rfl (fun H locs hP hD hS => ?_)
  rw [← wTape_mk ht] at hP hD
  exact w_X7_advance_8 l ht C FU (mkTape (Tape_size St) (Tape_kind St) (Tape_after St) (Tape_value St) (Tape_after St) (Tape_length St) (Tape_bytes St)) H locs ls hf hP hD hS (lv_sub hl [0] rfl)
def f_X7_startText (St : STape) (x1 : Int32) : Option (STape) :=
  (f_X7_advance (mkTape (0 : Int32) (Tape_kind St) (Tape_start St) (Tape_value St) (0 : Int32) (if (Tape_size St) < x1 then (Tape_size St) else x1) (Tape_bytes St))).bind (fun q1 =>
    some q1)
set_option maxHeartbeats 4000000 in
set_option maxRecDepth 100000 in
theorem c_X7_startText (l : Launch) (D : va_G) (cy : Nat → ClassId) (ht : Nat → Nat) (St : STape) (x1 : Int32) (r : STape) (hf : f_X7_startText St x1 = some r) : zCV l yX7_startText cX7_startText 2 none 2 41 D (zty cy) [.ref (ht 0), .int x1] (wTape ht cy St) (wTape ht cy r) := by
  refine zCV_of (by decide +kernel) (Nat.le_of_ble_eq_true rfl) ?_
  intro p e s m below meth c A ls C hP hD hS hl
  generalize hargs : ([.ref (ht 0), .int x1] : List Value).toArray = args at C ⊢
  have C : zX p s m meth c cX7_startText 2 args RX7 none A D (zty cy) := C
  obtain ⟨hx, hb, hr, hts, hown, hlocks, hml, hA, hK⟩ := id C
  have hl : lv_has ls 2 [(0, .ref (ht 0)), (1, .int x1)] := hl
  generalize hH : s.heap = H at hP ⊢
  have hS : va_S A s.heap H [] := by rw [← hH]; exact hS
  generalize ([] : List Loc) = locs at hS ⊢
  refine lv_aload_n hx hb dX7_startText_0 rfl (lv_at hl 0 rfl) ?_
  refine lv_iload_n hx hb dX7_startText_1 rfl (lv_at hl 1 rfl) ?_
  refine lv_aload_n hx hb dX7_startText_2 rfl (lv_at hl 0 rfl) ?_
  refine va_get (D := D) (ci := 4) (v := .int (Tape_size St)) (C := RX7) (T := TX7) (N := 7) hx hb hts in_X7 hown hK hP 0 rfl rfl 0 (by decide) (hts _ q1_150) (fun _ h9 => h9) rfl dX7_startText_3 ?_
  refine va_mmin hx hb (hml.trans hl.1.symm) hown (hts _ q2_76) (hts _ q2_77) (hts _ q1_9) (hts _ q2_78) (by decide) (Nat.le_of_ble_eq_true rfl) (by decide) (by decide) dX7_startText_6 ?_
  refine z_put (w2 := vTape ht cy (Tape_size St) (Tape_kind St) (Tape_start St) (Tape_value St) (Tape_after St) (if (Tape_size St) < x1 then (Tape_size St) else x1) (Tape_bytes St)) hx hb hts in_X7 tyX7 tyX7_ok nmX7 hown hK hP hD hS 0 rfl rfl 5 (by decide) (hts _ q1_159) (fun _ h9 => h9) rfl rfl rfl (Nat.le_of_ble_eq_true rfl) dX7_startText_9 rfl (fun H locs hP hD hS => ?_)
  refine lv_aload_n hx hb dX7_startText_12 rfl (lv_at hl 0 rfl) ?_
  refine lv_iconst (v := (0 : Int32)) hx hb dX7_startText_13 (by decide) ?_
  refine z_put (w2 := vTape ht cy (0 : Int32) (Tape_kind St) (Tape_start St) (Tape_value St) (Tape_after St) (if (Tape_size St) < x1 then (Tape_size St) else x1) (Tape_bytes St)) hx hb hts in_X7 tyX7 tyX7_ok nmX7 hown hK hP hD hS 0 rfl rfl 0 (by decide) (hts _ q1_150) (fun _ h9 => h9) rfl rfl rfl (Nat.le_of_ble_eq_true rfl) dX7_startText_14 rfl (fun H locs hP hD hS => ?_)
  refine lv_aload_n hx hb dX7_startText_17 rfl (lv_at hl 0 rfl) ?_
  refine lv_iconst (v := (0 : Int32)) hx hb dX7_startText_18 (by decide) ?_
  refine z_put (w2 := vTape ht cy (0 : Int32) (Tape_kind St) (Tape_start St) (Tape_value St) (0 : Int32) (if (Tape_size St) < x1 then (Tape_size St) else x1) (Tape_bytes St)) hx hb hts in_X7 tyX7 tyX7_ok nmX7 hown hK hP hD hS 0 rfl rfl 4 (by decide) (hts _ q1_158) (fun _ h9 => h9) rfl rfl rfl (Nat.le_of_ble_eq_true rfl) dX7_startText_19 rfl (fun H locs hP hD hS => ?_)
  refine lv_aload_n hx hb dX7_startText_22 rfl (lv_at hl 0 rfl) ?_
  obtain ⟨q1, hc, hf⟩ := zbd hf
  rw [← wTape_mk ht] at hP hD
  refine z_cVv0 (As := []) (rest := []) C (c_X7_advance l D cy ht (mkTape (0 : Int32) (Tape_kind St) (Tape_start St) (Tape_value St) (0 : Int32) (if (Tape_size St) < x1 then (Tape_size St) else x1) (Tape_bytes St)) q1 hc) gV_X7_X7_advance hd_X7_advance ⟨Nat.le_of_ble_eq_true rfl, Nat.le_of_ble_eq_true rfl⟩ ⟨Nat.le_refl _, Nat.le_refl _⟩ (va_recv hK hP (ci := 4) (q0 := 0) rfl rfl) hP hD hS hl.1 (Nat.le_of_ble_eq_true rfl) dX7_startText_23 (fun H locs hP hD hS => ?_)
  have hP : va_P D vwCl (wTape ht cy q1) H := hP
  have hD : va_D A (wTape ht cy q1) := hD
  obtain rfl := Option.some.inj hf
  exact z_vret C hP hD hS dX7_startText_26
