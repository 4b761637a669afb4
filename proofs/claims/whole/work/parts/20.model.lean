theorem hd_X10_hasBit : yX10_hasBit.cls ≠ "java/lang/invoke/MethodHandle" ∧ yX10_hasBit.cls ≠ "java/lang/invoke/VarHandle" ∧ (parseMethodDescriptor yX10_hasBit.desc).map (fun d => d.parameters.length) = some 2 := by decide +kernel
theorem gS_X10_X10_hasBit : GoodIn WT (va_wsS RX10 85 yX10_hasBit (.code yX10_hasBit cX10_hasBit 2 (some FieldType.boolean) :: WT)) := gzS q7_67 q7_68 q1_8 q7_69
theorem hd_X10_in : yX10_in.cls ≠ "java/lang/invoke/MethodHandle" ∧ yX10_in.cls ≠ "java/lang/invoke/VarHandle" ∧ (parseMethodDescriptor yX10_in.desc).map (fun d => d.parameters.length) = some 3 := by decide +kernel
theorem gS_X10_X10_in : GoodIn WT (va_wsS RX10 81 yX10_in (.code yX10_in cX10_in 3 (some FieldType.boolean) :: WT)) := gzS q6_185 q6_186 q1_8 q6_187
theorem hd_X10_isDigit : yX10_isDigit.cls ≠ "java/lang/invoke/MethodHandle" ∧ yX10_isDigit.cls ≠ "java/lang/invoke/VarHandle" ∧ (parseMethodDescriptor yX10_isDigit.desc).map (fun d => d.parameters.length) = some 1 := by decide +kernel
theorem gS_X10_X10_isDigit : GoodIn WT (va_wsS RX10 180 yX10_isDigit (.code yX10_isDigit cX10_isDigit 1 (some FieldType.boolean) :: WT)) := gzS q6_203 q6_204 q1_8 q6_205
theorem hd_X10_isSmall : yX10_isSmall.cls ≠ "java/lang/invoke/MethodHandle" ∧ yX10_isSmall.cls ≠ "java/lang/invoke/VarHandle" ∧ (parseMethodDescriptor yX10_isSmall.desc).map (fun d => d.parameters.length) = some 1 := by decide +kernel
theorem gS_X10_X10_isSmall : GoodIn WT (va_wsS RX10 176 yX10_isSmall (.code yX10_isSmall cX10_isSmall 1 (some FieldType.boolean) :: WT)) := gzS q6_200 q6_201 q1_8 q6_202
theorem hd_X10_ageBack : yX10_ageBack.cls = RX10 ∧ yX10_ageBack.cls ≠ "java/lang/invoke/MethodHandle" ∧ yX10_ageBack.cls ≠ "java/lang/invoke/VarHandle" ∧ (parseMethodDescriptor yX10_ageBack.desc).map (fun d => d.parameters.length) = some 2 := by decide +kernel
theorem gV_X10_X10_ageBack : GoodIn WT (wsV RX10 120 RX10 yX10_ageBack (.code yX10_ageBack cX10_ageBack 5 (some FieldType.int) :: WT)) := gzV q7_51 q7_53 s_X10_ageBack q1_8 q7_54
theorem hd_X10_ageOf : yX10_ageOf.cls = RX10 ∧ yX10_ageOf.cls ≠ "java/lang/invoke/MethodHandle" ∧ yX10_ageOf.cls ≠ "java/lang/invoke/VarHandle" ∧ (parseMethodDescriptor yX10_ageOf.desc).map (fun d => d.parameters.length) = some 2 := by decide +kernel
theorem gV_X10_X10_ageOf : GoodIn WT (wsV RX10 113 RX10 yX10_ageOf (.code yX10_ageOf cX10_ageOf 3 (some FieldType.int) :: WT)) := gzV q7_55 q7_57 s_X10_ageOf q1_8 q7_58
theorem hd_X10_doesCount : yX10_doesCount.cls = RX10 ∧ yX10_doesCount.cls ≠ "java/lang/invoke/MethodHandle" ∧ yX10_doesCount.cls ≠ "java/lang/invoke/VarHandle" ∧ (parseMethodDescriptor yX10_doesCount.desc).map (fun d => d.parameters.length) = some 3 := by decide +kernel
theorem gV_X10_X10_doesCount : GoodIn WT (wsV RX10 96 RX10 yX10_doesCount (.code yX10_doesCount cX10_doesCount 6 (some FieldType.boolean) :: WT)) := gzV q7_106 q7_108 s_X10_doesCount q1_8 q7_109
theorem hd_X10_doesRun : yX10_doesRun.cls = RX10 ∧ yX10_doesRun.cls ≠ "java/lang/invoke/MethodHandle" ∧ yX10_doesRun.cls ≠ "java/lang/invoke/VarHandle" ∧ (parseMethodDescriptor yX10_doesRun.desc).map (fun d => d.parameters.length) = some 2 := by decide +kernel
theorem gV_X10_X10_doesRun : GoodIn WT (wsV RX10 116 RX10 yX10_doesRun (.code yX10_doesRun cX10_doesRun 3 (some FieldType.boolean) :: WT)) := gzV q7_47 q7_49 s_X10_doesRun q1_8 q7_50
theorem hd_X10_doesSee : yX10_doesSee.cls = RX10 ∧ yX10_doesSee.cls ≠ "java/lang/invoke/MethodHandle" ∧ yX10_doesSee.cls ≠ "java/lang/invoke/VarHandle" ∧ (parseMethodDescriptor yX10_doesSee.desc).map (fun d => d.parameters.length) = some 3 := by decide +kernel
theorem gV_X10_X10_doesSee : GoodIn WT (wsV RX10 99 RX10 yX10_doesSee (.code yX10_doesSee cX10_doesSee 6 (some FieldType.boolean) :: WT)) := gzV q7_102 q7_104 s_X10_doesSee q1_8 q7_105
theorem hd_X10_freeVersion : yX10_freeVersion.cls = RX10 ∧ yX10_freeVersion.cls ≠ "java/lang/invoke/MethodHandle" ∧ yX10_freeVersion.cls ≠ "java/lang/invoke/VarHandle" ∧ (parseMethodDescriptor yX10_freeVersion.desc).map (fun d => d.parameters.length) = some 1 := by decide +kernel
theorem gV_X10_X10_freeVersion : GoodIn WT (wsV RX10 142 RX10 yX10_freeVersion (.code yX10_freeVersion cX10_freeVersion 3 (some FieldType.int) :: WT)) := gzV q7_122 q7_124 s_X10_freeVersion q1_8 q7_125
theorem hd_X10_goesOn : yX10_goesOn.cls = RX10 ∧ yX10_goesOn.cls ≠ "java/lang/invoke/MethodHandle" ∧ yX10_goesOn.cls ≠ "java/lang/invoke/VarHandle" ∧ (parseMethodDescriptor yX10_goesOn.desc).map (fun d => d.parameters.length) = some 2 := by decide +kernel
theorem gV_X10_X10_goesOn : GoodIn WT (wsV RX10 77 RX10 yX10_goesOn (.code yX10_goesOn cX10_goesOn 3 (some FieldType.int) :: WT)) := gzV q7_59 q7_61 s_X10_goesOn q1_8 q7_62
theorem hd_X10_heldBy : yX10_heldBy.cls = RX10 ∧ yX10_heldBy.cls ≠ "java/lang/invoke/MethodHandle" ∧ yX10_heldBy.cls ≠ "java/lang/invoke/VarHandle" ∧ (parseMethodDescriptor yX10_heldBy.desc).map (fun d => d.parameters.length) = some 3 := by decide +kernel
theorem gV_X10_X10_heldBy : GoodIn WT (wsV RX10 130 RX10 yX10_heldBy (.code yX10_heldBy cX10_heldBy 7 (some FieldType.int) :: WT)) := gzV q7_94 q7_96 s_X10_heldBy q1_8 q7_97
theorem hd_X10_horizonOf : yX10_horizonOf.cls = RX10 ∧ yX10_horizonOf.cls ≠ "java/lang/invoke/MethodHandle" ∧ yX10_horizonOf.cls ≠ "java/lang/invoke/VarHandle" ∧ (parseMethodDescriptor yX10_horizonOf.desc).map (fun d => d.parameters.length) = some 1 := by decide +kernel
theorem gV_X10_X10_horizonOf : GoodIn WT (wsV RX10 123 RX10 yX10_horizonOf (.code yX10_horizonOf cX10_horizonOf 4 (some FieldType.int) :: WT)) := gzV q7_150 q7_152 s_X10_horizonOf q1_8 q7_153
theorem hd_X10_isBarred : yX10_isBarred.cls = RX10 ∧ yX10_isBarred.cls ≠ "java/lang/invoke/MethodHandle" ∧ yX10_isBarred.cls ≠ "java/lang/invoke/VarHandle" ∧ (parseMethodDescriptor yX10_isBarred.desc).map (fun d => d.parameters.length) = some 3 := by decide +kernel
theorem gV_X10_X10_isBarred : GoodIn WT (wsV RX10 139 RX10 yX10_isBarred (.code yX10_isBarred cX10_isBarred 4 (some FieldType.boolean) :: WT)) := gzV q7_90 q7_92 s_X10_isBarred q1_8 q7_93
theorem hd_X10_isDead : yX10_isDead.cls = RX10 ∧ yX10_isDead.cls ≠ "java/lang/invoke/MethodHandle" ∧ yX10_isDead.cls ≠ "java/lang/invoke/VarHandle" ∧ (parseMethodDescriptor yX10_isDead.desc).map (fun d => d.parameters.length) = some 2 := by decide +kernel
theorem gV_X10_X10_isDead : GoodIn WT (wsV RX10 145 RX10 yX10_isDead (.code yX10_isDead cX10_isDead 5 (some FieldType.boolean) :: WT)) := gzV q7_146 q7_148 s_X10_isDead q1_8 q7_149
theorem hd_X10_isFrozenThen : yX10_isFrozenThen.cls = RX10 ∧ yX10_isFrozenThen.cls ≠ "java/lang/invoke/MethodHandle" ∧ yX10_isFrozenThen.cls ≠ "java/lang/invoke/VarHandle" ∧ (parseMethodDescriptor yX10_isFrozenThen.desc).map (fun d => d.parameters.length) = some 2 := by decide +kernel
theorem gV_X10_X10_isFrozenThen : GoodIn WT (wsV RX10 148 RX10 yX10_isFrozenThen (.code yX10_isFrozenThen cX10_isFrozenThen 4 (some FieldType.boolean) :: WT)) := gzV q7_158 q7_160 s_X10_isFrozenThen q1_8 q7_161
theorem hd_X10_isIn : yX10_isIn.cls = RX10 ∧ yX10_isIn.cls ≠ "java/lang/invoke/MethodHandle" ∧ yX10_isIn.cls ≠ "java/lang/invoke/VarHandle" ∧ (parseMethodDescriptor yX10_isIn.desc).map (fun d => d.parameters.length) = some 3 := by decide +kernel
theorem gV_X10_X10_isIn : GoodIn WT (wsV RX10 92 RX10 yX10_isIn (.code yX10_isIn cX10_isIn 4 (some FieldType.boolean) :: WT)) := gzV q7_63 q7_65 s_X10_isIn q1_8 q7_66
theorem hd_X10_isLetGo : yX10_isLetGo.cls = RX10 ∧ yX10_isLetGo.cls ≠ "java/lang/invoke/MethodHandle" ∧ yX10_isLetGo.cls ≠ "java/lang/invoke/VarHandle" ∧ (parseMethodDescriptor yX10_isLetGo.desc).map (fun d => d.parameters.length) = some 2 := by decide +kernel
theorem gV_X10_X10_isLetGo : GoodIn WT (wsV RX10 151 RX10 yX10_isLetGo (.code yX10_isLetGo cX10_isLetGo 4 (some FieldType.boolean) :: WT)) := gzV q7_162 q7_164 s_X10_isLetGo q1_8 q7_165
theorem hd_X10_isOlder : yX10_isOlder.cls = RX10 ∧ yX10_isOlder.cls ≠ "java/lang/invoke/MethodHandle" ∧ yX10_isOlder.cls ≠ "java/lang/invoke/VarHandle" ∧ (parseMethodDescriptor yX10_isOlder.desc).map (fun d => d.parameters.length) = some 2 := by decide +kernel
theorem gV_X10_X10_isOlder : GoodIn WT (wsV RX10 89 RX10 yX10_isOlder (.code yX10_isOlder cX10_isOlder 3 (some FieldType.boolean) :: WT)) := gzV q7_110 q7_112 s_X10_isOlder q1_8 q7_113
theorem hd_X10_lastOf : yX10_lastOf.cls = RX10 ∧ yX10_lastOf.cls ≠ "java/lang/invoke/MethodHandle" ∧ yX10_lastOf.cls ≠ "java/lang/invoke/VarHandle" ∧ (parseMethodDescriptor yX10_lastOf.desc).map (fun d => d.parameters.length) = some 2 := by decide +kernel
theorem gV_X10_X10_lastOf : GoodIn WT (wsV RX10 110 RX10 yX10_lastOf (.code yX10_lastOf cX10_lastOf 6 (some FieldType.int) :: WT)) := gzV q7_114 q7_116 s_X10_lastOf q1_8 q7_117
theorem hd_X10_see : yX10_see.cls = RX10 ∧ yX10_see.cls ≠ "java/lang/invoke/MethodHandle" ∧ yX10_see.cls ≠ "java/lang/invoke/VarHandle" ∧ (parseMethodDescriptor yX10_see.desc).map (fun d => d.parameters.length) = some 1 := by decide +kernel
theorem gV_X10_X10_see : GoodIn WT (wsV RX10 160 RX10 yX10_see (.code yX10_see cX10_see 2 (some FieldType.int) :: WT)) := gzV q6_196 q6_198 s_X10_see q1_8 q6_199
theorem hd_X10_seenIn : yX10_seenIn.cls = RX10 ∧ yX10_seenIn.cls ≠ "java/lang/invoke/MethodHandle" ∧ yX10_seenIn.cls ≠ "java/lang/invoke/VarHandle" ∧ (parseMethodDescriptor yX10_seenIn.desc).map (fun d => d.parameters.length) = some 3 := by decide +kernel
theorem gV_X10_X10_seenIn : GoodIn WT (wsV RX10 102 RX10 yX10_seenIn (.code yX10_seenIn cX10_seenIn 6 (some FieldType.int) :: WT)) := gzV q7_98 q7_100 s_X10_seenIn q1_8 q7_101
theorem hd_X10_slotOf : yX10_slotOf.cls = RX10 ∧ yX10_slotOf.cls ≠ "java/lang/invoke/MethodHandle" ∧ yX10_slotOf.cls ≠ "java/lang/invoke/VarHandle" ∧ (parseMethodDescriptor yX10_slotOf.desc).map (fun d => d.parameters.length) = some 2 := by decide +kernel
theorem gV_X10_X10_slotOf : GoodIn WT (wsV RX10 106 RX10 yX10_slotOf (.code yX10_slotOf cX10_slotOf 4 (some FieldType.int) :: WT)) := gzV q7_39 q7_41 s_X10_slotOf q1_8 q7_42
theorem hd_X10_usedAge : yX10_usedAge.cls = RX10 ∧ yX10_usedAge.cls ≠ "java/lang/invoke/MethodHandle" ∧ yX10_usedAge.cls ≠ "java/lang/invoke/VarHandle" ∧ (parseMethodDescriptor yX10_usedAge.desc).map (fun d => d.parameters.length) = some 1 := by decide +kernel
theorem gV_X10_X10_usedAge : GoodIn WT (wsV RX10 127 RX10 yX10_usedAge (.code yX10_usedAge cX10_usedAge 6 (some FieldType.int) :: WT)) := gzV q7_43 q7_45 s_X10_usedAge q1_8 q7_46
theorem hd_X10_wouldLose : yX10_wouldLose.cls = RX10 ∧ yX10_wouldLose.cls ≠ "java/lang/invoke/MethodHandle" ∧ yX10_wouldLose.cls ≠ "java/lang/invoke/VarHandle" ∧ (parseMethodDescriptor yX10_wouldLose.desc).map (fun d => d.parameters.length) = some 3 := by decide +kernel
theorem gV_X10_X10_wouldLose : GoodIn WT (wsV RX10 136 RX10 yX10_wouldLose (.code yX10_wouldLose cX10_wouldLose 7 (some FieldType.boolean) :: WT)) := gzV q7_118 q7_120 s_X10_wouldLose q1_8 q7_121
def f_X10_thrown (St : SMo) : Option (Int32) :=
  some (Mo_thrown St)
set_option maxHeartbeats 4000000 in
set_option maxRecDepth 100000 in
theorem c_X10_thrown (l : Launch) (D : va_G) (cy : Nat → ClassId) (ht : Nat → Nat) (St : SMo) (r : Int32) (hf : f_X10_thrown St = some r) : zCI l yX10_thrown cX10_thrown 1 (some FieldType.int) 0 0 D (zty cy) [.ref (ht 0)] (wMo ht cy St) (wMo ht cy St) r := by
  refine zCI_of (by decide +kernel) (Nat.le_of_ble_eq_true rfl) ?_
  intro p e s m below meth c A ls C hP hD hS hl
  generalize hargs : ([.ref (ht 0)] : List Value).toArray = args at C ⊢
  have C : zX p s m meth c cX10_thrown 1 args RX10 (some FieldType.int) A D (zty cy) := C
  obtain ⟨hx, hb, hr, hts, hown, hlocks, hml, hA, hK⟩ := id C
  have hl : lv_has ls 1 [(0, .ref (ht 0))] := hl
  generalize hH : s.heap = H at hP ⊢
  have hS : va_S A s.heap H [] := by rw [← hH]; exact hS
  generalize ([] : List Loc) = locs at hS ⊢
  refine lv_aload_n hx hb dX10_thrown_0 rfl (lv_at hl 0 rfl) ?_
  refine va_get (D := D) (ci := 6) (v := .int (Mo_thrown St)) (C := RX10) (T := TX10) (N := 41) hx hb hts in_X10 hown hK hP 0 rfl rfl 0 (by decide) (hts _ q6_45) (fun _ h9 => h9) rfl dX10_thrown_1 ?_
  obtain rfl := Option.some.inj hf
  exact z_iret (v := (Mo_thrown St)) C hP hD hS dX10_thrown_4
def f_X10_anew (St : SMo) : Option (SMo) :=
  some (mkMo (0 : Int32) (Mo_taped St) (Mo_size St) (Mo_at St) (Mo_end St) (Mo_token St) (Mo_whole St) (Mo_nameSize St) (Mo_fault St) (Mo_place St) (0 : Int32) (Mo_failed St) (Mo_hasStore St) (Mo_undos St) (Mo_images St) (Mo_ring St) (Mo_refused St) (Mo_setMany St) (Mo_someOf St) (Mo_allOf St) (Mo_firstRest St) (Mo_allWeight St) (Mo_seenWeight St) (Mo_sumWeight St))
set_option maxHeartbeats 4000000 in
set_option maxRecDepth 100000 in
theorem c_X10_anew (l : Launch) (D : va_G) (cy : Nat → ClassId) (ht : Nat → Nat) (St : SMo) (r : SMo) (hf : f_X10_anew St = some r) : zCV l yX10_anew cX10_anew 1 none 0 0 D (zty cy) [.ref (ht 0)] (wMo ht cy St) (wMo ht cy r) := by
  refine zCV_of (by decide +kernel) (Nat.le_of_ble_eq_true rfl) ?_
  intro p e s m below meth c A ls C hP hD hS hl
  generalize hargs : ([.ref (ht 0)] : List Value).toArray = args at C ⊢
  have C : zX p s m meth c cX10_anew 1 args RX10 none A D (zty cy) := C
  obtain ⟨hx, hb, hr, hts, hown, hlocks, hml, hA, hK⟩ := id C
  have hl : lv_has ls 1 [(0, .ref (ht 0))] := hl
  generalize hH : s.heap = H at hP ⊢
  have hS : va_S A s.heap H [] := by rw [← hH]; exact hS
  generalize ([] : List Loc) = locs at hS ⊢
  refine lv_aload_n hx hb dX10_anew_0 rfl (lv_at hl 0 rfl) ?_
  refine lv_iconst (v := (0 : Int32)) hx hb dX10_anew_1 (by decide) ?_
  refine z_put (w2 := vMo ht cy (0 : Int32) (Mo_taped St) (Mo_size St) (Mo_at St) (Mo_end St) (Mo_token St) (Mo_whole St) (Mo_nameSize St) (Mo_fault St) (Mo_place St) (Mo_trouble St) (Mo_failed St) (Mo_hasStore St) (Mo_undos St) (Mo_images St) (Mo_ring St) (Mo_refused St) (Mo_setMany St) (Mo_someOf St) (Mo_allOf St) (Mo_firstRest St) (Mo_allWeight St) (Mo_seenWeight St) (Mo_sumWeight St)) hx hb hts in_X10 tyX10 tyX10_ok nmX10 hown hK hP hD hS 0 rfl rfl 0 (by decide) (hts _ q6_45) (fun _ h9 => h9) rfl rfl rfl (Nat.le_of_ble_eq_true rfl) dX10_anew_2 rfl (fun H locs hP hD hS => ?_)
  refine lv_aload_n hx hb dX10_anew_5 rfl (lv_at hl 0 rfl) ?_
  refine lv_iconst (v := (0 : Int32)) hx hb dX10_anew_6 (by decide) ?_
  refine z_put (w2 := vMo ht cy (0 : Int32) (Mo_taped St) (Mo_size St) (Mo_at St) (Mo_end St) (Mo_token St) (Mo_whole St) (Mo_nameSize St) (Mo_fault St) (Mo_place St) (0 : Int32) (Mo_failed St) (Mo_hasStore St) (Mo_undos St) (Mo_images St) (Mo_ring St) (Mo_refused St) (Mo_setMany St) (Mo_someOf St) (Mo_allOf St) (Mo_firstRest St) (Mo_allWeight St) (Mo_seenWeight St) (Mo_sumWeight St)) hx hb hts in_X10 tyX10 tyX10_ok nmX10 hown hK hP hD hS 0 rfl rfl 11 (by decide) (hts _ q6_56) (fun _ h9 => h9) rfl rfl rfl (Nat.le_of_ble_eq_true rfl) dX10_anew_7 rfl (fun H locs hP hD hS => ?_)
  obtain rfl := Option.some.inj hf
  rw [← wMo_mk ht] at hP hD
  exact z_vret C hP hD hS dX10_anew_10
def f_X10_no (St : SMo) (x1 : Int32) : Option (Int32 × SMo) :=
  some ((-1 : Int32), (mkMo (Mo_thrown St) (Mo_taped St) (Mo_size St) (Mo_at St) (Mo_end St) (Mo_token St) (Mo_whole St) (Mo_nameSize St) (Mo_fault St) (Mo_place St) x1 (Mo_failed St) (Mo_hasStore St) (Mo_undos St) (Mo_images St) (Mo_ring St) (Mo_refused St) (Mo_setMany St) (Mo_someOf St) (Mo_allOf St) (Mo_firstRest St) (Mo_allWeight St) (Mo_seenWeight St) (Mo_sumWeight St)))
set_option maxHeartbeats 4000000 in
set_option maxRecDepth 100000 in
theorem c_X10_no (l : Launch) (D : va_G) (cy : Nat → ClassId) (ht : Nat → Nat) (St : SMo) (x1 : Int32) (r : Int32 × SMo) (hf : f_X10_no St x1 = some r) : zCI l yX10_no cX10_no 2 (some FieldType.int) 0 0 D (zty cy) [.ref (ht 0), .int x1] (wMo ht cy St) (wMo ht cy r.2) r.1 := by
  refine zCI_of (by decide +kernel) (Nat.le_of_ble_eq_true rfl) ?_
  intro p e s m below meth c A ls C hP hD hS hl
  generalize hargs : ([.ref (ht 0), .int x1] : List Value).toArray = args at C ⊢
  have C : zX p s m meth c cX10_no 2 args RX10 (some FieldType.int) A D (zty cy) := C
  obtain ⟨hx, hb, hr, hts, hown, hlocks, hml, hA, hK⟩ := id C
  have hl : lv_has ls 2 [(0, .ref (ht 0)), (1, .int x1)] := hl
  generalize hH : s.heap = H at hP ⊢
  have hS : va_S A s.heap H [] := by rw [← hH]; exact hS
  generalize ([] : List Loc) = locs at hS ⊢
  refine lv_aload_n hx hb dX10_no_0 rfl (lv_at hl 0 rfl) ?_
  refine lv_iload_n hx hb dX10_no_1 rfl (lv_at hl 1 rfl) ?_
  refine z_put (w2 := vMo ht cy (Mo_thrown St) (Mo_taped St) (Mo_size St) (Mo_at St) (Mo_end St) (Mo_token St) (Mo_whole St) (Mo_nameSize St) (Mo_fault St) (Mo_place St) x1 (Mo_failed St) (Mo_hasStore St) (Mo_undos St) (Mo_images St) (Mo_ring St) (Mo_refused St) (Mo_setMany St) (Mo_someOf St) (Mo_allOf St) (Mo_firstRest St) (Mo_allWeight St) (Mo_seenWeight St) (Mo_sumWeight St)) hx hb hts in_X10 tyX10 tyX10_ok nmX10 hown hK hP hD hS 0 rfl rfl 11 (by decide) (hts _ q6_56) (fun _ h9 => h9) rfl rfl rfl (Nat.le_of_ble_eq_true rfl) dX10_no_2 rfl (fun H locs hP hD hS => ?_)
  refine lv_iconst (v := (-1 : Int32)) hx hb dX10_no_5 (by decide) ?_
  obtain rfl := Option.some.inj hf
  rw [← wMo_mk ht] at hP hD
  exact z_iret (v := (-1 : Int32)) C hP hD hS dX10_no_6
def f_X10_isNot (St : SMo) (x1 : Int32) : Option (Int32 × SMo) :=
  some ((0 : Int32), (mkMo (Mo_thrown St) (Mo_taped St) (Mo_size St) (Mo_at St) (Mo_end St) (Mo_token St) (Mo_whole St) (Mo_nameSize St) (Mo_fault St) (Mo_place St) x1 (Mo_failed St) (Mo_hasStore St) (Mo_undos St) (Mo_images St) (Mo_ring St) (Mo_refused St) (Mo_setMany St) (Mo_someOf St) (Mo_allOf St) (Mo_firstRest St) (Mo_allWeight St) (Mo_seenWeight St) (Mo_sumWeight St)))
set_option maxHeartbeats 4000000 in
set_option maxRecDepth 100000 in
theorem c_X10_isNot (l : Launch) (D : va_G) (cy : Nat → ClassId) (ht : Nat → Nat) (St : SMo) (x1 : Int32) (r : Int32 × SMo) (hf : f_X10_isNot St x1 = some r) : zCI l yX10_isNot cX10_isNot 2 (some FieldType.boolean) 0 0 D (zty cy) [.ref (ht 0), .int x1] (wMo ht cy St) (wMo ht cy r.2) r.1 := by
  refine zCI_of (by decide +kernel) (Nat.le_of_ble_eq_true rfl) ?_
  intro p e s m below meth c A ls C hP hD hS hl
  generalize hargs : ([.ref (ht 0), .int x1] : List Value).toArray = args at C ⊢
  have C : zX p s m meth c cX10_isNot 2 args RX10 (some FieldType.boolean) A D (zty cy) := C
  obtain ⟨hx, hb, hr, hts, hown, hlocks, hml, hA, hK⟩ := id C
  have hl : lv_has ls 2 [(0, .ref (ht 0)), (1, .int x1)] := hl
  generalize hH : s.heap = H at hP ⊢
  have hS : va_S A s.heap H [] := by rw [← hH]; exact hS
  generalize ([] : List Loc) = locs at hS ⊢
  refine lv_aload_n hx hb dX10_isNot_0 rfl (lv_at hl 0 rfl) ?_
  refine lv_iload_n hx hb dX10_isNot_1 rfl (lv_at hl 1 rfl) ?_
  refine z_put (w2 := vMo ht cy (Mo_thrown St) (Mo_taped St) (Mo_size St) (Mo_at St) (Mo_end St) (Mo_token St) (Mo_whole St) (Mo_nameSize St) (Mo_fault St) (Mo_place St) x1 (Mo_failed St) (Mo_hasStore St) (Mo_undos St) (Mo_images St) (Mo_ring St) (Mo_refused St) (Mo_setMany St) (Mo_someOf St) (Mo_allOf St) (Mo_firstRest St) (Mo_allWeight St) (Mo_seenWeight St) (Mo_sumWeight St)) hx hb hts in_X10 tyX10 tyX10_ok nmX10 hown hK hP hD hS 0 rfl rfl 11 (by decide) (hts _ q6_56) (fun _ h9 => h9) rfl rfl rfl (Nat.le_of_ble_eq_true rfl) dX10_isNot_2 rfl (fun H locs hP hD hS => ?_)
  refine lv_iconst (v := (0 : Int32)) hx hb dX10_isNot_5 (by decide) ?_
  obtain rfl := Option.some.inj hf
  rw [← wMo_mk ht] at hP hD
  exact z_zret (v := (0 : Int32)) C rfl hP hD hS dX10_isNot_6
def f_X10_in (x0 : Int32) (x1 : Int32) (x2 : Int32) : Option (Int32) :=
  (if x0 < x1 then
    some (0 : Int32)
    else
    (if x2 < x0 then
      some (0 : Int32)
      else
      some (1 : Int32)))
set_option maxHeartbeats 4000000 in
set_option maxRecDepth 100000 in
theorem c_X10_in (l : Launch) (D : va_G) (cy : Nat → ClassId) (x0 : Int32) (x1 : Int32) (x2 : Int32) (r : Int32) (hf : f_X10_in x0 x1 x2 = some r) : zCI l yX10_in cX10_in 3 (some FieldType.boolean) 0 0 D (zty cy) [.int x0, .int x1, .int x2] ([]) ([]) r := by
  refine zCI_of (by decide +kernel) (Nat.le_of_ble_eq_true rfl) ?_
  intro p e s m below meth c A ls C hP hD hS hl
  generalize hargs : ([.int x0, .int x1, .int x2] : List Value).toArray = args at C ⊢
  have C : zX p s m meth c cX10_in 3 args RX10 (some FieldType.boolean) A D (zty cy) := C
  obtain ⟨hx, hb, hr, hts, hown, hlocks, hml, hA, hK⟩ := id C
  have hl : lv_has ls 3 [(0, .int x0), (1, .int x1), (2, .int x2)] := hl
  generalize hH : s.heap = H at hP ⊢
  have hS : va_S A s.heap H [] := by rw [← hH]; exact hS
  generalize ([] : List Loc) = locs at hS ⊢
  refine lv_iload_n hx hb dX10_in_0 rfl (lv_at hl 0 rfl) ?_
  refine lv_iload_n hx hb dX10_in_1 rfl (lv_at hl 1 rfl) ?_
  refine z_icmp_lt (tgt := 14) hx hb dX10_in_2 (by decide) hf (fun hf => ?_) (fun hf => ?_)
  · refine lv_iconst (v := (0 : Int32)) hx hb dX10_in_14 (by decide) ?_
    obtain rfl := Option.some.inj hf
    exact z_zret (v := (0 : Int32)) C rfl hP hD hS dX10_in_15
  · refine lv_iload_n hx hb dX10_in_5 rfl (lv_at hl 0 rfl) ?_
    refine lv_iload_n hx hb dX10_in_6 rfl (lv_at hl 2 rfl) ?_
    refine z_icmp_gt (tgt := 14) hx hb dX10_in_7 (by decide) hf (fun hf => ?_) (fun hf => ?_)
    · refine lv_iconst (v := (0 : Int32)) hx hb dX10_in_14 (by decide) ?_
      obtain rfl := Option.some.inj hf
      exact z_zret (v := (0 : Int32)) C rfl hP hD hS dX10_in_15
    · refine lv_iconst (v := (1 : Int32)) hx hb dX10_in_10 (by decide) ?_
      refine lv_goto (tgt := 15) hx hb dX10_in_11 (by decide) ?_
      obtain rfl := Option.some.inj hf
      exact z_zret (v := (1 : Int32)) C rfl hP hD hS dX10_in_15
def f_X10_hasBit (x0 : Int32) (x1 : Int32) : Option (Int32) :=
  (if ((x0 >>> (x1 &&& 31)) &&& (1 : Int32)) = (1 : Int32) then
    some (1 : Int32)
    else
    some (0 : Int32))
set_option maxHeartbeats 4000000 in
set_option maxRecDepth 100000 in
theorem c_X10_hasBit (l : Launch) (D : va_G) (cy : Nat → ClassId) (x0 : Int32) (x1 : Int32) (r : Int32) (hf : f_X10_hasBit x0 x1 = some r) : zCI l yX10_hasBit cX10_hasBit 2 (some FieldType.boolean) 0 0 D (zty cy) [.int x0, .int x1] ([]) ([]) r := by
  refine zCI_of (by decide +kernel) (Nat.le_of_ble_eq_true rfl) ?_
  intro p e s m below meth c A ls C hP hD hS hl
  generalize hargs : ([.int x0, .int x1] : List Value).toArray = args at C ⊢
  have C : zX p s m meth c cX10_hasBit 2 args RX10 (some FieldType.boolean) A D (zty cy) := C
  obtain ⟨hx, hb, hr, hts, hown, hlocks, hml, hA, hK⟩ := id C
  have hl : lv_has ls 2 [(0, .int x0), (1, .int x1)] := hl
  generalize hH : s.heap = H at hP ⊢
  have hS : va_S A s.heap H [] := by rw [← hH]; exact hS
  generalize ([] : List Loc) = locs at hS ⊢
  refine lv_iload_n hx hb dX10_hasBit_0 rfl (lv_at hl 0 rfl) ?_
  refine lv_iload_n hx hb dX10_hasBit_1 rfl (lv_at hl 1 rfl) ?_
  refine lv_ishr hx hb dX10_hasBit_2 ?_
  refine lv_iconst (v := (1 : Int32)) hx hb dX10_hasBit_3 (by decide) ?_
  refine lv_iand hx hb dX10_hasBit_4 ?_
  refine lv_iconst (v := (1 : Int32)) hx hb dX10_hasBit_5 (by decide) ?_
  refine z_icmp_ne (tgt := 13) hx hb dX10_hasBit_6 (by decide) hf (fun hf => ?_) (fun hf => ?_)
  · refine lv_iconst (v := (0 : Int32)) hx hb dX10_hasBit_13 (by decide) ?_
    obtain rfl := Option.some.inj hf
    exact z_zret (v := (0 : Int32)) C rfl hP hD hS dX10_hasBit_14
  · refine lv_iconst (v := (1 : Int32)) hx hb dX10_hasBit_9 (by decide) ?_
    refine lv_goto (tgt := 14) hx hb dX10_hasBit_10 (by decide) ?_
    obtain rfl := Option.some.inj hf
    exact z_zret (v := (1 : Int32)) C rfl hP hD hS dX10_hasBit_14
def b_X10_copy_3 (np1 : Nat) (np3 : Nat) (Sp1 : Nat → Int32) (x1 : Int32) (x3 : Int32) (x4 : Int32) (k3 : (Nat → Int32) → Int32 → Option ((Nat → Int32))) (Sp3 : Nat → Int32) (v5 : Int32) : Option ((Nat → Int32)) :=
  (if x4 ≤ v5 then
    some Sp3
    else
    (if zib (x1 + v5) np1 then (if zib (x3 + v5) np3 then (k3 (upd Sp3 (x3 + v5).toNatClampNeg (Sp1 (x1 + v5).toNatClampNeg)) (v5 + (1 : Int32))) else none) else none))
set_option maxHeartbeats 4000000 in
set_option maxRecDepth 100000 in
theorem w_X10_copy_3 {p : Program} {e : Env} {s : State} {m : MethodId} {below : List Frame} {meth : Method} {c : Code} {A : Nat → Prop} {D : va_G} {cy : Nat → ClassId} {args : Array Value} {r : (Nat → Int32)} (l : Launch) (hp1 : Nat → Nat) (hp3 : Nat → Nat) (np1 : Nat) (np3 : Nat) (Sp1 : Nat → Int32) (x1 : Int32) (x3 : Int32) (x4 : Int32) (C : zX p s m meth c cX10_copy 6 args RX10 none A D (zty cy)) :
    ∀ (n : Nat) (Sp3 : Nat → Int32) (v5 : Int32) (H : Heap) (locs : List Loc) (ls : Array Slot), zl2 (b_X10_copy_3 np1 np3 Sp1 x1 x3 x4) n Sp3 v5 = some r → va_P D vwCl (wAI hp1 cy np1 Sp1 ++ (wAI hp3 cy np3 Sp3)) H → va_D A (wAI hp1 cy np1 Sp1 ++ (wAI hp3 cy np3 Sp3)) → va_S A s.heap H locs → lv_has ls 6 [(0, .ref (hp1 0)), (1, .int x1), (2, .ref (hp3 0)), (3, .int x3), (4, .int x4), (5, .int v5)] → W p l e (zRm 0 0) s m args below meth c H locs 0 0 (MQ below (zQV D (zty cy) A (wAI hp1 cy np1 Sp1 ++ (wAI hp3 cy np3 r))) args s 0 0 A) (F0 m 3 ls []) := by
  obtain ⟨hx, hb, hr, hts, hown, hlocks, hml, hA, hK⟩ := id C
  intro n
  induction n with
  | zero => intro Sp3 v5 H locs ls hf; exact zno hf
  | succ n ih =>
    intro Sp3 v5 H locs ls hf hP hD hS hl
    have hf : b_X10_copy_3 np1 np3 Sp1 x1 x3 x4 (zl2 (b_X10_copy_3 np1 np3 Sp1 x1 x3 x4) n) Sp3 v5 = some r := hf
    have K3 := ih
    refine lv_iload hx hb dX10_copy_3 (lv_at hl 5 rfl) ?_
    refine lv_iload hx hb dX10_copy_5 (lv_at hl 4 rfl) ?_
    refine z_icmp_ge (tgt := 28) hx hb dX10_copy_7 (by decide) hf (fun hf => ?_) (fun hf => ?_)
    · obtain rfl := Option.some.inj hf
      exact z_vret C hP hD hS dX10_copy_28
    · refine lv_aload_n hx hb dX10_copy_10 rfl (lv_at hl 2 rfl) ?_
      refine lv_iload_n hx hb dX10_copy_11 rfl (lv_at hl 3 rfl) ?_
      refine lv_iload hx hb dX10_copy_12 (lv_at hl 5 rfl) ?_
      refine lv_iadd hx hb dX10_copy_14 ?_
      refine lv_aload_n hx hb dX10_copy_15 rfl (lv_at hl 0 rfl) ?_
      refine lv_iload_n hx hb dX10_copy_16 rfl (lv_at hl 1 rfl) ?_
      refine lv_iload hx hb dX10_copy_17 (lv_at hl 5 rfl) ?_
      refine lv_iadd hx hb dX10_copy_19 ?_
      refine z_iald (f := Sp1) hx hb hK hP 0 0 rfl rfl dX10_copy_20 hf (fun hf => ?_)
      refine z_iast (f := Sp3) (w2 := wAI hp1 cy np1 Sp1 ++ (wAI hp3 cy np3 (upd Sp3 (x3 + v5).toNatClampNeg (Sp1 (x1 + v5).toNatClampNeg)))) hx hb hK hP hD hS 1 0 rfl rfl dX10_copy_21 hf rfl (fun hf H locs hP hD hS => ?_)
      refine lv_iinc (v := (v5 + (1 : Int32))) (lv' := [(5, .int (v5 + (1 : Int32))), (0, .ref (hp1 0)), (1, .int x1), (2, .ref (hp3 0)), (3, .int x3), (4, .int x4)]) hx hb dX10_copy_22 hl (k := 5) rfl rfl (by decide) rfl (fun ls hl => ?_)
      refine lv_goto (tgt := 3) hx hb dX10_copy_25 (by decide) ?_
      exact K3 (upd Sp3 (x3 + v5).toNatClampNeg (Sp1 (x1 + v5).toNatClampNeg)) (v5 + (1 : Int32)) H locs ls hf hP hD hS (lv_sub hl [1, 2, 3, 4, 5, 0] rfl)
def f_X10_copy (np1 : Nat) (np3 : Nat) (Sp1 : Nat → Int32) (Sp3 : Nat → Int32) (x1 : Int32) (x3 : Int32) (x4 : Int32) : Option ((Nat → Int32)) :=
  (zl2 (b_X10_copy_3 np1 np3 Sp1 x1 x3 x4) FU Sp3 (0 : Int32))
set_option maxHeartbeats 4000000 in
set_option maxRecDepth 100000 in
theorem c_X10_copy (l : Launch) (D : va_G) (cy : Nat → ClassId) (hp1 : Nat → Nat) (hp3 : Nat → Nat) (np1 : Nat) (np3 : Nat) (Sp1 : Nat → Int32) (Sp3 : Nat → Int32) (x1 : Int32) (x3 : Int32) (x4 : Int32) (r : (Nat → Int32)) (hf : f_X10_copy np1 np3 Sp1 Sp3 x1 x3 x4 = some r) : zCV l yX10_copy cX10_copy 6 none 0 0 D (zty cy) [.ref (hp1 0), .int x1, .ref (hp3 0), .int x3, .int x4] (wAI hp1 cy np1 Sp1 ++ (wAI hp3 cy np3 Sp3)) (wAI hp1 cy np1 Sp1 ++ (wAI hp3 cy np3 r)) := by
  refine zCV_of (by decide +kernel) (Nat.le_of_ble_eq_true rfl) ?_
  intro p e s m below meth c A ls C hP hD hS hl
  generalize hargs : ([.ref (hp1 0), .int x1, .ref (hp3 0), .int x3, .int x4] : List Value).toArray = args at C ⊢
  have C : zX p s m meth c cX10_copy 6 args RX10 none A D (zty cy) := C
  obtain ⟨hx, hb, hr, hts, hown, hlocks, hml, hA, hK⟩ := id C
  have hl : lv_has ls 6 [(0, .ref (hp1 0)), (1, .int x1), (2, .ref (hp3 0)), (3, .int x3), (4, .int x4)] := hl
  generalize hH : s.heap = H at hP ⊢
  have hS : va_S A s.heap H [] := by rw [← hH]; exact hS
  generalize ([] : List Loc) = locs at hS ⊢
  refine lv_iconst (v := (0 : Int32)) hx hb dX10_copy_0 (by decide) ?_
  refine lv_istore (lv' := [(5, .int (0 : Int32)), (0, .ref (hp1 0)), (1, .int x1), (2, .ref (hp3 0)), (3, .int x3), (4, .int x4)]) hx hb dX10_copy_1 hl (by decide) rfl (fun ls hl => ?_)
  exact w_X10_copy_3 l hp1 hp3 np1 np3 Sp1 x1 x3 x4 C FU Sp3 (0 : Int32) H locs ls hf hP hD hS (lv_sub hl [1, 2, 3, 4, 5, 0] rfl)
def b_X10_lowest_6 (x0 : Int64) (x2 : Int64) (x4 : Int32) (k6 : Int64 → Int64 → Option (Int64)) (v5 : Int64) (v7 : Int64) : Option (Int64) :=
  (if (lg_cmp v7 (0 : Int64)) = 0 then
    (if x4 = 0 then
      (if v5 = 0 then none else some (x0 / v5))
      else
      (if v5 = 0 then none else some (x2 / v5)))
    else
    (if v7 = 0 then none else (k6 v7 (v5 - v5 / v7 * v7))))
set_option maxHeartbeats 4000000 in
set_option maxRecDepth 100000 in
theorem w_X10_lowest_6 {p : Program} {e : Env} {s : State} {m : MethodId} {below : List Frame} {meth : Method} {c : Code} {A : Nat → Prop} {D : va_G} {cy : Nat → ClassId} {args : Array Value} {r : Int64} (l : Launch) (x0 : Int64) (x2 : Int64) (x4 : Int32) (C : zX p s m meth c cX10_lowest 11 args RX10 (some FieldType.long) A D (zty cy)) :
    ∀ (n : Nat) (v5 : Int64) (v7 : Int64) (H : Heap) (locs : List Loc) (ls : Array Slot), zl2 (b_X10_lowest_6 x0 x2 x4) n v5 v7 = some r → va_P D vwCl ([]) H → va_D A ([]) → va_S A s.heap H locs → lv_has ls 11 [(0, .long x0), (2, .long x2), (4, .int x4), (5, .long v5), (7, .long v7)] → W p l e (zRm 0 0) s m args below meth c H locs 0 0 (MQ below (zQL D (zty cy) A ([]) r) args s 0 0 A) (F0 m 6 ls []) := by
  obtain ⟨hx, hb, hr, hts, hown, hlocks, hml, hA, hK⟩ := id C
  intro n
  induction n with
  | zero => intro v5 v7 H locs ls hf; exact zno hf
  | succ n ih =>
    intro v5 v7 H locs ls hf hP hD hS hl
    have hf : b_X10_lowest_6 x0 x2 x4 (zl2 (b_X10_lowest_6 x0 x2 x4) n) v5 v7 = some r := hf
    have K6 := ih
    refine lv_lload hx hb dX10_lowest_6 (lv_at hl 4 rfl) ?_
    refine lv_lconst (v := (0 : Int64)) hx hb dX10_lowest_8 (by decide) ?_
    refine W.lcmp hx hb dX10_lowest_9 ?_
    refine z_if_eq (tgt := 31) hx hb dX10_lowest_10 (by decide) hf (fun hf => ?_) (fun hf => ?_)
    · refine lv_iload hx hb dX10_lowest_31 (lv_at hl 2 rfl) ?_
      refine z_if_eq (tgt := 40) hx hb dX10_lowest_33 (by decide) hf (fun hf => ?_) (fun hf => ?_)
      · refine lv_lload_n hx hb dX10_lowest_40 rfl (lv_at hl 0 rfl) ?_
        refine lv_lload hx hb dX10_lowest_41 (lv_at hl 3 rfl) ?_
        refine z_ldiv hx hb dX10_lowest_43 hf (fun hf => ?_)
        obtain rfl := Option.some.inj hf
        exact z_lret (v := (x0 / v5)) C hP hD hS dX10_lowest_44
      · refine lv_lload_n hx hb dX10_lowest_36 rfl (lv_at hl 1 rfl) ?_
        refine lv_goto (tgt := 41) hx hb dX10_lowest_37 (by decide) ?_
        refine lv_lload hx hb dX10_lowest_41 (lv_at hl 3 rfl) ?_
        refine z_ldiv hx hb dX10_lowest_43 hf (fun hf => ?_)
        obtain rfl := Option.some.inj hf
        exact z_lret (v := (x2 / v5)) C hP hD hS dX10_lowest_44
    · refine lv_lload hx hb dX10_lowest_13 (lv_at hl 3 rfl) ?_
      refine lv_lload hx hb dX10_lowest_15 (lv_at hl 4 rfl) ?_
      refine z_lrem hx hb dX10_lowest_17 hf (fun hf => ?_)
      refine lv_lstore (lv' := [(9, .long (v5 - v5 / v7 * v7)), (0, .long x0), (2, .long x2), (4, .int x4), (5, .long v5), (7, .long v7)]) hx hb dX10_lowest_18 hl (by decide) rfl (fun ls hl => ?_)
      refine lv_lload hx hb dX10_lowest_20 (lv_at hl 5 rfl) ?_
      refine lv_lstore (lv' := [(5, .long v7), (9, .long (v5 - v5 / v7 * v7)), (0, .long x0), (2, .long x2), (4, .int x4), (7, .long v7)]) hx hb dX10_lowest_22 hl (by decide) rfl (fun ls hl => ?_)
      refine lv_lload hx hb dX10_lowest_24 (lv_at hl 1 rfl) ?_
      refine lv_lstore (lv' := [(7, .long (v5 - v5 / v7 * v7)), (5, .long v7), (9, .long (v5 - v5 / v7 * v7)), (0, .long x0), (2, .long x2), (4, .int x4)]) hx hb dX10_lowest_26 hl (by decide) rfl (fun ls hl => ?_)
      refine lv_goto (tgt := 6) hx hb dX10_lowest_28 (by decide) ?_
      exact K6 v7 (v5 - v5 / v7 * v7) H locs ls hf hP hD hS (lv_sub hl [3, 4, 5, 1, 0] rfl)
def f_X10_lowest (x0 : Int64) (x2 : Int64) (x4 : Int32) : Option (Int64) :=
  (zl2 (b_X10_lowest_6 x0 x2 x4) FU x2 x0)
set_option maxHeartbeats 4000000 in
set_option maxRecDepth 100000 in
theorem c_X10_lowest (l : Launch) (D : va_G) (cy : Nat → ClassId) (x0 : Int64) (x2 : Int64) (x4 : Int32) (r : Int64) (hf : f_X10_lowest x0 x2 x4 = some r) : zCL l yX10_lowest cX10_lowest 11 (some FieldType.long) 0 0 D (zty cy) [.long x0, .long x2, .int x4] ([]) ([]) r := by
  refine zCL_of (by decide +kernel) (Nat.le_of_ble_eq_true rfl) ?_
  intro p e s m below meth c A ls C hP hD hS hl
  generalize hargs : ([.long x0, .long x2, .int x4] : List Value).toArray = args at C ⊢
  have C : zX p s m meth c cX10_lowest 11 args RX10 (some FieldType.long) A D (zty cy) := C
  obtain ⟨hx, hb, hr, hts, hown, hlocks, hml, hA, hK⟩ := id C
  have hl : lv_has ls 11 [(0, .long x0), (2, .long x2), (4, .int x4)] := hl
  generalize hH : s.heap = H at hP ⊢
  have hS : va_S A s.heap H [] := by rw [← hH]; exact hS
  generalize ([] : List Loc) = locs at hS ⊢
  refine lv_lload_n hx hb dX10_lowest_0 rfl (lv_at hl 1 rfl) ?_
  refine lv_lstore (lv' := [(5, .long x2), (0, .long x0), (2, .long x2), (4, .int x4)]) hx hb dX10_lowest_1 hl (by decide) rfl (fun ls hl => ?_)
  refine lv_lload_n hx hb dX10_lowest_3 rfl (lv_at hl 1 rfl) ?_
  refine lv_lstore (lv' := [(7, .long x0), (5, .long x2), (0, .long x0), (2, .long x2), (4, .int x4)]) hx hb dX10_lowest_4 hl (by decide) rfl (fun ls hl => ?_)
  exact w_X10_lowest_6 l x0 x2 x4 C FU x2 x0 H locs ls hf hP hD hS (lv_sub hl [2, 3, 4, 1, 0] rfl)
def b_X10_feed_76 (x1 : Int32) (x2 : Int32) (x3 : Int32) (x4 : Int32) (x5 : Int32) (k23 : SMo → (Nat → Int32) → Int32 → Option (Int32 × SMo × (Nat → Int32))) (St : SMo) (St_tape : Nat → Int32) (v6 : Int32) (u0 : Int32) : Option (Int32 × SMo × (Nat → Int32)) :=
  (if zib (Mo_taped St) 900 then (k23 (mkMo (Mo_thrown St) ((Mo_taped St) + (1 : Int32)) (Mo_size St) (Mo_at St) (Mo_end St) (Mo_token St) (Mo_whole St) (Mo_nameSize St) (Mo_fault St) (Mo_place St) (Mo_trouble St) (Mo_failed St) (Mo_hasStore St) (Mo_undos St) (Mo_images St) (Mo_ring St) (Mo_refused St) (Mo_setMany St) (Mo_someOf St) (Mo_allOf St) (Mo_firstRest St) (Mo_allWeight St) (Mo_seenWeight St) (Mo_sumWeight St)) (upd St_tape (Mo_taped St).toNatClampNeg ((u0 >>> (((24 : Int32) - ((8 : Int32) * (v6 - v6 / (4 : Int32) * (4 : Int32)))) &&& 31)) &&& (255 : Int32))) (v6 + (1 : Int32))) else none)
set_option maxHeartbeats 4000000 in
set_option maxRecDepth 100000 in
theorem w_X10_feed_76 {p : Program} {e : Env} {s : State} {m : MethodId} {below : List Frame} {meth : Method} {c : Code} {A : Nat → Prop} {D : va_G} {cy : Nat → ClassId} {args : Array Value} {r : Int32 × SMo × (Nat → Int32)} (l : Launch) (ht : Nat → Nat) (x1 : Int32) (x2 : Int32) (x3 : Int32) (x4 : Int32) (x5 : Int32) {k23 : SMo → (Nat → Int32) → Int32 → Option (Int32 × SMo × (Nat → Int32))} (C : zX p s m meth c cX10_feed 8 args RX10 (some FieldType.int) A D (zty cy))
    (K23 : ∀ (St : SMo) (St_tape : Nat → Int32) (v6 : Int32) (H : Heap) (locs : List Loc) (ls : Array Slot), k23 St St_tape v6 = some r → va_P D vwCl (wMo ht cy St ++ (wAI (fun _ => ht 1) cy 900 St_tape)) H → va_D A (wMo ht cy St ++ (wAI (fun _ => ht 1) cy 900 St_tape)) → va_S A s.heap H locs → lv_has ls 8 [(0, .ref (ht 0)), (1, .int x1), (2, .int x2), (3, .int x3), (4, .int x4), (5, .int x5), (6, .int v6)] → W p l e (zRm 0 0) s m args below meth c H locs 0 0 (MQ below (zQI D (zty cy) A (wMo ht cy r.2.1 ++ (wAI (fun _ => ht 1) cy 900 r.2.2)) r.1) args s 0 0 A) (F0 m 23 ls [])) :
    ∀ (St : SMo) (St_tape : Nat → Int32) (v6 : Int32) (u0 : Int32) (H : Heap) (locs : List Loc) (ls : Array Slot), b_X10_feed_76 x1 x2 x3 x4 x5 k23 St St_tape v6 u0 = some r → va_P D vwCl (wMo ht cy St ++ (wAI (fun _ => ht 1) cy 900 St_tape)) H → va_D A (wMo ht cy St ++ (wAI (fun _ => ht 1) cy 900 St_tape)) → va_S A s.heap H locs → lv_has ls 8 [(0, .ref (ht 0)), (1, .int x1), (2, .int x2), (3, .int x3), (4, .int x4), (5, .int x5), (6, .int v6)] → W p l e (zRm 0 0) s m args below meth c H locs 0 0 (MQ below (zQI D (zty cy) A (wMo ht cy r.2.1 ++ (wAI (fun _ => ht 1) cy 900 r.2.2)) r.1) args s 0 0 A) (F0 m 76 ls [.int u0]) := by
  obtain ⟨hx, hb, hr, hts, hown, hlocks, hml, hA, hK⟩ := id C
  intro St St_tape v6 u0 H locs ls hf hP hD hS hl
  refine lv_istore (lv' := [(7, .int u0), (0, .ref (ht 0)), (1, .int x1), (2, .int x2), (3, .int x3), (4, .int x4), (5, .int x5), (6, .int v6)]) hx hb dX10_feed_76 hl (by decide) rfl (fun ls hl => ?_)
  refine lv_aload_n hx hb dX10_feed_78 rfl (lv_at hl 1 rfl) ?_
  refine va_get (D := D) (ci := 6) (v := .ref (ht 1)) (C := RX10) (T := TX10) (N := 41) hx hb hts in_X10 hown hK hP 0 rfl rfl 1 (by decide) (hts _ q6_46) (fun _ h9 => h9) rfl dX10_feed_79 ?_
  refine lv_aload_n hx hb dX10_feed_82 rfl (lv_at hl 1 rfl) ?_
  refine va_get (D := D) (ci := 6) (v := .int (Mo_taped St)) (C := RX10) (T := TX10) (N := 41) hx hb hts in_X10 hown hK hP 0 rfl rfl 2 (by decide) (hts _ q6_47) (fun _ h9 => h9) rfl dX10_feed_83 ?_
  refine lv_iload hx hb dX10_feed_86 (lv_at hl 0 rfl) ?_
  refine lv_bipush (v := (24 : Int32)) hx hb dX10_feed_88 (by decide) ?_
  refine lv_bipush (v := (8 : Int32)) hx hb dX10_feed_90 (by decide) ?_
  refine lv_iload hx hb dX10_feed_92 (lv_at hl 7 rfl) ?_
  refine lv_iconst (v := (4 : Int32)) hx hb dX10_feed_94 (by decide) ?_
  refine lv_irem hx hb dX10_feed_95 (by decide) ?_
  refine lv_imul hx hb dX10_feed_96 ?_
  refine lv_isub hx hb dX10_feed_97 ?_
  refine lv_ishr hx hb dX10_feed_98 ?_
  refine lv_sipush (v := (255 : Int32)) hx hb dX10_feed_99 (by decide) ?_
  refine lv_iand hx hb dX10_feed_102 ?_
  refine z_iast (f := St_tape) (w2 := wMo ht cy St ++ (wAI (fun _ => ht 1) cy 900 (upd St_tape (Mo_taped St).toNatClampNeg ((u0 >>> (((24 : Int32) - ((8 : Int32) * (v6 - v6 / (4 : Int32) * (4 : Int32)))) &&& 31)) &&& (255 : Int32))))) hx hb hK hP hD hS 1 0 rfl rfl dX10_feed_103 hf rfl (fun hf H locs hP hD hS => ?_)
  refine lv_aload_n hx hb dX10_feed_104 rfl (lv_at hl 1 rfl) ?_
  refine lv_dup hx hb dX10_feed_105 rfl ?_
  refine va_get (D := D) (ci := 6) (v := .int (Mo_taped St)) (C := RX10) (T := TX10) (N := 41) hx hb hts in_X10 hown hK hP 0 rfl rfl 2 (by decide) (hts _ q6_47) (fun _ h9 => h9) rfl dX10_feed_106 ?_
  refine lv_iconst (v := (1 : Int32)) hx hb dX10_feed_109 (by decide) ?_
  refine lv_iadd hx hb dX10_feed_110 ?_
  refine z_put (w2 := vMo ht cy (Mo_thrown St) ((Mo_taped St) + (1 : Int32)) (Mo_size St) (Mo_at St) (Mo_end St) (Mo_token St) (Mo_whole St) (Mo_nameSize St) (Mo_fault St) (Mo_place St) (Mo_trouble St) (Mo_failed St) (Mo_hasStore St) (Mo_undos St) (Mo_images St) (Mo_ring St) (Mo_refused St) (Mo_setMany St) (Mo_someOf St) (Mo_allOf St) (Mo_firstRest St) (Mo_allWeight St) (Mo_seenWeight St) (Mo_sumWeight St) ++ (wAI (fun _ => ht 1) cy 900 (upd St_tape (Mo_taped St).toNatClampNeg ((u0 >>> (((24 : Int32) - ((8 : Int32) * (v6 - v6 / (4 : Int32) * (4 : Int32)))) &&& 31)) &&& (255 : Int32))))) hx hb hts in_X10 tyX10 tyX10_ok nmX10 hown hK hP hD hS 0 rfl rfl 2 (by decide) (hts _ q6_47) (fun _ h9 => h9) rfl rfl rfl (Nat.le_of_ble_eq_true rfl) dX10_feed_111 rfl (fun H locs hP hD hS => ?_)
  refine lv_iinc (v := (v6 + (1 : Int32))) (lv' := [(6, .int (v6 + (1 : Int32))), (7, .int u0), (0, .ref (ht 0)), (1, .int x1), (2, .int x2), (3, .int x3), (4, .int x4), (5, .int x5)]) hx hb dX10_feed_114 hl (k := 7) rfl rfl (by decide) rfl (fun ls hl => ?_)
  refine lv_goto (tgt := 23) hx hb dX10_feed_117 (by decide) ?_
  rw [← wMo_mk ht] at hP hD
  exact K23 (mkMo (Mo_thrown St) ((Mo_taped St) + (1 : Int32)) (Mo_size St) (Mo_at St) (Mo_end St) (Mo_token St) (Mo_whole St) (Mo_nameSize St) (Mo_fault St) (Mo_place St) (Mo_trouble St) (Mo_failed St) (Mo_hasStore St) (Mo_undos St) (Mo_images St) (Mo_ring St) (Mo_refused St) (Mo_setMany St) (Mo_someOf St) (Mo_allOf St) (Mo_firstRest St) (Mo_allWeight St) (Mo_seenWeight St) (Mo_sumWeight St)) (upd St_tape (Mo_taped St).toNatClampNeg ((u0 >>> (((24 : Int32) - ((8 : Int32) * (v6 - v6 / (4 : Int32) * (4 : Int32)))) &&& 31)) &&& (255 : Int32))) (v6 + (1 : Int32)) H locs ls hf hP hD hS (lv_sub hl [2, 3, 4, 5, 6, 7, 0] rfl)
def b_X10_feed_23 (x1 : Int32) (x2 : Int32) (x3 : Int32) (x4 : Int32) (x5 : Int32) (k23 : SMo → (Nat → Int32) → Int32 → Option (Int32 × SMo × (Nat → Int32))) (St : SMo) (St_tape : Nat → Int32) (v6 : Int32) : Option (Int32 × SMo × (Nat → Int32)) :=
  (if (20 : Int32) ≤ v6 then
    some ((Mo_taped St), St, St_tape)
    else
    (if (4 : Int32) ≤ v6 then
      (if (8 : Int32) ≤ v6 then
        (if (12 : Int32) ≤ v6 then
          (if (16 : Int32) ≤ v6 then
            (b_X10_feed_76 x1 x2 x3 x4 x5 k23 St St_tape v6 x5)
            else
            (b_X10_feed_76 x1 x2 x3 x4 x5 k23 St St_tape v6 x4))
          else
          (b_X10_feed_76 x1 x2 x3 x4 x5 k23 St St_tape v6 x3))
        else
        (b_X10_feed_76 x1 x2 x3 x4 x5 k23 St St_tape v6 x2))
      else
      (b_X10_feed_76 x1 x2 x3 x4 x5 k23 St St_tape v6 x1)))
set_option maxHeartbeats 4000000 in
set_option maxRecDepth 100000 in
theorem w_X10_feed_23 {p : Program} {e : Env} {s : State} {m : MethodId} {below : List Frame} {meth : Method} {c : Code} {A : Nat → Prop} {D : va_G} {cy : Nat → ClassId} {args : Array Value} {r : Int32 × SMo × (Nat → Int32)} (l : Launch) (ht : Nat → Nat) (x1 : Int32) (x2 : Int32) (x3 : Int32) (x4 : Int32) (x5 : Int32) (C : zX p s m meth c cX10_feed 8 args RX10 (some FieldType.int) A D (zty cy)) :
    ∀ (n : Nat) (St : SMo) (St_tape : Nat → Int32) (v6 : Int32) (H : Heap) (locs : List Loc) (ls : Array Slot), zl3 (b_X10_feed_23 x1 x2 x3 x4 x5) n St St_tape v6 = some r → va_P D vwCl (wMo ht cy St ++ (wAI (fun _ => ht 1) cy 900 St_tape)) H → va_D A (wMo ht cy St ++ (wAI (fun _ => ht 1) cy 900 St_tape)) → va_S A s.heap H locs → lv_has ls 8 [(0, .ref (ht 0)), (1, .int x1), (2, .int x2), (3, .int x3), (4, .int x4), (5, .int x5), (6, .int v6)] → W p l e (zRm 0 0) s m args below meth c H locs 0 0 (MQ below (zQI D (zty cy) A (wMo ht cy r.2.1 ++ (wAI (fun _ => ht 1) cy 900 r.2.2)) r.1) args s 0 0 A) (F0 m 23 ls []) := by
  obtain ⟨hx, hb, hr, hts, hown, hlocks, hml, hA, hK⟩ := id C
  intro n
  induction n with
  | zero => intro St St_tape v6 H locs ls hf; exact zno hf
  | succ n ih =>
    intro St St_tape v6 H locs ls hf hP hD hS hl
    have hf : b_X10_feed_23 x1 x2 x3 x4 x5 (zl3 (b_X10_feed_23 x1 x2 x3 x4 x5) n) St St_tape v6 = some r := hf
    have K23 := ih
    refine lv_iload hx hb dX10_feed_23 (lv_at hl 6 rfl) ?_
    refine lv_bipush (v := (20 : Int32)) hx hb dX10_feed_25 (by decide) ?_
    refine z_icmp_ge (tgt := 120) hx hb dX10_feed_27 (by decide) hf (fun hf => ?_) (fun hf => ?_)
    · refine lv_aload_n hx hb dX10_feed_120 rfl (lv_at hl 0 rfl) ?_
      refine va_get (D := D) (ci := 6) (v := .int (Mo_taped St)) (C := RX10) (T := TX10) (N := 41) hx hb hts in_X10 hown hK hP 0 rfl rfl 2 (by decide) (hts _ q6_47) (fun _ h9 => h9) rfl dX10_feed_121 ?_
      obtain rfl := Option.some.inj hf
      exact z_iret (v := (Mo_taped St)) C hP hD hS dX10_feed_124
    · refine lv_iload hx hb dX10_feed_30 (lv_at hl 6 rfl) ?_
      refine lv_iconst (v := (4 : Int32)) hx hb dX10_feed_32 (by decide) ?_
      refine z_icmp_ge (tgt := 40) hx hb dX10_feed_33 (by decide) hf (fun hf => ?_) (fun hf => ?_)
      · refine lv_iload hx hb dX10_feed_40 (lv_at hl 6 rfl) ?_
        refine lv_bipush (v := (8 : Int32)) hx hb dX10_feed_42 (by decide) ?_
        refine z_icmp_ge (tgt := 51) hx hb dX10_feed_44 (by decide) hf (fun hf => ?_) (fun hf => ?_)
        · refine lv_iload hx hb dX10_feed_51 (lv_at hl 6 rfl) ?_
          refine lv_bipush (v := (12 : Int32)) hx hb dX10_feed_53 (by decide) ?_
          refine z_icmp_ge (tgt := 62) hx hb dX10_feed_55 (by decide) hf (fun hf => ?_) (fun hf => ?_)
          · refine lv_iload hx hb dX10_feed_62 (lv_at hl 6 rfl) ?_
            refine lv_bipush (v := (16 : Int32)) hx hb dX10_feed_64 (by decide) ?_
            refine z_icmp_ge (tgt := 74) hx hb dX10_feed_66 (by decide) hf (fun hf => ?_) (fun hf => ?_)
            · refine lv_iload hx hb dX10_feed_74 (lv_at hl 5 rfl) ?_
              exact w_X10_feed_76 l ht x1 x2 x3 x4 x5 C K23 St St_tape v6 x5 H locs ls hf hP hD hS (lv_sub hl [0, 1, 2, 3, 4, 5, 6] rfl)
            · refine lv_iload hx hb dX10_feed_69 (lv_at hl 4 rfl) ?_
              refine lv_goto (tgt := 76) hx hb dX10_feed_71 (by decide) ?_
              exact w_X10_feed_76 l ht x1 x2 x3 x4 x5 C K23 St St_tape v6 x4 H locs ls hf hP hD hS (lv_sub hl [0, 1, 2, 3, 4, 5, 6] rfl)
          · refine lv_iload_n hx hb dX10_feed_58 rfl (lv_at hl 3 rfl) ?_
            refine lv_goto (tgt := 76) hx hb dX10_feed_59 (by decide) ?_
            exact w_X10_feed_76 l ht x1 x2 x3 x4 x5 C K23 St St_tape v6 x3 H locs ls hf hP hD hS (lv_sub hl [0, 1, 2, 3, 4, 5, 6] rfl)
        · refine lv_iload_n hx hb dX10_feed_47 rfl (lv_at hl 2 rfl) ?_
          refine lv_goto (tgt := 76) hx hb dX10_feed_48 (by decide) ?_
          exact w_X10_feed_76 l ht x1 x2 x3 x4 x5 C K23 St St_tape v6 x2 H locs ls hf hP hD hS (lv_sub hl [0, 1, 2, 3, 4, 5, 6] rfl)
      · refine lv_iload_n hx hb dX10_feed_36 rfl (lv_at hl 1 rfl) ?_
        refine lv_goto (tgt := 76) hx hb dX10_feed_37 (by decide) ?_
        exact w_X10_feed_76 l ht x1 x2 x3 x4 x5 C K23 St St_tape v6 x1 H locs ls hf hP hD hS (lv_sub hl [0, 1, 2, 3, 4, 5, 6] rfl)
def f_X10_feed (St : SMo) (St_tape : Nat → Int32) (x1 : Int32) (x2 : Int32) (x3 : Int32) (x4 : Int32) (x5 : Int32) : Option (Int32 × SMo × (Nat → Int32)) :=
  (if ((Mo_taped St) + (20 : Int32)) ≤ (900 : Int32) then
    (zl3 (b_X10_feed_23 x1 x2 x3 x4 x5) FU (mkMo (0 : Int32) (Mo_taped St) (Mo_size St) (Mo_at St) (Mo_end St) (Mo_token St) (Mo_whole St) (Mo_nameSize St) (Mo_fault St) (Mo_place St) (Mo_trouble St) (Mo_failed St) (Mo_hasStore St) (Mo_undos St) (Mo_images St) (Mo_ring St) (Mo_refused St) (Mo_setMany St) (Mo_someOf St) (Mo_allOf St) (Mo_firstRest St) (Mo_allWeight St) (Mo_seenWeight St) (Mo_sumWeight St)) St_tape (0 : Int32))
    else
    some ((-1 : Int32), (mkMo (0 : Int32) (Mo_taped St) (Mo_size St) (Mo_at St) (Mo_end St) (Mo_token St) (Mo_whole St) (Mo_nameSize St) (Mo_fault St) (Mo_place St) (Mo_trouble St) (Mo_failed St) (Mo_hasStore St) (Mo_undos St) (Mo_images St) (Mo_ring St) (Mo_refused St) (Mo_setMany St) (Mo_someOf St) (Mo_allOf St) (Mo_firstRest St) (Mo_allWeight St) (Mo_seenWeight St) (Mo_sumWeight St)), St_tape))
set_option maxHeartbeats 4000000 in
set_option maxRecDepth 100000 in
theorem c_X10_feed (l : Launch) (D : va_G) (cy : Nat → ClassId) (ht : Nat → Nat) (St : SMo) (St_tape : Nat → Int32) (x1 : Int32) (x2 : Int32) (x3 : Int32) (x4 : Int32) (x5 : Int32) (r : Int32 × SMo × (Nat → Int32)) (hf : f_X10_feed St St_tape x1 x2 x3 x4 x5 = some r) : zCI l yX10_feed cX10_feed 8 (some FieldType.int) 0 0 D (zty cy) [.ref (ht 0), .int x1, .int x2, .int x3, .int x4, .int x5] (wMo ht cy St ++ (wAI (fun _ => ht 1) cy 900 St_tape)) (wMo ht cy r.2.1 ++ (wAI (fun _ => ht 1) cy 900 r.2.2)) r.1 := by
  refine zCI_of (by decide +kernel) (Nat.le_of_ble_eq_true rfl) ?_
  intro p e s m below meth c A ls C hP hD hS hl
  generalize hargs : ([.ref (ht 0), .int x1, .int x2, .int x3, .int x4, .int x5] : List Value).toArray = args at C ⊢
  have C : zX p s m meth c cX10_feed 8 args RX10 (some FieldType.int) A D (zty cy) := C
  obtain ⟨hx, hb, hr, hts, hown, hlocks, hml, hA, hK⟩ := id C
  have hl : lv_has ls 8 [(0, .ref (ht 0)), (1, .int x1), (2, .int x2), (3, .int x3), (4, .int x4), (5, .int x5)] := hl
  generalize hH : s.heap = H at hP ⊢
  have hS : va_S A s.heap H [] := by rw [← hH]; exact hS
  generalize ([] : List Loc) = locs at hS ⊢
  refine lv_aload_n hx hb dX10_feed_0 rfl (lv_at hl 0 rfl) ?_
  refine lv_iconst (v := (0 : Int32)) hx hb dX10_feed_1 (by decide) ?_
  refine z_put (w2 := vMo ht cy (0 : Int32) (Mo_taped St) (Mo_size St) (Mo_at St) (Mo_end St) (Mo_token St) (Mo_whole St) (Mo_nameSize St) (Mo_fault St) (Mo_place St) (Mo_trouble St) (Mo_failed St) (Mo_hasStore St) (Mo_undos St) (Mo_images St) (Mo_ring St) (Mo_refused St) (Mo_setMany St) (Mo_someOf St) (Mo_allOf St) (Mo_firstRest St) (Mo_allWeight St) (Mo_seenWeight St) (Mo_sumWeight St) ++ (wAI (fun _ => ht 1) cy 900 St_tape)) hx hb hts in_X10 tyX10 tyX10_ok nmX10 hown hK hP hD hS 0 rfl rfl 0 (by decide) (hts _ q6_45) (fun _ h9 => h9) rfl rfl rfl (Nat.le_of_ble_eq_true rfl) dX10_feed_2 rfl (fun H locs hP hD hS => ?_)
  refine lv_aload_n hx hb dX10_feed_5 rfl (lv_at hl 0 rfl) ?_
  refine va_get (D := D) (ci := 6) (v := .int (Mo_taped St)) (C := RX10) (T := TX10) (N := 41) hx hb hts in_X10 hown hK hP 0 rfl rfl 2 (by decide) (hts _ q6_47) (fun _ h9 => h9) rfl dX10_feed_6 ?_
  refine lv_bipush (v := (20 : Int32)) hx hb dX10_feed_9 (by decide) ?_
  refine lv_iadd hx hb dX10_feed_11 ?_
  refine lv_sipush (v := (900 : Int32)) hx hb dX10_feed_12 (by decide) ?_
  refine z_icmp_le (tgt := 20) hx hb dX10_feed_15 (by decide) hf (fun hf => ?_) (fun hf => ?_)
  · refine lv_iconst (v := (0 : Int32)) hx hb dX10_feed_20 (by decide) ?_
    refine lv_istore (lv' := [(6, .int (0 : Int32)), (0, .ref (ht 0)), (1, .int x1), (2, .int x2), (3, .int x3), (4, .int x4), (5, .int x5)]) hx hb dX10_feed_21 hl (by decide) rfl (fun ls hl => ?_)
    rw [← wMo_mk ht] at hP hD
    exact w_X10_feed_23 l ht x1 x2 x3 x4 x5 C FU (mkMo (0 : Int32) (Mo_taped St) (Mo_size St) (Mo_at St) (Mo_end St) (Mo_token St) (Mo_whole St) (Mo_nameSize St) (Mo_fault St) (Mo_place St) (Mo_trouble St) (Mo_failed St) (Mo_hasStore St) (Mo_undos St) (Mo_images St) (Mo_ring St) (Mo_refused St) (Mo_setMany St) (Mo_someOf St) (Mo_allOf St) (Mo_firstRest St) (Mo_allWeight St) (Mo_seenWeight St) (Mo_sumWeight St)) St_tape (0 : Int32) H locs ls hf hP hD hS (lv_sub hl [1, 2, 3, 4, 5, 6, 0] rfl)
  · refine lv_iconst (v := (-1 : Int32)) hx hb dX10_feed_18 (by decide) ?_
    obtain rfl := Option.some.inj hf
    rw [← wMo_mk ht] at hP hD
    exact z_iret (v := (-1 : Int32)) C hP hD hS dX10_feed_19
def f_X10_goesOn (St : SMo) (x1 : Int32) (x2 : Int32) : Option (Int32) :=
  (if (Mo_ring St) = 0 then none else some (((x2 - x1) + (Mo_ring St)) - ((x2 - x1) + (Mo_ring St)) / (Mo_ring St) * (Mo_ring St)))
set_option maxHeartbeats 4000000 in
set_option maxRecDepth 100000 in
theorem c_X10_goesOn (l : Launch) (D : va_G) (cy : Nat → ClassId) (ht : Nat → Nat) (St : SMo) (x1 : Int32) (x2 : Int32) (r : Int32) (hf : f_X10_goesOn St x1 x2 = some r) : zCI l yX10_goesOn cX10_goesOn 3 (some FieldType.int) 0 0 D (zty cy) [.ref (ht 0), .int x1, .int x2] (wMo ht cy St) (wMo ht cy St) r := by
  refine zCI_of (by decide +kernel) (Nat.le_of_ble_eq_true rfl) ?_
  intro p e s m below meth c A ls C hP hD hS hl
  generalize hargs : ([.ref (ht 0), .int x1, .int x2] : List Value).toArray = args at C ⊢
  have C : zX p s m meth c cX10_goesOn 3 args RX10 (some FieldType.int) A D (zty cy) := C
  obtain ⟨hx, hb, hr, hts, hown, hlocks, hml, hA, hK⟩ := id C
  have hl : lv_has ls 3 [(0, .ref (ht 0)), (1, .int x1), (2, .int x2)] := hl
  generalize hH : s.heap = H at hP ⊢
  have hS : va_S A s.heap H [] := by rw [← hH]; exact hS
  generalize ([] : List Loc) = locs at hS ⊢
  refine lv_iload_n hx hb dX10_goesOn_0 rfl (lv_at hl 2 rfl) ?_
  refine lv_iload_n hx hb dX10_goesOn_1 rfl (lv_at hl 1 rfl) ?_
  refine lv_isub hx hb dX10_goesOn_2 ?_
  refine lv_aload_n hx hb dX10_goesOn_3 rfl (lv_at hl 0 rfl) ?_
  refine va_get (D := D) (ci := 6) (v := .int (Mo_ring St)) (C := RX10) (T := TX10) (N := 41) hx hb hts in_X10 hown hK hP 0 rfl rfl 27 (by decide) (hts _ q6_72) (fun _ h9 => h9) rfl dX10_goesOn_4 ?_
  refine lv_iadd hx hb dX10_goesOn_7 ?_
  refine lv_aload_n hx hb dX10_goesOn_8 rfl (lv_at hl 0 rfl) ?_
  refine va_get (D := D) (ci := 6) (v := .int (Mo_ring St)) (C := RX10) (T := TX10) (N := 41) hx hb hts in_X10 hown hK hP 0 rfl rfl 27 (by decide) (hts _ q6_72) (fun _ h9 => h9) rfl dX10_goesOn_9 ?_
  refine z_irem hx hb dX10_goesOn_12 hf (fun hf => ?_)
  obtain rfl := Option.some.inj hf
  exact z_iret (v := (((x2 - x1) + (Mo_ring St)) - ((x2 - x1) + (Mo_ring St)) / (Mo_ring St) * (Mo_ring St))) C hP hD hS dX10_goesOn_13
def f_X10_ageOf (St : SMo) (Sp1 : Nat → Int32) (x2 : Int32) : Option (Int32) :=
  (if zib (323 : Int32) 325 then (f_X10_goesOn St x2 (Sp1 (323 : Int32).toNatClampNeg)).bind (fun q1 =>
      some q1) else none)
set_option maxHeartbeats 4000000 in
set_option maxRecDepth 100000 in
theorem c_X10_ageOf (l : Launch) (D : va_G) (cy : Nat → ClassId) (ht : Nat → Nat) (hp1 : Nat → Nat) (St : SMo) (Sp1 : Nat → Int32) (x2 : Int32) (r : Int32) (hf : f_X10_ageOf St Sp1 x2 = some r) : zCI l yX10_ageOf cX10_ageOf 3 (some FieldType.int) 1 22 D (zty cy) [.ref (ht 0), .ref (hp1 0), .int x2] (wMo ht cy St ++ (wAI hp1 cy 325 Sp1)) (wMo ht cy St ++ (wAI hp1 cy 325 Sp1)) r := by
  refine zCI_of (by decide +kernel) (Nat.le_of_ble_eq_true rfl) ?_
  intro p e s m below meth c A ls C hP hD hS hl
  generalize hargs : ([.ref (ht 0), .ref (hp1 0), .int x2] : List Value).toArray = args at C ⊢
  have C : zX p s m meth c cX10_ageOf 3 args RX10 (some FieldType.int) A D (zty cy) := C
  obtain ⟨hx, hb, hr, hts, hown, hlocks, hml, hA, hK⟩ := id C
  have hl : lv_has ls 3 [(0, .ref (ht 0)), (1, .ref (hp1 0)), (2, .int x2)] := hl
  generalize hH : s.heap = H at hP ⊢
  have hS : va_S A s.heap H [] := by rw [← hH]; exact hS
  generalize ([] : List Loc) = locs at hS ⊢
  refine lv_aload_n hx hb dX10_ageOf_0 rfl (lv_at hl 0 rfl) ?_
  refine lv_iload_n hx hb dX10_ageOf_1 rfl (lv_at hl 2 rfl) ?_
  refine lv_aload_n hx hb dX10_ageOf_2 rfl (lv_at hl 1 rfl) ?_
  refine lv_sipush (v := (323 : Int32)) hx hb dX10_ageOf_3 (by decide) ?_
  refine z_iald (f := Sp1) hx hb hK hP 1 0 rfl rfl dX10_ageOf_6 hf (fun hf => ?_)
  obtain ⟨q1, hc, hf⟩ := zbd hf
  refine z_cVi (As := [.int x2, .int (Sp1 (323 : Int32).toNatClampNeg)]) (rest := []) C (c_X10_goesOn l D cy ht St x2 (Sp1 (323 : Int32).toNatClampNeg) q1 hc) gV_X10_X10_goesOn hd_X10_goesOn ⟨Nat.le_of_ble_eq_true rfl, Nat.le_of_ble_eq_true rfl⟩ ⟨Nat.le_refl _, Nat.le_refl _⟩ (va_recv hK hP (ci := 6) (q0 := 0) rfl rfl) hP hD hS (w2 := wMo ht cy St ++ (wAI hp1 cy 325 Sp1)) [0] [1] [1, 0] rfl rfl rfl rfl rfl rfl (by decide) hl.1 (Nat.le_of_ble_eq_true rfl) dX10_ageOf_7 (fun H locs hP hD hS => ?_)
  obtain rfl := Option.some.inj hf
  exact z_iret (v := q1) C hP hD hS dX10_ageOf_10
def f_X10_isOlder (St : SMo) (x1 : Int32) (x2 : Int32) : Option (Int32) :=
  (f_X10_goesOn St x1 x2).bind (fun q1 =>
    (f_X10_in q1 (1 : Int32) ((Mo_ring St) / (2 : Int32))).bind (fun q2 =>
      (if zbo q2 then some q2 else none)))
set_option maxHeartbeats 4000000 in
set_option maxRecDepth 100000 in
theorem c_X10_isOlder (l : Launch) (D : va_G) (cy : Nat → ClassId) (ht : Nat → Nat) (St : SMo) (x1 : Int32) (x2 : Int32) (r : Int32) (hf : f_X10_isOlder St x1 x2 = some r) : zCI l yX10_isOlder cX10_isOlder 3 (some FieldType.boolean) 1 22 D (zty cy) [.ref (ht 0), .int x1, .int x2] (wMo ht cy St) (wMo ht cy St) r := by
  refine zCI_of (by decide +kernel) (Nat.le_of_ble_eq_true rfl) ?_
  intro p e s m below meth c A ls C hP hD hS hl
  generalize hargs : ([.ref (ht 0), .int x1, .int x2] : List Value).toArray = args at C ⊢
  have C : zX p s m meth c cX10_isOlder 3 args RX10 (some FieldType.boolean) A D (zty cy) := C
  obtain ⟨hx, hb, hr, hts, hown, hlocks, hml, hA, hK⟩ := id C
  have hl : lv_has ls 3 [(0, .ref (ht 0)), (1, .int x1), (2, .int x2)] := hl
  generalize hH : s.heap = H at hP ⊢
  have hS : va_S A s.heap H [] := by rw [← hH]; exact hS
  generalize ([] : List Loc) = locs at hS ⊢
  refine lv_aload_n hx hb dX10_isOlder_0 rfl (lv_at hl 0 rfl) ?_
  refine lv_iload_n hx hb dX10_isOlder_1 rfl (lv_at hl 1 rfl) ?_
  refine lv_iload_n hx hb dX10_isOlder_2 rfl (lv_at hl 2 rfl) ?_
  obtain ⟨q1, hc, hf⟩ := zbd hf
  refine z_cVi0 (As := [.int x1, .int x2]) (rest := []) C (c_X10_goesOn l D cy ht St x1 x2 q1 hc) gV_X10_X10_goesOn hd_X10_goesOn ⟨Nat.le_of_ble_eq_true rfl, Nat.le_of_ble_eq_true rfl⟩ ⟨Nat.le_refl _, Nat.le_refl _⟩ (va_recv hK hP (ci := 6) (q0 := 0) rfl rfl) hP hD hS hl.1 (Nat.le_of_ble_eq_true rfl) dX10_isOlder_3 (fun H locs hP hD hS => ?_)
  have hP : va_P D vwCl (wMo ht cy St) H := hP
  have hD : va_D A (wMo ht cy St) := hD
  refine lv_iconst (v := (1 : Int32)) hx hb dX10_isOlder_6 (by decide) ?_
  refine lv_aload_n hx hb dX10_isOlder_7 rfl (lv_at hl 0 rfl) ?_
  refine va_get (D := D) (ci := 6) (v := .int (Mo_ring St)) (C := RX10) (T := TX10) (N := 41) hx hb hts in_X10 hown hK hP 0 rfl rfl 27 (by decide) (hts _ q6_72) (fun _ h9 => h9) rfl dX10_isOlder_8 ?_
  refine lv_iconst (v := (2 : Int32)) hx hb dX10_isOlder_11 (by decide) ?_
  refine lv_idiv hx hb dX10_isOlder_12 (by decide) ?_
  obtain ⟨q2, hc, hf⟩ := zbd hf
  refine z_cSiE (As := [.int q1, .int (1 : Int32), .int ((Mo_ring St) / (2 : Int32))]) (rest := []) C (c_X10_in l D cy q1 (1 : Int32) ((Mo_ring St) / (2 : Int32)) q2 hc) gS_X10_X10_in hd_X10_in ⟨Nat.le_of_ble_eq_true rfl, Nat.le_of_ble_eq_true rfl⟩ ⟨Nat.le_refl _, Nat.le_refl _⟩ hP hD hS hl.1 (Nat.le_of_ble_eq_true rfl) dX10_isOlder_13 (fun H locs hP hD hS => ?_)
  obtain ⟨hz, hf⟩ := zgd hf
  obtain rfl := Option.some.inj hf
  exact z_zret (v := q2) C (zbo_n hz) hP hD hS dX10_isOlder_16
def f_X10_isIn (Sp1 : Nat → Int32) (x2 : Int32) (x3 : Int32) : Option (Int32) :=
  (if zib (((311 : Int32) + ((2 : Int32) * x2)) + (x3 / (32 : Int32))) 325 then (f_X10_hasBit (Sp1 (((311 : Int32) + ((2 : Int32) * x2)) + (x3 / (32 : Int32))).toNatClampNeg) (x3 - x3 / (32 : Int32) * (32 : Int32))).bind (fun q1 =>
      (if zbo q1 then some q1 else none)) else none)
set_option maxHeartbeats 4000000 in
set_option maxRecDepth 100000 in
theorem c_X10_isIn (l : Launch) (D : va_G) (cy : Nat → ClassId) (ht : Nat → Nat) (hp1 : Nat → Nat) (Sp1 : Nat → Int32) (x2 : Int32) (x3 : Int32) (r : Int32) (hf : f_X10_isIn Sp1 x2 x3 = some r) : zCI l yX10_isIn cX10_isIn 4 (some FieldType.boolean) 1 21 D (zty cy) [.ref (ht 0), .ref (hp1 0), .int x2, .int x3] (wAI hp1 cy 325 Sp1) (wAI hp1 cy 325 Sp1) r := by
  refine zCI_of (by decide +kernel) (Nat.le_of_ble_eq_true rfl) ?_
  intro p e s m below meth c A ls C hP hD hS hl
  generalize hargs : ([.ref (ht 0), .ref (hp1 0), .int x2, .int x3] : List Value).toArray = args at C ⊢
  have C : zX p s m meth c cX10_isIn 4 args RX10 (some FieldType.boolean) A D (zty cy) := C
  obtain ⟨hx, hb, hr, hts, hown, hlocks, hml, hA, hK⟩ := id C
  have hl : lv_has ls 4 [(0, .ref (ht 0)), (1, .ref (hp1 0)), (2, .int x2), (3, .int x3)] := hl
  generalize hH : s.heap = H at hP ⊢
  have hS : va_S A s.heap H [] := by rw [← hH]; exact hS
  generalize ([] : List Loc) = locs at hS ⊢
  refine lv_aload_n hx hb dX10_isIn_0 rfl (lv_at hl 1 rfl) ?_
  refine lv_sipush (v := (311 : Int32)) hx hb dX10_isIn_1 (by decide) ?_
  refine lv_iconst (v := (2 : Int32)) hx hb dX10_isIn_4 (by decide) ?_
  refine lv_iload_n hx hb dX10_isIn_5 rfl (lv_at hl 2 rfl) ?_
  refine lv_imul hx hb dX10_isIn_6 ?_
  refine lv_iadd hx hb dX10_isIn_7 ?_
  refine lv_iload_n hx hb dX10_isIn_8 rfl (lv_at hl 3 rfl) ?_
  refine lv_bipush (v := (32 : Int32)) hx hb dX10_isIn_9 (by decide) ?_
  refine lv_idiv hx hb dX10_isIn_11 (by decide) ?_
  refine lv_iadd hx hb dX10_isIn_12 ?_
  refine z_iald (f := Sp1) hx hb hK hP 0 0 rfl rfl dX10_isIn_13 hf (fun hf => ?_)
  refine lv_iload_n hx hb dX10_isIn_14 rfl (lv_at hl 3 rfl) ?_
  refine lv_bipush (v := (32 : Int32)) hx hb dX10_isIn_15 (by decide) ?_
  refine lv_irem hx hb dX10_isIn_17 (by decide) ?_
  obtain ⟨q1, hc, hf⟩ := zbd hf
  refine z_cSiE (As := [.int (Sp1 (((311 : Int32) + ((2 : Int32) * x2)) + (x3 / (32 : Int32))).toNatClampNeg), .int (x3 - x3 / (32 : Int32) * (32 : Int32))]) (rest := []) C (c_X10_hasBit l D cy (Sp1 (((311 : Int32) + ((2 : Int32) * x2)) + (x3 / (32 : Int32))).toNatClampNeg) (x3 - x3 / (32 : Int32) * (32 : Int32)) q1 hc) gS_X10_X10_hasBit hd_X10_hasBit ⟨Nat.le_of_ble_eq_true rfl, Nat.le_of_ble_eq_true rfl⟩ ⟨Nat.le_refl _, Nat.le_refl _⟩ hP hD hS hl.1 (Nat.le_of_ble_eq_true rfl) dX10_isIn_18 (fun H locs hP hD hS => ?_)
  obtain ⟨hz, hf⟩ := zgd hf
  obtain rfl := Option.some.inj hf
  exact z_zret (v := q1) C (zbo_n hz) hP hD hS dX10_isIn_21
def b_X10_doesCount_16 (St : SMo) (Sp1 : Nat → Int32) (x2 : Int32) (x3 : Int32) (u0 : Int32) : Option (Int32) :=
  (if x2 = (-1 : Int32) then
    (if zbo u0 then some u0 else none)
    else
    (if (-2 : Int32) < x2 then
      (if zib ((304 : Int32) + x2) 325 then (if x3 = (Sp1 ((304 : Int32) + x2).toNatClampNeg) then
          some (1 : Int32)
          else
          (if u0 = 0 then
            some (0 : Int32)
            else
            (f_X10_isIn Sp1 x2 x3).bind (fun q1 =>
              (if q1 = 0 then
                (f_X10_isOlder St x3 (Sp1 ((304 : Int32) + x2).toNatClampNeg)).bind (fun q2 =>
                  (if q2 = 0 then
                    some (0 : Int32)
                    else
                    some (1 : Int32)))
                else
                some (0 : Int32))))) else none)
      else
      (if u0 = 0 then
        some (0 : Int32)
        else
        (f_X10_isOlder St x3 ((-2 : Int32) - x2)).bind (fun q3 =>
          (if q3 = 0 then
            some (0 : Int32)
            else
            some (1 : Int32))))))
set_option maxHeartbeats 4000000 in
set_option maxRecDepth 100000 in
theorem w_X10_doesCount_16 {p : Program} {e : Env} {s : State} {m : MethodId} {below : List Frame} {meth : Method} {c : Code} {A : Nat → Prop} {D : va_G} {cy : Nat → ClassId} {args : Array Value} {r : Int32} (l : Launch) (ht : Nat → Nat) (hp1 : Nat → Nat) (St : SMo) (Sp1 : Nat → Int32) (x2 : Int32) (x3 : Int32) (C : zX p s m meth c cX10_doesCount 6 args RX10 (some FieldType.boolean) A D (zty cy)) :
    ∀ (u0 : Int32) (H : Heap) (locs : List Loc) (ls : Array Slot), b_X10_doesCount_16 St Sp1 x2 x3 u0 = some r → va_P D vwCl (wMo ht cy St ++ (wAI hp1 cy 325 Sp1)) H → va_D A (wMo ht cy St ++ (wAI hp1 cy 325 Sp1)) → va_S A s.heap H locs → lv_has ls 6 [(0, .ref (ht 0)), (1, .ref (hp1 0)), (2, .int x2), (3, .int x3)] → W p l e (zRm 2 44) s m args below meth c H locs 0 0 (MQ below (zQI D (zty cy) A (wMo ht cy St ++ (wAI hp1 cy 325 Sp1)) r) args s 0 0 A) (F0 m 16 ls [.int u0]) := by
  obtain ⟨hx, hb, hr, hts, hown, hlocks, hml, hA, hK⟩ := id C
  intro u0 H locs ls hf hP hD hS hl
  refine lv_istore (lv' := [(4, .int u0), (0, .ref (ht 0)), (1, .ref (hp1 0)), (2, .int x2), (3, .int x3)]) hx hb dX10_doesCount_16 hl (by decide) rfl (fun ls hl => ?_)
  refine lv_iload_n hx hb dX10_doesCount_18 rfl (lv_at hl 3 rfl) ?_
  refine lv_iconst (v := (-1 : Int32)) hx hb dX10_doesCount_19 (by decide) ?_
  refine z_icmp_ne (tgt := 26) hx hb dX10_doesCount_20 (by decide) hf (fun hf => ?_) (fun hf => ?_)
  · refine lv_iload_n hx hb dX10_doesCount_26 rfl (lv_at hl 3 rfl) ?_
    refine lv_bipush (v := (-2 : Int32)) hx hb dX10_doesCount_27 (by decide) ?_
    refine z_icmp_gt (tgt := 55) hx hb dX10_doesCount_29 (by decide) hf (fun hf => ?_) (fun hf => ?_)
    · refine lv_aload_n hx hb dX10_doesCount_55 rfl (lv_at hl 2 rfl) ?_
      refine lv_sipush (v := (304 : Int32)) hx hb dX10_doesCount_56 (by decide) ?_
      refine lv_iload_n hx hb dX10_doesCount_59 rfl (lv_at hl 3 rfl) ?_
      refine lv_iadd hx hb dX10_doesCount_60 ?_
      refine z_iald (f := Sp1) hx hb hK hP 1 0 rfl rfl dX10_doesCount_61 hf (fun hf => ?_)
      refine lv_istore (lv' := [(5, .int (Sp1 ((304 : Int32) + x2).toNatClampNeg)), (4, .int u0), (0, .ref (ht 0)), (1, .ref (hp1 0)), (2, .int x2), (3, .int x3)]) hx hb dX10_doesCount_62 hl (by decide) rfl (fun ls hl => ?_)
      refine lv_iload_n hx hb dX10_doesCount_64 rfl (lv_at hl 5 rfl) ?_
      refine lv_iload hx hb dX10_doesCount_65 (lv_at hl 0 rfl) ?_
      refine z_icmp_eq (tgt := 95) hx hb dX10_doesCount_67 (by decide) hf (fun hf => ?_) (fun hf => ?_)
      · refine lv_iconst (v := (1 : Int32)) hx hb dX10_doesCount_95 (by decide) ?_
        refine lv_goto (tgt := 100) hx hb dX10_doesCount_96 (by decide) ?_
        obtain rfl := Option.some.inj hf
        exact z_zret (v := (1 : Int32)) C rfl hP hD hS dX10_doesCount_100
      · refine lv_iload hx hb dX10_doesCount_70 (lv_at hl 1 rfl) ?_
        refine z_if_eq (tgt := 99) hx hb dX10_doesCount_72 (by decide) hf (fun hf => ?_) (fun hf => ?_)
        · refine lv_iconst (v := (0 : Int32)) hx hb dX10_doesCount_99 (by decide) ?_
          obtain rfl := Option.some.inj hf
          exact z_zret (v := (0 : Int32)) C rfl hP hD hS dX10_doesCount_100
        · refine lv_aload_n hx hb dX10_doesCount_75 rfl (lv_at hl 2 rfl) ?_
          refine lv_aload_n hx hb dX10_doesCount_76 rfl (lv_at hl 3 rfl) ?_
          refine lv_iload_n hx hb dX10_doesCount_77 rfl (lv_at hl 4 rfl) ?_
          refine lv_iload_n hx hb dX10_doesCount_78 rfl (lv_at hl 5 rfl) ?_
          obtain ⟨q1, hc, hf⟩ := zbd hf
          refine z_cVi (As := [.ref (hp1 0), .int x2, .int x3]) (rest := []) C (c_X10_isIn l D cy ht hp1 Sp1 x2 x3 q1 hc) gV_X10_X10_isIn hd_X10_isIn ⟨Nat.le_of_ble_eq_true rfl, Nat.le_of_ble_eq_true rfl⟩ ⟨Nat.le_refl _, Nat.le_refl _⟩ (va_recv hK hP (ci := 6) (q0 := 0) rfl rfl) hP hD hS (w2 := wMo ht cy St ++ (wAI hp1 cy 325 Sp1)) [1] [0] [0, 1] rfl rfl rfl rfl rfl rfl (by decide) hl.1 (Nat.le_of_ble_eq_true rfl) dX10_doesCount_79 (fun H locs hP hD hS => ?_)
          refine z_if_ne (tgt := 99) hx hb dX10_doesCount_82 (by decide) hf (fun hf => ?_) (fun hf => ?_)
          · refine lv_iconst (v := (0 : Int32)) hx hb dX10_doesCount_99 (by decide) ?_
            obtain rfl := Option.some.inj hf
            exact z_zret (v := (0 : Int32)) C rfl hP hD hS dX10_doesCount_100
          · refine lv_aload_n hx hb dX10_doesCount_85 rfl (lv_at hl 2 rfl) ?_
            refine lv_iload_n hx hb dX10_doesCount_86 rfl (lv_at hl 5 rfl) ?_
            refine lv_iload hx hb dX10_doesCount_87 (lv_at hl 0 rfl) ?_
            obtain ⟨q2, hc, hf⟩ := zbd hf
            refine z_cVi (As := [.int x3, .int (Sp1 ((304 : Int32) + x2).toNatClampNeg)]) (rest := []) C (c_X10_isOlder l D cy ht St x3 (Sp1 ((304 : Int32) + x2).toNatClampNeg) q2 hc) gV_X10_X10_isOlder hd_X10_isOlder ⟨Nat.le_of_ble_eq_true rfl, Nat.le_of_ble_eq_true rfl⟩ ⟨Nat.le_refl _, Nat.le_refl _⟩ (va_recv hK hP (ci := 6) (q0 := 0) rfl rfl) hP hD hS (w2 := wMo ht cy St ++ (wAI hp1 cy 325 Sp1)) [0] [1] [1, 0] rfl rfl rfl rfl rfl rfl (by decide) hl.1 (Nat.le_of_ble_eq_true rfl) dX10_doesCount_89 (fun H locs hP hD hS => ?_)
            refine z_if_eq (tgt := 99) hx hb dX10_doesCount_92 (by decide) hf (fun hf => ?_) (fun hf => ?_)
            · refine lv_iconst (v := (0 : Int32)) hx hb dX10_doesCount_99 (by decide) ?_
              obtain rfl := Option.some.inj hf
              exact z_zret (v := (0 : Int32)) C rfl hP hD hS dX10_doesCount_100
            · refine lv_iconst (v := (1 : Int32)) hx hb dX10_doesCount_95 (by decide) ?_
              refine lv_goto (tgt := 100) hx hb dX10_doesCount_96 (by decide) ?_
              obtain rfl := Option.some.inj hf
              exact z_zret (v := (1 : Int32)) C rfl hP hD hS dX10_doesCount_100
    · refine lv_iload hx hb dX10_doesCount_32 (lv_at hl 0 rfl) ?_
      refine z_if_eq (tgt := 53) hx hb dX10_doesCount_34 (by decide) hf (fun hf => ?_) (fun hf => ?_)
      · refine lv_iconst (v := (0 : Int32)) hx hb dX10_doesCount_53 (by decide) ?_
        obtain rfl := Option.some.inj hf
        exact z_zret (v := (0 : Int32)) C rfl hP hD hS dX10_doesCount_54
      · refine lv_aload_n hx hb dX10_doesCount_37 rfl (lv_at hl 1 rfl) ?_
        refine lv_iload_n hx hb dX10_doesCount_38 rfl (lv_at hl 4 rfl) ?_
        refine lv_bipush (v := (-2 : Int32)) hx hb dX10_doesCount_39 (by decide) ?_
        refine lv_iload_n hx hb dX10_doesCount_41 rfl (lv_at hl 3 rfl) ?_
        refine lv_isub hx hb dX10_doesCount_42 ?_
        obtain ⟨q3, hc, hf⟩ := zbd hf
        refine z_cVi (As := [.int x3, .int ((-2 : Int32) - x2)]) (rest := []) C (c_X10_isOlder l D cy ht St x3 ((-2 : Int32) - x2) q3 hc) gV_X10_X10_isOlder hd_X10_isOlder ⟨Nat.le_of_ble_eq_true rfl, Nat.le_of_ble_eq_true rfl⟩ ⟨Nat.le_refl _, Nat.le_refl _⟩ (va_recv hK hP (ci := 6) (q0 := 0) rfl rfl) hP hD hS (w2 := wMo ht cy St ++ (wAI hp1 cy 325 Sp1)) [0] [1] [1, 0] rfl rfl rfl rfl rfl rfl (by decide) hl.1 (Nat.le_of_ble_eq_true rfl) dX10_doesCount_43 (fun H locs hP hD hS => ?_)
        refine z_if_eq (tgt := 53) hx hb dX10_doesCount_46 (by decide) hf (fun hf => ?_) (fun hf => ?_)
        · refine lv_iconst (v := (0 : Int32)) hx hb dX10_doesCount_53 (by decide) ?_
          obtain rfl := Option.some.inj hf
          exact z_zret (v := (0 : Int32)) C rfl hP hD hS dX10_doesCount_54
        · refine lv_iconst (v := (1 : Int32)) hx hb dX10_doesCount_49 (by decide) ?_
          refine lv_goto (tgt := 54) hx hb dX10_doesCount_50 (by decide) ?_
          obtain rfl := Option.some.inj hf
          exact z_zret (v := (1 : Int32)) C rfl hP hD hS dX10_doesCount_54
  · refine lv_iload hx hb dX10_doesCount_23 (lv_at hl 0 rfl) ?_
    obtain ⟨hz, hf⟩ := zgd hf
    obtain rfl := Option.some.inj hf
    exact z_zret (v := u0) C (zbo_n hz) hP hD hS dX10_doesCount_25
def f_X10_doesCount (St : SMo) (Sp1 : Nat → Int32) (x2 : Int32) (x3 : Int32) : Option (Int32) :=
  (if zib ((240 : Int32) + x3) 325 then (if (Sp1 ((240 : Int32) + x3).toNatClampNeg) = (2 : Int32) then
      (b_X10_doesCount_16 St Sp1 x2 x3 (1 : Int32))
      else
      (b_X10_doesCount_16 St Sp1 x2 x3 (0 : Int32))) else none)
set_option maxHeartbeats 4000000 in
set_option maxRecDepth 100000 in
theorem c_X10_doesCount (l : Launch) (D : va_G) (cy : Nat → ClassId) (ht : Nat → Nat) (hp1 : Nat → Nat) (St : SMo) (Sp1 : Nat → Int32) (x2 : Int32) (x3 : Int32) (r : Int32) (hf : f_X10_doesCount St Sp1 x2 x3 = some r) : zCI l yX10_doesCount cX10_doesCount 6 (some FieldType.boolean) 2 44 D (zty cy) [.ref (ht 0), .ref (hp1 0), .int x2, .int x3] (wMo ht cy St ++ (wAI hp1 cy 325 Sp1)) (wMo ht cy St ++ (wAI hp1 cy 325 Sp1)) r := by
  refine zCI_of (by decide +kernel) (Nat.le_of_ble_eq_true rfl) ?_
  intro p e s m below meth c A ls C hP hD hS hl
  generalize hargs : ([.ref (ht 0), .ref (hp1 0), .int x2, .int x3] : List Value).toArray = args at C ⊢
  have C : zX p s m meth c cX10_doesCount 6 args RX10 (some FieldType.boolean) A D (zty cy) := C
  obtain ⟨hx, hb, hr, hts, hown, hlocks, hml, hA, hK⟩ := id C
  have hl : lv_has ls 6 [(0, .ref (ht 0)), (1, .ref (hp1 0)), (2, .int x2), (3, .int x3)] := hl
  generalize hH : s.heap = H at hP ⊢
  have hS : va_S A s.heap H [] := by rw [← hH]; exact hS
  generalize ([] : List Loc) = locs at hS ⊢
  refine lv_aload_n hx hb dX10_doesCount_0 rfl (lv_at hl 1 rfl) ?_
  refine lv_sipush (v := (240 : Int32)) hx hb dX10_doesCount_1 (by decide) ?_
  refine lv_iload_n hx hb dX10_doesCount_4 rfl (lv_at hl 3 rfl) ?_
  refine lv_iadd hx hb dX10_doesCount_5 ?_
  refine z_iald (f := Sp1) hx hb hK hP 1 0 rfl rfl dX10_doesCount_6 hf (fun hf => ?_)
  refine lv_iconst (v := (2 : Int32)) hx hb dX10_doesCount_7 (by decide) ?_
  refine z_icmp_ne (tgt := 15) hx hb dX10_doesCount_8 (by decide) hf (fun hf => ?_) (fun hf => ?_)
  · refine lv_iconst (v := (0 : Int32)) hx hb dX10_doesCount_15 (by decide) ?_
    exact w_X10_doesCount_16 l ht hp1 St Sp1 x2 x3 C (0 : Int32) H locs ls hf hP hD hS (lv_sub hl [0, 1, 2, 3] rfl)
  · refine lv_iconst (v := (1 : Int32)) hx hb dX10_doesCount_11 (by decide) ?_
    refine lv_goto (tgt := 16) hx hb dX10_doesCount_12 (by decide) ?_
    exact w_X10_doesCount_16 l ht hp1 St Sp1 x2 x3 C (1 : Int32) H locs ls hf hP hD hS (lv_sub hl [0, 1, 2, 3] rfl)
def b_X10_doesSee_43 (St : SMo) (Sp1 : Nat → Int32) (x2 : Int32) (x3 : Int32) (v5 : Int32) : Option (Int32) :=
  (if v5 < 0 then
    some (1 : Int32)
    else
    (f_X10_doesCount St Sp1 x2 v5).bind (fun q1 =>
      (if q1 = 0 then
        some (1 : Int32)
        else
        some (0 : Int32))))
set_option maxHeartbeats 4000000 in
set_option maxRecDepth 100000 in
theorem w_X10_doesSee_43 {p : Program} {e : Env} {s : State} {m : MethodId} {below : List Frame} {meth : Method} {c : Code} {A : Nat → Prop} {D : va_G} {cy : Nat → ClassId} {args : Array Value} {r : Int32} (l : Launch) (ht : Nat → Nat) (hp1 : Nat → Nat) (St : SMo) (Sp1 : Nat → Int32) (x2 : Int32) (x3 : Int32) (C : zX p s m meth c cX10_doesSee 6 args RX10 (some FieldType.boolean) A D (zty cy)) :
    ∀ (v5 : Int32) (H : Heap) (locs : List Loc) (ls : Array Slot), b_X10_doesSee_43 St Sp1 x2 x3 v5 = some r → va_P D vwCl (wMo ht cy St ++ (wAI hp1 cy 325 Sp1)) H → va_D A (wMo ht cy St ++ (wAI hp1 cy 325 Sp1)) → va_S A s.heap H locs → lv_has ls 6 [(0, .ref (ht 0)), (1, .ref (hp1 0)), (2, .int x2), (5, .int v5)] → W p l e (zRm 3 69) s m args below meth c H locs 0 0 (MQ below (zQI D (zty cy) A (wMo ht cy St ++ (wAI hp1 cy 325 Sp1)) r) args s 0 0 A) (F0 m 43 ls []) := by
  obtain ⟨hx, hb, hr, hts, hown, hlocks, hml, hA, hK⟩ := id C
  intro v5 H locs ls hf hP hD hS hl
  refine lv_iload hx hb dX10_doesSee_43 (lv_at hl 3 rfl) ?_
  refine z_if_lt (tgt := 59) hx hb dX10_doesSee_45 (by decide) hf (fun hf => ?_) (fun hf => ?_)
  · refine lv_iconst (v := (1 : Int32)) hx hb dX10_doesSee_59 (by decide) ?_
    refine lv_goto (tgt := 64) hx hb dX10_doesSee_60 (by decide) ?_
    obtain rfl := Option.some.inj hf
    exact z_zret (v := (1 : Int32)) C rfl hP hD hS dX10_doesSee_64
  · refine lv_aload_n hx hb dX10_doesSee_48 rfl (lv_at hl 0 rfl) ?_
    refine lv_aload_n hx hb dX10_doesSee_49 rfl (lv_at hl 1 rfl) ?_
    refine lv_iload_n hx hb dX10_doesSee_50 rfl (lv_at hl 2 rfl) ?_
    refine lv_iload hx hb dX10_doesSee_51 (lv_at hl 3 rfl) ?_
    obtain ⟨q1, hc, hf⟩ := zbd hf
    refine z_cVi0 (As := [.ref (hp1 0), .int x2, .int v5]) (rest := []) C (c_X10_doesCount l D cy ht hp1 St Sp1 x2 v5 q1 hc) gV_X10_X10_doesCount hd_X10_doesCount ⟨Nat.le_of_ble_eq_true rfl, Nat.le_of_ble_eq_true rfl⟩ ⟨Nat.le_refl _, Nat.le_refl _⟩ (va_recv hK hP (ci := 6) (q0 := 0) rfl rfl) hP hD hS hl.1 (Nat.le_of_ble_eq_true rfl) dX10_doesSee_53 (fun H locs hP hD hS => ?_)
    have hP : va_P D vwCl (wMo ht cy St ++ (wAI hp1 cy 325 Sp1)) H := hP
    have hD : va_D A (wMo ht cy St ++ (wAI hp1 cy 325 Sp1)) := hD
    refine z_if_ne (tgt := 63) hx hb dX10_doesSee_56 (by decide) hf (fun hf => ?_) (fun hf => ?_)
    · refine lv_iconst (v := (0 : Int32)) hx hb dX10_doesSee_63 (by decide) ?_
      obtain rfl := Option.some.inj hf
      exact z_zret (v := (0 : Int32)) C rfl hP hD hS dX10_doesSee_64
    · refine lv_iconst (v := (1 : Int32)) hx hb dX10_doesSee_59 (by decide) ?_
      refine lv_goto (tgt := 64) hx hb dX10_doesSee_60 (by decide) ?_
      obtain rfl := Option.some.inj hf
      exact z_zret (v := (1 : Int32)) C rfl hP hD hS dX10_doesSee_64
def f_X10_doesSee (St : SMo) (Sp1 : Nat → Int32) (x2 : Int32) (x3 : Int32) : Option (Int32) :=
  (if zib ((96 : Int32) + x3) 325 then (if zib ((144 : Int32) + x3) 325 then (if zib ((0 : Int32) + x3) 325 then (if (Sp1 ((0 : Int32) + x3).toNatClampNeg) = 0 then
          some (0 : Int32)
          else
          (if (Sp1 ((96 : Int32) + x3).toNatClampNeg) < 0 then
            (b_X10_doesSee_43 St Sp1 x2 x3 (Sp1 ((144 : Int32) + x3).toNatClampNeg))
            else
            (f_X10_doesCount St Sp1 x2 (Sp1 ((96 : Int32) + x3).toNatClampNeg)).bind (fun q2 =>
              (if q2 = 0 then
                some (0 : Int32)
                else
                (b_X10_doesSee_43 St Sp1 x2 x3 (Sp1 ((144 : Int32) + x3).toNatClampNeg)))))) else none) else none) else none)
set_option maxHeartbeats 4000000 in
set_option maxRecDepth 100000 in
theorem c_X10_doesSee (l : Launch) (D : va_G) (cy : Nat → ClassId) (ht : Nat → Nat) (hp1 : Nat → Nat) (St : SMo) (Sp1 : Nat → Int32) (x2 : Int32) (x3 : Int32) (r : Int32) (hf : f_X10_doesSee St Sp1 x2 x3 = some r) : zCI l yX10_doesSee cX10_doesSee 6 (some FieldType.boolean) 3 69 D (zty cy) [.ref (ht 0), .ref (hp1 0), .int x2, .int x3] (wMo ht cy St ++ (wAI hp1 cy 325 Sp1)) (wMo ht cy St ++ (wAI hp1 cy 325 Sp1)) r := by
  refine zCI_of (by decide +kernel) (Nat.le_of_ble_eq_true rfl) ?_
  intro p e s m below meth c A ls C hP hD hS hl
  generalize hargs : ([.ref (ht 0), .ref (hp1 0), .int x2, .int x3] : List Value).toArray = args at C ⊢
  have C : zX p s m meth c cX10_doesSee 6 args RX10 (some FieldType.boolean) A D (zty cy) := C
  obtain ⟨hx, hb, hr, hts, hown, hlocks, hml, hA, hK⟩ := id C
  have hl : lv_has ls 6 [(0, .ref (ht 0)), (1, .ref (hp1 0)), (2, .int x2), (3, .int x3)] := hl
  generalize hH : s.heap = H at hP ⊢
  have hS : va_S A s.heap H [] := by rw [← hH]; exact hS
  generalize ([] : List Loc) = locs at hS ⊢
  refine lv_aload_n hx hb dX10_doesSee_0 rfl (lv_at hl 1 rfl) ?_
  refine lv_bipush (v := (96 : Int32)) hx hb dX10_doesSee_1 (by decide) ?_
  refine lv_iload_n hx hb dX10_doesSee_3 rfl (lv_at hl 3 rfl) ?_
  refine lv_iadd hx hb dX10_doesSee_4 ?_
  refine z_iald (f := Sp1) hx hb hK hP 1 0 rfl rfl dX10_doesSee_5 hf (fun hf => ?_)
  refine lv_istore (lv' := [(4, .int (Sp1 ((96 : Int32) + x3).toNatClampNeg)), (0, .ref (ht 0)), (1, .ref (hp1 0)), (2, .int x2), (3, .int x3)]) hx hb dX10_doesSee_6 hl (by decide) rfl (fun ls hl => ?_)
  refine lv_aload_n hx hb dX10_doesSee_8 rfl (lv_at hl 2 rfl) ?_
  refine lv_sipush (v := (144 : Int32)) hx hb dX10_doesSee_9 (by decide) ?_
  refine lv_iload_n hx hb dX10_doesSee_12 rfl (lv_at hl 4 rfl) ?_
  refine lv_iadd hx hb dX10_doesSee_13 ?_
  refine z_iald (f := Sp1) hx hb hK hP 1 0 rfl rfl dX10_doesSee_14 hf (fun hf => ?_)
  refine lv_istore (lv' := [(5, .int (Sp1 ((144 : Int32) + x3).toNatClampNeg)), (4, .int (Sp1 ((96 : Int32) + x3).toNatClampNeg)), (0, .ref (ht 0)), (1, .ref (hp1 0)), (2, .int x2), (3, .int x3)]) hx hb dX10_doesSee_15 hl (by decide) rfl (fun ls hl => ?_)
  refine lv_aload_n hx hb dX10_doesSee_17 rfl (lv_at hl 3 rfl) ?_
  refine lv_iconst (v := (0 : Int32)) hx hb dX10_doesSee_18 (by decide) ?_
  refine lv_iload_n hx hb dX10_doesSee_19 rfl (lv_at hl 5 rfl) ?_
  refine lv_iadd hx hb dX10_doesSee_20 ?_
  refine z_iald (f := Sp1) hx hb hK hP 1 0 rfl rfl dX10_doesSee_21 hf (fun hf => ?_)
  refine z_if_eq (tgt := 41) hx hb dX10_doesSee_22 (by decide) hf (fun hf => ?_) (fun hf => ?_)
  · refine lv_iconst (v := (0 : Int32)) hx hb dX10_doesSee_41 (by decide) ?_
    obtain rfl := Option.some.inj hf
    exact z_zret (v := (0 : Int32)) C rfl hP hD hS dX10_doesSee_42
  · refine lv_iload hx hb dX10_doesSee_25 (lv_at hl 1 rfl) ?_
    refine z_if_lt (tgt := 43) hx hb dX10_doesSee_27 (by decide) hf (fun hf => ?_) (fun hf => ?_)
    · exact w_X10_doesSee_43 l ht hp1 St Sp1 x2 x3 C (Sp1 ((144 : Int32) + x3).toNatClampNeg) H locs ls hf hP hD hS (lv_sub hl [2, 3, 4, 0] rfl)
    · refine lv_aload_n hx hb dX10_doesSee_30 rfl (lv_at hl 2 rfl) ?_
      refine lv_aload_n hx hb dX10_doesSee_31 rfl (lv_at hl 3 rfl) ?_
      refine lv_iload_n hx hb dX10_doesSee_32 rfl (lv_at hl 4 rfl) ?_
      refine lv_iload hx hb dX10_doesSee_33 (lv_at hl 1 rfl) ?_
      obtain ⟨q2, hc, hf⟩ := zbd hf
      refine z_cVi0 (As := [.ref (hp1 0), .int x2, .int (Sp1 ((96 : Int32) + x3).toNatClampNeg)]) (rest := []) C (c_X10_doesCount l D cy ht hp1 St Sp1 x2 (Sp1 ((96 : Int32) + x3).toNatClampNeg) q2 hc) gV_X10_X10_doesCount hd_X10_doesCount ⟨Nat.le_of_ble_eq_true rfl, Nat.le_of_ble_eq_true rfl⟩ ⟨Nat.le_refl _, Nat.le_refl _⟩ (va_recv hK hP (ci := 6) (q0 := 0) rfl rfl) hP hD hS hl.1 (Nat.le_of_ble_eq_true rfl) dX10_doesSee_35 (fun H locs hP hD hS => ?_)
      have hP : va_P D vwCl (wMo ht cy St ++ (wAI hp1 cy 325 Sp1)) H := hP
      have hD : va_D A (wMo ht cy St ++ (wAI hp1 cy 325 Sp1)) := hD
      refine z_if_ne (tgt := 43) hx hb dX10_doesSee_38 (by decide) hf (fun hf => ?_) (fun hf => ?_)
      · exact w_X10_doesSee_43 l ht hp1 St Sp1 x2 x3 C (Sp1 ((144 : Int32) + x3).toNatClampNeg) H locs ls hf hP hD hS (lv_sub hl [2, 3, 4, 0] rfl)
      · refine lv_iconst (v := (0 : Int32)) hx hb dX10_doesSee_41 (by decide) ?_
        obtain rfl := Option.some.inj hf
        exact z_zret (v := (0 : Int32)) C rfl hP hD hS dX10_doesSee_42
def b_X10_seenIn_7 (St : SMo) (Sp1 : Nat → Int32) (x2 : Int32) (x3 : Int32) (k7 : Int32 → Int32 → Option (Int32)) (v4 : Int32) (v5 : Int32) : Option (Int32) :=
  (if (48 : Int32) ≤ v5 then
    some v4
    else
    (if zib ((0 : Int32) + v5) 325 then (if (Sp1 ((0 : Int32) + v5).toNatClampNeg) = (x3 + (1 : Int32)) then
        (f_X10_doesSee St Sp1 x2 v5).bind (fun q1 =>
          (if q1 = 0 then
            (k7 v4 (v5 + (1 : Int32)))
            else
            (if v4 < 0 then
              (k7 v5 (v5 + (1 : Int32)))
              else
              (if zib ((192 : Int32) + v5) 325 then (if zib ((192 : Int32) + v4) 325 then (if (Sp1 ((192 : Int32) + v5).toNatClampNeg) ≤ (Sp1 ((192 : Int32) + v4).toNatClampNeg) then
                    (k7 v4 (v5 + (1 : Int32)))
                    else
                    (k7 v5 (v5 + (1 : Int32)))) else none) else none))))
        else
        (k7 v4 (v5 + (1 : Int32)))) else none))
set_option maxHeartbeats 4000000 in
set_option maxRecDepth 100000 in
theorem w_X10_seenIn_7 {p : Program} {e : Env} {s : State} {m : MethodId} {below : List Frame} {meth : Method} {c : Code} {A : Nat → Prop} {D : va_G} {cy : Nat → ClassId} {args : Array Value} {r : Int32} (l : Launch) (ht : Nat → Nat) (hp1 : Nat → Nat) (St : SMo) (Sp1 : Nat → Int32) (x2 : Int32) (x3 : Int32) (C : zX p s m meth c cX10_seenIn 6 args RX10 (some FieldType.int) A D (zty cy)) :
    ∀ (n : Nat) (v4 : Int32) (v5 : Int32) (H : Heap) (locs : List Loc) (ls : Array Slot), zl2 (b_X10_seenIn_7 St Sp1 x2 x3) n v4 v5 = some r → va_P D vwCl (wMo ht cy St ++ (wAI hp1 cy 325 Sp1)) H → va_D A (wMo ht cy St ++ (wAI hp1 cy 325 Sp1)) → va_S A s.heap H locs → lv_has ls 6 [(0, .ref (ht 0)), (1, .ref (hp1 0)), (2, .int x2), (3, .int x3), (4, .int v4), (5, .int v5)] → W p l e (zRm 4 94) s m args below meth c H locs 0 0 (MQ below (zQI D (zty cy) A (wMo ht cy St ++ (wAI hp1 cy 325 Sp1)) r) args s 0 0 A) (F0 m 7 ls []) := by
  obtain ⟨hx, hb, hr, hts, hown, hlocks, hml, hA, hK⟩ := id C
  intro n
  induction n with
  | zero => intro v4 v5 H locs ls hf; exact zno hf
  | succ n ih =>
    intro v4 v5 H locs ls hf hP hD hS hl
    have hf : b_X10_seenIn_7 St Sp1 x2 x3 (zl2 (b_X10_seenIn_7 St Sp1 x2 x3) n) v4 v5 = some r := hf
    have K7 := ih
    refine lv_iload hx hb dX10_seenIn_7 (lv_at hl 5 rfl) ?_
    refine lv_bipush (v := (48 : Int32)) hx hb dX10_seenIn_9 (by decide) ?_
    refine z_icmp_ge (tgt := 71) hx hb dX10_seenIn_11 (by decide) hf (fun hf => ?_) (fun hf => ?_)
    · refine lv_iload hx hb dX10_seenIn_71 (lv_at hl 4 rfl) ?_
      obtain rfl := Option.some.inj hf
      exact z_iret (v := v4) C hP hD hS dX10_seenIn_73
    · refine lv_aload_n hx hb dX10_seenIn_14 rfl (lv_at hl 1 rfl) ?_
      refine lv_iconst (v := (0 : Int32)) hx hb dX10_seenIn_15 (by decide) ?_
      refine lv_iload hx hb dX10_seenIn_16 (lv_at hl 5 rfl) ?_
      refine lv_iadd hx hb dX10_seenIn_18 ?_
      refine z_iald (f := Sp1) hx hb hK hP 1 0 rfl rfl dX10_seenIn_19 hf (fun hf => ?_)
      refine lv_iload_n hx hb dX10_seenIn_20 rfl (lv_at hl 3 rfl) ?_
      refine lv_iconst (v := (1 : Int32)) hx hb dX10_seenIn_21 (by decide) ?_
      refine lv_iadd hx hb dX10_seenIn_22 ?_
      refine z_icmp_ne (tgt := 65) hx hb dX10_seenIn_23 (by decide) hf (fun hf => ?_) (fun hf => ?_)
      · refine lv_iinc (v := (v5 + (1 : Int32))) (lv' := [(5, .int (v5 + (1 : Int32))), (0, .ref (ht 0)), (1, .ref (hp1 0)), (2, .int x2), (3, .int x3), (4, .int v4)]) hx hb dX10_seenIn_65 hl (k := 5) rfl rfl (by decide) rfl (fun ls hl => ?_)
        refine lv_goto (tgt := 7) hx hb dX10_seenIn_68 (by decide) ?_
        exact K7 v4 (v5 + (1 : Int32)) H locs ls hf hP hD hS (lv_sub hl [1, 2, 3, 4, 5, 0] rfl)
      · refine lv_aload_n hx hb dX10_seenIn_26 rfl (lv_at hl 0 rfl) ?_
        refine lv_aload_n hx hb dX10_seenIn_27 rfl (lv_at hl 1 rfl) ?_
        refine lv_iload_n hx hb dX10_seenIn_28 rfl (lv_at hl 2 rfl) ?_
        refine lv_iload hx hb dX10_seenIn_29 (lv_at hl 5 rfl) ?_
        obtain ⟨q1, hc, hf⟩ := zbd hf
        refine z_cVi0 (As := [.ref (hp1 0), .int x2, .int v5]) (rest := []) C (c_X10_doesSee l D cy ht hp1 St Sp1 x2 v5 q1 hc) gV_X10_X10_doesSee hd_X10_doesSee ⟨Nat.le_of_ble_eq_true rfl, Nat.le_of_ble_eq_true rfl⟩ ⟨Nat.le_refl _, Nat.le_refl _⟩ (va_recv hK hP (ci := 6) (q0 := 0) rfl rfl) hP hD hS hl.1 (Nat.le_of_ble_eq_true rfl) dX10_seenIn_31 (fun H locs hP hD hS => ?_)
        have hP : va_P D vwCl (wMo ht cy St ++ (wAI hp1 cy 325 Sp1)) H := hP
        have hD : va_D A (wMo ht cy St ++ (wAI hp1 cy 325 Sp1)) := hD
        refine z_if_eq (tgt := 65) hx hb dX10_seenIn_34 (by decide) hf (fun hf => ?_) (fun hf => ?_)
        · refine lv_iinc (v := (v5 + (1 : Int32))) (lv' := [(5, .int (v5 + (1 : Int32))), (0, .ref (ht 0)), (1, .ref (hp1 0)), (2, .int x2), (3, .int x3), (4, .int v4)]) hx hb dX10_seenIn_65 hl (k := 5) rfl rfl (by decide) rfl (fun ls hl => ?_)
          refine lv_goto (tgt := 7) hx hb dX10_seenIn_68 (by decide) ?_
          exact K7 v4 (v5 + (1 : Int32)) H locs ls hf hP hD hS (lv_sub hl [1, 2, 3, 4, 5, 0] rfl)
        · refine lv_iload hx hb dX10_seenIn_37 (lv_at hl 4 rfl) ?_
          refine z_if_lt (tgt := 61) hx hb dX10_seenIn_39 (by decide) hf (fun hf => ?_) (fun hf => ?_)
          · refine lv_iload hx hb dX10_seenIn_61 (lv_at hl 5 rfl) ?_
            refine lv_istore (lv' := [(4, .int v5), (0, .ref (ht 0)), (1, .ref (hp1 0)), (2, .int x2), (3, .int x3), (5, .int v5)]) hx hb dX10_seenIn_63 hl (by decide) rfl (fun ls hl => ?_)
            refine lv_iinc (v := (v5 + (1 : Int32))) (lv' := [(5, .int (v5 + (1 : Int32))), (4, .int v5), (0, .ref (ht 0)), (1, .ref (hp1 0)), (2, .int x2), (3, .int x3)]) hx hb dX10_seenIn_65 hl (k := 5) rfl rfl (by decide) rfl (fun ls hl => ?_)
            refine lv_goto (tgt := 7) hx hb dX10_seenIn_68 (by decide) ?_
            exact K7 v5 (v5 + (1 : Int32)) H locs ls hf hP hD hS (lv_sub hl [2, 3, 4, 5, 1, 0] rfl)
          · refine lv_aload_n hx hb dX10_seenIn_42 rfl (lv_at hl 1 rfl) ?_
            refine lv_sipush (v := (192 : Int32)) hx hb dX10_seenIn_43 (by decide) ?_
            refine lv_iload hx hb dX10_seenIn_46 (lv_at hl 5 rfl) ?_
            refine lv_iadd hx hb dX10_seenIn_48 ?_
            refine z_iald (f := Sp1) hx hb hK hP 1 0 rfl rfl dX10_seenIn_49 hf (fun hf => ?_)
            refine lv_aload_n hx hb dX10_seenIn_50 rfl (lv_at hl 1 rfl) ?_
            refine lv_sipush (v := (192 : Int32)) hx hb dX10_seenIn_51 (by decide) ?_
            refine lv_iload hx hb dX10_seenIn_54 (lv_at hl 4 rfl) ?_
            refine lv_iadd hx hb dX10_seenIn_56 ?_
            refine z_iald (f := Sp1) hx hb hK hP 1 0 rfl rfl dX10_seenIn_57 hf (fun hf => ?_)
            refine z_icmp_le (tgt := 65) hx hb dX10_seenIn_58 (by decide) hf (fun hf => ?_) (fun hf => ?_)
            · refine lv_iinc (v := (v5 + (1 : Int32))) (lv' := [(5, .int (v5 + (1 : Int32))), (0, .ref (ht 0)), (1, .ref (hp1 0)), (2, .int x2), (3, .int x3), (4, .int v4)]) hx hb dX10_seenIn_65 hl (k := 5) rfl rfl (by decide) rfl (fun ls hl => ?_)
              refine lv_goto (tgt := 7) hx hb dX10_seenIn_68 (by decide) ?_
              exact K7 v4 (v5 + (1 : Int32)) H locs ls hf hP hD hS (lv_sub hl [1, 2, 3, 4, 5, 0] rfl)
            · refine lv_iload hx hb dX10_seenIn_61 (lv_at hl 5 rfl) ?_
              refine lv_istore (lv' := [(4, .int v5), (0, .ref (ht 0)), (1, .ref (hp1 0)), (2, .int x2), (3, .int x3), (5, .int v5)]) hx hb dX10_seenIn_63 hl (by decide) rfl (fun ls hl => ?_)
              refine lv_iinc (v := (v5 + (1 : Int32))) (lv' := [(5, .int (v5 + (1 : Int32))), (4, .int v5), (0, .ref (ht 0)), (1, .ref (hp1 0)), (2, .int x2), (3, .int x3)]) hx hb dX10_seenIn_65 hl (k := 5) rfl rfl (by decide) rfl (fun ls hl => ?_)
              refine lv_goto (tgt := 7) hx hb dX10_seenIn_68 (by decide) ?_
              exact K7 v5 (v5 + (1 : Int32)) H locs ls hf hP hD hS (lv_sub hl [2, 3, 4, 5, 1, 0] rfl)
def f_X10_seenIn (St : SMo) (Sp1 : Nat → Int32) (x2 : Int32) (x3 : Int32) : Option (Int32) :=
  (zl2 (b_X10_seenIn_7 St Sp1 x2 x3) FU (-2 : Int32) (0 : Int32))
set_option maxHeartbeats 4000000 in
set_option maxRecDepth 100000 in
theorem c_X10_seenIn (l : Launch) (D : va_G) (cy : Nat → ClassId) (ht : Nat → Nat) (hp1 : Nat → Nat) (St : SMo) (Sp1 : Nat → Int32) (x2 : Int32) (x3 : Int32) (r : Int32) (hf : f_X10_seenIn St Sp1 x2 x3 = some r) : zCI l yX10_seenIn cX10_seenIn 6 (some FieldType.int) 4 94 D (zty cy) [.ref (ht 0), .ref (hp1 0), .int x2, .int x3] (wMo ht cy St ++ (wAI hp1 cy 325 Sp1)) (wMo ht cy St ++ (wAI hp1 cy 325 Sp1)) r := by
  refine zCI_of (by decide +kernel) (Nat.le_of_ble_eq_true rfl) ?_
  intro p e s m below meth c A ls C hP hD hS hl
  generalize hargs : ([.ref (ht 0), .ref (hp1 0), .int x2, .int x3] : List Value).toArray = args at C ⊢
  have C : zX p s m meth c cX10_seenIn 6 args RX10 (some FieldType.int) A D (zty cy) := C
  obtain ⟨hx, hb, hr, hts, hown, hlocks, hml, hA, hK⟩ := id C
  have hl : lv_has ls 6 [(0, .ref (ht 0)), (1, .ref (hp1 0)), (2, .int x2), (3, .int x3)] := hl
  generalize hH : s.heap = H at hP ⊢
  have hS : va_S A s.heap H [] := by rw [← hH]; exact hS
  generalize ([] : List Loc) = locs at hS ⊢
  refine lv_bipush (v := (-2 : Int32)) hx hb dX10_seenIn_0 (by decide) ?_
  refine lv_istore (lv' := [(4, .int (-2 : Int32)), (0, .ref (ht 0)), (1, .ref (hp1 0)), (2, .int x2), (3, .int x3)]) hx hb dX10_seenIn_2 hl (by decide) rfl (fun ls hl => ?_)
  refine lv_iconst (v := (0 : Int32)) hx hb dX10_seenIn_4 (by decide) ?_
  refine lv_istore (lv' := [(5, .int (0 : Int32)), (4, .int (-2 : Int32)), (0, .ref (ht 0)), (1, .ref (hp1 0)), (2, .int x2), (3, .int x3)]) hx hb dX10_seenIn_5 hl (by decide) rfl (fun ls hl => ?_)
  exact w_X10_seenIn_7 l ht hp1 St Sp1 x2 x3 C FU (-2 : Int32) (0 : Int32) H locs ls hf hP hD hS (lv_sub hl [2, 3, 4, 5, 1, 0] rfl)
def b_X10_lastOf_57 (Sp1 : Nat → Int32) (x2 : Int32) (k6 : Int32 → Int32 → Option (Int32)) (v3 : Int32) (v4 : Int32) : Option (Int32) :=
  (if v3 < 0 then
    (k6 v4 (v4 + (1 : Int32)))
    else
    (if zib ((192 : Int32) + v4) 325 then (if zib ((192 : Int32) + v3) 325 then (if (Sp1 ((192 : Int32) + v4).toNatClampNeg) ≤ (Sp1 ((192 : Int32) + v3).toNatClampNeg) then
          (k6 v3 (v4 + (1 : Int32)))
          else
          (k6 v4 (v4 + (1 : Int32)))) else none) else none))
set_option maxHeartbeats 4000000 in
set_option maxRecDepth 100000 in
theorem w_X10_lastOf_57 {p : Program} {e : Env} {s : State} {m : MethodId} {below : List Frame} {meth : Method} {c : Code} {A : Nat → Prop} {D : va_G} {cy : Nat → ClassId} {args : Array Value} {r : Int32} (l : Launch) (ht : Nat → Nat) (hp1 : Nat → Nat) (Sp1 : Nat → Int32) (x2 : Int32) {k6 : Int32 → Int32 → Option (Int32)} (C : zX p s m meth c cX10_lastOf 6 args RX10 (some FieldType.int) A D (zty cy))
    (K6 : ∀ (v3 : Int32) (v4 : Int32) (H : Heap) (locs : List Loc) (ls : Array Slot), k6 v3 v4 = some r → va_P D vwCl (wAI hp1 cy 325 Sp1) H → va_D A (wAI hp1 cy 325 Sp1) → va_S A s.heap H locs → lv_has ls 6 [(1, .ref (hp1 0)), (2, .int x2), (3, .int v3), (4, .int v4)] → W p l e (zRm 0 0) s m args below meth c H locs 0 0 (MQ below (zQI D (zty cy) A (wAI hp1 cy 325 Sp1) r) args s 0 0 A) (F0 m 6 ls [])) :
    ∀ (v3 : Int32) (v4 : Int32) (H : Heap) (locs : List Loc) (ls : Array Slot), b_X10_lastOf_57 Sp1 x2 k6 v3 v4 = some r → va_P D vwCl (wAI hp1 cy 325 Sp1) H → va_D A (wAI hp1 cy 325 Sp1) → va_S A s.heap H locs → lv_has ls 6 [(1, .ref (hp1 0)), (2, .int x2), (3, .int v3), (4, .int v4)] → W p l e (zRm 0 0) s m args below meth c H locs 0 0 (MQ below (zQI D (zty cy) A (wAI hp1 cy 325 Sp1) r) args s 0 0 A) (F0 m 57 ls []) := by
  obtain ⟨hx, hb, hr, hts, hown, hlocks, hml, hA, hK⟩ := id C
  intro v3 v4 H locs ls hf hP hD hS hl
  refine lv_iload_n hx hb dX10_lastOf_57 rfl (lv_at hl 2 rfl) ?_
  refine z_if_lt (tgt := 79) hx hb dX10_lastOf_58 (by decide) hf (fun hf => ?_) (fun hf => ?_)
  · refine lv_iload hx hb dX10_lastOf_79 (lv_at hl 3 rfl) ?_
    refine lv_istore_n (lv' := [(3, .int v4), (1, .ref (hp1 0)), (2, .int x2), (4, .int v4)]) hx hb dX10_lastOf_81 rfl hl (by decide) rfl (fun ls hl => ?_)
    refine lv_iinc (v := (v4 + (1 : Int32))) (lv' := [(4, .int (v4 + (1 : Int32))), (3, .int v4), (1, .ref (hp1 0)), (2, .int x2)]) hx hb dX10_lastOf_82 hl (k := 3) rfl rfl (by decide) rfl (fun ls hl => ?_)
    refine lv_goto (tgt := 6) hx hb dX10_lastOf_85 (by decide) ?_
    exact K6 v4 (v4 + (1 : Int32)) H locs ls hf hP hD hS (lv_sub hl [2, 3, 1, 0] rfl)
  · refine lv_aload_n hx hb dX10_lastOf_61 rfl (lv_at hl 0 rfl) ?_
    refine lv_sipush (v := (192 : Int32)) hx hb dX10_lastOf_62 (by decide) ?_
    refine lv_iload hx hb dX10_lastOf_65 (lv_at hl 3 rfl) ?_
    refine lv_iadd hx hb dX10_lastOf_67 ?_
    refine z_iald (f := Sp1) hx hb hK hP 0 0 rfl rfl dX10_lastOf_68 hf (fun hf => ?_)
    refine lv_aload_n hx hb dX10_lastOf_69 rfl (lv_at hl 0 rfl) ?_
    refine lv_sipush (v := (192 : Int32)) hx hb dX10_lastOf_70 (by decide) ?_
    refine lv_iload_n hx hb dX10_lastOf_73 rfl (lv_at hl 2 rfl) ?_
    refine lv_iadd hx hb dX10_lastOf_74 ?_
    refine z_iald (f := Sp1) hx hb hK hP 0 0 rfl rfl dX10_lastOf_75 hf (fun hf => ?_)
    refine z_icmp_le (tgt := 82) hx hb dX10_lastOf_76 (by decide) hf (fun hf => ?_) (fun hf => ?_)
    · refine lv_iinc (v := (v4 + (1 : Int32))) (lv' := [(4, .int (v4 + (1 : Int32))), (1, .ref (hp1 0)), (2, .int x2), (3, .int v3)]) hx hb dX10_lastOf_82 hl (k := 3) rfl rfl (by decide) rfl (fun ls hl => ?_)
      refine lv_goto (tgt := 6) hx hb dX10_lastOf_85 (by decide) ?_
      exact K6 v3 (v4 + (1 : Int32)) H locs ls hf hP hD hS (lv_sub hl [1, 2, 3, 0] rfl)
    · refine lv_iload hx hb dX10_lastOf_79 (lv_at hl 3 rfl) ?_
      refine lv_istore_n (lv' := [(3, .int v4), (1, .ref (hp1 0)), (2, .int x2), (4, .int v4)]) hx hb dX10_lastOf_81 rfl hl (by decide) rfl (fun ls hl => ?_)
      refine lv_iinc (v := (v4 + (1 : Int32))) (lv' := [(4, .int (v4 + (1 : Int32))), (3, .int v4), (1, .ref (hp1 0)), (2, .int x2)]) hx hb dX10_lastOf_82 hl (k := 3) rfl rfl (by decide) rfl (fun ls hl => ?_)
      refine lv_goto (tgt := 6) hx hb dX10_lastOf_85 (by decide) ?_
      exact K6 v4 (v4 + (1 : Int32)) H locs ls hf hP hD hS (lv_sub hl [2, 3, 1, 0] rfl)
def b_X10_lastOf_6 (Sp1 : Nat → Int32) (x2 : Int32) (k6 : Int32 → Int32 → Option (Int32)) (v3 : Int32) (v4 : Int32) : Option (Int32) :=
  (if (48 : Int32) ≤ v4 then
    some v3
    else
    (if zib ((0 : Int32) + v4) 325 then (if (Sp1 ((0 : Int32) + v4).toNatClampNeg) = (x2 + (1 : Int32)) then
        (if zib ((96 : Int32) + v4) 325 then (if (Sp1 ((96 : Int32) + v4).toNatClampNeg) < 0 then
            (b_X10_lastOf_57 Sp1 x2 k6 v3 v4)
            else
            (if zib ((240 : Int32) + (Sp1 ((96 : Int32) + v4).toNatClampNeg)) 325 then (if (Sp1 ((240 : Int32) + (Sp1 ((96 : Int32) + v4).toNatClampNeg)).toNatClampNeg) = (3 : Int32) then
                (k6 v3 (v4 + (1 : Int32)))
                else
                (b_X10_lastOf_57 Sp1 x2 k6 v3 v4)) else none)) else none)
        else
        (k6 v3 (v4 + (1 : Int32)))) else none))
set_option maxHeartbeats 4000000 in
set_option maxRecDepth 100000 in
theorem w_X10_lastOf_6 {p : Program} {e : Env} {s : State} {m : MethodId} {below : List Frame} {meth : Method} {c : Code} {A : Nat → Prop} {D : va_G} {cy : Nat → ClassId} {args : Array Value} {r : Int32} (l : Launch) (ht : Nat → Nat) (hp1 : Nat → Nat) (Sp1 : Nat → Int32) (x2 : Int32) (C : zX p s m meth c cX10_lastOf 6 args RX10 (some FieldType.int) A D (zty cy)) :
    ∀ (n : Nat) (v3 : Int32) (v4 : Int32) (H : Heap) (locs : List Loc) (ls : Array Slot), zl2 (b_X10_lastOf_6 Sp1 x2) n v3 v4 = some r → va_P D vwCl (wAI hp1 cy 325 Sp1) H → va_D A (wAI hp1 cy 325 Sp1) → va_S A s.heap H locs → lv_has ls 6 [(1, .ref (hp1 0)), (2, .int x2), (3, .int v3), (4, .int v4)] → W p l e (zRm 0 0) s m args below meth c H locs 0 0 (MQ below (zQI D (zty cy) A (wAI hp1 cy 325 Sp1) r) args s 0 0 A) (F0 m 6 ls []) := by
  obtain ⟨hx, hb, hr, hts, hown, hlocks, hml, hA, hK⟩ := id C
  intro n
  induction n with
  | zero => intro v3 v4 H locs ls hf; exact zno hf
  | succ n ih =>
    intro v3 v4 H locs ls hf hP hD hS hl
    have hf : b_X10_lastOf_6 Sp1 x2 (zl2 (b_X10_lastOf_6 Sp1 x2) n) v3 v4 = some r := hf
    have K6 := ih
    refine lv_iload hx hb dX10_lastOf_6 (lv_at hl 3 rfl) ?_
    refine lv_bipush (v := (48 : Int32)) hx hb dX10_lastOf_8 (by decide) ?_
    refine z_icmp_ge (tgt := 88) hx hb dX10_lastOf_10 (by decide) hf (fun hf => ?_) (fun hf => ?_)
    · refine lv_iload_n hx hb dX10_lastOf_88 rfl (lv_at hl 2 rfl) ?_
      obtain rfl := Option.some.inj hf
      exact z_iret (v := v3) C hP hD hS dX10_lastOf_89
    · refine lv_aload_n hx hb dX10_lastOf_13 rfl (lv_at hl 0 rfl) ?_
      refine lv_iconst (v := (0 : Int32)) hx hb dX10_lastOf_14 (by decide) ?_
      refine lv_iload hx hb dX10_lastOf_15 (lv_at hl 3 rfl) ?_
      refine lv_iadd hx hb dX10_lastOf_17 ?_
      refine z_iald (f := Sp1) hx hb hK hP 0 0 rfl rfl dX10_lastOf_18 hf (fun hf => ?_)
      refine lv_iload_n hx hb dX10_lastOf_19 rfl (lv_at hl 1 rfl) ?_
      refine lv_iconst (v := (1 : Int32)) hx hb dX10_lastOf_20 (by decide) ?_
      refine lv_iadd hx hb dX10_lastOf_21 ?_
      refine z_icmp_eq (tgt := 28) hx hb dX10_lastOf_22 (by decide) hf (fun hf => ?_) (fun hf => ?_)
      · refine lv_aload_n hx hb dX10_lastOf_28 rfl (lv_at hl 0 rfl) ?_
        refine lv_bipush (v := (96 : Int32)) hx hb dX10_lastOf_29 (by decide) ?_
        refine lv_iload hx hb dX10_lastOf_31 (lv_at hl 3 rfl) ?_
        refine lv_iadd hx hb dX10_lastOf_33 ?_
        refine z_iald (f := Sp1) hx hb hK hP 0 0 rfl rfl dX10_lastOf_34 hf (fun hf => ?_)
        refine lv_istore (lv' := [(5, .int (Sp1 ((96 : Int32) + v4).toNatClampNeg)), (1, .ref (hp1 0)), (2, .int x2), (3, .int v3), (4, .int v4)]) hx hb dX10_lastOf_35 hl (by decide) rfl (fun ls hl => ?_)
        refine lv_iload hx hb dX10_lastOf_37 (lv_at hl 0 rfl) ?_
        refine z_if_lt (tgt := 57) hx hb dX10_lastOf_39 (by decide) hf (fun hf => ?_) (fun hf => ?_)
        · exact w_X10_lastOf_57 l ht hp1 Sp1 x2 C K6 v3 v4 H locs ls hf hP hD hS (lv_sub hl [1, 2, 3, 4] rfl)
        · refine lv_aload_n hx hb dX10_lastOf_42 rfl (lv_at hl 1 rfl) ?_
          refine lv_sipush (v := (240 : Int32)) hx hb dX10_lastOf_43 (by decide) ?_
          refine lv_iload hx hb dX10_lastOf_46 (lv_at hl 0 rfl) ?_
          refine lv_iadd hx hb dX10_lastOf_48 ?_
          refine z_iald (f := Sp1) hx hb hK hP 0 0 rfl rfl dX10_lastOf_49 hf (fun hf => ?_)
          refine lv_iconst (v := (3 : Int32)) hx hb dX10_lastOf_50 (by decide) ?_
          refine z_icmp_ne (tgt := 57) hx hb dX10_lastOf_51 (by decide) hf (fun hf => ?_) (fun hf => ?_)
          · exact w_X10_lastOf_57 l ht hp1 Sp1 x2 C K6 v3 v4 H locs ls hf hP hD hS (lv_sub hl [1, 2, 3, 4] rfl)
          · refine lv_goto (tgt := 82) hx hb dX10_lastOf_54 (by decide) ?_
            refine lv_iinc (v := (v4 + (1 : Int32))) (lv' := [(4, .int (v4 + (1 : Int32))), (5, .int (Sp1 ((96 : Int32) + v4).toNatClampNeg)), (1, .ref (hp1 0)), (2, .int x2), (3, .int v3)]) hx hb dX10_lastOf_82 hl (k := 4) rfl rfl (by decide) rfl (fun ls hl => ?_)
            refine lv_goto (tgt := 6) hx hb dX10_lastOf_85 (by decide) ?_
            exact K6 v3 (v4 + (1 : Int32)) H locs ls hf hP hD hS (lv_sub hl [2, 3, 4, 0] rfl)
      · refine lv_goto (tgt := 82) hx hb dX10_lastOf_25 (by decide) ?_
        refine lv_iinc (v := (v4 + (1 : Int32))) (lv' := [(4, .int (v4 + (1 : Int32))), (1, .ref (hp1 0)), (2, .int x2), (3, .int v3)]) hx hb dX10_lastOf_82 hl (k := 3) rfl rfl (by decide) rfl (fun ls hl => ?_)
        refine lv_goto (tgt := 6) hx hb dX10_lastOf_85 (by decide) ?_
        exact K6 v3 (v4 + (1 : Int32)) H locs ls hf hP hD hS (lv_sub hl [1, 2, 3, 0] rfl)
def f_X10_lastOf (Sp1 : Nat → Int32) (x2 : Int32) : Option (Int32) :=
  (zl2 (b_X10_lastOf_6 Sp1 x2) FU (-2 : Int32) (0 : Int32))
set_option maxHeartbeats 4000000 in
set_option maxRecDepth 100000 in
theorem c_X10_lastOf (l : Launch) (D : va_G) (cy : Nat → ClassId) (ht : Nat → Nat) (hp1 : Nat → Nat) (Sp1 : Nat → Int32) (x2 : Int32) (r : Int32) (hf : f_X10_lastOf Sp1 x2 = some r) : zCI l yX10_lastOf cX10_lastOf 6 (some FieldType.int) 0 0 D (zty cy) [.ref (ht 0), .ref (hp1 0), .int x2] (wAI hp1 cy 325 Sp1) (wAI hp1 cy 325 Sp1) r := by
  refine zCI_of (by decide +kernel) (Nat.le_of_ble_eq_true rfl) ?_
  intro p e s m below meth c A ls C hP hD hS hl
  generalize hargs : ([.ref (ht 0), .ref (hp1 0), .int x2] : List Value).toArray = args at C ⊢
  have C : zX p s m meth c cX10_lastOf 6 args RX10 (some FieldType.int) A D (zty cy) := C
  obtain ⟨hx, hb, hr, hts, hown, hlocks, hml, hA, hK⟩ := id C
  have hl : lv_has ls 6 [(0, .ref (ht 0)), (1, .ref (hp1 0)), (2, .int x2)] := hl
  generalize hH : s.heap = H at hP ⊢
  have hS : va_S A s.heap H [] := by rw [← hH]; exact hS
  generalize ([] : List Loc) = locs at hS ⊢
  refine lv_bipush (v := (-2 : Int32)) hx hb dX10_lastOf_0 (by decide) ?_
  refine lv_istore_n (lv' := [(3, .int (-2 : Int32)), (0, .ref (ht 0)), (1, .ref (hp1 0)), (2, .int x2)]) hx hb dX10_lastOf_2 rfl hl (by decide) rfl (fun ls hl => ?_)
  refine lv_iconst (v := (0 : Int32)) hx hb dX10_lastOf_3 (by decide) ?_
  refine lv_istore (lv' := [(4, .int (0 : Int32)), (3, .int (-2 : Int32)), (0, .ref (ht 0)), (1, .ref (hp1 0)), (2, .int x2)]) hx hb dX10_lastOf_4 hl (by decide) rfl (fun ls hl => ?_)
  exact w_X10_lastOf_6 l ht hp1 Sp1 x2 C FU (-2 : Int32) (0 : Int32) H locs ls hf hP hD hS (lv_sub hl [3, 4, 1, 0] rfl)
def b_X10_slotOf_2 (Sp1 : Nat → Int32) (x2 : Int32) (k2 : Int32 → Option (Int32)) (v3 : Int32) : Option (Int32) :=
  (if (6 : Int32) ≤ v3 then
    some (-2 : Int32)
    else
    (if zib ((304 : Int32) + v3) 325 then (if (Sp1 ((304 : Int32) + v3).toNatClampNeg) = x2 then
        some v3
        else
        (k2 (v3 + (1 : Int32)))) else none))
set_option maxHeartbeats 4000000 in
set_option maxRecDepth 100000 in
theorem w_X10_slotOf_2 {p : Program} {e : Env} {s : State} {m : MethodId} {below : List Frame} {meth : Method} {c : Code} {A : Nat → Prop} {D : va_G} {cy : Nat → ClassId} {args : Array Value} {r : Int32} (l : Launch) (ht : Nat → Nat) (hp1 : Nat → Nat) (Sp1 : Nat → Int32) (x2 : Int32) (C : zX p s m meth c cX10_slotOf 4 args RX10 (some FieldType.int) A D (zty cy)) :
    ∀ (n : Nat) (v3 : Int32) (H : Heap) (locs : List Loc) (ls : Array Slot), zl1 (b_X10_slotOf_2 Sp1 x2) n v3 = some r → va_P D vwCl (wAI hp1 cy 325 Sp1) H → va_D A (wAI hp1 cy 325 Sp1) → va_S A s.heap H locs → lv_has ls 4 [(1, .ref (hp1 0)), (2, .int x2), (3, .int v3)] → W p l e (zRm 0 0) s m args below meth c H locs 0 0 (MQ below (zQI D (zty cy) A (wAI hp1 cy 325 Sp1) r) args s 0 0 A) (F0 m 2 ls []) := by
  obtain ⟨hx, hb, hr, hts, hown, hlocks, hml, hA, hK⟩ := id C
  intro n
  induction n with
  | zero => intro v3 H locs ls hf; exact zno hf
  | succ n ih =>
    intro v3 H locs ls hf hP hD hS hl
    have hf : b_X10_slotOf_2 Sp1 x2 (zl1 (b_X10_slotOf_2 Sp1 x2) n) v3 = some r := hf
    have K2 := ih
    refine lv_iload_n hx hb dX10_slotOf_2 rfl (lv_at hl 2 rfl) ?_
    refine lv_bipush (v := (6 : Int32)) hx hb dX10_slotOf_3 (by decide) ?_
    refine z_icmp_ge (tgt := 27) hx hb dX10_slotOf_5 (by decide) hf (fun hf => ?_) (fun hf => ?_)
    · refine lv_bipush (v := (-2 : Int32)) hx hb dX10_slotOf_27 (by decide) ?_
      obtain rfl := Option.some.inj hf
      exact z_iret (v := (-2 : Int32)) C hP hD hS dX10_slotOf_29
    · refine lv_aload_n hx hb dX10_slotOf_8 rfl (lv_at hl 0 rfl) ?_
      refine lv_sipush (v := (304 : Int32)) hx hb dX10_slotOf_9 (by decide) ?_
      refine lv_iload_n hx hb dX10_slotOf_12 rfl (lv_at hl 2 rfl) ?_
      refine lv_iadd hx hb dX10_slotOf_13 ?_
      refine z_iald (f := Sp1) hx hb hK hP 0 0 rfl rfl dX10_slotOf_14 hf (fun hf => ?_)
      refine lv_iload_n hx hb dX10_slotOf_15 rfl (lv_at hl 1 rfl) ?_
      refine z_icmp_ne (tgt := 21) hx hb dX10_slotOf_16 (by decide) hf (fun hf => ?_) (fun hf => ?_)
      · refine lv_iinc (v := (v3 + (1 : Int32))) (lv' := [(3, .int (v3 + (1 : Int32))), (1, .ref (hp1 0)), (2, .int x2)]) hx hb dX10_slotOf_21 hl (k := 2) rfl rfl (by decide) rfl (fun ls hl => ?_)
        refine lv_goto (tgt := 2) hx hb dX10_slotOf_24 (by decide) ?_
        exact K2 (v3 + (1 : Int32)) H locs ls hf hP hD hS (lv_sub hl [1, 2, 0] rfl)
      · refine lv_iload_n hx hb dX10_slotOf_19 rfl (lv_at hl 2 rfl) ?_
        obtain rfl := Option.some.inj hf
        exact z_iret (v := v3) C hP hD hS dX10_slotOf_20
def f_X10_slotOf (Sp1 : Nat → Int32) (x2 : Int32) : Option (Int32) :=
  (zl1 (b_X10_slotOf_2 Sp1 x2) FU (0 : Int32))
set_option maxHeartbeats 4000000 in
set_option maxRecDepth 100000 in
theorem c_X10_slotOf (l : Launch) (D : va_G) (cy : Nat → ClassId) (ht : Nat → Nat) (hp1 : Nat → Nat) (Sp1 : Nat → Int32) (x2 : Int32) (r : Int32) (hf : f_X10_slotOf Sp1 x2 = some r) : zCI l yX10_slotOf cX10_slotOf 4 (some FieldType.int) 0 0 D (zty cy) [.ref (ht 0), .ref (hp1 0), .int x2] (wAI hp1 cy 325 Sp1) (wAI hp1 cy 325 Sp1) r := by
  refine zCI_of (by decide +kernel) (Nat.le_of_ble_eq_true rfl) ?_
  intro p e s m below meth c A ls C hP hD hS hl
  generalize hargs : ([.ref (ht 0), .ref (hp1 0), .int x2] : List Value).toArray = args at C ⊢
  have C : zX p s m meth c cX10_slotOf 4 args RX10 (some FieldType.int) A D (zty cy) := C
  obtain ⟨hx, hb, hr, hts, hown, hlocks, hml, hA, hK⟩ := id C
  have hl : lv_has ls 4 [(0, .ref (ht 0)), (1, .ref (hp1 0)), (2, .int x2)] := hl
  generalize hH : s.heap = H at hP ⊢
  have hS : va_S A s.heap H [] := by rw [← hH]; exact hS
  generalize ([] : List Loc) = locs at hS ⊢
  refine lv_iconst (v := (0 : Int32)) hx hb dX10_slotOf_0 (by decide) ?_
  refine lv_istore_n (lv' := [(3, .int (0 : Int32)), (0, .ref (ht 0)), (1, .ref (hp1 0)), (2, .int x2)]) hx hb dX10_slotOf_1 rfl hl (by decide) rfl (fun ls hl => ?_)
  exact w_X10_slotOf_2 l ht hp1 Sp1 x2 C FU (0 : Int32) H locs ls hf hP hD hS (lv_sub hl [2, 3, 0] rfl)
def b_X10_heldBy_79 (St : SMo) (Sp1 : Nat → Int32) (x2 : Int32) (x3 : Int32) (u0 : Int32) : Option (Int32) :=
  (if u0 < 0 then
    some (-2 : Int32)
    else
    (if zib ((240 : Int32) + u0) 325 then (if (Sp1 ((240 : Int32) + u0).toNatClampNeg) = (1 : Int32) then
        (if zib ((304 : Int32) + x2) 325 then (if u0 = (Sp1 ((304 : Int32) + x2).toNatClampNeg) then
            some (-2 : Int32)
            else
            (f_X10_slotOf Sp1 u0).bind (fun q1 =>
              some q1)) else none)
        else
        some (-2 : Int32)) else none))
set_option maxHeartbeats 4000000 in
set_option maxRecDepth 100000 in
theorem w_X10_heldBy_79 {p : Program} {e : Env} {s : State} {m : MethodId} {below : List Frame} {meth : Method} {c : Code} {A : Nat → Prop} {D : va_G} {cy : Nat → ClassId} {args : Array Value} {r : Int32} (l : Launch) (ht : Nat → Nat) (hp1 : Nat → Nat) (St : SMo) (Sp1 : Nat → Int32) (x2 : Int32) (x3 : Int32) (C : zX p s m meth c cX10_heldBy 7 args RX10 (some FieldType.int) A D (zty cy)) :
    ∀ (u0 : Int32) (H : Heap) (locs : List Loc) (ls : Array Slot), b_X10_heldBy_79 St Sp1 x2 x3 u0 = some r → va_P D vwCl (wMo ht cy St ++ (wAI hp1 cy 325 Sp1)) H → va_D A (wMo ht cy St ++ (wAI hp1 cy 325 Sp1)) → va_S A s.heap H locs → lv_has ls 7 [(0, .ref (ht 0)), (1, .ref (hp1 0)), (2, .int x2)] → W p l e (zRm 5 119) s m args below meth c H locs 0 0 (MQ below (zQI D (zty cy) A (wMo ht cy St ++ (wAI hp1 cy 325 Sp1)) r) args s 0 0 A) (F0 m 79 ls [.int u0]) := by
  obtain ⟨hx, hb, hr, hts, hown, hlocks, hml, hA, hK⟩ := id C
  intro u0 H locs ls hf hP hD hS hl
  refine lv_istore (lv' := [(6, .int u0), (0, .ref (ht 0)), (1, .ref (hp1 0)), (2, .int x2)]) hx hb dX10_heldBy_79 hl (by decide) rfl (fun ls hl => ?_)
  refine lv_iload hx hb dX10_heldBy_81 (lv_at hl 0 rfl) ?_
  refine z_if_lt (tgt := 120) hx hb dX10_heldBy_83 (by decide) hf (fun hf => ?_) (fun hf => ?_)
  · refine lv_bipush (v := (-2 : Int32)) hx hb dX10_heldBy_120 (by decide) ?_
    obtain rfl := Option.some.inj hf
    exact z_iret (v := (-2 : Int32)) C hP hD hS dX10_heldBy_122
  · refine lv_aload_n hx hb dX10_heldBy_86 rfl (lv_at hl 2 rfl) ?_
    refine lv_sipush (v := (240 : Int32)) hx hb dX10_heldBy_87 (by decide) ?_
    refine lv_iload hx hb dX10_heldBy_90 (lv_at hl 0 rfl) ?_
    refine lv_iadd hx hb dX10_heldBy_92 ?_
    refine z_iald (f := Sp1) hx hb hK hP 1 0 rfl rfl dX10_heldBy_93 hf (fun hf => ?_)
    refine lv_iconst (v := (1 : Int32)) hx hb dX10_heldBy_94 (by decide) ?_
    refine z_icmp_ne (tgt := 120) hx hb dX10_heldBy_95 (by decide) hf (fun hf => ?_) (fun hf => ?_)
    · refine lv_bipush (v := (-2 : Int32)) hx hb dX10_heldBy_120 (by decide) ?_
      obtain rfl := Option.some.inj hf
      exact z_iret (v := (-2 : Int32)) C hP hD hS dX10_heldBy_122
    · refine lv_iload hx hb dX10_heldBy_98 (lv_at hl 0 rfl) ?_
      refine lv_aload_n hx hb dX10_heldBy_100 rfl (lv_at hl 2 rfl) ?_
      refine lv_sipush (v := (304 : Int32)) hx hb dX10_heldBy_101 (by decide) ?_
      refine lv_iload_n hx hb dX10_heldBy_104 rfl (lv_at hl 3 rfl) ?_
      refine lv_iadd hx hb dX10_heldBy_105 ?_
      refine z_iald (f := Sp1) hx hb hK hP 1 0 rfl rfl dX10_heldBy_106 hf (fun hf => ?_)
      refine z_icmp_eq (tgt := 120) hx hb dX10_heldBy_107 (by decide) hf (fun hf => ?_) (fun hf => ?_)
      · refine lv_bipush (v := (-2 : Int32)) hx hb dX10_heldBy_120 (by decide) ?_
        obtain rfl := Option.some.inj hf
        exact z_iret (v := (-2 : Int32)) C hP hD hS dX10_heldBy_122
      · refine lv_aload_n hx hb dX10_heldBy_110 rfl (lv_at hl 1 rfl) ?_
        refine lv_aload_n hx hb dX10_heldBy_111 rfl (lv_at hl 2 rfl) ?_
        refine lv_iload hx hb dX10_heldBy_112 (lv_at hl 0 rfl) ?_
        obtain ⟨q1, hc, hf⟩ := zbd hf
        refine z_cVi (As := [.ref (hp1 0), .int u0]) (rest := []) C (c_X10_slotOf l D cy ht hp1 Sp1 u0 q1 hc) gV_X10_X10_slotOf hd_X10_slotOf ⟨Nat.le_of_ble_eq_true rfl, Nat.le_of_ble_eq_true rfl⟩ ⟨Nat.le_refl _, Nat.le_refl _⟩ (va_recv hK hP (ci := 6) (q0 := 0) rfl rfl) hP hD hS (w2 := wMo ht cy St ++ (wAI hp1 cy 325 Sp1)) [1] [0] [0, 1] rfl rfl rfl rfl rfl rfl (by decide) hl.1 (Nat.le_of_ble_eq_true rfl) dX10_heldBy_114 (fun H locs hP hD hS => ?_)
        refine lv_goto (tgt := 122) hx hb dX10_heldBy_117 (by decide) ?_
        obtain rfl := Option.some.inj hf
        exact z_iret (v := q1) C hP hD hS dX10_heldBy_122
def f_X10_heldBy (St : SMo) (Sp1 : Nat → Int32) (x2 : Int32) (x3 : Int32) : Option (Int32) :=
  (f_X10_seenIn St Sp1 x2 x3).bind (fun q2 =>
    (if q2 < 0 then
      (f_X10_lastOf Sp1 x3).bind (fun q3 =>
        (if 0 ≤ q3 then
          (if zib ((96 : Int32) + q3) 325 then (b_X10_heldBy_79 St Sp1 x2 x3 (Sp1 ((96 : Int32) + q3).toNatClampNeg)) else none)
          else
          (b_X10_heldBy_79 St Sp1 x2 x3 (-2 : Int32))))
      else
      (if zib ((144 : Int32) + q2) 325 then (if (Sp1 ((144 : Int32) + q2).toNatClampNeg) < 0 then
          some (-2 : Int32)
          else
          (if zib ((240 : Int32) + (Sp1 ((144 : Int32) + q2).toNatClampNeg)) 325 then (if (Sp1 ((240 : Int32) + (Sp1 ((144 : Int32) + q2).toNatClampNeg)).toNatClampNeg) = (1 : Int32) then
              (f_X10_slotOf Sp1 (Sp1 ((144 : Int32) + q2).toNatClampNeg)).bind (fun q4 =>
                some q4)
              else
              some (-2 : Int32)) else none)) else none)))
set_option maxHeartbeats 4000000 in
set_option maxRecDepth 100000 in
theorem c_X10_heldBy (l : Launch) (D : va_G) (cy : Nat → ClassId) (ht : Nat → Nat) (hp1 : Nat → Nat) (St : SMo) (Sp1 : Nat → Int32) (x2 : Int32) (x3 : Int32) (r : Int32) (hf : f_X10_heldBy St Sp1 x2 x3 = some r) : zCI l yX10_heldBy cX10_heldBy 7 (some FieldType.int) 5 119 D (zty cy) [.ref (ht 0), .ref (hp1 0), .int x2, .int x3] (wMo ht cy St ++ (wAI hp1 cy 325 Sp1)) (wMo ht cy St ++ (wAI hp1 cy 325 Sp1)) r := by
  refine zCI_of (by decide +kernel) (Nat.le_of_ble_eq_true rfl) ?_
  intro p e s m below meth c A ls C hP hD hS hl
  generalize hargs : ([.ref (ht 0), .ref (hp1 0), .int x2, .int x3] : List Value).toArray = args at C ⊢
  have C : zX p s m meth c cX10_heldBy 7 args RX10 (some FieldType.int) A D (zty cy) := C
  obtain ⟨hx, hb, hr, hts, hown, hlocks, hml, hA, hK⟩ := id C
  have hl : lv_has ls 7 [(0, .ref (ht 0)), (1, .ref (hp1 0)), (2, .int x2), (3, .int x3)] := hl
  generalize hH : s.heap = H at hP ⊢
  have hS : va_S A s.heap H [] := by rw [← hH]; exact hS
  generalize ([] : List Loc) = locs at hS ⊢
  refine lv_aload_n hx hb dX10_heldBy_0 rfl (lv_at hl 0 rfl) ?_
  refine lv_aload_n hx hb dX10_heldBy_1 rfl (lv_at hl 1 rfl) ?_
  refine lv_iload_n hx hb dX10_heldBy_2 rfl (lv_at hl 2 rfl) ?_
  refine lv_iload_n hx hb dX10_heldBy_3 rfl (lv_at hl 3 rfl) ?_
  obtain ⟨q2, hc, hf⟩ := zbd hf
  refine z_cVi0 (As := [.ref (hp1 0), .int x2, .int x3]) (rest := []) C (c_X10_seenIn l D cy ht hp1 St Sp1 x2 x3 q2 hc) gV_X10_X10_seenIn hd_X10_seenIn ⟨Nat.le_of_ble_eq_true rfl, Nat.le_of_ble_eq_true rfl⟩ ⟨Nat.le_refl _, Nat.le_refl _⟩ (va_recv hK hP (ci := 6) (q0 := 0) rfl rfl) hP hD hS hl.1 (Nat.le_of_ble_eq_true rfl) dX10_heldBy_4 (fun H locs hP hD hS => ?_)
  have hP : va_P D vwCl (wMo ht cy St ++ (wAI hp1 cy 325 Sp1)) H := hP
  have hD : va_D A (wMo ht cy St ++ (wAI hp1 cy 325 Sp1)) := hD
  refine lv_istore (lv' := [(4, .int q2), (0, .ref (ht 0)), (1, .ref (hp1 0)), (2, .int x2), (3, .int x3)]) hx hb dX10_heldBy_7 hl (by decide) rfl (fun ls hl => ?_)
  refine lv_iload hx hb dX10_heldBy_9 (lv_at hl 0 rfl) ?_
  refine z_if_lt (tgt := 54) hx hb dX10_heldBy_11 (by decide) hf (fun hf => ?_) (fun hf => ?_)
  · refine lv_aload_n hx hb dX10_heldBy_54 rfl (lv_at hl 1 rfl) ?_
    refine lv_aload_n hx hb dX10_heldBy_55 rfl (lv_at hl 2 rfl) ?_
    refine lv_iload_n hx hb dX10_heldBy_56 rfl (lv_at hl 4 rfl) ?_
    obtain ⟨q3, hc, hf⟩ := zbd hf
    refine z_cVi (As := [.ref (hp1 0), .int x3]) (rest := []) C (c_X10_lastOf l D cy ht hp1 Sp1 x3 q3 hc) gV_X10_X10_lastOf hd_X10_lastOf ⟨Nat.le_of_ble_eq_true rfl, Nat.le_of_ble_eq_true rfl⟩ ⟨Nat.le_refl _, Nat.le_refl _⟩ (va_recv hK hP (ci := 6) (q0 := 0) rfl rfl) hP hD hS (w2 := wMo ht cy St ++ (wAI hp1 cy 325 Sp1)) [1] [0] [0, 1] rfl rfl rfl rfl rfl rfl (by decide) hl.1 (Nat.le_of_ble_eq_true rfl) dX10_heldBy_57 (fun H locs hP hD hS => ?_)
    refine lv_istore (lv' := [(5, .int q3), (4, .int q2), (0, .ref (ht 0)), (1, .ref (hp1 0)), (2, .int x2), (3, .int x3)]) hx hb dX10_heldBy_60 hl (by decide) rfl (fun ls hl => ?_)
    refine lv_iload hx hb dX10_heldBy_62 (lv_at hl 0 rfl) ?_
    refine z_if_ge (tgt := 72) hx hb dX10_heldBy_64 (by decide) hf (fun hf => ?_) (fun hf => ?_)
    · refine lv_aload_n hx hb dX10_heldBy_72 rfl (lv_at hl 3 rfl) ?_
      refine lv_bipush (v := (96 : Int32)) hx hb dX10_heldBy_73 (by decide) ?_
      refine lv_iload hx hb dX10_heldBy_75 (lv_at hl 0 rfl) ?_
      refine lv_iadd hx hb dX10_heldBy_77 ?_
      refine z_iald (f := Sp1) hx hb hK hP 1 0 rfl rfl dX10_heldBy_78 hf (fun hf => ?_)
      exact w_X10_heldBy_79 l ht hp1 St Sp1 x2 x3 C (Sp1 ((96 : Int32) + q3).toNatClampNeg) H locs ls hf hP hD hS (lv_sub hl [2, 3, 4] rfl)
    · refine lv_bipush (v := (-2 : Int32)) hx hb dX10_heldBy_67 (by decide) ?_
      refine lv_goto (tgt := 79) hx hb dX10_heldBy_69 (by decide) ?_
      exact w_X10_heldBy_79 l ht hp1 St Sp1 x2 x3 C (-2 : Int32) H locs ls hf hP hD hS (lv_sub hl [2, 3, 4] rfl)
  · refine lv_aload_n hx hb dX10_heldBy_14 rfl (lv_at hl 2 rfl) ?_
    refine lv_sipush (v := (144 : Int32)) hx hb dX10_heldBy_15 (by decide) ?_
    refine lv_iload hx hb dX10_heldBy_18 (lv_at hl 0 rfl) ?_
    refine lv_iadd hx hb dX10_heldBy_20 ?_
    refine z_iald (f := Sp1) hx hb hK hP 1 0 rfl rfl dX10_heldBy_21 hf (fun hf => ?_)
    refine lv_istore (lv' := [(5, .int (Sp1 ((144 : Int32) + q2).toNatClampNeg)), (4, .int q2), (0, .ref (ht 0)), (1, .ref (hp1 0)), (2, .int x2), (3, .int x3)]) hx hb dX10_heldBy_22 hl (by decide) rfl (fun ls hl => ?_)
    refine lv_iload hx hb dX10_heldBy_24 (lv_at hl 0 rfl) ?_
    refine z_if_lt (tgt := 51) hx hb dX10_heldBy_26 (by decide) hf (fun hf => ?_) (fun hf => ?_)
    · refine lv_bipush (v := (-2 : Int32)) hx hb dX10_heldBy_51 (by decide) ?_
      obtain rfl := Option.some.inj hf
      exact z_iret (v := (-2 : Int32)) C hP hD hS dX10_heldBy_53
    · refine lv_aload_n hx hb dX10_heldBy_29 rfl (lv_at hl 3 rfl) ?_
      refine lv_sipush (v := (240 : Int32)) hx hb dX10_heldBy_30 (by decide) ?_
      refine lv_iload hx hb dX10_heldBy_33 (lv_at hl 0 rfl) ?_
      refine lv_iadd hx hb dX10_heldBy_35 ?_
      refine z_iald (f := Sp1) hx hb hK hP 1 0 rfl rfl dX10_heldBy_36 hf (fun hf => ?_)
      refine lv_iconst (v := (1 : Int32)) hx hb dX10_heldBy_37 (by decide) ?_
      refine z_icmp_ne (tgt := 51) hx hb dX10_heldBy_38 (by decide) hf (fun hf => ?_) (fun hf => ?_)
      · refine lv_bipush (v := (-2 : Int32)) hx hb dX10_heldBy_51 (by decide) ?_
        obtain rfl := Option.some.inj hf
        exact z_iret (v := (-2 : Int32)) C hP hD hS dX10_heldBy_53
      · refine lv_aload_n hx hb dX10_heldBy_41 rfl (lv_at hl 2 rfl) ?_
        refine lv_aload_n hx hb dX10_heldBy_42 rfl (lv_at hl 3 rfl) ?_
        refine lv_iload hx hb dX10_heldBy_43 (lv_at hl 0 rfl) ?_
        obtain ⟨q4, hc, hf⟩ := zbd hf
        refine z_cVi (As := [.ref (hp1 0), .int (Sp1 ((144 : Int32) + q2).toNatClampNeg)]) (rest := []) C (c_X10_slotOf l D cy ht hp1 Sp1 (Sp1 ((144 : Int32) + q2).toNatClampNeg) q4 hc) gV_X10_X10_slotOf hd_X10_slotOf ⟨Nat.le_of_ble_eq_true rfl, Nat.le_of_ble_eq_true rfl⟩ ⟨Nat.le_refl _, Nat.le_refl _⟩ (va_recv hK hP (ci := 6) (q0 := 0) rfl rfl) hP hD hS (w2 := wMo ht cy St ++ (wAI hp1 cy 325 Sp1)) [1] [0] [0, 1] rfl rfl rfl rfl rfl rfl (by decide) hl.1 (Nat.le_of_ble_eq_true rfl) dX10_heldBy_45 (fun H locs hP hD hS => ?_)
        refine lv_goto (tgt := 53) hx hb dX10_heldBy_48 (by decide) ?_
        obtain rfl := Option.some.inj hf
        exact z_iret (v := q4) C hP hD hS dX10_heldBy_53
def b_X10_wouldLose_72 (St : SMo) (Sp1 : Nat → Int32) (x2 : Int32) (x3 : Int32) (u0 : Int32) : Option (Int32) :=
  (if u0 < 0 then
    some (0 : Int32)
    else
    (f_X10_doesCount St Sp1 x2 u0).bind (fun q1 =>
      (if q1 = 0 then
        some (1 : Int32)
        else
        some (0 : Int32))))
set_option maxHeartbeats 4000000 in
set_option maxRecDepth 100000 in
theorem w_X10_wouldLose_72 {p : Program} {e : Env} {s : State} {m : MethodId} {below : List Frame} {meth : Method} {c : Code} {A : Nat → Prop} {D : va_G} {cy : Nat → ClassId} {args : Array Value} {r : Int32} (l : Launch) (ht : Nat → Nat) (hp1 : Nat → Nat) (St : SMo) (Sp1 : Nat → Int32) (x2 : Int32) (x3 : Int32) (C : zX p s m meth c cX10_wouldLose 7 args RX10 (some FieldType.boolean) A D (zty cy)) :
    ∀ (u0 : Int32) (H : Heap) (locs : List Loc) (ls : Array Slot), b_X10_wouldLose_72 St Sp1 x2 x3 u0 = some r → va_P D vwCl (wMo ht cy St ++ (wAI hp1 cy 325 Sp1)) H → va_D A (wMo ht cy St ++ (wAI hp1 cy 325 Sp1)) → va_S A s.heap H locs → lv_has ls 7 [(0, .ref (ht 0)), (1, .ref (hp1 0)), (2, .int x2)] → W p l e (zRm 5 119) s m args below meth c H locs 0 0 (MQ below (zQI D (zty cy) A (wMo ht cy St ++ (wAI hp1 cy 325 Sp1)) r) args s 0 0 A) (F0 m 72 ls [.int u0]) := by
  obtain ⟨hx, hb, hr, hts, hown, hlocks, hml, hA, hK⟩ := id C
  intro u0 H locs ls hf hP hD hS hl
  refine lv_istore (lv' := [(6, .int u0), (0, .ref (ht 0)), (1, .ref (hp1 0)), (2, .int x2)]) hx hb dX10_wouldLose_72 hl (by decide) rfl (fun ls hl => ?_)
  refine lv_iload hx hb dX10_wouldLose_74 (lv_at hl 0 rfl) ?_
  refine z_if_lt (tgt := 94) hx hb dX10_wouldLose_76 (by decide) hf (fun hf => ?_) (fun hf => ?_)
  · refine lv_iconst (v := (0 : Int32)) hx hb dX10_wouldLose_94 (by decide) ?_
    obtain rfl := Option.some.inj hf
    exact z_zret (v := (0 : Int32)) C rfl hP hD hS dX10_wouldLose_95
  · refine lv_aload_n hx hb dX10_wouldLose_79 rfl (lv_at hl 1 rfl) ?_
    refine lv_aload_n hx hb dX10_wouldLose_80 rfl (lv_at hl 2 rfl) ?_
    refine lv_iload_n hx hb dX10_wouldLose_81 rfl (lv_at hl 3 rfl) ?_
    refine lv_iload hx hb dX10_wouldLose_82 (lv_at hl 0 rfl) ?_
    obtain ⟨q1, hc, hf⟩ := zbd hf
    refine z_cVi0 (As := [.ref (hp1 0), .int x2, .int u0]) (rest := []) C (c_X10_doesCount l D cy ht hp1 St Sp1 x2 u0 q1 hc) gV_X10_X10_doesCount hd_X10_doesCount ⟨Nat.le_of_ble_eq_true rfl, Nat.le_of_ble_eq_true rfl⟩ ⟨Nat.le_refl _, Nat.le_refl _⟩ (va_recv hK hP (ci := 6) (q0 := 0) rfl rfl) hP hD hS hl.1 (Nat.le_of_ble_eq_true rfl) dX10_wouldLose_84 (fun H locs hP hD hS => ?_)
    have hP : va_P D vwCl (wMo ht cy St ++ (wAI hp1 cy 325 Sp1)) H := hP
    have hD : va_D A (wMo ht cy St ++ (wAI hp1 cy 325 Sp1)) := hD
    refine z_if_ne (tgt := 94) hx hb dX10_wouldLose_87 (by decide) hf (fun hf => ?_) (fun hf => ?_)
    · refine lv_iconst (v := (0 : Int32)) hx hb dX10_wouldLose_94 (by decide) ?_
      obtain rfl := Option.some.inj hf
      exact z_zret (v := (0 : Int32)) C rfl hP hD hS dX10_wouldLose_95
    · refine lv_iconst (v := (1 : Int32)) hx hb dX10_wouldLose_90 (by decide) ?_
      refine lv_goto (tgt := 95) hx hb dX10_wouldLose_91 (by decide) ?_
      obtain rfl := Option.some.inj hf
      exact z_zret (v := (1 : Int32)) C rfl hP hD hS dX10_wouldLose_95
def f_X10_wouldLose (St : SMo) (Sp1 : Nat → Int32) (x2 : Int32) (x3 : Int32) : Option (Int32) :=
  (f_X10_seenIn St Sp1 x2 x3).bind (fun q2 =>
    (if q2 < 0 then
      (f_X10_lastOf Sp1 x3).bind (fun q3 =>
        (if 0 ≤ q3 then
          (if zib ((96 : Int32) + q3) 325 then (b_X10_wouldLose_72 St Sp1 x2 x3 (Sp1 ((96 : Int32) + q3).toNatClampNeg)) else none)
          else
          (b_X10_wouldLose_72 St Sp1 x2 x3 (-2 : Int32))))
      else
      (if zib ((144 : Int32) + q2) 325 then (if (Sp1 ((144 : Int32) + q2).toNatClampNeg) < 0 then
          some (0 : Int32)
          else
          (if zib ((240 : Int32) + (Sp1 ((144 : Int32) + q2).toNatClampNeg)) 325 then (if (Sp1 ((240 : Int32) + (Sp1 ((144 : Int32) + q2).toNatClampNeg)).toNatClampNeg) = (2 : Int32) then
              some (1 : Int32)
              else
              some (0 : Int32)) else none)) else none)))
set_option maxHeartbeats 4000000 in
set_option maxRecDepth 100000 in
theorem c_X10_wouldLose (l : Launch) (D : va_G) (cy : Nat → ClassId) (ht : Nat → Nat) (hp1 : Nat → Nat) (St : SMo) (Sp1 : Nat → Int32) (x2 : Int32) (x3 : Int32) (r : Int32) (hf : f_X10_wouldLose St Sp1 x2 x3 = some r) : zCI l yX10_wouldLose cX10_wouldLose 7 (some FieldType.boolean) 5 119 D (zty cy) [.ref (ht 0), .ref (hp1 0), .int x2, .int x3] (wMo ht cy St ++ (wAI hp1 cy 325 Sp1)) (wMo ht cy St ++ (wAI hp1 cy 325 Sp1)) r := by
  refine zCI_of (by decide +kernel) (Nat.le_of_ble_eq_true rfl) ?_
  intro p e s m below meth c A ls C hP hD hS hl
  generalize hargs : ([.ref (ht 0), .ref (hp1 0), .int x2, .int x3] : List Value).toArray = args at C ⊢
  have C : zX p s m meth c cX10_wouldLose 7 args RX10 (some FieldType.boolean) A D (zty cy) := C
  obtain ⟨hx, hb, hr, hts, hown, hlocks, hml, hA, hK⟩ := id C
  have hl : lv_has ls 7 [(0, .ref (ht 0)), (1, .ref (hp1 0)), (2, .int x2), (3, .int x3)] := hl
  generalize hH : s.heap = H at hP ⊢
  have hS : va_S A s.heap H [] := by rw [← hH]; exact hS
  generalize ([] : List Loc) = locs at hS ⊢
  refine lv_aload_n hx hb dX10_wouldLose_0 rfl (lv_at hl 0 rfl) ?_
  refine lv_aload_n hx hb dX10_wouldLose_1 rfl (lv_at hl 1 rfl) ?_
  refine lv_iload_n hx hb dX10_wouldLose_2 rfl (lv_at hl 2 rfl) ?_
  refine lv_iload_n hx hb dX10_wouldLose_3 rfl (lv_at hl 3 rfl) ?_
  obtain ⟨q2, hc, hf⟩ := zbd hf
  refine z_cVi0 (As := [.ref (hp1 0), .int x2, .int x3]) (rest := []) C (c_X10_seenIn l D cy ht hp1 St Sp1 x2 x3 q2 hc) gV_X10_X10_seenIn hd_X10_seenIn ⟨Nat.le_of_ble_eq_true rfl, Nat.le_of_ble_eq_true rfl⟩ ⟨Nat.le_refl _, Nat.le_refl _⟩ (va_recv hK hP (ci := 6) (q0 := 0) rfl rfl) hP hD hS hl.1 (Nat.le_of_ble_eq_true rfl) dX10_wouldLose_4 (fun H locs hP hD hS => ?_)
  have hP : va_P D vwCl (wMo ht cy St ++ (wAI hp1 cy 325 Sp1)) H := hP
  have hD : va_D A (wMo ht cy St ++ (wAI hp1 cy 325 Sp1)) := hD
  refine lv_istore (lv' := [(4, .int q2), (0, .ref (ht 0)), (1, .ref (hp1 0)), (2, .int x2), (3, .int x3)]) hx hb dX10_wouldLose_7 hl (by decide) rfl (fun ls hl => ?_)
  refine lv_iload hx hb dX10_wouldLose_9 (lv_at hl 0 rfl) ?_
  refine z_if_lt (tgt := 47) hx hb dX10_wouldLose_11 (by decide) hf (fun hf => ?_) (fun hf => ?_)
  · refine lv_aload_n hx hb dX10_wouldLose_47 rfl (lv_at hl 1 rfl) ?_
    refine lv_aload_n hx hb dX10_wouldLose_48 rfl (lv_at hl 2 rfl) ?_
    refine lv_iload_n hx hb dX10_wouldLose_49 rfl (lv_at hl 4 rfl) ?_
    obtain ⟨q3, hc, hf⟩ := zbd hf
    refine z_cVi (As := [.ref (hp1 0), .int x3]) (rest := []) C (c_X10_lastOf l D cy ht hp1 Sp1 x3 q3 hc) gV_X10_X10_lastOf hd_X10_lastOf ⟨Nat.le_of_ble_eq_true rfl, Nat.le_of_ble_eq_true rfl⟩ ⟨Nat.le_refl _, Nat.le_refl _⟩ (va_recv hK hP (ci := 6) (q0 := 0) rfl rfl) hP hD hS (w2 := wMo ht cy St ++ (wAI hp1 cy 325 Sp1)) [1] [0] [0, 1] rfl rfl rfl rfl rfl rfl (by decide) hl.1 (Nat.le_of_ble_eq_true rfl) dX10_wouldLose_50 (fun H locs hP hD hS => ?_)
    refine lv_istore (lv' := [(5, .int q3), (4, .int q2), (0, .ref (ht 0)), (1, .ref (hp1 0)), (2, .int x2), (3, .int x3)]) hx hb dX10_wouldLose_53 hl (by decide) rfl (fun ls hl => ?_)
    refine lv_iload hx hb dX10_wouldLose_55 (lv_at hl 0 rfl) ?_
    refine z_if_ge (tgt := 65) hx hb dX10_wouldLose_57 (by decide) hf (fun hf => ?_) (fun hf => ?_)
    · refine lv_aload_n hx hb dX10_wouldLose_65 rfl (lv_at hl 3 rfl) ?_
      refine lv_bipush (v := (96 : Int32)) hx hb dX10_wouldLose_66 (by decide) ?_
      refine lv_iload hx hb dX10_wouldLose_68 (lv_at hl 0 rfl) ?_
      refine lv_iadd hx hb dX10_wouldLose_70 ?_
      refine z_iald (f := Sp1) hx hb hK hP 1 0 rfl rfl dX10_wouldLose_71 hf (fun hf => ?_)
      exact w_X10_wouldLose_72 l ht hp1 St Sp1 x2 x3 C (Sp1 ((96 : Int32) + q3).toNatClampNeg) H locs ls hf hP hD hS (lv_sub hl [2, 3, 4] rfl)
    · refine lv_bipush (v := (-2 : Int32)) hx hb dX10_wouldLose_60 (by decide) ?_
      refine lv_goto (tgt := 72) hx hb dX10_wouldLose_62 (by decide) ?_
      exact w_X10_wouldLose_72 l ht hp1 St Sp1 x2 x3 C (-2 : Int32) H locs ls hf hP hD hS (lv_sub hl [2, 3, 4] rfl)
  · refine lv_aload_n hx hb dX10_wouldLose_14 rfl (lv_at hl 2 rfl) ?_
    refine lv_sipush (v := (144 : Int32)) hx hb dX10_wouldLose_15 (by decide) ?_
    refine lv_iload hx hb dX10_wouldLose_18 (lv_at hl 0 rfl) ?_
    refine lv_iadd hx hb dX10_wouldLose_20 ?_
    refine z_iald (f := Sp1) hx hb hK hP 1 0 rfl rfl dX10_wouldLose_21 hf (fun hf => ?_)
    refine lv_istore (lv' := [(5, .int (Sp1 ((144 : Int32) + q2).toNatClampNeg)), (4, .int q2), (0, .ref (ht 0)), (1, .ref (hp1 0)), (2, .int x2), (3, .int x3)]) hx hb dX10_wouldLose_22 hl (by decide) rfl (fun ls hl => ?_)
    refine lv_iload hx hb dX10_wouldLose_24 (lv_at hl 0 rfl) ?_
    refine z_if_lt (tgt := 45) hx hb dX10_wouldLose_26 (by decide) hf (fun hf => ?_) (fun hf => ?_)
    · refine lv_iconst (v := (0 : Int32)) hx hb dX10_wouldLose_45 (by decide) ?_
      obtain rfl := Option.some.inj hf
      exact z_zret (v := (0 : Int32)) C rfl hP hD hS dX10_wouldLose_46
    · refine lv_aload_n hx hb dX10_wouldLose_29 rfl (lv_at hl 3 rfl) ?_
      refine lv_sipush (v := (240 : Int32)) hx hb dX10_wouldLose_30 (by decide) ?_
      refine lv_iload hx hb dX10_wouldLose_33 (lv_at hl 0 rfl) ?_
      refine lv_iadd hx hb dX10_wouldLose_35 ?_
      refine z_iald (f := Sp1) hx hb hK hP 1 0 rfl rfl dX10_wouldLose_36 hf (fun hf => ?_)
      refine lv_iconst (v := (2 : Int32)) hx hb dX10_wouldLose_37 (by decide) ?_
      refine z_icmp_ne (tgt := 45) hx hb dX10_wouldLose_38 (by decide) hf (fun hf => ?_) (fun hf => ?_)
      · refine lv_iconst (v := (0 : Int32)) hx hb dX10_wouldLose_45 (by decide) ?_
        obtain rfl := Option.some.inj hf
        exact z_zret (v := (0 : Int32)) C rfl hP hD hS dX10_wouldLose_46
      · refine lv_iconst (v := (1 : Int32)) hx hb dX10_wouldLose_41 (by decide) ?_
        refine lv_goto (tgt := 46) hx hb dX10_wouldLose_42 (by decide) ?_
        obtain rfl := Option.some.inj hf
        exact z_zret (v := (1 : Int32)) C rfl hP hD hS dX10_wouldLose_46
def f_X10_doesRun (Sp1 : Nat → Int32) (x2 : Int32) : Option (Int32) :=
  (if zib ((304 : Int32) + x2) 325 then (if (Sp1 ((304 : Int32) + x2).toNatClampNeg) < 0 then
      some (0 : Int32)
      else
      some (1 : Int32)) else none)
set_option maxHeartbeats 4000000 in
set_option maxRecDepth 100000 in
theorem c_X10_doesRun (l : Launch) (D : va_G) (cy : Nat → ClassId) (ht : Nat → Nat) (hp1 : Nat → Nat) (Sp1 : Nat → Int32) (x2 : Int32) (r : Int32) (hf : f_X10_doesRun Sp1 x2 = some r) : zCI l yX10_doesRun cX10_doesRun 3 (some FieldType.boolean) 0 0 D (zty cy) [.ref (ht 0), .ref (hp1 0), .int x2] (wAI hp1 cy 325 Sp1) (wAI hp1 cy 325 Sp1) r := by
  refine zCI_of (by decide +kernel) (Nat.le_of_ble_eq_true rfl) ?_
  intro p e s m below meth c A ls C hP hD hS hl
  generalize hargs : ([.ref (ht 0), .ref (hp1 0), .int x2] : List Value).toArray = args at C ⊢
  have C : zX p s m meth c cX10_doesRun 3 args RX10 (some FieldType.boolean) A D (zty cy) := C
  obtain ⟨hx, hb, hr, hts, hown, hlocks, hml, hA, hK⟩ := id C
  have hl : lv_has ls 3 [(0, .ref (ht 0)), (1, .ref (hp1 0)), (2, .int x2)] := hl
  generalize hH : s.heap = H at hP ⊢
  have hS : va_S A s.heap H [] := by rw [← hH]; exact hS
  generalize ([] : List Loc) = locs at hS ⊢
  refine lv_aload_n hx hb dX10_doesRun_0 rfl (lv_at hl 1 rfl) ?_
  refine lv_sipush (v := (304 : Int32)) hx hb dX10_doesRun_1 (by decide) ?_
  refine lv_iload_n hx hb dX10_doesRun_4 rfl (lv_at hl 2 rfl) ?_
  refine lv_iadd hx hb dX10_doesRun_5 ?_
  refine z_iald (f := Sp1) hx hb hK hP 0 0 rfl rfl dX10_doesRun_6 hf (fun hf => ?_)
  refine z_if_lt (tgt := 14) hx hb dX10_doesRun_7 (by decide) hf (fun hf => ?_) (fun hf => ?_)
  · refine lv_iconst (v := (0 : Int32)) hx hb dX10_doesRun_14 (by decide) ?_
    obtain rfl := Option.some.inj hf
    exact z_zret (v := (0 : Int32)) C rfl hP hD hS dX10_doesRun_15
  · refine lv_iconst (v := (1 : Int32)) hx hb dX10_doesRun_10 (by decide) ?_
    refine lv_goto (tgt := 15) hx hb dX10_doesRun_11 (by decide) ?_
    obtain rfl := Option.some.inj hf
    exact z_zret (v := (1 : Int32)) C rfl hP hD hS dX10_doesRun_15
def b_X10_ageBack_16 (St : SMo) (Sp1 : Nat → Int32) (x2 : Int32) (k16 : Int32 → Int32 → Option (Int32)) (v3 : Int32) (v4 : Int32) : Option (Int32) :=
  (if (Mo_ring St) ≤ v4 then
    some v3
    else
    (f_X10_isIn Sp1 x2 v4).bind (fun q1 =>
      (if q1 = 0 then
        (k16 v3 (v4 + (1 : Int32)))
        else
        (f_X10_ageOf St Sp1 v4).bind (fun q2 =>
          (if q2 ≤ v3 then
            (k16 v3 (v4 + (1 : Int32)))
            else
            (f_X10_ageOf St Sp1 v4).bind (fun q3 =>
              (k16 q3 (v4 + (1 : Int32)))))))))
set_option maxHeartbeats 4000000 in
set_option maxRecDepth 100000 in
theorem w_X10_ageBack_16 {p : Program} {e : Env} {s : State} {m : MethodId} {below : List Frame} {meth : Method} {c : Code} {A : Nat → Prop} {D : va_G} {cy : Nat → ClassId} {args : Array Value} {r : Int32} (l : Launch) (ht : Nat → Nat) (hp1 : Nat → Nat) (St : SMo) (Sp1 : Nat → Int32) (x2 : Int32) (C : zX p s m meth c cX10_ageBack 5 args RX10 (some FieldType.int) A D (zty cy)) :
    ∀ (n : Nat) (v3 : Int32) (v4 : Int32) (H : Heap) (locs : List Loc) (ls : Array Slot), zl2 (b_X10_ageBack_16 St Sp1 x2) n v3 v4 = some r → va_P D vwCl (wMo ht cy St ++ (wAI hp1 cy 325 Sp1)) H → va_D A (wMo ht cy St ++ (wAI hp1 cy 325 Sp1)) → va_S A s.heap H locs → lv_has ls 5 [(0, .ref (ht 0)), (1, .ref (hp1 0)), (2, .int x2), (3, .int v3), (4, .int v4)] → W p l e (zRm 2 44) s m args below meth c H locs 0 0 (MQ below (zQI D (zty cy) A (wMo ht cy St ++ (wAI hp1 cy 325 Sp1)) r) args s 0 0 A) (F0 m 16 ls []) := by
  obtain ⟨hx, hb, hr, hts, hown, hlocks, hml, hA, hK⟩ := id C
  intro n
  induction n with
  | zero => intro v3 v4 H locs ls hf; exact zno hf
  | succ n ih =>
    intro v3 v4 H locs ls hf hP hD hS hl
    have hf : b_X10_ageBack_16 St Sp1 x2 (zl2 (b_X10_ageBack_16 St Sp1 x2) n) v3 v4 = some r := hf
    have K16 := ih
    refine lv_iload hx hb dX10_ageBack_16 (lv_at hl 4 rfl) ?_
    refine lv_aload_n hx hb dX10_ageBack_18 rfl (lv_at hl 0 rfl) ?_
    refine va_get (D := D) (ci := 6) (v := .int (Mo_ring St)) (C := RX10) (T := TX10) (N := 41) hx hb hts in_X10 hown hK hP 0 rfl rfl 27 (by decide) (hts _ q6_72) (fun _ h9 => h9) rfl dX10_ageBack_19 ?_
    refine z_icmp_ge (tgt := 61) hx hb dX10_ageBack_22 (by decide) hf (fun hf => ?_) (fun hf => ?_)
    · refine lv_iload_n hx hb dX10_ageBack_61 rfl (lv_at hl 3 rfl) ?_
      obtain rfl := Option.some.inj hf
      exact z_iret (v := v3) C hP hD hS dX10_ageBack_62
    · refine lv_aload_n hx hb dX10_ageBack_25 rfl (lv_at hl 0 rfl) ?_
      refine lv_aload_n hx hb dX10_ageBack_26 rfl (lv_at hl 1 rfl) ?_
      refine lv_iload_n hx hb dX10_ageBack_27 rfl (lv_at hl 2 rfl) ?_
      refine lv_iload hx hb dX10_ageBack_28 (lv_at hl 4 rfl) ?_
      obtain ⟨q1, hc, hf⟩ := zbd hf
      refine z_cVi (As := [.ref (hp1 0), .int x2, .int v4]) (rest := []) C (c_X10_isIn l D cy ht hp1 Sp1 x2 v4 q1 hc) gV_X10_X10_isIn hd_X10_isIn ⟨Nat.le_of_ble_eq_true rfl, Nat.le_of_ble_eq_true rfl⟩ ⟨Nat.le_refl _, Nat.le_refl _⟩ (va_recv hK hP (ci := 6) (q0 := 0) rfl rfl) hP hD hS (w2 := wMo ht cy St ++ (wAI hp1 cy 325 Sp1)) [1] [0] [0, 1] rfl rfl rfl rfl rfl rfl (by decide) hl.1 (Nat.le_of_ble_eq_true rfl) dX10_ageBack_30 (fun H locs hP hD hS => ?_)
      refine z_if_eq (tgt := 55) hx hb dX10_ageBack_33 (by decide) hf (fun hf => ?_) (fun hf => ?_)
      · refine lv_iinc (v := (v4 + (1 : Int32))) (lv' := [(4, .int (v4 + (1 : Int32))), (0, .ref (ht 0)), (1, .ref (hp1 0)), (2, .int x2), (3, .int v3)]) hx hb dX10_ageBack_55 hl (k := 4) rfl rfl (by decide) rfl (fun ls hl => ?_)
        refine lv_goto (tgt := 16) hx hb dX10_ageBack_58 (by decide) ?_
        exact K16 v3 (v4 + (1 : Int32)) H locs ls hf hP hD hS (lv_sub hl [1, 2, 3, 4, 0] rfl)
      · refine lv_aload_n hx hb dX10_ageBack_36 rfl (lv_at hl 0 rfl) ?_
        refine lv_aload_n hx hb dX10_ageBack_37 rfl (lv_at hl 1 rfl) ?_
        refine lv_iload hx hb dX10_ageBack_38 (lv_at hl 4 rfl) ?_
        obtain ⟨q2, hc, hf⟩ := zbd hf
        refine z_cVi0 (As := [.ref (hp1 0), .int v4]) (rest := []) C (c_X10_ageOf l D cy ht hp1 St Sp1 v4 q2 hc) gV_X10_X10_ageOf hd_X10_ageOf ⟨Nat.le_of_ble_eq_true rfl, Nat.le_of_ble_eq_true rfl⟩ ⟨Nat.le_refl _, Nat.le_refl _⟩ (va_recv hK hP (ci := 6) (q0 := 0) rfl rfl) hP hD hS hl.1 (Nat.le_of_ble_eq_true rfl) dX10_ageBack_40 (fun H locs hP hD hS => ?_)
        have hP : va_P D vwCl (wMo ht cy St ++ (wAI hp1 cy 325 Sp1)) H := hP
        have hD : va_D A (wMo ht cy St ++ (wAI hp1 cy 325 Sp1)) := hD
        refine lv_iload_n hx hb dX10_ageBack_43 rfl (lv_at hl 3 rfl) ?_
        refine z_icmp_le (tgt := 55) hx hb dX10_ageBack_44 (by decide) hf (fun hf => ?_) (fun hf => ?_)
        · refine lv_iinc (v := (v4 + (1 : Int32))) (lv' := [(4, .int (v4 + (1 : Int32))), (0, .ref (ht 0)), (1, .ref (hp1 0)), (2, .int x2), (3, .int v3)]) hx hb dX10_ageBack_55 hl (k := 4) rfl rfl (by decide) rfl (fun ls hl => ?_)
          refine lv_goto (tgt := 16) hx hb dX10_ageBack_58 (by decide) ?_
          exact K16 v3 (v4 + (1 : Int32)) H locs ls hf hP hD hS (lv_sub hl [1, 2, 3, 4, 0] rfl)
        · refine lv_aload_n hx hb dX10_ageBack_47 rfl (lv_at hl 0 rfl) ?_
          refine lv_aload_n hx hb dX10_ageBack_48 rfl (lv_at hl 1 rfl) ?_
          refine lv_iload hx hb dX10_ageBack_49 (lv_at hl 4 rfl) ?_
          obtain ⟨q3, hc, hf⟩ := zbd hf
          refine z_cVi0 (As := [.ref (hp1 0), .int v4]) (rest := []) C (c_X10_ageOf l D cy ht hp1 St Sp1 v4 q3 hc) gV_X10_X10_ageOf hd_X10_ageOf ⟨Nat.le_of_ble_eq_true rfl, Nat.le_of_ble_eq_true rfl⟩ ⟨Nat.le_refl _, Nat.le_refl _⟩ (va_recv hK hP (ci := 6) (q0 := 0) rfl rfl) hP hD hS hl.1 (Nat.le_of_ble_eq_true rfl) dX10_ageBack_51 (fun H locs hP hD hS => ?_)
          have hP : va_P D vwCl (wMo ht cy St ++ (wAI hp1 cy 325 Sp1)) H := hP
          have hD : va_D A (wMo ht cy St ++ (wAI hp1 cy 325 Sp1)) := hD
          refine lv_istore_n (lv' := [(3, .int q3), (0, .ref (ht 0)), (1, .ref (hp1 0)), (2, .int x2), (4, .int v4)]) hx hb dX10_ageBack_54 rfl hl (by decide) rfl (fun ls hl => ?_)
          refine lv_iinc (v := (v4 + (1 : Int32))) (lv' := [(4, .int (v4 + (1 : Int32))), (3, .int q3), (0, .ref (ht 0)), (1, .ref (hp1 0)), (2, .int x2)]) hx hb dX10_ageBack_55 hl (k := 4) rfl rfl (by decide) rfl (fun ls hl => ?_)
          refine lv_goto (tgt := 16) hx hb dX10_ageBack_58 (by decide) ?_
          exact K16 q3 (v4 + (1 : Int32)) H locs ls hf hP hD hS (lv_sub hl [2, 3, 4, 1, 0] rfl)
def f_X10_ageBack (St : SMo) (Sp1 : Nat → Int32) (x2 : Int32) : Option (Int32) :=
  (if zib ((304 : Int32) + x2) 325 then (f_X10_ageOf St Sp1 (Sp1 ((304 : Int32) + x2).toNatClampNeg)).bind (fun q4 =>
      (zl2 (b_X10_ageBack_16 St Sp1 x2) FU q4 (0 : Int32))) else none)
set_option maxHeartbeats 4000000 in
set_option maxRecDepth 100000 in
theorem c_X10_ageBack (l : Launch) (D : va_G) (cy : Nat → ClassId) (ht : Nat → Nat) (hp1 : Nat → Nat) (St : SMo) (Sp1 : Nat → Int32) (x2 : Int32) (r : Int32) (hf : f_X10_ageBack St Sp1 x2 = some r) : zCI l yX10_ageBack cX10_ageBack 5 (some FieldType.int) 2 44 D (zty cy) [.ref (ht 0), .ref (hp1 0), .int x2] (wMo ht cy St ++ (wAI hp1 cy 325 Sp1)) (wMo ht cy St ++ (wAI hp1 cy 325 Sp1)) r := by
  refine zCI_of (by decide +kernel) (Nat.le_of_ble_eq_true rfl) ?_
  intro p e s m below meth c A ls C hP hD hS hl
  generalize hargs : ([.ref (ht 0), .ref (hp1 0), .int x2] : List Value).toArray = args at C ⊢
  have C : zX p s m meth c cX10_ageBack 5 args RX10 (some FieldType.int) A D (zty cy) := C
  obtain ⟨hx, hb, hr, hts, hown, hlocks, hml, hA, hK⟩ := id C
  have hl : lv_has ls 5 [(0, .ref (ht 0)), (1, .ref (hp1 0)), (2, .int x2)] := hl
  generalize hH : s.heap = H at hP ⊢
  have hS : va_S A s.heap H [] := by rw [← hH]; exact hS
  generalize ([] : List Loc) = locs at hS ⊢
  refine lv_aload_n hx hb dX10_ageBack_0 rfl (lv_at hl 0 rfl) ?_
  refine lv_aload_n hx hb dX10_ageBack_1 rfl (lv_at hl 1 rfl) ?_
  refine lv_aload_n hx hb dX10_ageBack_2 rfl (lv_at hl 1 rfl) ?_
  refine lv_sipush (v := (304 : Int32)) hx hb dX10_ageBack_3 (by decide) ?_
  refine lv_iload_n hx hb dX10_ageBack_6 rfl (lv_at hl 2 rfl) ?_
  refine lv_iadd hx hb dX10_ageBack_7 ?_
  refine z_iald (f := Sp1) hx hb hK hP 1 0 rfl rfl dX10_ageBack_8 hf (fun hf => ?_)
  obtain ⟨q4, hc, hf⟩ := zbd hf
  refine z_cVi0 (As := [.ref (hp1 0), .int (Sp1 ((304 : Int32) + x2).toNatClampNeg)]) (rest := []) C (c_X10_ageOf l D cy ht hp1 St Sp1 (Sp1 ((304 : Int32) + x2).toNatClampNeg) q4 hc) gV_X10_X10_ageOf hd_X10_ageOf ⟨Nat.le_of_ble_eq_true rfl, Nat.le_of_ble_eq_true rfl⟩ ⟨Nat.le_refl _, Nat.le_refl _⟩ (va_recv hK hP (ci := 6) (q0 := 0) rfl rfl) hP hD hS hl.1 (Nat.le_of_ble_eq_true rfl) dX10_ageBack_9 (fun H locs hP hD hS => ?_)
  have hP : va_P D vwCl (wMo ht cy St ++ (wAI hp1 cy 325 Sp1)) H := hP
  have hD : va_D A (wMo ht cy St ++ (wAI hp1 cy 325 Sp1)) := hD
  refine lv_istore_n (lv' := [(3, .int q4), (0, .ref (ht 0)), (1, .ref (hp1 0)), (2, .int x2)]) hx hb dX10_ageBack_12 rfl hl (by decide) rfl (fun ls hl => ?_)
  refine lv_iconst (v := (0 : Int32)) hx hb dX10_ageBack_13 (by decide) ?_
  refine lv_istore (lv' := [(4, .int (0 : Int32)), (3, .int q4), (0, .ref (ht 0)), (1, .ref (hp1 0)), (2, .int x2)]) hx hb dX10_ageBack_14 hl (by decide) rfl (fun ls hl => ?_)
  exact w_X10_ageBack_16 l ht hp1 St Sp1 x2 C FU q4 (0 : Int32) H locs ls hf hP hD hS (lv_sub hl [2, 3, 4, 1, 0] rfl)
def b_X10_horizonOf_4 (St : SMo) (Sp1 : Nat → Int32) (k4 : Int32 → Int32 → Option (Int32)) (v2 : Int32) (v3 : Int32) : Option (Int32) :=
  (if (6 : Int32) ≤ v3 then
    (if zib (323 : Int32) 325 then (if (Mo_ring St) = 0 then none else some ((((Sp1 (323 : Int32).toNatClampNeg) - v2) + (Mo_ring St)) - (((Sp1 (323 : Int32).toNatClampNeg) - v2) + (Mo_ring St)) / (Mo_ring St) * (Mo_ring St))) else none)
    else
    (f_X10_doesRun Sp1 v3).bind (fun q1 =>
      (if q1 = 0 then
        (k4 v2 (v3 + (1 : Int32)))
        else
        (f_X10_ageBack St Sp1 v3).bind (fun q2 =>
          (if q2 ≤ v2 then
            (k4 v2 (v3 + (1 : Int32)))
            else
            (f_X10_ageBack St Sp1 v3).bind (fun q3 =>
              (k4 q3 (v3 + (1 : Int32)))))))))
set_option maxHeartbeats 4000000 in
set_option maxRecDepth 100000 in
theorem w_X10_horizonOf_4 {p : Program} {e : Env} {s : State} {m : MethodId} {below : List Frame} {meth : Method} {c : Code} {A : Nat → Prop} {D : va_G} {cy : Nat → ClassId} {args : Array Value} {r : Int32} (l : Launch) (ht : Nat → Nat) (hp1 : Nat → Nat) (St : SMo) (Sp1 : Nat → Int32) (C : zX p s m meth c cX10_horizonOf 4 args RX10 (some FieldType.int) A D (zty cy)) :
    ∀ (n : Nat) (v2 : Int32) (v3 : Int32) (H : Heap) (locs : List Loc) (ls : Array Slot), zl2 (b_X10_horizonOf_4 St Sp1) n v2 v3 = some r → va_P D vwCl (wMo ht cy St ++ (wAI hp1 cy 325 Sp1)) H → va_D A (wMo ht cy St ++ (wAI hp1 cy 325 Sp1)) → va_S A s.heap H locs → lv_has ls 4 [(0, .ref (ht 0)), (1, .ref (hp1 0)), (2, .int v2), (3, .int v3)] → W p l e (zRm 3 68) s m args below meth c H locs 0 0 (MQ below (zQI D (zty cy) A (wMo ht cy St ++ (wAI hp1 cy 325 Sp1)) r) args s 0 0 A) (F0 m 4 ls []) := by
  obtain ⟨hx, hb, hr, hts, hown, hlocks, hml, hA, hK⟩ := id C
  intro n
  induction n with
  | zero => intro v2 v3 H locs ls hf; exact zno hf
  | succ n ih =>
    intro v2 v3 H locs ls hf hP hD hS hl
    have hf : b_X10_horizonOf_4 St Sp1 (zl2 (b_X10_horizonOf_4 St Sp1) n) v2 v3 = some r := hf
    have K4 := ih
    refine lv_iload_n hx hb dX10_horizonOf_4 rfl (lv_at hl 3 rfl) ?_
    refine lv_bipush (v := (6 : Int32)) hx hb dX10_horizonOf_5 (by decide) ?_
    refine z_icmp_ge (tgt := 42) hx hb dX10_horizonOf_7 (by decide) hf (fun hf => ?_) (fun hf => ?_)
    · refine lv_aload_n hx hb dX10_horizonOf_42 rfl (lv_at hl 1 rfl) ?_
      refine lv_sipush (v := (323 : Int32)) hx hb dX10_horizonOf_43 (by decide) ?_
      refine z_iald (f := Sp1) hx hb hK hP 1 0 rfl rfl dX10_horizonOf_46 hf (fun hf => ?_)
      refine lv_iload_n hx hb dX10_horizonOf_47 rfl (lv_at hl 2 rfl) ?_
      refine lv_isub hx hb dX10_horizonOf_48 ?_
      refine lv_aload_n hx hb dX10_horizonOf_49 rfl (lv_at hl 0 rfl) ?_
      refine va_get (D := D) (ci := 6) (v := .int (Mo_ring St)) (C := RX10) (T := TX10) (N := 41) hx hb hts in_X10 hown hK hP 0 rfl rfl 27 (by decide) (hts _ q6_72) (fun _ h9 => h9) rfl dX10_horizonOf_50 ?_
      refine lv_iadd hx hb dX10_horizonOf_53 ?_
      refine lv_aload_n hx hb dX10_horizonOf_54 rfl (lv_at hl 0 rfl) ?_
      refine va_get (D := D) (ci := 6) (v := .int (Mo_ring St)) (C := RX10) (T := TX10) (N := 41) hx hb hts in_X10 hown hK hP 0 rfl rfl 27 (by decide) (hts _ q6_72) (fun _ h9 => h9) rfl dX10_horizonOf_55 ?_
      refine z_irem hx hb dX10_horizonOf_58 hf (fun hf => ?_)
      obtain rfl := Option.some.inj hf
      exact z_iret (v := ((((Sp1 (323 : Int32).toNatClampNeg) - v2) + (Mo_ring St)) - (((Sp1 (323 : Int32).toNatClampNeg) - v2) + (Mo_ring St)) / (Mo_ring St) * (Mo_ring St))) C hP hD hS dX10_horizonOf_59
    · refine lv_aload_n hx hb dX10_horizonOf_10 rfl (lv_at hl 0 rfl) ?_
      refine lv_aload_n hx hb dX10_horizonOf_11 rfl (lv_at hl 1 rfl) ?_
      refine lv_iload_n hx hb dX10_horizonOf_12 rfl (lv_at hl 3 rfl) ?_
      obtain ⟨q1, hc, hf⟩ := zbd hf
      refine z_cVi (As := [.ref (hp1 0), .int v3]) (rest := []) C (c_X10_doesRun l D cy ht hp1 Sp1 v3 q1 hc) gV_X10_X10_doesRun hd_X10_doesRun ⟨Nat.le_of_ble_eq_true rfl, Nat.le_of_ble_eq_true rfl⟩ ⟨Nat.le_refl _, Nat.le_refl _⟩ (va_recv hK hP (ci := 6) (q0 := 0) rfl rfl) hP hD hS (w2 := wMo ht cy St ++ (wAI hp1 cy 325 Sp1)) [1] [0] [0, 1] rfl rfl rfl rfl rfl rfl (by decide) hl.1 (Nat.le_of_ble_eq_true rfl) dX10_horizonOf_13 (fun H locs hP hD hS => ?_)
      refine z_if_eq (tgt := 36) hx hb dX10_horizonOf_16 (by decide) hf (fun hf => ?_) (fun hf => ?_)
      · refine lv_iinc (v := (v3 + (1 : Int32))) (lv' := [(3, .int (v3 + (1 : Int32))), (0, .ref (ht 0)), (1, .ref (hp1 0)), (2, .int v2)]) hx hb dX10_horizonOf_36 hl (k := 3) rfl rfl (by decide) rfl (fun ls hl => ?_)
        refine lv_goto (tgt := 4) hx hb dX10_horizonOf_39 (by decide) ?_
        exact K4 v2 (v3 + (1 : Int32)) H locs ls hf hP hD hS (lv_sub hl [1, 2, 3, 0] rfl)
      · refine lv_aload_n hx hb dX10_horizonOf_19 rfl (lv_at hl 0 rfl) ?_
        refine lv_aload_n hx hb dX10_horizonOf_20 rfl (lv_at hl 1 rfl) ?_
        refine lv_iload_n hx hb dX10_horizonOf_21 rfl (lv_at hl 3 rfl) ?_
        obtain ⟨q2, hc, hf⟩ := zbd hf
        refine z_cVi0 (As := [.ref (hp1 0), .int v3]) (rest := []) C (c_X10_ageBack l D cy ht hp1 St Sp1 v3 q2 hc) gV_X10_X10_ageBack hd_X10_ageBack ⟨Nat.le_of_ble_eq_true rfl, Nat.le_of_ble_eq_true rfl⟩ ⟨Nat.le_refl _, Nat.le_refl _⟩ (va_recv hK hP (ci := 6) (q0 := 0) rfl rfl) hP hD hS hl.1 (Nat.le_of_ble_eq_true rfl) dX10_horizonOf_22 (fun H locs hP hD hS => ?_)
        have hP : va_P D vwCl (wMo ht cy St ++ (wAI hp1 cy 325 Sp1)) H := hP
        have hD : va_D A (wMo ht cy St ++ (wAI hp1 cy 325 Sp1)) := hD
        refine lv_iload_n hx hb dX10_horizonOf_25 rfl (lv_at hl 2 rfl) ?_
        refine z_icmp_le (tgt := 36) hx hb dX10_horizonOf_26 (by decide) hf (fun hf => ?_) (fun hf => ?_)
        · refine lv_iinc (v := (v3 + (1 : Int32))) (lv' := [(3, .int (v3 + (1 : Int32))), (0, .ref (ht 0)), (1, .ref (hp1 0)), (2, .int v2)]) hx hb dX10_horizonOf_36 hl (k := 3) rfl rfl (by decide) rfl (fun ls hl => ?_)
          refine lv_goto (tgt := 4) hx hb dX10_horizonOf_39 (by decide) ?_
          exact K4 v2 (v3 + (1 : Int32)) H locs ls hf hP hD hS (lv_sub hl [1, 2, 3, 0] rfl)
        · refine lv_aload_n hx hb dX10_horizonOf_29 rfl (lv_at hl 0 rfl) ?_
          refine lv_aload_n hx hb dX10_horizonOf_30 rfl (lv_at hl 1 rfl) ?_
          refine lv_iload_n hx hb dX10_horizonOf_31 rfl (lv_at hl 3 rfl) ?_
          obtain ⟨q3, hc, hf⟩ := zbd hf
          refine z_cVi0 (As := [.ref (hp1 0), .int v3]) (rest := []) C (c_X10_ageBack l D cy ht hp1 St Sp1 v3 q3 hc) gV_X10_X10_ageBack hd_X10_ageBack ⟨Nat.le_of_ble_eq_true rfl, Nat.le_of_ble_eq_true rfl⟩ ⟨Nat.le_refl _, Nat.le_refl _⟩ (va_recv hK hP (ci := 6) (q0 := 0) rfl rfl) hP hD hS hl.1 (Nat.le_of_ble_eq_true rfl) dX10_horizonOf_32 (fun H locs hP hD hS => ?_)
          have hP : va_P D vwCl (wMo ht cy St ++ (wAI hp1 cy 325 Sp1)) H := hP
          have hD : va_D A (wMo ht cy St ++ (wAI hp1 cy 325 Sp1)) := hD
          refine lv_istore_n (lv' := [(2, .int q3), (0, .ref (ht 0)), (1, .ref (hp1 0)), (3, .int v3)]) hx hb dX10_horizonOf_35 rfl hl (by decide) rfl (fun ls hl => ?_)
          refine lv_iinc (v := (v3 + (1 : Int32))) (lv' := [(3, .int (v3 + (1 : Int32))), (2, .int q3), (0, .ref (ht 0)), (1, .ref (hp1 0))]) hx hb dX10_horizonOf_36 hl (k := 3) rfl rfl (by decide) rfl (fun ls hl => ?_)
          refine lv_goto (tgt := 4) hx hb dX10_horizonOf_39 (by decide) ?_
          exact K4 q3 (v3 + (1 : Int32)) H locs ls hf hP hD hS (lv_sub hl [2, 3, 1, 0] rfl)
def f_X10_horizonOf (St : SMo) (Sp1 : Nat → Int32) : Option (Int32) :=
  (zl2 (b_X10_horizonOf_4 St Sp1) FU (0 : Int32) (0 : Int32))
set_option maxHeartbeats 4000000 in
set_option maxRecDepth 100000 in
theorem c_X10_horizonOf (l : Launch) (D : va_G) (cy : Nat → ClassId) (ht : Nat → Nat) (hp1 : Nat → Nat) (St : SMo) (Sp1 : Nat → Int32) (r : Int32) (hf : f_X10_horizonOf St Sp1 = some r) : zCI l yX10_horizonOf cX10_horizonOf 4 (some FieldType.int) 3 68 D (zty cy) [.ref (ht 0), .ref (hp1 0)] (wMo ht cy St ++ (wAI hp1 cy 325 Sp1)) (wMo ht cy St ++ (wAI hp1 cy 325 Sp1)) r := by
  refine zCI_of (by decide +kernel) (Nat.le_of_ble_eq_true rfl) ?_
  intro p e s m below meth c A ls C hP hD hS hl
  generalize hargs : ([.ref (ht 0), .ref (hp1 0)] : List Value).toArray = args at C ⊢
  have C : zX p s m meth c cX10_horizonOf 4 args RX10 (some FieldType.int) A D (zty cy) := C
  obtain ⟨hx, hb, hr, hts, hown, hlocks, hml, hA, hK⟩ := id C
  have hl : lv_has ls 4 [(0, .ref (ht 0)), (1, .ref (hp1 0))] := hl
  generalize hH : s.heap = H at hP ⊢
  have hS : va_S A s.heap H [] := by rw [← hH]; exact hS
  generalize ([] : List Loc) = locs at hS ⊢
  refine lv_iconst (v := (0 : Int32)) hx hb dX10_horizonOf_0 (by decide) ?_
  refine lv_istore_n (lv' := [(2, .int (0 : Int32)), (0, .ref (ht 0)), (1, .ref (hp1 0))]) hx hb dX10_horizonOf_1 rfl hl (by decide) rfl (fun ls hl => ?_)
  refine lv_iconst (v := (0 : Int32)) hx hb dX10_horizonOf_2 (by decide) ?_
  refine lv_istore_n (lv' := [(3, .int (0 : Int32)), (2, .int (0 : Int32)), (0, .ref (ht 0)), (1, .ref (hp1 0))]) hx hb dX10_horizonOf_3 rfl hl (by decide) rfl (fun ls hl => ?_)
  exact w_X10_horizonOf_4 l ht hp1 St Sp1 C FU (0 : Int32) (0 : Int32) H locs ls hf hP hD hS (lv_sub hl [2, 3, 1, 0] rfl)
def b_X10_usedAge_103 (St : SMo) (Sp1 : Nat → Int32) (k45 : Int32 → Int32 → Option (Int32)) (v2 : Int32) (v3 : Int32) (v5 : Int32) : Option (Int32) :=
  (if v5 < 0 then
    (k45 v2 (v3 + (1 : Int32)))
    else
    (f_X10_ageOf St Sp1 v5).bind (fun q1 =>
      (if q1 ≤ v2 then
        (k45 v2 (v3 + (1 : Int32)))
        else
        (f_X10_ageOf St Sp1 v5).bind (fun q2 =>
          (k45 q2 (v3 + (1 : Int32)))))))
set_option maxHeartbeats 4000000 in
set_option maxRecDepth 100000 in
theorem w_X10_usedAge_103 {p : Program} {e : Env} {s : State} {m : MethodId} {below : List Frame} {meth : Method} {c : Code} {A : Nat → Prop} {D : va_G} {cy : Nat → ClassId} {args : Array Value} {r : Int32} (l : Launch) (ht : Nat → Nat) (hp1 : Nat → Nat) (St : SMo) (Sp1 : Nat → Int32) {k45 : Int32 → Int32 → Option (Int32)} (C : zX p s m meth c cX10_usedAge 6 args RX10 (some FieldType.int) A D (zty cy))
    (K45 : ∀ (v2 : Int32) (v3 : Int32) (H : Heap) (locs : List Loc) (ls : Array Slot), k45 v2 v3 = some r → va_P D vwCl (wMo ht cy St ++ (wAI hp1 cy 325 Sp1)) H → va_D A (wMo ht cy St ++ (wAI hp1 cy 325 Sp1)) → va_S A s.heap H locs → lv_has ls 6 [(0, .ref (ht 0)), (1, .ref (hp1 0)), (2, .int v2), (3, .int v3)] → W p l e (zRm 3 68) s m args below meth c H locs 0 0 (MQ below (zQI D (zty cy) A (wMo ht cy St ++ (wAI hp1 cy 325 Sp1)) r) args s 0 0 A) (F0 m 45 ls [])) :
    ∀ (v2 : Int32) (v3 : Int32) (v5 : Int32) (H : Heap) (locs : List Loc) (ls : Array Slot), b_X10_usedAge_103 St Sp1 k45 v2 v3 v5 = some r → va_P D vwCl (wMo ht cy St ++ (wAI hp1 cy 325 Sp1)) H → va_D A (wMo ht cy St ++ (wAI hp1 cy 325 Sp1)) → va_S A s.heap H locs → lv_has ls 6 [(0, .ref (ht 0)), (1, .ref (hp1 0)), (2, .int v2), (3, .int v3), (5, .int v5)] → W p l e (zRm 3 68) s m args below meth c H locs 0 0 (MQ below (zQI D (zty cy) A (wMo ht cy St ++ (wAI hp1 cy 325 Sp1)) r) args s 0 0 A) (F0 m 103 ls []) := by
  obtain ⟨hx, hb, hr, hts, hown, hlocks, hml, hA, hK⟩ := id C
  intro v2 v3 v5 H locs ls hf hP hD hS hl
  refine lv_iload hx hb dX10_usedAge_103 (lv_at hl 4 rfl) ?_
  refine z_if_lt (tgt := 127) hx hb dX10_usedAge_105 (by decide) hf (fun hf => ?_) (fun hf => ?_)
  · refine lv_iinc (v := (v3 + (1 : Int32))) (lv' := [(3, .int (v3 + (1 : Int32))), (0, .ref (ht 0)), (1, .ref (hp1 0)), (2, .int v2), (5, .int v5)]) hx hb dX10_usedAge_127 hl (k := 3) rfl rfl (by decide) rfl (fun ls hl => ?_)
    refine lv_goto (tgt := 45) hx hb dX10_usedAge_130 (by decide) ?_
    exact K45 v2 (v3 + (1 : Int32)) H locs ls hf hP hD hS (lv_sub hl [1, 2, 3, 0] rfl)
  · refine lv_aload_n hx hb dX10_usedAge_108 rfl (lv_at hl 0 rfl) ?_
    refine lv_aload_n hx hb dX10_usedAge_109 rfl (lv_at hl 1 rfl) ?_
    refine lv_iload hx hb dX10_usedAge_110 (lv_at hl 4 rfl) ?_
    obtain ⟨q1, hc, hf⟩ := zbd hf
    refine z_cVi0 (As := [.ref (hp1 0), .int v5]) (rest := []) C (c_X10_ageOf l D cy ht hp1 St Sp1 v5 q1 hc) gV_X10_X10_ageOf hd_X10_ageOf ⟨Nat.le_of_ble_eq_true rfl, Nat.le_of_ble_eq_true rfl⟩ ⟨Nat.le_refl _, Nat.le_refl _⟩ (va_recv hK hP (ci := 6) (q0 := 0) rfl rfl) hP hD hS hl.1 (Nat.le_of_ble_eq_true rfl) dX10_usedAge_112 (fun H locs hP hD hS => ?_)
    have hP : va_P D vwCl (wMo ht cy St ++ (wAI hp1 cy 325 Sp1)) H := hP
    have hD : va_D A (wMo ht cy St ++ (wAI hp1 cy 325 Sp1)) := hD
    refine lv_iload_n hx hb dX10_usedAge_115 rfl (lv_at hl 2 rfl) ?_
    refine z_icmp_le (tgt := 127) hx hb dX10_usedAge_116 (by decide) hf (fun hf => ?_) (fun hf => ?_)
    · refine lv_iinc (v := (v3 + (1 : Int32))) (lv' := [(3, .int (v3 + (1 : Int32))), (0, .ref (ht 0)), (1, .ref (hp1 0)), (2, .int v2), (5, .int v5)]) hx hb dX10_usedAge_127 hl (k := 3) rfl rfl (by decide) rfl (fun ls hl => ?_)
      refine lv_goto (tgt := 45) hx hb dX10_usedAge_130 (by decide) ?_
      exact K45 v2 (v3 + (1 : Int32)) H locs ls hf hP hD hS (lv_sub hl [1, 2, 3, 0] rfl)
    · refine lv_aload_n hx hb dX10_usedAge_119 rfl (lv_at hl 0 rfl) ?_
      refine lv_aload_n hx hb dX10_usedAge_120 rfl (lv_at hl 1 rfl) ?_
      refine lv_iload hx hb dX10_usedAge_121 (lv_at hl 4 rfl) ?_
      obtain ⟨q2, hc, hf⟩ := zbd hf
      refine z_cVi0 (As := [.ref (hp1 0), .int v5]) (rest := []) C (c_X10_ageOf l D cy ht hp1 St Sp1 v5 q2 hc) gV_X10_X10_ageOf hd_X10_ageOf ⟨Nat.le_of_ble_eq_true rfl, Nat.le_of_ble_eq_true rfl⟩ ⟨Nat.le_refl _, Nat.le_refl _⟩ (va_recv hK hP (ci := 6) (q0 := 0) rfl rfl) hP hD hS hl.1 (Nat.le_of_ble_eq_true rfl) dX10_usedAge_123 (fun H locs hP hD hS => ?_)
      have hP : va_P D vwCl (wMo ht cy St ++ (wAI hp1 cy 325 Sp1)) H := hP
      have hD : va_D A (wMo ht cy St ++ (wAI hp1 cy 325 Sp1)) := hD
      refine lv_istore_n (lv' := [(2, .int q2), (0, .ref (ht 0)), (1, .ref (hp1 0)), (3, .int v3), (5, .int v5)]) hx hb dX10_usedAge_126 rfl hl (by decide) rfl (fun ls hl => ?_)
      refine lv_iinc (v := (v3 + (1 : Int32))) (lv' := [(3, .int (v3 + (1 : Int32))), (2, .int q2), (0, .ref (ht 0)), (1, .ref (hp1 0)), (5, .int v5)]) hx hb dX10_usedAge_127 hl (k := 3) rfl rfl (by decide) rfl (fun ls hl => ?_)
      refine lv_goto (tgt := 45) hx hb dX10_usedAge_130 (by decide) ?_
      exact K45 q2 (v3 + (1 : Int32)) H locs ls hf hP hD hS (lv_sub hl [2, 3, 1, 0] rfl)
def b_X10_usedAge_45 (St : SMo) (Sp1 : Nat → Int32) (k45 : Int32 → Int32 → Option (Int32)) (v2 : Int32) (v3 : Int32) : Option (Int32) :=
  (if (48 : Int32) ≤ v3 then
    some v2
    else
    (if zib ((0 : Int32) + v3) 325 then (if (Sp1 ((0 : Int32) + v3).toNatClampNeg) = 0 then
        (k45 v2 (v3 + (1 : Int32)))
        else
        (if zib ((96 : Int32) + v3) 325 then (if zib ((144 : Int32) + v3) 325 then (if (Sp1 ((96 : Int32) + v3).toNatClampNeg) < 0 then
              (b_X10_usedAge_103 St Sp1 k45 v2 v3 (Sp1 ((144 : Int32) + v3).toNatClampNeg))
              else
              (f_X10_ageOf St Sp1 (Sp1 ((96 : Int32) + v3).toNatClampNeg)).bind (fun q3 =>
                (if q3 ≤ v2 then
                  (b_X10_usedAge_103 St Sp1 k45 v2 v3 (Sp1 ((144 : Int32) + v3).toNatClampNeg))
                  else
                  (f_X10_ageOf St Sp1 (Sp1 ((96 : Int32) + v3).toNatClampNeg)).bind (fun q4 =>
                    (b_X10_usedAge_103 St Sp1 k45 q4 v3 (Sp1 ((144 : Int32) + v3).toNatClampNeg)))))) else none) else none)) else none))
set_option maxHeartbeats 4000000 in
set_option maxRecDepth 100000 in
theorem w_X10_usedAge_45 {p : Program} {e : Env} {s : State} {m : MethodId} {below : List Frame} {meth : Method} {c : Code} {A : Nat → Prop} {D : va_G} {cy : Nat → ClassId} {args : Array Value} {r : Int32} (l : Launch) (ht : Nat → Nat) (hp1 : Nat → Nat) (St : SMo) (Sp1 : Nat → Int32) (C : zX p s m meth c cX10_usedAge 6 args RX10 (some FieldType.int) A D (zty cy)) :
    ∀ (n : Nat) (v2 : Int32) (v3 : Int32) (H : Heap) (locs : List Loc) (ls : Array Slot), zl2 (b_X10_usedAge_45 St Sp1) n v2 v3 = some r → va_P D vwCl (wMo ht cy St ++ (wAI hp1 cy 325 Sp1)) H → va_D A (wMo ht cy St ++ (wAI hp1 cy 325 Sp1)) → va_S A s.heap H locs → lv_has ls 6 [(0, .ref (ht 0)), (1, .ref (hp1 0)), (2, .int v2), (3, .int v3)] → W p l e (zRm 3 68) s m args below meth c H locs 0 0 (MQ below (zQI D (zty cy) A (wMo ht cy St ++ (wAI hp1 cy 325 Sp1)) r) args s 0 0 A) (F0 m 45 ls []) := by
  obtain ⟨hx, hb, hr, hts, hown, hlocks, hml, hA, hK⟩ := id C
  intro n
  induction n with
  | zero => intro v2 v3 H locs ls hf; exact zno hf
  | succ n ih =>
    intro v2 v3 H locs ls hf hP hD hS hl
    have hf : b_X10_usedAge_45 St Sp1 (zl2 (b_X10_usedAge_45 St Sp1) n) v2 v3 = some r := hf
    have K45 := ih
    refine lv_iload_n hx hb dX10_usedAge_45 rfl (lv_at hl 3 rfl) ?_
    refine lv_bipush (v := (48 : Int32)) hx hb dX10_usedAge_46 (by decide) ?_
    refine z_icmp_ge (tgt := 133) hx hb dX10_usedAge_48 (by decide) hf (fun hf => ?_) (fun hf => ?_)
    · refine lv_iload_n hx hb dX10_usedAge_133 rfl (lv_at hl 2 rfl) ?_
      obtain rfl := Option.some.inj hf
      exact z_iret (v := v2) C hP hD hS dX10_usedAge_134
    · refine lv_aload_n hx hb dX10_usedAge_51 rfl (lv_at hl 1 rfl) ?_
      refine lv_iconst (v := (0 : Int32)) hx hb dX10_usedAge_52 (by decide) ?_
      refine lv_iload_n hx hb dX10_usedAge_53 rfl (lv_at hl 3 rfl) ?_
      refine lv_iadd hx hb dX10_usedAge_54 ?_
      refine z_iald (f := Sp1) hx hb hK hP 1 0 rfl rfl dX10_usedAge_55 hf (fun hf => ?_)
      refine z_if_ne (tgt := 62) hx hb dX10_usedAge_56 (by decide) hf (fun hf => ?_) (fun hf => ?_)
      · refine lv_aload_n hx hb dX10_usedAge_62 rfl (lv_at hl 1 rfl) ?_
        refine lv_bipush (v := (96 : Int32)) hx hb dX10_usedAge_63 (by decide) ?_
        refine lv_iload_n hx hb dX10_usedAge_65 rfl (lv_at hl 3 rfl) ?_
        refine lv_iadd hx hb dX10_usedAge_66 ?_
        refine z_iald (f := Sp1) hx hb hK hP 1 0 rfl rfl dX10_usedAge_67 hf (fun hf => ?_)
        refine lv_istore (lv' := [(4, .int (Sp1 ((96 : Int32) + v3).toNatClampNeg)), (0, .ref (ht 0)), (1, .ref (hp1 0)), (2, .int v2), (3, .int v3)]) hx hb dX10_usedAge_68 hl (by decide) rfl (fun ls hl => ?_)
        refine lv_aload_n hx hb dX10_usedAge_70 rfl (lv_at hl 2 rfl) ?_
        refine lv_sipush (v := (144 : Int32)) hx hb dX10_usedAge_71 (by decide) ?_
        refine lv_iload_n hx hb dX10_usedAge_74 rfl (lv_at hl 4 rfl) ?_
        refine lv_iadd hx hb dX10_usedAge_75 ?_
        refine z_iald (f := Sp1) hx hb hK hP 1 0 rfl rfl dX10_usedAge_76 hf (fun hf => ?_)
        refine lv_istore (lv' := [(5, .int (Sp1 ((144 : Int32) + v3).toNatClampNeg)), (4, .int (Sp1 ((96 : Int32) + v3).toNatClampNeg)), (0, .ref (ht 0)), (1, .ref (hp1 0)), (2, .int v2), (3, .int v3)]) hx hb dX10_usedAge_77 hl (by decide) rfl (fun ls hl => ?_)
        refine lv_iload hx hb dX10_usedAge_79 (lv_at hl 1 rfl) ?_
        refine z_if_lt (tgt := 103) hx hb dX10_usedAge_81 (by decide) hf (fun hf => ?_) (fun hf => ?_)
        · exact w_X10_usedAge_103 l ht hp1 St Sp1 C K45 v2 v3 (Sp1 ((144 : Int32) + v3).toNatClampNeg) H locs ls hf hP hD hS (lv_sub hl [2, 3, 4, 5, 0] rfl)
        · refine lv_aload_n hx hb dX10_usedAge_84 rfl (lv_at hl 2 rfl) ?_
          refine lv_aload_n hx hb dX10_usedAge_85 rfl (lv_at hl 3 rfl) ?_
          refine lv_iload hx hb dX10_usedAge_86 (lv_at hl 1 rfl) ?_
          obtain ⟨q3, hc, hf⟩ := zbd hf
          refine z_cVi0 (As := [.ref (hp1 0), .int (Sp1 ((96 : Int32) + v3).toNatClampNeg)]) (rest := []) C (c_X10_ageOf l D cy ht hp1 St Sp1 (Sp1 ((96 : Int32) + v3).toNatClampNeg) q3 hc) gV_X10_X10_ageOf hd_X10_ageOf ⟨Nat.le_of_ble_eq_true rfl, Nat.le_of_ble_eq_true rfl⟩ ⟨Nat.le_refl _, Nat.le_refl _⟩ (va_recv hK hP (ci := 6) (q0 := 0) rfl rfl) hP hD hS hl.1 (Nat.le_of_ble_eq_true rfl) dX10_usedAge_88 (fun H locs hP hD hS => ?_)
          have hP : va_P D vwCl (wMo ht cy St ++ (wAI hp1 cy 325 Sp1)) H := hP
          have hD : va_D A (wMo ht cy St ++ (wAI hp1 cy 325 Sp1)) := hD
          refine lv_iload_n hx hb dX10_usedAge_91 rfl (lv_at hl 4 rfl) ?_
          refine z_icmp_le (tgt := 103) hx hb dX10_usedAge_92 (by decide) hf (fun hf => ?_) (fun hf => ?_)
          · exact w_X10_usedAge_103 l ht hp1 St Sp1 C K45 v2 v3 (Sp1 ((144 : Int32) + v3).toNatClampNeg) H locs ls hf hP hD hS (lv_sub hl [2, 3, 4, 5, 0] rfl)
          · refine lv_aload_n hx hb dX10_usedAge_95 rfl (lv_at hl 2 rfl) ?_
            refine lv_aload_n hx hb dX10_usedAge_96 rfl (lv_at hl 3 rfl) ?_
            refine lv_iload hx hb dX10_usedAge_97 (lv_at hl 1 rfl) ?_
            obtain ⟨q4, hc, hf⟩ := zbd hf
            refine z_cVi0 (As := [.ref (hp1 0), .int (Sp1 ((96 : Int32) + v3).toNatClampNeg)]) (rest := []) C (c_X10_ageOf l D cy ht hp1 St Sp1 (Sp1 ((96 : Int32) + v3).toNatClampNeg) q4 hc) gV_X10_X10_ageOf hd_X10_ageOf ⟨Nat.le_of_ble_eq_true rfl, Nat.le_of_ble_eq_true rfl⟩ ⟨Nat.le_refl _, Nat.le_refl _⟩ (va_recv hK hP (ci := 6) (q0 := 0) rfl rfl) hP hD hS hl.1 (Nat.le_of_ble_eq_true rfl) dX10_usedAge_99 (fun H locs hP hD hS => ?_)
            have hP : va_P D vwCl (wMo ht cy St ++ (wAI hp1 cy 325 Sp1)) H := hP
            have hD : va_D A (wMo ht cy St ++ (wAI hp1 cy 325 Sp1)) := hD
            refine lv_istore_n (lv' := [(2, .int q4), (5, .int (Sp1 ((144 : Int32) + v3).toNatClampNeg)), (4, .int (Sp1 ((96 : Int32) + v3).toNatClampNeg)), (0, .ref (ht 0)), (1, .ref (hp1 0)), (3, .int v3)]) hx hb dX10_usedAge_102 rfl hl (by decide) rfl (fun ls hl => ?_)
            exact w_X10_usedAge_103 l ht hp1 St Sp1 C K45 q4 v3 (Sp1 ((144 : Int32) + v3).toNatClampNeg) H locs ls hf hP hD hS (lv_sub hl [3, 4, 0, 5, 1] rfl)
      · refine lv_goto (tgt := 127) hx hb dX10_usedAge_59 (by decide) ?_
        refine lv_iinc (v := (v3 + (1 : Int32))) (lv' := [(3, .int (v3 + (1 : Int32))), (0, .ref (ht 0)), (1, .ref (hp1 0)), (2, .int v2)]) hx hb dX10_usedAge_127 hl (k := 3) rfl rfl (by decide) rfl (fun ls hl => ?_)
        refine lv_goto (tgt := 45) hx hb dX10_usedAge_130 (by decide) ?_
        exact K45 v2 (v3 + (1 : Int32)) H locs ls hf hP hD hS (lv_sub hl [1, 2, 3, 0] rfl)
def b_X10_usedAge_5 (St : SMo) (Sp1 : Nat → Int32) (k5 : Int32 → Int32 → Option (Int32)) (v2 : Int32) (v3 : Int32) : Option (Int32) :=
  (if (6 : Int32) ≤ v3 then
    (zl2 (b_X10_usedAge_45 St Sp1) FU v2 (0 : Int32))
    else
    (f_X10_doesRun Sp1 v3).bind (fun q5 =>
      (if q5 = 0 then
        (k5 v2 (v3 + (1 : Int32)))
        else
        (f_X10_ageBack St Sp1 v3).bind (fun q6 =>
          (if q6 ≤ v2 then
            (k5 v2 (v3 + (1 : Int32)))
            else
            (f_X10_ageBack St Sp1 v3).bind (fun q7 =>
              (k5 q7 (v3 + (1 : Int32)))))))))
set_option maxHeartbeats 4000000 in
set_option maxRecDepth 100000 in
theorem w_X10_usedAge_5 {p : Program} {e : Env} {s : State} {m : MethodId} {below : List Frame} {meth : Method} {c : Code} {A : Nat → Prop} {D : va_G} {cy : Nat → ClassId} {args : Array Value} {r : Int32} (l : Launch) (ht : Nat → Nat) (hp1 : Nat → Nat) (St : SMo) (Sp1 : Nat → Int32) (C : zX p s m meth c cX10_usedAge 6 args RX10 (some FieldType.int) A D (zty cy)) :
    ∀ (n : Nat) (v2 : Int32) (v3 : Int32) (H : Heap) (locs : List Loc) (ls : Array Slot), zl2 (b_X10_usedAge_5 St Sp1) n v2 v3 = some r → va_P D vwCl (wMo ht cy St ++ (wAI hp1 cy 325 Sp1)) H → va_D A (wMo ht cy St ++ (wAI hp1 cy 325 Sp1)) → va_S A s.heap H locs → lv_has ls 6 [(0, .ref (ht 0)), (1, .ref (hp1 0)), (2, .int v2), (3, .int v3)] → W p l e (zRm 3 68) s m args below meth c H locs 0 0 (MQ below (zQI D (zty cy) A (wMo ht cy St ++ (wAI hp1 cy 325 Sp1)) r) args s 0 0 A) (F0 m 5 ls []) := by
  obtain ⟨hx, hb, hr, hts, hown, hlocks, hml, hA, hK⟩ := id C
  intro n
  induction n with
  | zero => intro v2 v3 H locs ls hf; exact zno hf
  | succ n ih =>
    intro v2 v3 H locs ls hf hP hD hS hl
    have hf : b_X10_usedAge_5 St Sp1 (zl2 (b_X10_usedAge_5 St Sp1) n) v2 v3 = some r := hf
    have K5 := ih
    refine lv_iload_n hx hb dX10_usedAge_5 rfl (lv_at hl 3 rfl) ?_
    refine lv_bipush (v := (6 : Int32)) hx hb dX10_usedAge_6 (by decide) ?_
    refine z_icmp_ge (tgt := 43) hx hb dX10_usedAge_8 (by decide) hf (fun hf => ?_) (fun hf => ?_)
    · refine lv_iconst (v := (0 : Int32)) hx hb dX10_usedAge_43 (by decide) ?_
      refine lv_istore_n (lv' := [(3, .int (0 : Int32)), (0, .ref (ht 0)), (1, .ref (hp1 0)), (2, .int v2)]) hx hb dX10_usedAge_44 rfl hl (by decide) rfl (fun ls hl => ?_)
      exact w_X10_usedAge_45 l ht hp1 St Sp1 C FU v2 (0 : Int32) H locs ls hf hP hD hS (lv_sub hl [1, 2, 3, 0] rfl)
    · refine lv_aload_n hx hb dX10_usedAge_11 rfl (lv_at hl 0 rfl) ?_
      refine lv_aload_n hx hb dX10_usedAge_12 rfl (lv_at hl 1 rfl) ?_
      refine lv_iload_n hx hb dX10_usedAge_13 rfl (lv_at hl 3 rfl) ?_
      obtain ⟨q5, hc, hf⟩ := zbd hf
      refine z_cVi (As := [.ref (hp1 0), .int v3]) (rest := []) C (c_X10_doesRun l D cy ht hp1 Sp1 v3 q5 hc) gV_X10_X10_doesRun hd_X10_doesRun ⟨Nat.le_of_ble_eq_true rfl, Nat.le_of_ble_eq_true rfl⟩ ⟨Nat.le_refl _, Nat.le_refl _⟩ (va_recv hK hP (ci := 6) (q0 := 0) rfl rfl) hP hD hS (w2 := wMo ht cy St ++ (wAI hp1 cy 325 Sp1)) [1] [0] [0, 1] rfl rfl rfl rfl rfl rfl (by decide) hl.1 (Nat.le_of_ble_eq_true rfl) dX10_usedAge_14 (fun H locs hP hD hS => ?_)
      refine z_if_eq (tgt := 37) hx hb dX10_usedAge_17 (by decide) hf (fun hf => ?_) (fun hf => ?_)
      · refine lv_iinc (v := (v3 + (1 : Int32))) (lv' := [(3, .int (v3 + (1 : Int32))), (0, .ref (ht 0)), (1, .ref (hp1 0)), (2, .int v2)]) hx hb dX10_usedAge_37 hl (k := 3) rfl rfl (by decide) rfl (fun ls hl => ?_)
        refine lv_goto (tgt := 5) hx hb dX10_usedAge_40 (by decide) ?_
        exact K5 v2 (v3 + (1 : Int32)) H locs ls hf hP hD hS (lv_sub hl [1, 2, 3, 0] rfl)
      · refine lv_aload_n hx hb dX10_usedAge_20 rfl (lv_at hl 0 rfl) ?_
        refine lv_aload_n hx hb dX10_usedAge_21 rfl (lv_at hl 1 rfl) ?_
        refine lv_iload_n hx hb dX10_usedAge_22 rfl (lv_at hl 3 rfl) ?_
        obtain ⟨q6, hc, hf⟩ := zbd hf
        refine z_cVi0 (As := [.ref (hp1 0), .int v3]) (rest := []) C (c_X10_ageBack l D cy ht hp1 St Sp1 v3 q6 hc) gV_X10_X10_ageBack hd_X10_ageBack ⟨Nat.le_of_ble_eq_true rfl, Nat.le_of_ble_eq_true rfl⟩ ⟨Nat.le_refl _, Nat.le_refl _⟩ (va_recv hK hP (ci := 6) (q0 := 0) rfl rfl) hP hD hS hl.1 (Nat.le_of_ble_eq_true rfl) dX10_usedAge_23 (fun H locs hP hD hS => ?_)
        have hP : va_P D vwCl (wMo ht cy St ++ (wAI hp1 cy 325 Sp1)) H := hP
        have hD : va_D A (wMo ht cy St ++ (wAI hp1 cy 325 Sp1)) := hD
        refine lv_iload_n hx hb dX10_usedAge_26 rfl (lv_at hl 2 rfl) ?_
        refine z_icmp_le (tgt := 37) hx hb dX10_usedAge_27 (by decide) hf (fun hf => ?_) (fun hf => ?_)
        · refine lv_iinc (v := (v3 + (1 : Int32))) (lv' := [(3, .int (v3 + (1 : Int32))), (0, .ref (ht 0)), (1, .ref (hp1 0)), (2, .int v2)]) hx hb dX10_usedAge_37 hl (k := 3) rfl rfl (by decide) rfl (fun ls hl => ?_)
          refine lv_goto (tgt := 5) hx hb dX10_usedAge_40 (by decide) ?_
          exact K5 v2 (v3 + (1 : Int32)) H locs ls hf hP hD hS (lv_sub hl [1, 2, 3, 0] rfl)
        · refine lv_aload_n hx hb dX10_usedAge_30 rfl (lv_at hl 0 rfl) ?_
          refine lv_aload_n hx hb dX10_usedAge_31 rfl (lv_at hl 1 rfl) ?_
          refine lv_iload_n hx hb dX10_usedAge_32 rfl (lv_at hl 3 rfl) ?_
          obtain ⟨q7, hc, hf⟩ := zbd hf
          refine z_cVi0 (As := [.ref (hp1 0), .int v3]) (rest := []) C (c_X10_ageBack l D cy ht hp1 St Sp1 v3 q7 hc) gV_X10_X10_ageBack hd_X10_ageBack ⟨Nat.le_of_ble_eq_true rfl, Nat.le_of_ble_eq_true rfl⟩ ⟨Nat.le_refl _, Nat.le_refl _⟩ (va_recv hK hP (ci := 6) (q0 := 0) rfl rfl) hP hD hS hl.1 (Nat.le_of_ble_eq_true rfl) dX10_usedAge_33 (fun H locs hP hD hS => ?_)
          have hP : va_P D vwCl (wMo ht cy St ++ (wAI hp1 cy 325 Sp1)) H := hP
          have hD : va_D A (wMo ht cy St ++ (wAI hp1 cy 325 Sp1)) := hD
          refine lv_istore_n (lv' := [(2, .int q7), (0, .ref (ht 0)), (1, .ref (hp1 0)), (3, .int v3)]) hx hb dX10_usedAge_36 rfl hl (by decide) rfl (fun ls hl => ?_)
          refine lv_iinc (v := (v3 + (1 : Int32))) (lv' := [(3, .int (v3 + (1 : Int32))), (2, .int q7), (0, .ref (ht 0)), (1, .ref (hp1 0))]) hx hb dX10_usedAge_37 hl (k := 3) rfl rfl (by decide) rfl (fun ls hl => ?_)
          refine lv_goto (tgt := 5) hx hb dX10_usedAge_40 (by decide) ?_
          exact K5 q7 (v3 + (1 : Int32)) H locs ls hf hP hD hS (lv_sub hl [2, 3, 1, 0] rfl)
def f_X10_usedAge (St : SMo) (Sp1 : Nat → Int32) : Option (Int32) :=
  (zl2 (b_X10_usedAge_5 St Sp1) FU (-2 : Int32) (0 : Int32))
set_option maxHeartbeats 4000000 in
set_option maxRecDepth 100000 in
theorem c_X10_usedAge (l : Launch) (D : va_G) (cy : Nat → ClassId) (ht : Nat → Nat) (hp1 : Nat → Nat) (St : SMo) (Sp1 : Nat → Int32) (r : Int32) (hf : f_X10_usedAge St Sp1 = some r) : zCI l yX10_usedAge cX10_usedAge 6 (some FieldType.int) 3 68 D (zty cy) [.ref (ht 0), .ref (hp1 0)] (wMo ht cy St ++ (wAI hp1 cy 325 Sp1)) (wMo ht cy St ++ (wAI hp1 cy 325 Sp1)) r := by
  refine zCI_of (by decide +kernel) (Nat.le_of_ble_eq_true rfl) ?_
  intro p e s m below meth c A ls C hP hD hS hl
  generalize hargs : ([.ref (ht 0), .ref (hp1 0)] : List Value).toArray = args at C ⊢
  have C : zX p s m meth c cX10_usedAge 6 args RX10 (some FieldType.int) A D (zty cy) := C
  obtain ⟨hx, hb, hr, hts, hown, hlocks, hml, hA, hK⟩ := id C
  have hl : lv_has ls 6 [(0, .ref (ht 0)), (1, .ref (hp1 0))] := hl
  generalize hH : s.heap = H at hP ⊢
  have hS : va_S A s.heap H [] := by rw [← hH]; exact hS
  generalize ([] : List Loc) = locs at hS ⊢
  refine lv_bipush (v := (-2 : Int32)) hx hb dX10_usedAge_0 (by decide) ?_
  refine lv_istore_n (lv' := [(2, .int (-2 : Int32)), (0, .ref (ht 0)), (1, .ref (hp1 0))]) hx hb dX10_usedAge_2 rfl hl (by decide) rfl (fun ls hl => ?_)
  refine lv_iconst (v := (0 : Int32)) hx hb dX10_usedAge_3 (by decide) ?_
  refine lv_istore_n (lv' := [(3, .int (0 : Int32)), (2, .int (-2 : Int32)), (0, .ref (ht 0)), (1, .ref (hp1 0))]) hx hb dX10_usedAge_4 rfl hl (by decide) rfl (fun ls hl => ?_)
  exact w_X10_usedAge_5 l ht hp1 St Sp1 C FU (-2 : Int32) (0 : Int32) H locs ls hf hP hD hS (lv_sub hl [2, 3, 1, 0] rfl)
def b_X10_isDead_41 (St : SMo) (Sp1 : Nat → Int32) (x2 : Int32) (v4 : Int32) : Option (Int32) :=
  (if v4 < 0 then
    some (0 : Int32)
    else
    (if zib ((240 : Int32) + v4) 325 then (if (Sp1 ((240 : Int32) + v4).toNatClampNeg) = (2 : Int32) then
        (f_X10_horizonOf St Sp1).bind (fun q1 =>
          (f_X10_isOlder St v4 q1).bind (fun q2 =>
            (if q2 = 0 then
              some (0 : Int32)
              else
              some (1 : Int32))))
        else
        some (0 : Int32)) else none))
set_option maxHeartbeats 4000000 in
set_option maxRecDepth 100000 in
theorem w_X10_isDead_41 {p : Program} {e : Env} {s : State} {m : MethodId} {below : List Frame} {meth : Method} {c : Code} {A : Nat → Prop} {D : va_G} {cy : Nat → ClassId} {args : Array Value} {r : Int32} (l : Launch) (ht : Nat → Nat) (hp1 : Nat → Nat) (St : SMo) (Sp1 : Nat → Int32) (x2 : Int32) (C : zX p s m meth c cX10_isDead 5 args RX10 (some FieldType.boolean) A D (zty cy)) :
    ∀ (v4 : Int32) (H : Heap) (locs : List Loc) (ls : Array Slot), b_X10_isDead_41 St Sp1 x2 v4 = some r → va_P D vwCl (wMo ht cy St ++ (wAI hp1 cy 325 Sp1)) H → va_D A (wMo ht cy St ++ (wAI hp1 cy 325 Sp1)) → va_S A s.heap H locs → lv_has ls 5 [(0, .ref (ht 0)), (1, .ref (hp1 0)), (4, .int v4)] → W p l e (zRm 4 91) s m args below meth c H locs 0 0 (MQ below (zQI D (zty cy) A (wMo ht cy St ++ (wAI hp1 cy 325 Sp1)) r) args s 0 0 A) (F0 m 41 ls []) := by
  obtain ⟨hx, hb, hr, hts, hown, hlocks, hml, hA, hK⟩ := id C
  intro v4 H locs ls hf hP hD hS hl
  refine lv_iload hx hb dX10_isDead_41 (lv_at hl 2 rfl) ?_
  refine z_if_lt (tgt := 76) hx hb dX10_isDead_43 (by decide) hf (fun hf => ?_) (fun hf => ?_)
  · refine lv_iconst (v := (0 : Int32)) hx hb dX10_isDead_76 (by decide) ?_
    obtain rfl := Option.some.inj hf
    exact z_zret (v := (0 : Int32)) C rfl hP hD hS dX10_isDead_77
  · refine lv_aload_n hx hb dX10_isDead_46 rfl (lv_at hl 1 rfl) ?_
    refine lv_sipush (v := (240 : Int32)) hx hb dX10_isDead_47 (by decide) ?_
    refine lv_iload hx hb dX10_isDead_50 (lv_at hl 2 rfl) ?_
    refine lv_iadd hx hb dX10_isDead_52 ?_
    refine z_iald (f := Sp1) hx hb hK hP 1 0 rfl rfl dX10_isDead_53 hf (fun hf => ?_)
    refine lv_iconst (v := (2 : Int32)) hx hb dX10_isDead_54 (by decide) ?_
    refine z_icmp_ne (tgt := 76) hx hb dX10_isDead_55 (by decide) hf (fun hf => ?_) (fun hf => ?_)
    · refine lv_iconst (v := (0 : Int32)) hx hb dX10_isDead_76 (by decide) ?_
      obtain rfl := Option.some.inj hf
      exact z_zret (v := (0 : Int32)) C rfl hP hD hS dX10_isDead_77
    · refine lv_aload_n hx hb dX10_isDead_58 rfl (lv_at hl 0 rfl) ?_
      refine lv_iload hx hb dX10_isDead_59 (lv_at hl 2 rfl) ?_
      refine lv_aload_n hx hb dX10_isDead_61 rfl (lv_at hl 0 rfl) ?_
      refine lv_aload_n hx hb dX10_isDead_62 rfl (lv_at hl 1 rfl) ?_
      obtain ⟨q1, hc, hf⟩ := zbd hf
      refine z_cVi0 (As := [.ref (hp1 0)]) (rest := [.int v4, .ref (ht 0)]) C (c_X10_horizonOf l D cy ht hp1 St Sp1 q1 hc) gV_X10_X10_horizonOf hd_X10_horizonOf ⟨Nat.le_of_ble_eq_true rfl, Nat.le_of_ble_eq_true rfl⟩ ⟨Nat.le_refl _, Nat.le_refl _⟩ (va_recv hK hP (ci := 6) (q0 := 0) rfl rfl) hP hD hS hl.1 (Nat.le_of_ble_eq_true rfl) dX10_isDead_63 (fun H locs hP hD hS => ?_)
      have hP : va_P D vwCl (wMo ht cy St ++ (wAI hp1 cy 325 Sp1)) H := hP
      have hD : va_D A (wMo ht cy St ++ (wAI hp1 cy 325 Sp1)) := hD
      obtain ⟨q2, hc, hf⟩ := zbd hf
      refine z_cVi (As := [.int v4, .int q1]) (rest := []) C (c_X10_isOlder l D cy ht St v4 q1 q2 hc) gV_X10_X10_isOlder hd_X10_isOlder ⟨Nat.le_of_ble_eq_true rfl, Nat.le_of_ble_eq_true rfl⟩ ⟨Nat.le_refl _, Nat.le_refl _⟩ (va_recv hK hP (ci := 6) (q0 := 0) rfl rfl) hP hD hS (w2 := wMo ht cy St ++ (wAI hp1 cy 325 Sp1)) [0] [1] [1, 0] rfl rfl rfl rfl rfl rfl (by decide) hl.1 (Nat.le_of_ble_eq_true rfl) dX10_isDead_66 (fun H locs hP hD hS => ?_)
      refine z_if_eq (tgt := 76) hx hb dX10_isDead_69 (by decide) hf (fun hf => ?_) (fun hf => ?_)
      · refine lv_iconst (v := (0 : Int32)) hx hb dX10_isDead_76 (by decide) ?_
        obtain rfl := Option.some.inj hf
        exact z_zret (v := (0 : Int32)) C rfl hP hD hS dX10_isDead_77
      · refine lv_iconst (v := (1 : Int32)) hx hb dX10_isDead_72 (by decide) ?_
        refine lv_goto (tgt := 77) hx hb dX10_isDead_73 (by decide) ?_
        obtain rfl := Option.some.inj hf
        exact z_zret (v := (1 : Int32)) C rfl hP hD hS dX10_isDead_77
def f_X10_isDead (St : SMo) (Sp1 : Nat → Int32) (x2 : Int32) : Option (Int32) :=
  (if zib ((96 : Int32) + x2) 325 then (if zib ((144 : Int32) + x2) 325 then (if zib ((0 : Int32) + x2) 325 then (if (Sp1 ((0 : Int32) + x2).toNatClampNeg) = 0 then
          some (0 : Int32)
          else
          (if (Sp1 ((96 : Int32) + x2).toNatClampNeg) < 0 then
            (b_X10_isDead_41 St Sp1 x2 (Sp1 ((144 : Int32) + x2).toNatClampNeg))
            else
            (if zib ((240 : Int32) + (Sp1 ((96 : Int32) + x2).toNatClampNeg)) 325 then (if (Sp1 ((240 : Int32) + (Sp1 ((96 : Int32) + x2).toNatClampNeg)).toNatClampNeg) = (3 : Int32) then
                some (1 : Int32)
                else
                (b_X10_isDead_41 St Sp1 x2 (Sp1 ((144 : Int32) + x2).toNatClampNeg))) else none))) else none) else none) else none)
set_option maxHeartbeats 4000000 in
set_option maxRecDepth 100000 in
theorem c_X10_isDead (l : Launch) (D : va_G) (cy : Nat → ClassId) (ht : Nat → Nat) (hp1 : Nat → Nat) (St : SMo) (Sp1 : Nat → Int32) (x2 : Int32) (r : Int32) (hf : f_X10_isDead St Sp1 x2 = some r) : zCI l yX10_isDead cX10_isDead 5 (some FieldType.boolean) 4 91 D (zty cy) [.ref (ht 0), .ref (hp1 0), .int x2] (wMo ht cy St ++ (wAI hp1 cy 325 Sp1)) (wMo ht cy St ++ (wAI hp1 cy 325 Sp1)) r := by
  refine zCI_of (by decide +kernel) (Nat.le_of_ble_eq_true rfl) ?_
  intro p e s m below meth c A ls C hP hD hS hl
  generalize hargs : ([.ref (ht 0), .ref (hp1 0), .int x2] : List Value).toArray = args at C ⊢
  have C : zX p s m meth c cX10_isDead 5 args RX10 (some FieldType.boolean) A D (zty cy) := C
  obtain ⟨hx, hb, hr, hts, hown, hlocks, hml, hA, hK⟩ := id C
  have hl : lv_has ls 5 [(0, .ref (ht 0)), (1, .ref (hp1 0)), (2, .int x2)] := hl
  generalize hH : s.heap = H at hP ⊢
  have hS : va_S A s.heap H [] := by rw [← hH]; exact hS
  generalize ([] : List Loc) = locs at hS ⊢
  refine lv_aload_n hx hb dX10_isDead_0 rfl (lv_at hl 1 rfl) ?_
  refine lv_bipush (v := (96 : Int32)) hx hb dX10_isDead_1 (by decide) ?_
  refine lv_iload_n hx hb dX10_isDead_3 rfl (lv_at hl 2 rfl) ?_
  refine lv_iadd hx hb dX10_isDead_4 ?_
  refine z_iald (f := Sp1) hx hb hK hP 1 0 rfl rfl dX10_isDead_5 hf (fun hf => ?_)
  refine lv_istore_n (lv' := [(3, .int (Sp1 ((96 : Int32) + x2).toNatClampNeg)), (0, .ref (ht 0)), (1, .ref (hp1 0)), (2, .int x2)]) hx hb dX10_isDead_6 rfl hl (by decide) rfl (fun ls hl => ?_)
  refine lv_aload_n hx hb dX10_isDead_7 rfl (lv_at hl 2 rfl) ?_
  refine lv_sipush (v := (144 : Int32)) hx hb dX10_isDead_8 (by decide) ?_
  refine lv_iload_n hx hb dX10_isDead_11 rfl (lv_at hl 3 rfl) ?_
  refine lv_iadd hx hb dX10_isDead_12 ?_
  refine z_iald (f := Sp1) hx hb hK hP 1 0 rfl rfl dX10_isDead_13 hf (fun hf => ?_)
  refine lv_istore (lv' := [(4, .int (Sp1 ((144 : Int32) + x2).toNatClampNeg)), (3, .int (Sp1 ((96 : Int32) + x2).toNatClampNeg)), (0, .ref (ht 0)), (1, .ref (hp1 0)), (2, .int x2)]) hx hb dX10_isDead_14 hl (by decide) rfl (fun ls hl => ?_)
  refine lv_aload_n hx hb dX10_isDead_16 rfl (lv_at hl 3 rfl) ?_
  refine lv_iconst (v := (0 : Int32)) hx hb dX10_isDead_17 (by decide) ?_
  refine lv_iload_n hx hb dX10_isDead_18 rfl (lv_at hl 4 rfl) ?_
  refine lv_iadd hx hb dX10_isDead_19 ?_
  refine z_iald (f := Sp1) hx hb hK hP 1 0 rfl rfl dX10_isDead_20 hf (fun hf => ?_)
  refine z_if_ne (tgt := 26) hx hb dX10_isDead_21 (by decide) hf (fun hf => ?_) (fun hf => ?_)
  · refine lv_iload_n hx hb dX10_isDead_26 rfl (lv_at hl 1 rfl) ?_
    refine z_if_lt (tgt := 41) hx hb dX10_isDead_27 (by decide) hf (fun hf => ?_) (fun hf => ?_)
    · exact w_X10_isDead_41 l ht hp1 St Sp1 x2 C (Sp1 ((144 : Int32) + x2).toNatClampNeg) H locs ls hf hP hD hS (lv_sub hl [2, 3, 0] rfl)
    · refine lv_aload_n hx hb dX10_isDead_30 rfl (lv_at hl 3 rfl) ?_
      refine lv_sipush (v := (240 : Int32)) hx hb dX10_isDead_31 (by decide) ?_
      refine lv_iload_n hx hb dX10_isDead_34 rfl (lv_at hl 1 rfl) ?_
      refine lv_iadd hx hb dX10_isDead_35 ?_
      refine z_iald (f := Sp1) hx hb hK hP 1 0 rfl rfl dX10_isDead_36 hf (fun hf => ?_)
      refine lv_iconst (v := (3 : Int32)) hx hb dX10_isDead_37 (by decide) ?_
      refine z_icmp_eq (tgt := 72) hx hb dX10_isDead_38 (by decide) hf (fun hf => ?_) (fun hf => ?_)
      · refine lv_iconst (v := (1 : Int32)) hx hb dX10_isDead_72 (by decide) ?_
        refine lv_goto (tgt := 77) hx hb dX10_isDead_73 (by decide) ?_
        obtain rfl := Option.some.inj hf
        exact z_zret (v := (1 : Int32)) C rfl hP hD hS dX10_isDead_77
      · exact w_X10_isDead_41 l ht hp1 St Sp1 x2 C (Sp1 ((144 : Int32) + x2).toNatClampNeg) H locs ls hf hP hD hS (lv_sub hl [2, 3, 0] rfl)
  · refine lv_iconst (v := (0 : Int32)) hx hb dX10_isDead_24 (by decide) ?_
    obtain rfl := Option.some.inj hf
    exact z_zret (v := (0 : Int32)) C rfl hP hD hS dX10_isDead_25
def f_X10_isFrozenThen (St : SMo) (Sp1 : Nat → Int32) (x2 : Int32) : Option (Int32) :=
  (if zib ((96 : Int32) + x2) 325 then (if zib ((0 : Int32) + x2) 325 then (if (Sp1 ((0 : Int32) + x2).toNatClampNeg) ≤ 0 then
        some (0 : Int32)
        else
        (if (Sp1 ((96 : Int32) + x2).toNatClampNeg) < 0 then
          some (0 : Int32)
          else
          (if zib ((240 : Int32) + (Sp1 ((96 : Int32) + x2).toNatClampNeg)) 325 then (if (Sp1 ((240 : Int32) + (Sp1 ((96 : Int32) + x2).toNatClampNeg)).toNatClampNeg) = (2 : Int32) then
              (f_X10_horizonOf St Sp1).bind (fun q1 =>
                (f_X10_isOlder St (Sp1 ((96 : Int32) + x2).toNatClampNeg) q1).bind (fun q2 =>
                  (if q2 = 0 then
                    some (0 : Int32)
                    else
                    some (1 : Int32))))
              else
              some (0 : Int32)) else none))) else none) else none)
set_option maxHeartbeats 4000000 in
set_option maxRecDepth 100000 in
theorem c_X10_isFrozenThen (l : Launch) (D : va_G) (cy : Nat → ClassId) (ht : Nat → Nat) (hp1 : Nat → Nat) (St : SMo) (Sp1 : Nat → Int32) (x2 : Int32) (r : Int32) (hf : f_X10_isFrozenThen St Sp1 x2 = some r) : zCI l yX10_isFrozenThen cX10_isFrozenThen 4 (some FieldType.boolean) 4 91 D (zty cy) [.ref (ht 0), .ref (hp1 0), .int x2] (wMo ht cy St ++ (wAI hp1 cy 325 Sp1)) (wMo ht cy St ++ (wAI hp1 cy 325 Sp1)) r := by
  refine zCI_of (by decide +kernel) (Nat.le_of_ble_eq_true rfl) ?_
  intro p e s m below meth c A ls C hP hD hS hl
  generalize hargs : ([.ref (ht 0), .ref (hp1 0), .int x2] : List Value).toArray = args at C ⊢
  have C : zX p s m meth c cX10_isFrozenThen 4 args RX10 (some FieldType.boolean) A D (zty cy) := C
  obtain ⟨hx, hb, hr, hts, hown, hlocks, hml, hA, hK⟩ := id C
  have hl : lv_has ls 4 [(0, .ref (ht 0)), (1, .ref (hp1 0)), (2, .int x2)] := hl
  generalize hH : s.heap = H at hP ⊢
  have hS : va_S A s.heap H [] := by rw [← hH]; exact hS
  generalize ([] : List Loc) = locs at hS ⊢
  refine lv_aload_n hx hb dX10_isFrozenThen_0 rfl (lv_at hl 1 rfl) ?_
  refine lv_bipush (v := (96 : Int32)) hx hb dX10_isFrozenThen_1 (by decide) ?_
  refine lv_iload_n hx hb dX10_isFrozenThen_3 rfl (lv_at hl 2 rfl) ?_
  refine lv_iadd hx hb dX10_isFrozenThen_4 ?_
  refine z_iald (f := Sp1) hx hb hK hP 1 0 rfl rfl dX10_isFrozenThen_5 hf (fun hf => ?_)
  refine lv_istore_n (lv' := [(3, .int (Sp1 ((96 : Int32) + x2).toNatClampNeg)), (0, .ref (ht 0)), (1, .ref (hp1 0)), (2, .int x2)]) hx hb dX10_isFrozenThen_6 rfl hl (by decide) rfl (fun ls hl => ?_)
  refine lv_aload_n hx hb dX10_isFrozenThen_7 rfl (lv_at hl 2 rfl) ?_
  refine lv_iconst (v := (0 : Int32)) hx hb dX10_isFrozenThen_8 (by decide) ?_
  refine lv_iload_n hx hb dX10_isFrozenThen_9 rfl (lv_at hl 3 rfl) ?_
  refine lv_iadd hx hb dX10_isFrozenThen_10 ?_
  refine z_iald (f := Sp1) hx hb hK hP 1 0 rfl rfl dX10_isFrozenThen_11 hf (fun hf => ?_)
  refine z_if_le (tgt := 47) hx hb dX10_isFrozenThen_12 (by decide) hf (fun hf => ?_) (fun hf => ?_)
  · refine lv_iconst (v := (0 : Int32)) hx hb dX10_isFrozenThen_47 (by decide) ?_
    obtain rfl := Option.some.inj hf
    exact z_zret (v := (0 : Int32)) C rfl hP hD hS dX10_isFrozenThen_48
  · refine lv_iload_n hx hb dX10_isFrozenThen_15 rfl (lv_at hl 0 rfl) ?_
    refine z_if_lt (tgt := 47) hx hb dX10_isFrozenThen_16 (by decide) hf (fun hf => ?_) (fun hf => ?_)
    · refine lv_iconst (v := (0 : Int32)) hx hb dX10_isFrozenThen_47 (by decide) ?_
      obtain rfl := Option.some.inj hf
      exact z_zret (v := (0 : Int32)) C rfl hP hD hS dX10_isFrozenThen_48
    · refine lv_aload_n hx hb dX10_isFrozenThen_19 rfl (lv_at hl 2 rfl) ?_
      refine lv_sipush (v := (240 : Int32)) hx hb dX10_isFrozenThen_20 (by decide) ?_
      refine lv_iload_n hx hb dX10_isFrozenThen_23 rfl (lv_at hl 0 rfl) ?_
      refine lv_iadd hx hb dX10_isFrozenThen_24 ?_
      refine z_iald (f := Sp1) hx hb hK hP 1 0 rfl rfl dX10_isFrozenThen_25 hf (fun hf => ?_)
      refine lv_iconst (v := (2 : Int32)) hx hb dX10_isFrozenThen_26 (by decide) ?_
      refine z_icmp_ne (tgt := 47) hx hb dX10_isFrozenThen_27 (by decide) hf (fun hf => ?_) (fun hf => ?_)
      · refine lv_iconst (v := (0 : Int32)) hx hb dX10_isFrozenThen_47 (by decide) ?_
        obtain rfl := Option.some.inj hf
        exact z_zret (v := (0 : Int32)) C rfl hP hD hS dX10_isFrozenThen_48
      · refine lv_aload_n hx hb dX10_isFrozenThen_30 rfl (lv_at hl 1 rfl) ?_
        refine lv_iload_n hx hb dX10_isFrozenThen_31 rfl (lv_at hl 0 rfl) ?_
        refine lv_aload_n hx hb dX10_isFrozenThen_32 rfl (lv_at hl 1 rfl) ?_
        refine lv_aload_n hx hb dX10_isFrozenThen_33 rfl (lv_at hl 2 rfl) ?_
        obtain ⟨q1, hc, hf⟩ := zbd hf
        refine z_cVi0 (As := [.ref (hp1 0)]) (rest := [.int (Sp1 ((96 : Int32) + x2).toNatClampNeg), .ref (ht 0)]) C (c_X10_horizonOf l D cy ht hp1 St Sp1 q1 hc) gV_X10_X10_horizonOf hd_X10_horizonOf ⟨Nat.le_of_ble_eq_true rfl, Nat.le_of_ble_eq_true rfl⟩ ⟨Nat.le_refl _, Nat.le_refl _⟩ (va_recv hK hP (ci := 6) (q0 := 0) rfl rfl) hP hD hS hl.1 (Nat.le_of_ble_eq_true rfl) dX10_isFrozenThen_34 (fun H locs hP hD hS => ?_)
        have hP : va_P D vwCl (wMo ht cy St ++ (wAI hp1 cy 325 Sp1)) H := hP
        have hD : va_D A (wMo ht cy St ++ (wAI hp1 cy 325 Sp1)) := hD
        obtain ⟨q2, hc, hf⟩ := zbd hf
        refine z_cVi (As := [.int (Sp1 ((96 : Int32) + x2).toNatClampNeg), .int q1]) (rest := []) C (c_X10_isOlder l D cy ht St (Sp1 ((96 : Int32) + x2).toNatClampNeg) q1 q2 hc) gV_X10_X10_isOlder hd_X10_isOlder ⟨Nat.le_of_ble_eq_true rfl, Nat.le_of_ble_eq_true rfl⟩ ⟨Nat.le_refl _, Nat.le_refl _⟩ (va_recv hK hP (ci := 6) (q0 := 0) rfl rfl) hP hD hS (w2 := wMo ht cy St ++ (wAI hp1 cy 325 Sp1)) [0] [1] [1, 0] rfl rfl rfl rfl rfl rfl (by decide) hl.1 (Nat.le_of_ble_eq_true rfl) dX10_isFrozenThen_37 (fun H locs hP hD hS => ?_)
        refine z_if_eq (tgt := 47) hx hb dX10_isFrozenThen_40 (by decide) hf (fun hf => ?_) (fun hf => ?_)
        · refine lv_iconst (v := (0 : Int32)) hx hb dX10_isFrozenThen_47 (by decide) ?_
          obtain rfl := Option.some.inj hf
          exact z_zret (v := (0 : Int32)) C rfl hP hD hS dX10_isFrozenThen_48
        · refine lv_iconst (v := (1 : Int32)) hx hb dX10_isFrozenThen_43 (by decide) ?_
          refine lv_goto (tgt := 48) hx hb dX10_isFrozenThen_44 (by decide) ?_
          obtain rfl := Option.some.inj hf
          exact z_zret (v := (1 : Int32)) C rfl hP hD hS dX10_isFrozenThen_48
def f_X10_isLetGo (Sp1 : Nat → Int32) (x2 : Int32) : Option (Int32) :=
  (if zib ((144 : Int32) + x2) 325 then (if zib ((0 : Int32) + x2) 325 then (if (Sp1 ((0 : Int32) + x2).toNatClampNeg) ≤ 0 then
        some (0 : Int32)
        else
        (if (Sp1 ((144 : Int32) + x2).toNatClampNeg) < 0 then
          some (0 : Int32)
          else
          (if zib ((240 : Int32) + (Sp1 ((144 : Int32) + x2).toNatClampNeg)) 325 then (if (Sp1 ((240 : Int32) + (Sp1 ((144 : Int32) + x2).toNatClampNeg)).toNatClampNeg) = (3 : Int32) then
              some (1 : Int32)
              else
              some (0 : Int32)) else none))) else none) else none)
set_option maxHeartbeats 4000000 in
set_option maxRecDepth 100000 in
theorem c_X10_isLetGo (l : Launch) (D : va_G) (cy : Nat → ClassId) (ht : Nat → Nat) (hp1 : Nat → Nat) (Sp1 : Nat → Int32) (x2 : Int32) (r : Int32) (hf : f_X10_isLetGo Sp1 x2 = some r) : zCI l yX10_isLetGo cX10_isLetGo 4 (some FieldType.boolean) 0 0 D (zty cy) [.ref (ht 0), .ref (hp1 0), .int x2] (wAI hp1 cy 325 Sp1) (wAI hp1 cy 325 Sp1) r := by
  refine zCI_of (by decide +kernel) (Nat.le_of_ble_eq_true rfl) ?_
  intro p e s m below meth c A ls C hP hD hS hl
  generalize hargs : ([.ref (ht 0), .ref (hp1 0), .int x2] : List Value).toArray = args at C ⊢
  have C : zX p s m meth c cX10_isLetGo 4 args RX10 (some FieldType.boolean) A D (zty cy) := C
  obtain ⟨hx, hb, hr, hts, hown, hlocks, hml, hA, hK⟩ := id C
  have hl : lv_has ls 4 [(0, .ref (ht 0)), (1, .ref (hp1 0)), (2, .int x2)] := hl
  generalize hH : s.heap = H at hP ⊢
  have hS : va_S A s.heap H [] := by rw [← hH]; exact hS
  generalize ([] : List Loc) = locs at hS ⊢
  refine lv_aload_n hx hb dX10_isLetGo_0 rfl (lv_at hl 1 rfl) ?_
  refine lv_sipush (v := (144 : Int32)) hx hb dX10_isLetGo_1 (by decide) ?_
  refine lv_iload_n hx hb dX10_isLetGo_4 rfl (lv_at hl 2 rfl) ?_
  refine lv_iadd hx hb dX10_isLetGo_5 ?_
  refine z_iald (f := Sp1) hx hb hK hP 0 0 rfl rfl dX10_isLetGo_6 hf (fun hf => ?_)
  refine lv_istore_n (lv' := [(3, .int (Sp1 ((144 : Int32) + x2).toNatClampNeg)), (0, .ref (ht 0)), (1, .ref (hp1 0)), (2, .int x2)]) hx hb dX10_isLetGo_7 rfl hl (by decide) rfl (fun ls hl => ?_)
  refine lv_aload_n hx hb dX10_isLetGo_8 rfl (lv_at hl 2 rfl) ?_
  refine lv_iconst (v := (0 : Int32)) hx hb dX10_isLetGo_9 (by decide) ?_
  refine lv_iload_n hx hb dX10_isLetGo_10 rfl (lv_at hl 3 rfl) ?_
  refine lv_iadd hx hb dX10_isLetGo_11 ?_
  refine z_iald (f := Sp1) hx hb hK hP 0 0 rfl rfl dX10_isLetGo_12 hf (fun hf => ?_)
  refine z_if_le (tgt := 35) hx hb dX10_isLetGo_13 (by decide) hf (fun hf => ?_) (fun hf => ?_)
  · refine lv_iconst (v := (0 : Int32)) hx hb dX10_isLetGo_35 (by decide) ?_
    obtain rfl := Option.some.inj hf
    exact z_zret (v := (0 : Int32)) C rfl hP hD hS dX10_isLetGo_36
  · refine lv_iload_n hx hb dX10_isLetGo_16 rfl (lv_at hl 0 rfl) ?_
    refine z_if_lt (tgt := 35) hx hb dX10_isLetGo_17 (by decide) hf (fun hf => ?_) (fun hf => ?_)
    · refine lv_iconst (v := (0 : Int32)) hx hb dX10_isLetGo_35 (by decide) ?_
      obtain rfl := Option.some.inj hf
      exact z_zret (v := (0 : Int32)) C rfl hP hD hS dX10_isLetGo_36
    · refine lv_aload_n hx hb dX10_isLetGo_20 rfl (lv_at hl 2 rfl) ?_
      refine lv_sipush (v := (240 : Int32)) hx hb dX10_isLetGo_21 (by decide) ?_
      refine lv_iload_n hx hb dX10_isLetGo_24 rfl (lv_at hl 0 rfl) ?_
      refine lv_iadd hx hb dX10_isLetGo_25 ?_
      refine z_iald (f := Sp1) hx hb hK hP 0 0 rfl rfl dX10_isLetGo_26 hf (fun hf => ?_)
      refine lv_iconst (v := (3 : Int32)) hx hb dX10_isLetGo_27 (by decide) ?_
      refine z_icmp_ne (tgt := 35) hx hb dX10_isLetGo_28 (by decide) hf (fun hf => ?_) (fun hf => ?_)
      · refine lv_iconst (v := (0 : Int32)) hx hb dX10_isLetGo_35 (by decide) ?_
        obtain rfl := Option.some.inj hf
        exact z_zret (v := (0 : Int32)) C rfl hP hD hS dX10_isLetGo_36
      · refine lv_iconst (v := (1 : Int32)) hx hb dX10_isLetGo_31 (by decide) ?_
        refine lv_goto (tgt := 36) hx hb dX10_isLetGo_32 (by decide) ?_
        obtain rfl := Option.some.inj hf
        exact z_zret (v := (1 : Int32)) C rfl hP hD hS dX10_isLetGo_36
def f_X10_canBegin (St : SMo) (Sp1 : Nat → Int32) : Option (Int32) :=
  (f_X10_slotOf Sp1 (-1 : Int32)).bind (fun q1 =>
    (if q1 < 0 then
      some (0 : Int32)
      else
      (f_X10_usedAge St Sp1).bind (fun q2 =>
        (if ((Mo_ring St) / (2 : Int32)) ≤ q2 then
          some (0 : Int32)
          else
          some (1 : Int32)))))
set_option maxHeartbeats 4000000 in
set_option maxRecDepth 100000 in
theorem c_X10_canBegin (l : Launch) (D : va_G) (cy : Nat → ClassId) (ht : Nat → Nat) (hp1 : Nat → Nat) (St : SMo) (Sp1 : Nat → Int32) (r : Int32) (hf : f_X10_canBegin St Sp1 = some r) : zCI l yX10_canBegin cX10_canBegin 2 (some FieldType.boolean) 4 93 D (zty cy) [.ref (ht 0), .ref (hp1 0)] (wMo ht cy St ++ (wAI hp1 cy 325 Sp1)) (wMo ht cy St ++ (wAI hp1 cy 325 Sp1)) r := by
  refine zCI_of (by decide +kernel) (Nat.le_of_ble_eq_true rfl) ?_
  intro p e s m below meth c A ls C hP hD hS hl
  generalize hargs : ([.ref (ht 0), .ref (hp1 0)] : List Value).toArray = args at C ⊢
  have C : zX p s m meth c cX10_canBegin 2 args RX10 (some FieldType.boolean) A D (zty cy) := C
  obtain ⟨hx, hb, hr, hts, hown, hlocks, hml, hA, hK⟩ := id C
  have hl : lv_has ls 2 [(0, .ref (ht 0)), (1, .ref (hp1 0))] := hl
  generalize hH : s.heap = H at hP ⊢
  have hS : va_S A s.heap H [] := by rw [← hH]; exact hS
  generalize ([] : List Loc) = locs at hS ⊢
  refine lv_aload_n hx hb dX10_canBegin_0 rfl (lv_at hl 0 rfl) ?_
  refine lv_aload_n hx hb dX10_canBegin_1 rfl (lv_at hl 1 rfl) ?_
  refine lv_iconst (v := (-1 : Int32)) hx hb dX10_canBegin_2 (by decide) ?_
  obtain ⟨q1, hc, hf⟩ := zbd hf
  refine z_cVi (As := [.ref (hp1 0), .int (-1 : Int32)]) (rest := []) C (c_X10_slotOf l D cy ht hp1 Sp1 (-1 : Int32) q1 hc) gV_X10_X10_slotOf hd_X10_slotOf ⟨Nat.le_of_ble_eq_true rfl, Nat.le_of_ble_eq_true rfl⟩ ⟨Nat.le_refl _, Nat.le_refl _⟩ (va_recv hK hP (ci := 6) (q0 := 0) rfl rfl) hP hD hS (w2 := wMo ht cy St ++ (wAI hp1 cy 325 Sp1)) [1] [0] [0, 1] rfl rfl rfl rfl rfl rfl (by decide) hl.1 (Nat.le_of_ble_eq_true rfl) dX10_canBegin_3 (fun H locs hP hD hS => ?_)
  refine z_if_lt (tgt := 27) hx hb dX10_canBegin_6 (by decide) hf (fun hf => ?_) (fun hf => ?_)
  · refine lv_iconst (v := (0 : Int32)) hx hb dX10_canBegin_27 (by decide) ?_
    obtain rfl := Option.some.inj hf
    exact z_zret (v := (0 : Int32)) C rfl hP hD hS dX10_canBegin_28
  · refine lv_aload_n hx hb dX10_canBegin_9 rfl (lv_at hl 0 rfl) ?_
    refine lv_aload_n hx hb dX10_canBegin_10 rfl (lv_at hl 1 rfl) ?_
    obtain ⟨q2, hc, hf⟩ := zbd hf
    refine z_cVi0 (As := [.ref (hp1 0)]) (rest := []) C (c_X10_usedAge l D cy ht hp1 St Sp1 q2 hc) gV_X10_X10_usedAge hd_X10_usedAge ⟨Nat.le_of_ble_eq_true rfl, Nat.le_of_ble_eq_true rfl⟩ ⟨Nat.le_refl _, Nat.le_refl _⟩ (va_recv hK hP (ci := 6) (q0 := 0) rfl rfl) hP hD hS hl.1 (Nat.le_of_ble_eq_true rfl) dX10_canBegin_11 (fun H locs hP hD hS => ?_)
    have hP : va_P D vwCl (wMo ht cy St ++ (wAI hp1 cy 325 Sp1)) H := hP
    have hD : va_D A (wMo ht cy St ++ (wAI hp1 cy 325 Sp1)) := hD
    refine lv_aload_n hx hb dX10_canBegin_14 rfl (lv_at hl 0 rfl) ?_
    refine va_get (D := D) (ci := 6) (v := .int (Mo_ring St)) (C := RX10) (T := TX10) (N := 41) hx hb hts in_X10 hown hK hP 0 rfl rfl 27 (by decide) (hts _ q6_72) (fun _ h9 => h9) rfl dX10_canBegin_15 ?_
    refine lv_iconst (v := (2 : Int32)) hx hb dX10_canBegin_18 (by decide) ?_
    refine lv_idiv hx hb dX10_canBegin_19 (by decide) ?_
    refine z_icmp_ge (tgt := 27) hx hb dX10_canBegin_20 (by decide) hf (fun hf => ?_) (fun hf => ?_)
    · refine lv_iconst (v := (0 : Int32)) hx hb dX10_canBegin_27 (by decide) ?_
      obtain rfl := Option.some.inj hf
      exact z_zret (v := (0 : Int32)) C rfl hP hD hS dX10_canBegin_28
    · refine lv_iconst (v := (1 : Int32)) hx hb dX10_canBegin_23 (by decide) ?_
      refine lv_goto (tgt := 28) hx hb dX10_canBegin_24 (by decide) ?_
      obtain rfl := Option.some.inj hf
      exact z_zret (v := (1 : Int32)) C rfl hP hD hS dX10_canBegin_28
def b_X10_beginOn_16 (St : SMo) (k16 : (Nat → Int32) → Int32 → Int32 → Int32 → Option (Int32 × (Nat → Int32))) (Sp1 : Nat → Int32) (v2 : Int32) (v3 : Int32) (v4 : Int32) : Option (Int32 × (Nat → Int32)) :=
  (if (6 : Int32) ≤ v4 then
    (if zib ((304 : Int32) + v2) 325 then (if zib ((240 : Int32) + v3) 325 then (if (Mo_ring St) = 0 then none else (if zib (323 : Int32) 325 then some (v2, (upd (upd (upd Sp1 ((304 : Int32) + v2).toNatClampNeg v3) ((240 : Int32) + v3).toNatClampNeg (1 : Int32)) (323 : Int32).toNatClampNeg ((v3 + (1 : Int32)) - (v3 + (1 : Int32)) / (Mo_ring St) * (Mo_ring St)))) else none)) else none) else none)
    else
    (f_X10_doesRun Sp1 v4).bind (fun q1 =>
      (if q1 = 0 then
        (k16 Sp1 v2 v3 (v4 + (1 : Int32)))
        else
        (if zib ((304 : Int32) + v4) 325 then (if zib (((311 : Int32) + ((2 : Int32) * v2)) + ((Sp1 ((304 : Int32) + v4).toNatClampNeg) / (32 : Int32))) 325 then (if zib ((304 : Int32) + v4) 325 then (if zib (((311 : Int32) + ((2 : Int32) * v2)) + ((Sp1 ((304 : Int32) + v4).toNatClampNeg) / (32 : Int32))) 325 then (k16 (upd Sp1 (((311 : Int32) + ((2 : Int32) * v2)) + ((Sp1 ((304 : Int32) + v4).toNatClampNeg) / (32 : Int32))).toNatClampNeg ((Sp1 (((311 : Int32) + ((2 : Int32) * v2)) + ((Sp1 ((304 : Int32) + v4).toNatClampNeg) / (32 : Int32))).toNatClampNeg) ||| ((1 : Int32) <<< (((Sp1 ((304 : Int32) + v4).toNatClampNeg) - (Sp1 ((304 : Int32) + v4).toNatClampNeg) / (32 : Int32) * (32 : Int32)) &&& 31)))) v2 v3 (v4 + (1 : Int32))) else none) else none) else none) else none))))
set_option maxHeartbeats 4000000 in
set_option maxRecDepth 100000 in
theorem w_X10_beginOn_16 {p : Program} {e : Env} {s : State} {m : MethodId} {below : List Frame} {meth : Method} {c : Code} {A : Nat → Prop} {D : va_G} {cy : Nat → ClassId} {args : Array Value} {r : Int32 × (Nat → Int32)} (l : Launch) (ht : Nat → Nat) (hp1 : Nat → Nat) (St : SMo) (C : zX p s m meth c cX10_beginOn 5 args RX10 (some FieldType.int) A D (zty cy)) :
    ∀ (n : Nat) (Sp1 : Nat → Int32) (v2 : Int32) (v3 : Int32) (v4 : Int32) (H : Heap) (locs : List Loc) (ls : Array Slot), zl4 (b_X10_beginOn_16 St) n Sp1 v2 v3 v4 = some r → va_P D vwCl (wMo ht cy St ++ (wAI hp1 cy 325 Sp1)) H → va_D A (wMo ht cy St ++ (wAI hp1 cy 325 Sp1)) → va_S A s.heap H locs → lv_has ls 5 [(0, .ref (ht 0)), (1, .ref (hp1 0)), (2, .int v2), (3, .int v3), (4, .int v4)] → W p l e (zRm 1 23) s m args below meth c H locs 0 0 (MQ below (zQI D (zty cy) A (wMo ht cy St ++ (wAI hp1 cy 325 r.2)) r.1) args s 0 0 A) (F0 m 16 ls []) := by
  obtain ⟨hx, hb, hr, hts, hown, hlocks, hml, hA, hK⟩ := id C
  intro n
  induction n with
  | zero => intro Sp1 v2 v3 v4 H locs ls hf; exact zno hf
  | succ n ih =>
    intro Sp1 v2 v3 v4 H locs ls hf hP hD hS hl
    have hf : b_X10_beginOn_16 St (zl4 (b_X10_beginOn_16 St) n) Sp1 v2 v3 v4 = some r := hf
    have K16 := ih
    refine lv_iload hx hb dX10_beginOn_16 (lv_at hl 4 rfl) ?_
    refine lv_bipush (v := (6 : Int32)) hx hb dX10_beginOn_18 (by decide) ?_
    refine z_icmp_ge (tgt := 76) hx hb dX10_beginOn_20 (by decide) hf (fun hf => ?_) (fun hf => ?_)
    · refine lv_aload_n hx hb dX10_beginOn_76 rfl (lv_at hl 1 rfl) ?_
      refine lv_sipush (v := (304 : Int32)) hx hb dX10_beginOn_77 (by decide) ?_
      refine lv_iload_n hx hb dX10_beginOn_80 rfl (lv_at hl 2 rfl) ?_
      refine lv_iadd hx hb dX10_beginOn_81 ?_
      refine lv_iload_n hx hb dX10_beginOn_82 rfl (lv_at hl 3 rfl) ?_
      refine z_iast (f := Sp1) (w2 := wMo ht cy St ++ (wAI hp1 cy 325 (upd Sp1 ((304 : Int32) + v2).toNatClampNeg v3))) hx hb hK hP hD hS 1 0 rfl rfl dX10_beginOn_83 hf rfl (fun hf H locs hP hD hS => ?_)
      refine lv_aload_n hx hb dX10_beginOn_84 rfl (lv_at hl 1 rfl) ?_
      refine lv_sipush (v := (240 : Int32)) hx hb dX10_beginOn_85 (by decide) ?_
      refine lv_iload_n hx hb dX10_beginOn_88 rfl (lv_at hl 3 rfl) ?_
      refine lv_iadd hx hb dX10_beginOn_89 ?_
      refine lv_iconst (v := (1 : Int32)) hx hb dX10_beginOn_90 (by decide) ?_
      refine z_iast (f := (upd Sp1 ((304 : Int32) + v2).toNatClampNeg v3)) (w2 := wMo ht cy St ++ (wAI hp1 cy 325 (upd (upd Sp1 ((304 : Int32) + v2).toNatClampNeg v3) ((240 : Int32) + v3).toNatClampNeg (1 : Int32)))) hx hb hK hP hD hS 1 0 rfl rfl dX10_beginOn_91 hf rfl (fun hf H locs hP hD hS => ?_)
      refine lv_aload_n hx hb dX10_beginOn_92 rfl (lv_at hl 1 rfl) ?_
      refine lv_sipush (v := (323 : Int32)) hx hb dX10_beginOn_93 (by decide) ?_
      refine lv_iload_n hx hb dX10_beginOn_96 rfl (lv_at hl 3 rfl) ?_
      refine lv_iconst (v := (1 : Int32)) hx hb dX10_beginOn_97 (by decide) ?_
      refine lv_iadd hx hb dX10_beginOn_98 ?_
      refine lv_aload_n hx hb dX10_beginOn_99 rfl (lv_at hl 0 rfl) ?_
      refine va_get (D := D) (ci := 6) (v := .int (Mo_ring St)) (C := RX10) (T := TX10) (N := 41) hx hb hts in_X10 hown hK hP 0 rfl rfl 27 (by decide) (hts _ q6_72) (fun _ h9 => h9) rfl dX10_beginOn_100 ?_
      refine z_irem hx hb dX10_beginOn_103 hf (fun hf => ?_)
      refine z_iast (f := (upd (upd Sp1 ((304 : Int32) + v2).toNatClampNeg v3) ((240 : Int32) + v3).toNatClampNeg (1 : Int32))) (w2 := wMo ht cy St ++ (wAI hp1 cy 325 (upd (upd (upd Sp1 ((304 : Int32) + v2).toNatClampNeg v3) ((240 : Int32) + v3).toNatClampNeg (1 : Int32)) (323 : Int32).toNatClampNeg ((v3 + (1 : Int32)) - (v3 + (1 : Int32)) / (Mo_ring St) * (Mo_ring St))))) hx hb hK hP hD hS 1 0 rfl rfl dX10_beginOn_104 hf rfl (fun hf H locs hP hD hS => ?_)
      refine lv_iload_n hx hb dX10_beginOn_105 rfl (lv_at hl 2 rfl) ?_
      obtain rfl := Option.some.inj hf
      exact z_iret (v := v2) C hP hD hS dX10_beginOn_106
    · refine lv_aload_n hx hb dX10_beginOn_23 rfl (lv_at hl 0 rfl) ?_
      refine lv_aload_n hx hb dX10_beginOn_24 rfl (lv_at hl 1 rfl) ?_
      refine lv_iload hx hb dX10_beginOn_25 (lv_at hl 4 rfl) ?_
      obtain ⟨q1, hc, hf⟩ := zbd hf
      refine z_cVi (As := [.ref (hp1 0), .int v4]) (rest := []) C (c_X10_doesRun l D cy ht hp1 Sp1 v4 q1 hc) gV_X10_X10_doesRun hd_X10_doesRun ⟨Nat.le_of_ble_eq_true rfl, Nat.le_of_ble_eq_true rfl⟩ ⟨Nat.le_refl _, Nat.le_refl _⟩ (va_recv hK hP (ci := 6) (q0 := 0) rfl rfl) hP hD hS (w2 := wMo ht cy St ++ (wAI hp1 cy 325 Sp1)) [1] [0] [0, 1] rfl rfl rfl rfl rfl rfl (by decide) hl.1 (Nat.le_of_ble_eq_true rfl) dX10_beginOn_27 (fun H locs hP hD hS => ?_)
      refine z_if_eq (tgt := 70) hx hb dX10_beginOn_30 (by decide) hf (fun hf => ?_) (fun hf => ?_)
      · refine lv_iinc (v := (v4 + (1 : Int32))) (lv' := [(4, .int (v4 + (1 : Int32))), (0, .ref (ht 0)), (1, .ref (hp1 0)), (2, .int v2), (3, .int v3)]) hx hb dX10_beginOn_70 hl (k := 4) rfl rfl (by decide) rfl (fun ls hl => ?_)
        refine lv_goto (tgt := 16) hx hb dX10_beginOn_73 (by decide) ?_
        exact K16 Sp1 v2 v3 (v4 + (1 : Int32)) H locs ls hf hP hD hS (lv_sub hl [1, 2, 3, 4, 0] rfl)
      · refine lv_aload_n hx hb dX10_beginOn_33 rfl (lv_at hl 1 rfl) ?_
        refine lv_sipush (v := (311 : Int32)) hx hb dX10_beginOn_34 (by decide) ?_
        refine lv_iconst (v := (2 : Int32)) hx hb dX10_beginOn_37 (by decide) ?_
        refine lv_iload_n hx hb dX10_beginOn_38 rfl (lv_at hl 2 rfl) ?_
        refine lv_imul hx hb dX10_beginOn_39 ?_
        refine lv_iadd hx hb dX10_beginOn_40 ?_
        refine lv_aload_n hx hb dX10_beginOn_41 rfl (lv_at hl 1 rfl) ?_
        refine lv_sipush (v := (304 : Int32)) hx hb dX10_beginOn_42 (by decide) ?_
        refine lv_iload hx hb dX10_beginOn_45 (lv_at hl 4 rfl) ?_
        refine lv_iadd hx hb dX10_beginOn_47 ?_
        refine z_iald (f := Sp1) hx hb hK hP 1 0 rfl rfl dX10_beginOn_48 hf (fun hf => ?_)
        refine lv_bipush (v := (32 : Int32)) hx hb dX10_beginOn_49 (by decide) ?_
        refine lv_idiv hx hb dX10_beginOn_51 (by decide) ?_
        refine lv_iadd hx hb dX10_beginOn_52 ?_
        refine lv_dup2_11 hx hb dX10_beginOn_53 rfl rfl ?_
        refine z_iald (f := Sp1) hx hb hK hP 1 0 rfl rfl dX10_beginOn_54 hf (fun hf => ?_)
        refine lv_iconst (v := (1 : Int32)) hx hb dX10_beginOn_55 (by decide) ?_
        refine lv_aload_n hx hb dX10_beginOn_56 rfl (lv_at hl 1 rfl) ?_
        refine lv_sipush (v := (304 : Int32)) hx hb dX10_beginOn_57 (by decide) ?_
        refine lv_iload hx hb dX10_beginOn_60 (lv_at hl 4 rfl) ?_
        refine lv_iadd hx hb dX10_beginOn_62 ?_
        refine z_iald (f := Sp1) hx hb hK hP 1 0 rfl rfl dX10_beginOn_63 hf (fun hf => ?_)
        refine lv_bipush (v := (32 : Int32)) hx hb dX10_beginOn_64 (by decide) ?_
        refine lv_irem hx hb dX10_beginOn_66 (by decide) ?_
        refine lv_ishl hx hb dX10_beginOn_67 ?_
        refine lv_ior hx hb dX10_beginOn_68 ?_
        refine z_iast (f := Sp1) (w2 := wMo ht cy St ++ (wAI hp1 cy 325 (upd Sp1 (((311 : Int32) + ((2 : Int32) * v2)) + ((Sp1 ((304 : Int32) + v4).toNatClampNeg) / (32 : Int32))).toNatClampNeg ((Sp1 (((311 : Int32) + ((2 : Int32) * v2)) + ((Sp1 ((304 : Int32) + v4).toNatClampNeg) / (32 : Int32))).toNatClampNeg) ||| ((1 : Int32) <<< (((Sp1 ((304 : Int32) + v4).toNatClampNeg) - (Sp1 ((304 : Int32) + v4).toNatClampNeg) / (32 : Int32) * (32 : Int32)) &&& 31)))))) hx hb hK hP hD hS 1 0 rfl rfl dX10_beginOn_69 hf rfl (fun hf H locs hP hD hS => ?_)
        refine lv_iinc (v := (v4 + (1 : Int32))) (lv' := [(4, .int (v4 + (1 : Int32))), (0, .ref (ht 0)), (1, .ref (hp1 0)), (2, .int v2), (3, .int v3)]) hx hb dX10_beginOn_70 hl (k := 4) rfl rfl (by decide) rfl (fun ls hl => ?_)
        refine lv_goto (tgt := 16) hx hb dX10_beginOn_73 (by decide) ?_
        exact K16 (upd Sp1 (((311 : Int32) + ((2 : Int32) * v2)) + ((Sp1 ((304 : Int32) + v4).toNatClampNeg) / (32 : Int32))).toNatClampNeg ((Sp1 (((311 : Int32) + ((2 : Int32) * v2)) + ((Sp1 ((304 : Int32) + v4).toNatClampNeg) / (32 : Int32))).toNatClampNeg) ||| ((1 : Int32) <<< (((Sp1 ((304 : Int32) + v4).toNatClampNeg) - (Sp1 ((304 : Int32) + v4).toNatClampNeg) / (32 : Int32) * (32 : Int32)) &&& 31)))) v2 v3 (v4 + (1 : Int32)) H locs ls hf hP hD hS (lv_sub hl [1, 2, 3, 4, 0] rfl)
def f_X10_beginOn (St : SMo) (Sp1 : Nat → Int32) : Option (Int32 × (Nat → Int32)) :=
  (f_X10_slotOf Sp1 (-1 : Int32)).bind (fun q2 =>
    (if zib (323 : Int32) 325 then (zl4 (b_X10_beginOn_16 St) FU Sp1 q2 (Sp1 (323 : Int32).toNatClampNeg) (0 : Int32)) else none))
set_option maxHeartbeats 4000000 in
set_option maxRecDepth 100000 in
theorem c_X10_beginOn (l : Launch) (D : va_G) (cy : Nat → ClassId) (ht : Nat → Nat) (hp1 : Nat → Nat) (St : SMo) (Sp1 : Nat → Int32) (r : Int32 × (Nat → Int32)) (hf : f_X10_beginOn St Sp1 = some r) : zCI l yX10_beginOn cX10_beginOn 5 (some FieldType.int) 1 23 D (zty cy) [.ref (ht 0), .ref (hp1 0)] (wMo ht cy St ++ (wAI hp1 cy 325 Sp1)) (wMo ht cy St ++ (wAI hp1 cy 325 r.2)) r.1 := by
  refine zCI_of (by decide +kernel) (Nat.le_of_ble_eq_true rfl) ?_
  intro p e s m below meth c A ls C hP hD hS hl
  generalize hargs : ([.ref (ht 0), .ref (hp1 0)] : List Value).toArray = args at C ⊢
  have C : zX p s m meth c cX10_beginOn 5 args RX10 (some FieldType.int) A D (zty cy) := C
  obtain ⟨hx, hb, hr, hts, hown, hlocks, hml, hA, hK⟩ := id C
  have hl : lv_has ls 5 [(0, .ref (ht 0)), (1, .ref (hp1 0))] := hl
  generalize hH : s.heap = H at hP ⊢
  have hS : va_S A s.heap H [] := by rw [← hH]; exact hS
  generalize ([] : List Loc) = locs at hS ⊢
  refine lv_aload_n hx hb dX10_beginOn_0 rfl (lv_at hl 0 rfl) ?_
  refine lv_aload_n hx hb dX10_beginOn_1 rfl (lv_at hl 1 rfl) ?_
  refine lv_iconst (v := (-1 : Int32)) hx hb dX10_beginOn_2 (by decide) ?_
  obtain ⟨q2, hc, hf⟩ := zbd hf
  refine z_cVi (As := [.ref (hp1 0), .int (-1 : Int32)]) (rest := []) C (c_X10_slotOf l D cy ht hp1 Sp1 (-1 : Int32) q2 hc) gV_X10_X10_slotOf hd_X10_slotOf ⟨Nat.le_of_ble_eq_true rfl, Nat.le_of_ble_eq_true rfl⟩ ⟨Nat.le_refl _, Nat.le_refl _⟩ (va_recv hK hP (ci := 6) (q0 := 0) rfl rfl) hP hD hS (w2 := wMo ht cy St ++ (wAI hp1 cy 325 Sp1)) [1] [0] [0, 1] rfl rfl rfl rfl rfl rfl (by decide) hl.1 (Nat.le_of_ble_eq_true rfl) dX10_beginOn_3 (fun H locs hP hD hS => ?_)
  refine lv_istore_n (lv' := [(2, .int q2), (0, .ref (ht 0)), (1, .ref (hp1 0))]) hx hb dX10_beginOn_6 rfl hl (by decide) rfl (fun ls hl => ?_)
  refine lv_aload_n hx hb dX10_beginOn_7 rfl (lv_at hl 2 rfl) ?_
  refine lv_sipush (v := (323 : Int32)) hx hb dX10_beginOn_8 (by decide) ?_
  refine z_iald (f := Sp1) hx hb hK hP 1 0 rfl rfl dX10_beginOn_11 hf (fun hf => ?_)
  refine lv_istore_n (lv' := [(3, .int (Sp1 (323 : Int32).toNatClampNeg)), (2, .int q2), (0, .ref (ht 0)), (1, .ref (hp1 0))]) hx hb dX10_beginOn_12 rfl hl (by decide) rfl (fun ls hl => ?_)
  refine lv_iconst (v := (0 : Int32)) hx hb dX10_beginOn_13 (by decide) ?_
  refine lv_istore (lv' := [(4, .int (0 : Int32)), (3, .int (Sp1 (323 : Int32).toNatClampNeg)), (2, .int q2), (0, .ref (ht 0)), (1, .ref (hp1 0))]) hx hb dX10_beginOn_14 hl (by decide) rfl (fun ls hl => ?_)
  exact w_X10_beginOn_16 l ht hp1 St C FU Sp1 q2 (Sp1 (323 : Int32).toNatClampNeg) (0 : Int32) H locs ls hf hP hD hS (lv_sub hl [3, 4, 2, 1, 0] rfl)
def f_X10_endOn (Sp1 : Nat → Int32) (x2 : Int32) (x3 : Int32) : Option (Int32 × (Nat → Int32)) :=
  (if zib ((304 : Int32) + x2) 325 then (if zib ((240 : Int32) + (Sp1 ((304 : Int32) + x2).toNatClampNeg)) 325 then (if zib ((304 : Int32) + x2) 325 then (if zib ((311 : Int32) + ((2 : Int32) * x2)) 325 then (if zib (((311 : Int32) + ((2 : Int32) * x2)) + (1 : Int32)) 325 then (if zib (310 : Int32) 325 then (if zib (310 : Int32) 325 then some ((Sp1 ((304 : Int32) + x2).toNatClampNeg), (upd (upd (upd (upd (upd Sp1 ((240 : Int32) + (Sp1 ((304 : Int32) + x2).toNatClampNeg)).toNatClampNeg x3) ((304 : Int32) + x2).toNatClampNeg (-1 : Int32)) ((311 : Int32) + ((2 : Int32) * x2)).toNatClampNeg (0 : Int32)) (((311 : Int32) + ((2 : Int32) * x2)) + (1 : Int32)).toNatClampNeg (0 : Int32)) (310 : Int32).toNatClampNeg (((upd (upd (upd (upd Sp1 ((240 : Int32) + (Sp1 ((304 : Int32) + x2).toNatClampNeg)).toNatClampNeg x3) ((304 : Int32) + x2).toNatClampNeg (-1 : Int32)) ((311 : Int32) + ((2 : Int32) * x2)).toNatClampNeg (0 : Int32)) (((311 : Int32) + ((2 : Int32) * x2)) + (1 : Int32)).toNatClampNeg (0 : Int32)) (310 : Int32).toNatClampNeg) &&& (((1 : Int32) <<< (x2 &&& 31)) ^^^ (-1 : Int32))))) else none) else none) else none) else none) else none) else none) else none)
set_option maxHeartbeats 4000000 in
set_option maxRecDepth 100000 in
theorem c_X10_endOn (l : Launch) (D : va_G) (cy : Nat → ClassId) (ht : Nat → Nat) (hp1 : Nat → Nat) (Sp1 : Nat → Int32) (x2 : Int32) (x3 : Int32) (r : Int32 × (Nat → Int32)) (hf : f_X10_endOn Sp1 x2 x3 = some r) : zCI l yX10_endOn cX10_endOn 5 (some FieldType.int) 0 0 D (zty cy) [.ref (ht 0), .ref (hp1 0), .int x2, .int x3] (wAI hp1 cy 325 Sp1) (wAI hp1 cy 325 r.2) r.1 := by
  refine zCI_of (by decide +kernel) (Nat.le_of_ble_eq_true rfl) ?_
  intro p e s m below meth c A ls C hP hD hS hl
  generalize hargs : ([.ref (ht 0), .ref (hp1 0), .int x2, .int x3] : List Value).toArray = args at C ⊢
  have C : zX p s m meth c cX10_endOn 5 args RX10 (some FieldType.int) A D (zty cy) := C
  obtain ⟨hx, hb, hr, hts, hown, hlocks, hml, hA, hK⟩ := id C
  have hl : lv_has ls 5 [(0, .ref (ht 0)), (1, .ref (hp1 0)), (2, .int x2), (3, .int x3)] := hl
  generalize hH : s.heap = H at hP ⊢
  have hS : va_S A s.heap H [] := by rw [← hH]; exact hS
  generalize ([] : List Loc) = locs at hS ⊢
  refine lv_aload_n hx hb dX10_endOn_0 rfl (lv_at hl 1 rfl) ?_
  refine lv_sipush (v := (304 : Int32)) hx hb dX10_endOn_1 (by decide) ?_
  refine lv_iload_n hx hb dX10_endOn_4 rfl (lv_at hl 2 rfl) ?_
  refine lv_iadd hx hb dX10_endOn_5 ?_
  refine z_iald (f := Sp1) hx hb hK hP 0 0 rfl rfl dX10_endOn_6 hf (fun hf => ?_)
  refine lv_istore (lv' := [(4, .int (Sp1 ((304 : Int32) + x2).toNatClampNeg)), (0, .ref (ht 0)), (1, .ref (hp1 0)), (2, .int x2), (3, .int x3)]) hx hb dX10_endOn_7 hl (by decide) rfl (fun ls hl => ?_)
  refine lv_aload_n hx hb dX10_endOn_9 rfl (lv_at hl 2 rfl) ?_
  refine lv_sipush (v := (240 : Int32)) hx hb dX10_endOn_10 (by decide) ?_
  refine lv_iload hx hb dX10_endOn_13 (lv_at hl 0 rfl) ?_
  refine lv_iadd hx hb dX10_endOn_15 ?_
  refine lv_iload_n hx hb dX10_endOn_16 rfl (lv_at hl 4 rfl) ?_
  refine z_iast (f := Sp1) (w2 := wAI hp1 cy 325 (upd Sp1 ((240 : Int32) + (Sp1 ((304 : Int32) + x2).toNatClampNeg)).toNatClampNeg x3)) hx hb hK hP hD hS 0 0 rfl rfl dX10_endOn_17 hf rfl (fun hf H locs hP hD hS => ?_)
  refine lv_aload_n hx hb dX10_endOn_18 rfl (lv_at hl 2 rfl) ?_
  refine lv_sipush (v := (304 : Int32)) hx hb dX10_endOn_19 (by decide) ?_
  refine lv_iload_n hx hb dX10_endOn_22 rfl (lv_at hl 3 rfl) ?_
  refine lv_iadd hx hb dX10_endOn_23 ?_
  refine lv_iconst (v := (-1 : Int32)) hx hb dX10_endOn_24 (by decide) ?_
  refine z_iast (f := (upd Sp1 ((240 : Int32) + (Sp1 ((304 : Int32) + x2).toNatClampNeg)).toNatClampNeg x3)) (w2 := wAI hp1 cy 325 (upd (upd Sp1 ((240 : Int32) + (Sp1 ((304 : Int32) + x2).toNatClampNeg)).toNatClampNeg x3) ((304 : Int32) + x2).toNatClampNeg (-1 : Int32))) hx hb hK hP hD hS 0 0 rfl rfl dX10_endOn_25 hf rfl (fun hf H locs hP hD hS => ?_)
  refine lv_aload_n hx hb dX10_endOn_26 rfl (lv_at hl 2 rfl) ?_
  refine lv_sipush (v := (311 : Int32)) hx hb dX10_endOn_27 (by decide) ?_
  refine lv_iconst (v := (2 : Int32)) hx hb dX10_endOn_30 (by decide) ?_
  refine lv_iload_n hx hb dX10_endOn_31 rfl (lv_at hl 3 rfl) ?_
  refine lv_imul hx hb dX10_endOn_32 ?_
  refine lv_iadd hx hb dX10_endOn_33 ?_
  refine lv_iconst (v := (0 : Int32)) hx hb dX10_endOn_34 (by decide) ?_
  refine z_iast (f := (upd (upd Sp1 ((240 : Int32) + (Sp1 ((304 : Int32) + x2).toNatClampNeg)).toNatClampNeg x3) ((304 : Int32) + x2).toNatClampNeg (-1 : Int32))) (w2 := wAI hp1 cy 325 (upd (upd (upd Sp1 ((240 : Int32) + (Sp1 ((304 : Int32) + x2).toNatClampNeg)).toNatClampNeg x3) ((304 : Int32) + x2).toNatClampNeg (-1 : Int32)) ((311 : Int32) + ((2 : Int32) * x2)).toNatClampNeg (0 : Int32))) hx hb hK hP hD hS 0 0 rfl rfl dX10_endOn_35 hf rfl (fun hf H locs hP hD hS => ?_)
  refine lv_aload_n hx hb dX10_endOn_36 rfl (lv_at hl 2 rfl) ?_
  refine lv_sipush (v := (311 : Int32)) hx hb dX10_endOn_37 (by decide) ?_
  refine lv_iconst (v := (2 : Int32)) hx hb dX10_endOn_40 (by decide) ?_
  refine lv_iload_n hx hb dX10_endOn_41 rfl (lv_at hl 3 rfl) ?_
  refine lv_imul hx hb dX10_endOn_42 ?_
  refine lv_iadd hx hb dX10_endOn_43 ?_
  refine lv_iconst (v := (1 : Int32)) hx hb dX10_endOn_44 (by decide) ?_
  refine lv_iadd hx hb dX10_endOn_45 ?_
  refine lv_iconst (v := (0 : Int32)) hx hb dX10_endOn_46 (by decide) ?_
  refine z_iast (f := (upd (upd (upd Sp1 ((240 : Int32) + (Sp1 ((304 : Int32) + x2).toNatClampNeg)).toNatClampNeg x3) ((304 : Int32) + x2).toNatClampNeg (-1 : Int32)) ((311 : Int32) + ((2 : Int32) * x2)).toNatClampNeg (0 : Int32))) (w2 := wAI hp1 cy 325 (upd (upd (upd (upd Sp1 ((240 : Int32) + (Sp1 ((304 : Int32) + x2).toNatClampNeg)).toNatClampNeg x3) ((304 : Int32) + x2).toNatClampNeg (-1 : Int32)) ((311 : Int32) + ((2 : Int32) * x2)).toNatClampNeg (0 : Int32)) (((311 : Int32) + ((2 : Int32) * x2)) + (1 : Int32)).toNatClampNeg (0 : Int32))) hx hb hK hP hD hS 0 0 rfl rfl dX10_endOn_47 hf rfl (fun hf H locs hP hD hS => ?_)
  refine lv_aload_n hx hb dX10_endOn_48 rfl (lv_at hl 2 rfl) ?_
  refine lv_sipush (v := (310 : Int32)) hx hb dX10_endOn_49 (by decide) ?_
  refine lv_dup2_11 hx hb dX10_endOn_52 rfl rfl ?_
  refine z_iald (f := (upd (upd (upd (upd Sp1 ((240 : Int32) + (Sp1 ((304 : Int32) + x2).toNatClampNeg)).toNatClampNeg x3) ((304 : Int32) + x2).toNatClampNeg (-1 : Int32)) ((311 : Int32) + ((2 : Int32) * x2)).toNatClampNeg (0 : Int32)) (((311 : Int32) + ((2 : Int32) * x2)) + (1 : Int32)).toNatClampNeg (0 : Int32))) hx hb hK hP 0 0 rfl rfl dX10_endOn_53 hf (fun hf => ?_)
  refine lv_iconst (v := (1 : Int32)) hx hb dX10_endOn_54 (by decide) ?_
  refine lv_iload_n hx hb dX10_endOn_55 rfl (lv_at hl 3 rfl) ?_
  refine lv_ishl hx hb dX10_endOn_56 ?_
  refine lv_iconst (v := (-1 : Int32)) hx hb dX10_endOn_57 (by decide) ?_
  refine lv_ixor hx hb dX10_endOn_58 ?_
  refine lv_iand hx hb dX10_endOn_59 ?_
  refine z_iast (f := (upd (upd (upd (upd Sp1 ((240 : Int32) + (Sp1 ((304 : Int32) + x2).toNatClampNeg)).toNatClampNeg x3) ((304 : Int32) + x2).toNatClampNeg (-1 : Int32)) ((311 : Int32) + ((2 : Int32) * x2)).toNatClampNeg (0 : Int32)) (((311 : Int32) + ((2 : Int32) * x2)) + (1 : Int32)).toNatClampNeg (0 : Int32))) (w2 := wAI hp1 cy 325 (upd (upd (upd (upd (upd Sp1 ((240 : Int32) + (Sp1 ((304 : Int32) + x2).toNatClampNeg)).toNatClampNeg x3) ((304 : Int32) + x2).toNatClampNeg (-1 : Int32)) ((311 : Int32) + ((2 : Int32) * x2)).toNatClampNeg (0 : Int32)) (((311 : Int32) + ((2 : Int32) * x2)) + (1 : Int32)).toNatClampNeg (0 : Int32)) (310 : Int32).toNatClampNeg (((upd (upd (upd (upd Sp1 ((240 : Int32) + (Sp1 ((304 : Int32) + x2).toNatClampNeg)).toNatClampNeg x3) ((304 : Int32) + x2).toNatClampNeg (-1 : Int32)) ((311 : Int32) + ((2 : Int32) * x2)).toNatClampNeg (0 : Int32)) (((311 : Int32) + ((2 : Int32) * x2)) + (1 : Int32)).toNatClampNeg (0 : Int32)) (310 : Int32).toNatClampNeg) &&& (((1 : Int32) <<< (x2 &&& 31)) ^^^ (-1 : Int32))))) hx hb hK hP hD hS 0 0 rfl rfl dX10_endOn_60 hf rfl (fun hf H locs hP hD hS => ?_)
  refine lv_iload hx hb dX10_endOn_61 (lv_at hl 0 rfl) ?_
  obtain rfl := Option.some.inj hf
  exact z_iret (v := (Sp1 ((304 : Int32) + x2).toNatClampNeg)) C hP hD hS dX10_endOn_63
def b_X10_freeVersion_2 (Sp1 : Nat → Int32) (k2 : Int32 → Option (Int32)) (v2 : Int32) : Option (Int32) :=
  (if (48 : Int32) ≤ v2 then
    some (-2 : Int32)
    else
    (if zib ((0 : Int32) + v2) 325 then (if (Sp1 ((0 : Int32) + v2).toNatClampNeg) = 0 then
        some v2
        else
        (k2 (v2 + (1 : Int32)))) else none))
set_option maxHeartbeats 4000000 in
set_option maxRecDepth 100000 in
theorem w_X10_freeVersion_2 {p : Program} {e : Env} {s : State} {m : MethodId} {below : List Frame} {meth : Method} {c : Code} {A : Nat → Prop} {D : va_G} {cy : Nat → ClassId} {args : Array Value} {r : Int32} (l : Launch) (ht : Nat → Nat) (hp1 : Nat → Nat) (Sp1 : Nat → Int32) (C : zX p s m meth c cX10_freeVersion 3 args RX10 (some FieldType.int) A D (zty cy)) :
    ∀ (n : Nat) (v2 : Int32) (H : Heap) (locs : List Loc) (ls : Array Slot), zl1 (b_X10_freeVersion_2 Sp1) n v2 = some r → va_P D vwCl (wAI hp1 cy 325 Sp1) H → va_D A (wAI hp1 cy 325 Sp1) → va_S A s.heap H locs → lv_has ls 3 [(1, .ref (hp1 0)), (2, .int v2)] → W p l e (zRm 0 0) s m args below meth c H locs 0 0 (MQ below (zQI D (zty cy) A (wAI hp1 cy 325 Sp1) r) args s 0 0 A) (F0 m 2 ls []) := by
  obtain ⟨hx, hb, hr, hts, hown, hlocks, hml, hA, hK⟩ := id C
  intro n
  induction n with
  | zero => intro v2 H locs ls hf; exact zno hf
  | succ n ih =>
    intro v2 H locs ls hf hP hD hS hl
    have hf : b_X10_freeVersion_2 Sp1 (zl1 (b_X10_freeVersion_2 Sp1) n) v2 = some r := hf
    have K2 := ih
    refine lv_iload_n hx hb dX10_freeVersion_2 rfl (lv_at hl 1 rfl) ?_
    refine lv_bipush (v := (48 : Int32)) hx hb dX10_freeVersion_3 (by decide) ?_
    refine z_icmp_ge (tgt := 24) hx hb dX10_freeVersion_5 (by decide) hf (fun hf => ?_) (fun hf => ?_)
    · refine lv_bipush (v := (-2 : Int32)) hx hb dX10_freeVersion_24 (by decide) ?_
      obtain rfl := Option.some.inj hf
      exact z_iret (v := (-2 : Int32)) C hP hD hS dX10_freeVersion_26
    · refine lv_aload_n hx hb dX10_freeVersion_8 rfl (lv_at hl 0 rfl) ?_
      refine lv_iconst (v := (0 : Int32)) hx hb dX10_freeVersion_9 (by decide) ?_
      refine lv_iload_n hx hb dX10_freeVersion_10 rfl (lv_at hl 1 rfl) ?_
      refine lv_iadd hx hb dX10_freeVersion_11 ?_
      refine z_iald (f := Sp1) hx hb hK hP 0 0 rfl rfl dX10_freeVersion_12 hf (fun hf => ?_)
      refine z_if_ne (tgt := 18) hx hb dX10_freeVersion_13 (by decide) hf (fun hf => ?_) (fun hf => ?_)
      · refine lv_iinc (v := (v2 + (1 : Int32))) (lv' := [(2, .int (v2 + (1 : Int32))), (1, .ref (hp1 0))]) hx hb dX10_freeVersion_18 hl (k := 1) rfl rfl (by decide) rfl (fun ls hl => ?_)
        refine lv_goto (tgt := 2) hx hb dX10_freeVersion_21 (by decide) ?_
        exact K2 (v2 + (1 : Int32)) H locs ls hf hP hD hS (lv_sub hl [1, 0] rfl)
      · refine lv_iload_n hx hb dX10_freeVersion_16 rfl (lv_at hl 1 rfl) ?_
        obtain rfl := Option.some.inj hf
        exact z_iret (v := v2) C hP hD hS dX10_freeVersion_17
def f_X10_freeVersion (Sp1 : Nat → Int32) : Option (Int32) :=
  (zl1 (b_X10_freeVersion_2 Sp1) FU (0 : Int32))
set_option maxHeartbeats 4000000 in
set_option maxRecDepth 100000 in
theorem c_X10_freeVersion (l : Launch) (D : va_G) (cy : Nat → ClassId) (ht : Nat → Nat) (hp1 : Nat → Nat) (Sp1 : Nat → Int32) (r : Int32) (hf : f_X10_freeVersion Sp1 = some r) : zCI l yX10_freeVersion cX10_freeVersion 3 (some FieldType.int) 0 0 D (zty cy) [.ref (ht 0), .ref (hp1 0)] (wAI hp1 cy 325 Sp1) (wAI hp1 cy 325 Sp1) r := by
  refine zCI_of (by decide +kernel) (Nat.le_of_ble_eq_true rfl) ?_
  intro p e s m below meth c A ls C hP hD hS hl
  generalize hargs : ([.ref (ht 0), .ref (hp1 0)] : List Value).toArray = args at C ⊢
  have C : zX p s m meth c cX10_freeVersion 3 args RX10 (some FieldType.int) A D (zty cy) := C
  obtain ⟨hx, hb, hr, hts, hown, hlocks, hml, hA, hK⟩ := id C
  have hl : lv_has ls 3 [(0, .ref (ht 0)), (1, .ref (hp1 0))] := hl
  generalize hH : s.heap = H at hP ⊢
  have hS : va_S A s.heap H [] := by rw [← hH]; exact hS
  generalize ([] : List Loc) = locs at hS ⊢
  refine lv_iconst (v := (0 : Int32)) hx hb dX10_freeVersion_0 (by decide) ?_
  refine lv_istore_n (lv' := [(2, .int (0 : Int32)), (0, .ref (ht 0)), (1, .ref (hp1 0))]) hx hb dX10_freeVersion_1 rfl hl (by decide) rfl (fun ls hl => ?_)
  exact w_X10_freeVersion_2 l ht hp1 Sp1 C FU (0 : Int32) H locs ls hf hP hD hS (lv_sub hl [2, 0] rfl)
def b_X10_isBarred_28 (x2 : Int32) (x3 : Int32) (St : SMo) (Sp1 : Nat → Int32) (u1 : Int32) : Option (Int32 × SMo × (Nat → Int32)) :=
  (if u1 = 0 then
    (f_X10_wouldLose (mkMo (Mo_thrown St) (Mo_taped St) (Mo_size St) (Mo_at St) (Mo_end St) (Mo_token St) (Mo_whole St) (Mo_nameSize St) (Mo_fault St) (Mo_place St) (Mo_trouble St) (Mo_failed St) (Mo_hasStore St) (Mo_undos St) (Mo_images St) (Mo_ring St) u1 (Mo_setMany St) (Mo_someOf St) (Mo_allOf St) (Mo_firstRest St) (Mo_allWeight St) (Mo_seenWeight St) (Mo_sumWeight St)) Sp1 x2 x3).bind (fun q1 =>
      (if q1 = 0 then
        some ((0 : Int32), (mkMo (Mo_thrown St) (Mo_taped St) (Mo_size St) (Mo_at St) (Mo_end St) (Mo_token St) (Mo_whole St) (Mo_nameSize St) (Mo_fault St) (Mo_place St) (Mo_trouble St) (Mo_failed St) (Mo_hasStore St) (Mo_undos St) (Mo_images St) (Mo_ring St) u1 (Mo_setMany St) (Mo_someOf St) (Mo_allOf St) (Mo_firstRest St) (Mo_allWeight St) (Mo_seenWeight St) (Mo_sumWeight St)), Sp1)
        else
        (if zib (310 : Int32) 325 then (if zib (310 : Int32) 325 then some ((1 : Int32), (mkMo (Mo_thrown St) (Mo_taped St) (Mo_size St) (Mo_at St) (Mo_end St) (Mo_token St) (Mo_whole St) (Mo_nameSize St) (Mo_fault St) (Mo_place St) (Mo_trouble St) (Mo_failed St) (Mo_hasStore St) (Mo_undos St) (Mo_images St) (Mo_ring St) u1 (Mo_setMany St) (Mo_someOf St) (Mo_allOf St) (Mo_firstRest St) (Mo_allWeight St) (Mo_seenWeight St) (Mo_sumWeight St)), (upd Sp1 (310 : Int32).toNatClampNeg ((Sp1 (310 : Int32).toNatClampNeg) ||| ((1 : Int32) <<< (x2 &&& 31))))) else none) else none)))
    else
    some ((1 : Int32), (mkMo (Mo_thrown St) (Mo_taped St) (Mo_size St) (Mo_at St) (Mo_end St) (Mo_token St) (Mo_whole St) (Mo_nameSize St) (Mo_fault St) (Mo_place St) (Mo_trouble St) (Mo_failed St) (Mo_hasStore St) (Mo_undos St) (Mo_images St) (Mo_ring St) u1 (Mo_setMany St) (Mo_someOf St) (Mo_allOf St) (Mo_firstRest St) (Mo_allWeight St) (Mo_seenWeight St) (Mo_sumWeight St)), Sp1))
set_option maxHeartbeats 4000000 in
set_option maxRecDepth 100000 in
theorem w_X10_isBarred_28 {p : Program} {e : Env} {s : State} {m : MethodId} {below : List Frame} {meth : Method} {c : Code} {A : Nat → Prop} {D : va_G} {cy : Nat → ClassId} {args : Array Value} {r : Int32 × SMo × (Nat → Int32)} (l : Launch) (ht : Nat → Nat) (hp1 : Nat → Nat) (x2 : Int32) (x3 : Int32) (C : zX p s m meth c cX10_isBarred 4 args RX10 (some FieldType.boolean) A D (zty cy)) :
    ∀ (St : SMo) (Sp1 : Nat → Int32) (u1 : Int32) (H : Heap) (locs : List Loc) (ls : Array Slot), b_X10_isBarred_28 x2 x3 St Sp1 u1 = some r → va_P D vwCl (wMo ht cy St ++ (wAI hp1 cy 325 Sp1)) H → va_D A (wMo ht cy St ++ (wAI hp1 cy 325 Sp1)) → va_S A s.heap H locs → lv_has ls 4 [(0, .ref (ht 0)), (1, .ref (hp1 0)), (2, .int x2), (3, .int x3)] → W p l e (zRm 6 145) s m args below meth c H locs 0 0 (MQ below (zQI D (zty cy) A (wMo ht cy r.2.1 ++ (wAI hp1 cy 325 r.2.2)) r.1) args s 0 0 A) (F0 m 28 ls [.int u1, .ref (ht 0)]) := by
  obtain ⟨hx, hb, hr, hts, hown, hlocks, hml, hA, hK⟩ := id C
  intro St Sp1 u1 H locs ls hf hP hD hS hl
  refine z_put (w2 := vMo ht cy (Mo_thrown St) (Mo_taped St) (Mo_size St) (Mo_at St) (Mo_end St) (Mo_token St) (Mo_whole St) (Mo_nameSize St) (Mo_fault St) (Mo_place St) (Mo_trouble St) (Mo_failed St) (Mo_hasStore St) (Mo_undos St) (Mo_images St) (Mo_ring St) u1 (Mo_setMany St) (Mo_someOf St) (Mo_allOf St) (Mo_firstRest St) (Mo_allWeight St) (Mo_seenWeight St) (Mo_sumWeight St) ++ (wAI hp1 cy 325 Sp1)) hx hb hts in_X10 tyX10 tyX10_ok nmX10 hown hK hP hD hS 0 rfl rfl 28 (by decide) (hts _ q6_73) (fun _ h9 => h9) rfl rfl rfl (Nat.le_of_ble_eq_true rfl) dX10_isBarred_28 rfl (fun H locs hP hD hS => ?_)
  refine lv_aload_n hx hb dX10_isBarred_31 rfl (lv_at hl 0 rfl) ?_
  refine va_get (D := D) (ci := 6) (v := .int u1) (C := RX10) (T := TX10) (N := 41) hx hb hts in_X10 hown hK hP 0 rfl rfl 28 (by decide) (hts _ q6_73) (fun _ h9 => h9) rfl dX10_isBarred_32 ?_
  refine z_if_eq (tgt := 40) hx hb dX10_isBarred_35 (by decide) hf (fun hf => ?_) (fun hf => ?_)
  · refine lv_aload_n hx hb dX10_isBarred_40 rfl (lv_at hl 0 rfl) ?_
    refine lv_aload_n hx hb dX10_isBarred_41 rfl (lv_at hl 1 rfl) ?_
    refine lv_iload_n hx hb dX10_isBarred_42 rfl (lv_at hl 2 rfl) ?_
    refine lv_iload_n hx hb dX10_isBarred_43 rfl (lv_at hl 3 rfl) ?_
    obtain ⟨q1, hc, hf⟩ := zbd hf
    rw [← wMo_mk ht] at hP hD
    refine z_cVi0 (As := [.ref (hp1 0), .int x2, .int x3]) (rest := []) C (c_X10_wouldLose l D cy ht hp1 (mkMo (Mo_thrown St) (Mo_taped St) (Mo_size St) (Mo_at St) (Mo_end St) (Mo_token St) (Mo_whole St) (Mo_nameSize St) (Mo_fault St) (Mo_place St) (Mo_trouble St) (Mo_failed St) (Mo_hasStore St) (Mo_undos St) (Mo_images St) (Mo_ring St) u1 (Mo_setMany St) (Mo_someOf St) (Mo_allOf St) (Mo_firstRest St) (Mo_allWeight St) (Mo_seenWeight St) (Mo_sumWeight St)) Sp1 x2 x3 q1 hc) gV_X10_X10_wouldLose hd_X10_wouldLose ⟨Nat.le_of_ble_eq_true rfl, Nat.le_of_ble_eq_true rfl⟩ ⟨Nat.le_refl _, Nat.le_refl _⟩ (va_recv hK hP (ci := 6) (q0 := 0) rfl rfl) hP hD hS hl.1 (Nat.le_of_ble_eq_true rfl) dX10_isBarred_44 (fun H locs hP hD hS => ?_)
    have hP : va_P D vwCl (wMo ht cy (mkMo (Mo_thrown St) (Mo_taped St) (Mo_size St) (Mo_at St) (Mo_end St) (Mo_token St) (Mo_whole St) (Mo_nameSize St) (Mo_fault St) (Mo_place St) (Mo_trouble St) (Mo_failed St) (Mo_hasStore St) (Mo_undos St) (Mo_images St) (Mo_ring St) u1 (Mo_setMany St) (Mo_someOf St) (Mo_allOf St) (Mo_firstRest St) (Mo_allWeight St) (Mo_seenWeight St) (Mo_sumWeight St)) ++ (wAI hp1 cy 325 Sp1)) H := hP
    have hD : va_D A (wMo ht cy (mkMo (Mo_thrown St) (Mo_taped St) (Mo_size St) (Mo_at St) (Mo_end St) (Mo_token St) (Mo_whole St) (Mo_nameSize St) (Mo_fault St) (Mo_place St) (Mo_trouble St) (Mo_failed St) (Mo_hasStore St) (Mo_undos St) (Mo_images St) (Mo_ring St) u1 (Mo_setMany St) (Mo_someOf St) (Mo_allOf St) (Mo_firstRest St) (Mo_allWeight St) (Mo_seenWeight St) (Mo_sumWeight St)) ++ (wAI hp1 cy 325 Sp1)) := hD
    rw [wMo_mk ht] at hP hD
    refine z_if_ne (tgt := 52) hx hb dX10_isBarred_47 (by decide) hf (fun hf => ?_) (fun hf => ?_)
    · refine lv_aload_n hx hb dX10_isBarred_52 rfl (lv_at hl 1 rfl) ?_
      refine lv_sipush (v := (310 : Int32)) hx hb dX10_isBarred_53 (by decide) ?_
      refine lv_dup2_11 hx hb dX10_isBarred_56 rfl rfl ?_
      refine z_iald (f := Sp1) hx hb hK hP 1 0 rfl rfl dX10_isBarred_57 hf (fun hf => ?_)
      refine lv_iconst (v := (1 : Int32)) hx hb dX10_isBarred_58 (by decide) ?_
      refine lv_iload_n hx hb dX10_isBarred_59 rfl (lv_at hl 2 rfl) ?_
      refine lv_ishl hx hb dX10_isBarred_60 ?_
      refine lv_ior hx hb dX10_isBarred_61 ?_
      refine z_iast (f := Sp1) (w2 := vMo ht cy (Mo_thrown St) (Mo_taped St) (Mo_size St) (Mo_at St) (Mo_end St) (Mo_token St) (Mo_whole St) (Mo_nameSize St) (Mo_fault St) (Mo_place St) (Mo_trouble St) (Mo_failed St) (Mo_hasStore St) (Mo_undos St) (Mo_images St) (Mo_ring St) u1 (Mo_setMany St) (Mo_someOf St) (Mo_allOf St) (Mo_firstRest St) (Mo_allWeight St) (Mo_seenWeight St) (Mo_sumWeight St) ++ (wAI hp1 cy 325 (upd Sp1 (310 : Int32).toNatClampNeg ((Sp1 (310 : Int32).toNatClampNeg) ||| ((1 : Int32) <<< (x2 &&& 31)))))) hx hb hK hP hD hS 1 0 rfl rfl dX10_isBarred_62 hf rfl (fun hf H locs hP hD hS => ?_)
      refine lv_iconst (v := (1 : Int32)) hx hb dX10_isBarred_63 (by decide) ?_
      obtain rfl := Option.some.inj hf
      rw [← wMo_mk ht] at hP hD
      exact z_zret (v := (1 : Int32)) C rfl hP hD hS dX10_isBarred_64
    · refine lv_iconst (v := (0 : Int32)) hx hb dX10_isBarred_50 (by decide) ?_
      obtain rfl := Option.some.inj hf
      rw [← wMo_mk ht] at hP hD
      exact z_zret (v := (0 : Int32)) C rfl hP hD hS dX10_isBarred_51
  · refine lv_iconst (v := (1 : Int32)) hx hb dX10_isBarred_38 (by decide) ?_
    obtain rfl := Option.some.inj hf
    rw [← wMo_mk ht] at hP hD
    exact z_zret (v := (1 : Int32)) C rfl hP hD hS dX10_isBarred_39
def f_X10_isBarred (St : SMo) (Sp1 : Nat → Int32) (x2 : Int32) (x3 : Int32) : Option (Int32 × SMo × (Nat → Int32)) :=
  (if zib (310 : Int32) 325 then (f_X10_hasBit (Sp1 (310 : Int32).toNatClampNeg) x2).bind (fun q2 =>
      (if q2 = 0 then
        (f_X10_heldBy St Sp1 x2 x3).bind (fun q3 =>
          (if q3 < 0 then
            (b_X10_isBarred_28 x2 x3 St Sp1 (0 : Int32))
            else
            (b_X10_isBarred_28 x2 x3 St Sp1 (5 : Int32))))
        else
        (b_X10_isBarred_28 x2 x3 St Sp1 (5 : Int32)))) else none)
set_option maxHeartbeats 4000000 in
set_option maxRecDepth 100000 in
theorem c_X10_isBarred (l : Launch) (D : va_G) (cy : Nat → ClassId) (ht : Nat → Nat) (hp1 : Nat → Nat) (St : SMo) (Sp1 : Nat → Int32) (x2 : Int32) (x3 : Int32) (r : Int32 × SMo × (Nat → Int32)) (hf : f_X10_isBarred St Sp1 x2 x3 = some r) : zCI l yX10_isBarred cX10_isBarred 4 (some FieldType.boolean) 6 145 D (zty cy) [.ref (ht 0), .ref (hp1 0), .int x2, .int x3] (wMo ht cy St ++ (wAI hp1 cy 325 Sp1)) (wMo ht cy r.2.1 ++ (wAI hp1 cy 325 r.2.2)) r.1 := by
  refine zCI_of (by decide +kernel) (Nat.le_of_ble_eq_true rfl) ?_
  intro p e s m below meth c A ls C hP hD hS hl
  generalize hargs : ([.ref (ht 0), .ref (hp1 0), .int x2, .int x3] : List Value).toArray = args at C ⊢
  have C : zX p s m meth c cX10_isBarred 4 args RX10 (some FieldType.boolean) A D (zty cy) := C
  obtain ⟨hx, hb, hr, hts, hown, hlocks, hml, hA, hK⟩ := id C
  have hl : lv_has ls 4 [(0, .ref (ht 0)), (1, .ref (hp1 0)), (2, .int x2), (3, .int x3)] := hl
  generalize hH : s.heap = H at hP ⊢
  have hS : va_S A s.heap H [] := by rw [← hH]; exact hS
  generalize ([] : List Loc) = locs at hS ⊢
  refine lv_aload_n hx hb dX10_isBarred_0 rfl (lv_at hl 0 rfl) ?_
  refine lv_aload_n hx hb dX10_isBarred_1 rfl (lv_at hl 1 rfl) ?_
  refine lv_sipush (v := (310 : Int32)) hx hb dX10_isBarred_2 (by decide) ?_
  refine z_iald (f := Sp1) hx hb hK hP 1 0 rfl rfl dX10_isBarred_5 hf (fun hf => ?_)
  refine lv_iload_n hx hb dX10_isBarred_6 rfl (lv_at hl 2 rfl) ?_
  obtain ⟨q2, hc, hf⟩ := zbd hf
  refine z_cSiE (As := [.int (Sp1 (310 : Int32).toNatClampNeg), .int x2]) (rest := [.ref (ht 0)]) C (c_X10_hasBit l D cy (Sp1 (310 : Int32).toNatClampNeg) x2 q2 hc) gS_X10_X10_hasBit hd_X10_hasBit ⟨Nat.le_of_ble_eq_true rfl, Nat.le_of_ble_eq_true rfl⟩ ⟨Nat.le_refl _, Nat.le_refl _⟩ hP hD hS hl.1 (Nat.le_of_ble_eq_true rfl) dX10_isBarred_7 (fun H locs hP hD hS => ?_)
  refine z_if_ne (tgt := 23) hx hb dX10_isBarred_10 (by decide) hf (fun hf => ?_) (fun hf => ?_)
  · refine lv_iconst (v := (5 : Int32)) hx hb dX10_isBarred_23 (by decide) ?_
    refine lv_goto (tgt := 28) hx hb dX10_isBarred_24 (by decide) ?_
    exact w_X10_isBarred_28 l ht hp1 x2 x3 C St Sp1 (5 : Int32) H locs ls hf hP hD hS (lv_sub hl [0, 1, 2, 3] rfl)
  · refine lv_aload_n hx hb dX10_isBarred_13 rfl (lv_at hl 0 rfl) ?_
    refine lv_aload_n hx hb dX10_isBarred_14 rfl (lv_at hl 1 rfl) ?_
    refine lv_iload_n hx hb dX10_isBarred_15 rfl (lv_at hl 2 rfl) ?_
    refine lv_iload_n hx hb dX10_isBarred_16 rfl (lv_at hl 3 rfl) ?_
    obtain ⟨q3, hc, hf⟩ := zbd hf
    refine z_cVi0 (As := [.ref (hp1 0), .int x2, .int x3]) (rest := [.ref (ht 0)]) C (c_X10_heldBy l D cy ht hp1 St Sp1 x2 x3 q3 hc) gV_X10_X10_heldBy hd_X10_heldBy ⟨Nat.le_of_ble_eq_true rfl, Nat.le_of_ble_eq_true rfl⟩ ⟨Nat.le_refl _, Nat.le_refl _⟩ (va_recv hK hP (ci := 6) (q0 := 0) rfl rfl) hP hD hS hl.1 (Nat.le_of_ble_eq_true rfl) dX10_isBarred_17 (fun H locs hP hD hS => ?_)
    have hP : va_P D vwCl (wMo ht cy St ++ (wAI hp1 cy 325 Sp1)) H := hP
    have hD : va_D A (wMo ht cy St ++ (wAI hp1 cy 325 Sp1)) := hD
    refine z_if_lt (tgt := 27) hx hb dX10_isBarred_20 (by decide) hf (fun hf => ?_) (fun hf => ?_)
    · refine lv_iconst (v := (0 : Int32)) hx hb dX10_isBarred_27 (by decide) ?_
      exact w_X10_isBarred_28 l ht hp1 x2 x3 C St Sp1 (0 : Int32) H locs ls hf hP hD hS (lv_sub hl [0, 1, 2, 3] rfl)
    · refine lv_iconst (v := (5 : Int32)) hx hb dX10_isBarred_23 (by decide) ?_
      refine lv_goto (tgt := 28) hx hb dX10_isBarred_24 (by decide) ?_
      exact w_X10_isBarred_28 l ht hp1 x2 x3 C St Sp1 (5 : Int32) H locs ls hf hP hD hS (lv_sub hl [0, 1, 2, 3] rfl)
def b_X10_putOn_95 (x2 : Int32) (x3 : Int32) (x4 : Int32) (St : SMo) (Sp1 : Nat → Int32) (v6 : Int32) (v7 : Int32) : Option (Int32 × SMo × (Nat → Int32)) :=
  (if zib ((0 : Int32) + v7) 325 then (if zib ((48 : Int32) + v7) 325 then (if zib ((96 : Int32) + v7) 325 then (if zib ((144 : Int32) + v7) 325 then (if zib (324 : Int32) 325 then (if zib ((192 : Int32) + v7) 325 then (if zib (324 : Int32) 325 then (if zib (324 : Int32) 325 then some (v7, St, (upd (upd (upd (upd (upd (upd Sp1 ((0 : Int32) + v7).toNatClampNeg (x3 + (1 : Int32))) ((48 : Int32) + v7).toNatClampNeg x4) ((96 : Int32) + v7).toNatClampNeg v6) ((144 : Int32) + v7).toNatClampNeg (-2 : Int32)) ((192 : Int32) + v7).toNatClampNeg ((upd (upd (upd (upd Sp1 ((0 : Int32) + v7).toNatClampNeg (x3 + (1 : Int32))) ((48 : Int32) + v7).toNatClampNeg x4) ((96 : Int32) + v7).toNatClampNeg v6) ((144 : Int32) + v7).toNatClampNeg (-2 : Int32)) (324 : Int32).toNatClampNeg)) (324 : Int32).toNatClampNeg (((upd (upd (upd (upd (upd Sp1 ((0 : Int32) + v7).toNatClampNeg (x3 + (1 : Int32))) ((48 : Int32) + v7).toNatClampNeg x4) ((96 : Int32) + v7).toNatClampNeg v6) ((144 : Int32) + v7).toNatClampNeg (-2 : Int32)) ((192 : Int32) + v7).toNatClampNeg ((upd (upd (upd (upd Sp1 ((0 : Int32) + v7).toNatClampNeg (x3 + (1 : Int32))) ((48 : Int32) + v7).toNatClampNeg x4) ((96 : Int32) + v7).toNatClampNeg v6) ((144 : Int32) + v7).toNatClampNeg (-2 : Int32)) (324 : Int32).toNatClampNeg)) (324 : Int32).toNatClampNeg) + (1 : Int32)))) else none) else none) else none) else none) else none) else none) else none) else none)
set_option maxHeartbeats 4000000 in
set_option maxRecDepth 100000 in
theorem w_X10_putOn_95 {p : Program} {e : Env} {s : State} {m : MethodId} {below : List Frame} {meth : Method} {c : Code} {A : Nat → Prop} {D : va_G} {cy : Nat → ClassId} {args : Array Value} {r : Int32 × SMo × (Nat → Int32)} (l : Launch) (ht : Nat → Nat) (hp1 : Nat → Nat) (x2 : Int32) (x3 : Int32) (x4 : Int32) (C : zX p s m meth c cX10_putOn 8 args RX10 (some FieldType.int) A D (zty cy)) :
    ∀ (St : SMo) (Sp1 : Nat → Int32) (v6 : Int32) (v7 : Int32) (H : Heap) (locs : List Loc) (ls : Array Slot), b_X10_putOn_95 x2 x3 x4 St Sp1 v6 v7 = some r → va_P D vwCl (wMo ht cy St ++ (wAI hp1 cy 325 Sp1)) H → va_D A (wMo ht cy St ++ (wAI hp1 cy 325 Sp1)) → va_S A s.heap H locs → lv_has ls 8 [(1, .ref (hp1 0)), (3, .int x3), (4, .int x4), (6, .int v6), (7, .int v7)] → W p l e (zRm 7 168) s m args below meth c H locs 0 0 (MQ below (zQI D (zty cy) A (wMo ht cy r.2.1 ++ (wAI hp1 cy 325 r.2.2)) r.1) args s 0 0 A) (F0 m 95 ls []) := by
  obtain ⟨hx, hb, hr, hts, hown, hlocks, hml, hA, hK⟩ := id C
  intro St Sp1 v6 v7 H locs ls hf hP hD hS hl
  refine lv_aload_n hx hb dX10_putOn_95 rfl (lv_at hl 0 rfl) ?_
  refine lv_iconst (v := (0 : Int32)) hx hb dX10_putOn_96 (by decide) ?_
  refine lv_iload hx hb dX10_putOn_97 (lv_at hl 4 rfl) ?_
  refine lv_iadd hx hb dX10_putOn_99 ?_
  refine lv_iload_n hx hb dX10_putOn_100 rfl (lv_at hl 1 rfl) ?_
  refine lv_iconst (v := (1 : Int32)) hx hb dX10_putOn_101 (by decide) ?_
  refine lv_iadd hx hb dX10_putOn_102 ?_
  refine z_iast (f := Sp1) (w2 := wMo ht cy St ++ (wAI hp1 cy 325 (upd Sp1 ((0 : Int32) + v7).toNatClampNeg (x3 + (1 : Int32))))) hx hb hK hP hD hS 1 0 rfl rfl dX10_putOn_103 hf rfl (fun hf H locs hP hD hS => ?_)
  refine lv_aload_n hx hb dX10_putOn_104 rfl (lv_at hl 0 rfl) ?_
  refine lv_bipush (v := (48 : Int32)) hx hb dX10_putOn_105 (by decide) ?_
  refine lv_iload hx hb dX10_putOn_107 (lv_at hl 4 rfl) ?_
  refine lv_iadd hx hb dX10_putOn_109 ?_
  refine lv_iload hx hb dX10_putOn_110 (lv_at hl 2 rfl) ?_
  refine z_iast (f := (upd Sp1 ((0 : Int32) + v7).toNatClampNeg (x3 + (1 : Int32)))) (w2 := wMo ht cy St ++ (wAI hp1 cy 325 (upd (upd Sp1 ((0 : Int32) + v7).toNatClampNeg (x3 + (1 : Int32))) ((48 : Int32) + v7).toNatClampNeg x4))) hx hb hK hP hD hS 1 0 rfl rfl dX10_putOn_112 hf rfl (fun hf H locs hP hD hS => ?_)
  refine lv_aload_n hx hb dX10_putOn_113 rfl (lv_at hl 0 rfl) ?_
  refine lv_bipush (v := (96 : Int32)) hx hb dX10_putOn_114 (by decide) ?_
  refine lv_iload hx hb dX10_putOn_116 (lv_at hl 4 rfl) ?_
  refine lv_iadd hx hb dX10_putOn_118 ?_
  refine lv_iload hx hb dX10_putOn_119 (lv_at hl 3 rfl) ?_
  refine z_iast (f := (upd (upd Sp1 ((0 : Int32) + v7).toNatClampNeg (x3 + (1 : Int32))) ((48 : Int32) + v7).toNatClampNeg x4)) (w2 := wMo ht cy St ++ (wAI hp1 cy 325 (upd (upd (upd Sp1 ((0 : Int32) + v7).toNatClampNeg (x3 + (1 : Int32))) ((48 : Int32) + v7).toNatClampNeg x4) ((96 : Int32) + v7).toNatClampNeg v6))) hx hb hK hP hD hS 1 0 rfl rfl dX10_putOn_121 hf rfl (fun hf H locs hP hD hS => ?_)
  refine lv_aload_n hx hb dX10_putOn_122 rfl (lv_at hl 0 rfl) ?_
  refine lv_sipush (v := (144 : Int32)) hx hb dX10_putOn_123 (by decide) ?_
  refine lv_iload hx hb dX10_putOn_126 (lv_at hl 4 rfl) ?_
  refine lv_iadd hx hb dX10_putOn_128 ?_
  refine lv_bipush (v := (-2 : Int32)) hx hb dX10_putOn_129 (by decide) ?_
  refine z_iast (f := (upd (upd (upd Sp1 ((0 : Int32) + v7).toNatClampNeg (x3 + (1 : Int32))) ((48 : Int32) + v7).toNatClampNeg x4) ((96 : Int32) + v7).toNatClampNeg v6)) (w2 := wMo ht cy St ++ (wAI hp1 cy 325 (upd (upd (upd (upd Sp1 ((0 : Int32) + v7).toNatClampNeg (x3 + (1 : Int32))) ((48 : Int32) + v7).toNatClampNeg x4) ((96 : Int32) + v7).toNatClampNeg v6) ((144 : Int32) + v7).toNatClampNeg (-2 : Int32)))) hx hb hK hP hD hS 1 0 rfl rfl dX10_putOn_131 hf rfl (fun hf H locs hP hD hS => ?_)
  refine lv_aload_n hx hb dX10_putOn_132 rfl (lv_at hl 0 rfl) ?_
  refine lv_sipush (v := (192 : Int32)) hx hb dX10_putOn_133 (by decide) ?_
  refine lv_iload hx hb dX10_putOn_136 (lv_at hl 4 rfl) ?_
  refine lv_iadd hx hb dX10_putOn_138 ?_
  refine lv_aload_n hx hb dX10_putOn_139 rfl (lv_at hl 0 rfl) ?_
  refine lv_sipush (v := (324 : Int32)) hx hb dX10_putOn_140 (by decide) ?_
  refine z_iald (f := (upd (upd (upd (upd Sp1 ((0 : Int32) + v7).toNatClampNeg (x3 + (1 : Int32))) ((48 : Int32) + v7).toNatClampNeg x4) ((96 : Int32) + v7).toNatClampNeg v6) ((144 : Int32) + v7).toNatClampNeg (-2 : Int32))) hx hb hK hP 1 0 rfl rfl dX10_putOn_143 hf (fun hf => ?_)
  refine z_iast (f := (upd (upd (upd (upd Sp1 ((0 : Int32) + v7).toNatClampNeg (x3 + (1 : Int32))) ((48 : Int32) + v7).toNatClampNeg x4) ((96 : Int32) + v7).toNatClampNeg v6) ((144 : Int32) + v7).toNatClampNeg (-2 : Int32))) (w2 := wMo ht cy St ++ (wAI hp1 cy 325 (upd (upd (upd (upd (upd Sp1 ((0 : Int32) + v7).toNatClampNeg (x3 + (1 : Int32))) ((48 : Int32) + v7).toNatClampNeg x4) ((96 : Int32) + v7).toNatClampNeg v6) ((144 : Int32) + v7).toNatClampNeg (-2 : Int32)) ((192 : Int32) + v7).toNatClampNeg ((upd (upd (upd (upd Sp1 ((0 : Int32) + v7).toNatClampNeg (x3 + (1 : Int32))) ((48 : Int32) + v7).toNatClampNeg x4) ((96 : Int32) + v7).toNatClampNeg v6) ((144 : Int32) + v7).toNatClampNeg (-2 : Int32)) (324 : Int32).toNatClampNeg)))) hx hb hK hP hD hS 1 0 rfl rfl dX10_putOn_144 hf rfl (fun hf H locs hP hD hS => ?_)
  refine lv_aload_n hx hb dX10_putOn_145 rfl (lv_at hl 0 rfl) ?_
  refine lv_sipush (v := (324 : Int32)) hx hb dX10_putOn_146 (by decide) ?_
  refine lv_dup2_11 hx hb dX10_putOn_149 rfl rfl ?_
  refine z_iald (f := (upd (upd (upd (upd (upd Sp1 ((0 : Int32) + v7).toNatClampNeg (x3 + (1 : Int32))) ((48 : Int32) + v7).toNatClampNeg x4) ((96 : Int32) + v7).toNatClampNeg v6) ((144 : Int32) + v7).toNatClampNeg (-2 : Int32)) ((192 : Int32) + v7).toNatClampNeg ((upd (upd (upd (upd Sp1 ((0 : Int32) + v7).toNatClampNeg (x3 + (1 : Int32))) ((48 : Int32) + v7).toNatClampNeg x4) ((96 : Int32) + v7).toNatClampNeg v6) ((144 : Int32) + v7).toNatClampNeg (-2 : Int32)) (324 : Int32).toNatClampNeg))) hx hb hK hP 1 0 rfl rfl dX10_putOn_150 hf (fun hf => ?_)
  refine lv_iconst (v := (1 : Int32)) hx hb dX10_putOn_151 (by decide) ?_
  refine lv_iadd hx hb dX10_putOn_152 ?_
  refine z_iast (f := (upd (upd (upd (upd (upd Sp1 ((0 : Int32) + v7).toNatClampNeg (x3 + (1 : Int32))) ((48 : Int32) + v7).toNatClampNeg x4) ((96 : Int32) + v7).toNatClampNeg v6) ((144 : Int32) + v7).toNatClampNeg (-2 : Int32)) ((192 : Int32) + v7).toNatClampNeg ((upd (upd (upd (upd Sp1 ((0 : Int32) + v7).toNatClampNeg (x3 + (1 : Int32))) ((48 : Int32) + v7).toNatClampNeg x4) ((96 : Int32) + v7).toNatClampNeg v6) ((144 : Int32) + v7).toNatClampNeg (-2 : Int32)) (324 : Int32).toNatClampNeg))) (w2 := wMo ht cy St ++ (wAI hp1 cy 325 (upd (upd (upd (upd (upd (upd Sp1 ((0 : Int32) + v7).toNatClampNeg (x3 + (1 : Int32))) ((48 : Int32) + v7).toNatClampNeg x4) ((96 : Int32) + v7).toNatClampNeg v6) ((144 : Int32) + v7).toNatClampNeg (-2 : Int32)) ((192 : Int32) + v7).toNatClampNeg ((upd (upd (upd (upd Sp1 ((0 : Int32) + v7).toNatClampNeg (x3 + (1 : Int32))) ((48 : Int32) + v7).toNatClampNeg x4) ((96 : Int32) + v7).toNatClampNeg v6) ((144 : Int32) + v7).toNatClampNeg (-2 : Int32)) (324 : Int32).toNatClampNeg)) (324 : Int32).toNatClampNeg (((upd (upd (upd (upd (upd Sp1 ((0 : Int32) + v7).toNatClampNeg (x3 + (1 : Int32))) ((48 : Int32) + v7).toNatClampNeg x4) ((96 : Int32) + v7).toNatClampNeg v6) ((144 : Int32) + v7).toNatClampNeg (-2 : Int32)) ((192 : Int32) + v7).toNatClampNeg ((upd (upd (upd (upd Sp1 ((0 : Int32) + v7).toNatClampNeg (x3 + (1 : Int32))) ((48 : Int32) + v7).toNatClampNeg x4) ((96 : Int32) + v7).toNatClampNeg v6) ((144 : Int32) + v7).toNatClampNeg (-2 : Int32)) (324 : Int32).toNatClampNeg)) (324 : Int32).toNatClampNeg) + (1 : Int32))))) hx hb hK hP hD hS 1 0 rfl rfl dX10_putOn_153 hf rfl (fun hf H locs hP hD hS => ?_)
  refine lv_iload hx hb dX10_putOn_154 (lv_at hl 4 rfl) ?_
  obtain rfl := Option.some.inj hf
  exact z_iret (v := v7) C hP hD hS dX10_putOn_156
def b_X10_putOn_60 (x2 : Int32) (x3 : Int32) (x4 : Int32) (St : SMo) (Sp1 : Nat → Int32) (v5 : Int32) (v6 : Int32) : Option (Int32 × SMo × (Nat → Int32)) :=
  (f_X10_freeVersion Sp1).bind (fun q1 =>
    (if 0 ≤ q1 then
      (if v5 < 0 then
        (b_X10_putOn_95 x2 x3 x4 St Sp1 v6 q1)
        else
        (if zib ((144 : Int32) + v5) 325 then (b_X10_putOn_95 x2 x3 x4 St (upd Sp1 ((144 : Int32) + v5).toNatClampNeg v6) v6 q1) else none))
      else
      some ((-2 : Int32), (mkMo (Mo_thrown St) (Mo_taped St) (Mo_size St) (Mo_at St) (Mo_end St) (Mo_token St) (Mo_whole St) (Mo_nameSize St) (Mo_fault St) (Mo_place St) (Mo_trouble St) (Mo_failed St) (Mo_hasStore St) (Mo_undos St) (Mo_images St) (Mo_ring St) (3 : Int32) (Mo_setMany St) (Mo_someOf St) (Mo_allOf St) (Mo_firstRest St) (Mo_allWeight St) (Mo_seenWeight St) (Mo_sumWeight St)), Sp1)))
set_option maxHeartbeats 4000000 in
set_option maxRecDepth 100000 in
theorem w_X10_putOn_60 {p : Program} {e : Env} {s : State} {m : MethodId} {below : List Frame} {meth : Method} {c : Code} {A : Nat → Prop} {D : va_G} {cy : Nat → ClassId} {args : Array Value} {r : Int32 × SMo × (Nat → Int32)} (l : Launch) (ht : Nat → Nat) (hp1 : Nat → Nat) (x2 : Int32) (x3 : Int32) (x4 : Int32) (C : zX p s m meth c cX10_putOn 8 args RX10 (some FieldType.int) A D (zty cy)) :
    ∀ (St : SMo) (Sp1 : Nat → Int32) (v5 : Int32) (v6 : Int32) (H : Heap) (locs : List Loc) (ls : Array Slot), b_X10_putOn_60 x2 x3 x4 St Sp1 v5 v6 = some r → va_P D vwCl (wMo ht cy St ++ (wAI hp1 cy 325 Sp1)) H → va_D A (wMo ht cy St ++ (wAI hp1 cy 325 Sp1)) → va_S A s.heap H locs → lv_has ls 8 [(0, .ref (ht 0)), (1, .ref (hp1 0)), (3, .int x3), (4, .int x4), (5, .int v5), (6, .int v6)] → W p l e (zRm 7 168) s m args below meth c H locs 0 0 (MQ below (zQI D (zty cy) A (wMo ht cy r.2.1 ++ (wAI hp1 cy 325 r.2.2)) r.1) args s 0 0 A) (F0 m 60 ls []) := by
  obtain ⟨hx, hb, hr, hts, hown, hlocks, hml, hA, hK⟩ := id C
  intro St Sp1 v5 v6 H locs ls hf hP hD hS hl
  refine lv_aload_n hx hb dX10_putOn_60 rfl (lv_at hl 0 rfl) ?_
  refine lv_aload_n hx hb dX10_putOn_61 rfl (lv_at hl 1 rfl) ?_
  obtain ⟨q1, hc, hf⟩ := zbd hf
  refine z_cVi (As := [.ref (hp1 0)]) (rest := []) C (c_X10_freeVersion l D cy ht hp1 Sp1 q1 hc) gV_X10_X10_freeVersion hd_X10_freeVersion ⟨Nat.le_of_ble_eq_true rfl, Nat.le_of_ble_eq_true rfl⟩ ⟨Nat.le_refl _, Nat.le_refl _⟩ (va_recv hK hP (ci := 6) (q0 := 0) rfl rfl) hP hD hS (w2 := wMo ht cy St ++ (wAI hp1 cy 325 Sp1)) [1] [0] [0, 1] rfl rfl rfl rfl rfl rfl (by decide) hl.1 (Nat.le_of_ble_eq_true rfl) dX10_putOn_62 (fun H locs hP hD hS => ?_)
  refine lv_istore (lv' := [(7, .int q1), (0, .ref (ht 0)), (1, .ref (hp1 0)), (3, .int x3), (4, .int x4), (5, .int v5), (6, .int v6)]) hx hb dX10_putOn_65 hl (by decide) rfl (fun ls hl => ?_)
  refine lv_iload hx hb dX10_putOn_67 (lv_at hl 0 rfl) ?_
  refine z_if_ge (tgt := 80) hx hb dX10_putOn_69 (by decide) hf (fun hf => ?_) (fun hf => ?_)
  · refine lv_iload hx hb dX10_putOn_80 (lv_at hl 5 rfl) ?_
    refine z_if_lt (tgt := 95) hx hb dX10_putOn_82 (by decide) hf (fun hf => ?_) (fun hf => ?_)
    · exact w_X10_putOn_95 l ht hp1 x2 x3 x4 C St Sp1 v6 q1 H locs ls hf hP hD hS (lv_sub hl [2, 3, 4, 6, 0] rfl)
    · refine lv_aload_n hx hb dX10_putOn_85 rfl (lv_at hl 2 rfl) ?_
      refine lv_sipush (v := (144 : Int32)) hx hb dX10_putOn_86 (by decide) ?_
      refine lv_iload hx hb dX10_putOn_89 (lv_at hl 5 rfl) ?_
      refine lv_iadd hx hb dX10_putOn_91 ?_
      refine lv_iload hx hb dX10_putOn_92 (lv_at hl 6 rfl) ?_
      refine z_iast (f := Sp1) (w2 := wMo ht cy St ++ (wAI hp1 cy 325 (upd Sp1 ((144 : Int32) + v5).toNatClampNeg v6))) hx hb hK hP hD hS 1 0 rfl rfl dX10_putOn_94 hf rfl (fun hf H locs hP hD hS => ?_)
      exact w_X10_putOn_95 l ht hp1 x2 x3 x4 C St (upd Sp1 ((144 : Int32) + v5).toNatClampNeg v6) v6 q1 H locs ls hf hP hD hS (lv_sub hl [2, 3, 4, 6, 0] rfl)
  · refine lv_aload_n hx hb dX10_putOn_72 rfl (lv_at hl 1 rfl) ?_
    refine lv_iconst (v := (3 : Int32)) hx hb dX10_putOn_73 (by decide) ?_
    refine z_put (w2 := vMo ht cy (Mo_thrown St) (Mo_taped St) (Mo_size St) (Mo_at St) (Mo_end St) (Mo_token St) (Mo_whole St) (Mo_nameSize St) (Mo_fault St) (Mo_place St) (Mo_trouble St) (Mo_failed St) (Mo_hasStore St) (Mo_undos St) (Mo_images St) (Mo_ring St) (3 : Int32) (Mo_setMany St) (Mo_someOf St) (Mo_allOf St) (Mo_firstRest St) (Mo_allWeight St) (Mo_seenWeight St) (Mo_sumWeight St) ++ (wAI hp1 cy 325 Sp1)) hx hb hts in_X10 tyX10 tyX10_ok nmX10 hown hK hP hD hS 0 rfl rfl 28 (by decide) (hts _ q6_73) (fun _ h9 => h9) rfl rfl rfl (Nat.le_of_ble_eq_true rfl) dX10_putOn_74 rfl (fun H locs hP hD hS => ?_)
    refine lv_bipush (v := (-2 : Int32)) hx hb dX10_putOn_77 (by decide) ?_
    obtain rfl := Option.some.inj hf
    rw [← wMo_mk ht] at hP hD
    exact z_iret (v := (-2 : Int32)) C hP hD hS dX10_putOn_79
def f_X10_putOn (St : SMo) (Sp1 : Nat → Int32) (x2 : Int32) (x3 : Int32) (x4 : Int32) : Option (Int32 × SMo × (Nat → Int32)) :=
  (f_X10_isBarred St Sp1 x2 x3).bind (fun q2 =>
    (if q2.1 = 0 then
      (f_X10_seenIn q2.2.1 q2.2.2 x2 x3).bind (fun q3 =>
        (if zib ((304 : Int32) + x2) 325 then (if q3 < 0 then
            (b_X10_putOn_60 x2 x3 x4 q2.2.1 q2.2.2 q3 (q2.2.2 ((304 : Int32) + x2).toNatClampNeg))
            else
            (if zib ((96 : Int32) + q3) 325 then (if (q2.2.2 ((96 : Int32) + q3).toNatClampNeg) = (q2.2.2 ((304 : Int32) + x2).toNatClampNeg) then
                (if zib ((48 : Int32) + q3) 325 then some (q3, q2.2.1, (upd q2.2.2 ((48 : Int32) + q3).toNatClampNeg x4)) else none)
                else
                (b_X10_putOn_60 x2 x3 x4 q2.2.1 q2.2.2 q3 (q2.2.2 ((304 : Int32) + x2).toNatClampNeg))) else none)) else none))
      else
      some ((-2 : Int32), q2.2.1, q2.2.2)))
set_option maxHeartbeats 4000000 in
set_option maxRecDepth 100000 in
theorem c_X10_putOn (l : Launch) (D : va_G) (cy : Nat → ClassId) (ht : Nat → Nat) (hp1 : Nat → Nat) (St : SMo) (Sp1 : Nat → Int32) (x2 : Int32) (x3 : Int32) (x4 : Int32) (r : Int32 × SMo × (Nat → Int32)) (hf : f_X10_putOn St Sp1 x2 x3 x4 = some r) : zCI l yX10_putOn cX10_putOn 8 (some FieldType.int) 7 168 D (zty cy) [.ref (ht 0), .ref (hp1 0), .int x2, .int x3, .int x4] (wMo ht cy St ++ (wAI hp1 cy 325 Sp1)) (wMo ht cy r.2.1 ++ (wAI hp1 cy 325 r.2.2)) r.1 := by
  refine zCI_of (by decide +kernel) (Nat.le_of_ble_eq_true rfl) ?_
  intro p e s m below meth c A ls C hP hD hS hl
  generalize hargs : ([.ref (ht 0), .ref (hp1 0), .int x2, .int x3, .int x4] : List Value).toArray = args at C ⊢
  have C : zX p s m meth c cX10_putOn 8 args RX10 (some FieldType.int) A D (zty cy) := C
  obtain ⟨hx, hb, hr, hts, hown, hlocks, hml, hA, hK⟩ := id C
  have hl : lv_has ls 8 [(0, .ref (ht 0)), (1, .ref (hp1 0)), (2, .int x2), (3, .int x3), (4, .int x4)] := hl
  generalize hH : s.heap = H at hP ⊢
  have hS : va_S A s.heap H [] := by rw [← hH]; exact hS
  generalize ([] : List Loc) = locs at hS ⊢
  refine lv_aload_n hx hb dX10_putOn_0 rfl (lv_at hl 0 rfl) ?_
  refine lv_aload_n hx hb dX10_putOn_1 rfl (lv_at hl 1 rfl) ?_
  refine lv_iload_n hx hb dX10_putOn_2 rfl (lv_at hl 2 rfl) ?_
  refine lv_iload_n hx hb dX10_putOn_3 rfl (lv_at hl 3 rfl) ?_
  obtain ⟨q2, hc, hf⟩ := zbd hf
  refine z_cVi0 (As := [.ref (hp1 0), .int x2, .int x3]) (rest := []) C (c_X10_isBarred l D cy ht hp1 St Sp1 x2 x3 q2 hc) gV_X10_X10_isBarred hd_X10_isBarred ⟨Nat.le_of_ble_eq_true rfl, Nat.le_of_ble_eq_true rfl⟩ ⟨Nat.le_refl _, Nat.le_refl _⟩ (va_recv hK hP (ci := 6) (q0 := 0) rfl rfl) hP hD hS hl.1 (Nat.le_of_ble_eq_true rfl) dX10_putOn_4 (fun H locs hP hD hS => ?_)
  have hP : va_P D vwCl (wMo ht cy q2.2.1 ++ (wAI hp1 cy 325 q2.2.2)) H := hP
  have hD : va_D A (wMo ht cy q2.2.1 ++ (wAI hp1 cy 325 q2.2.2)) := hD
  refine z_if_eq (tgt := 13) hx hb dX10_putOn_7 (by decide) hf (fun hf => ?_) (fun hf => ?_)
  · refine lv_aload_n hx hb dX10_putOn_13 rfl (lv_at hl 0 rfl) ?_
    refine lv_aload_n hx hb dX10_putOn_14 rfl (lv_at hl 1 rfl) ?_
    refine lv_iload_n hx hb dX10_putOn_15 rfl (lv_at hl 2 rfl) ?_
    refine lv_iload_n hx hb dX10_putOn_16 rfl (lv_at hl 3 rfl) ?_
    obtain ⟨q3, hc, hf⟩ := zbd hf
    refine z_cVi0 (As := [.ref (hp1 0), .int x2, .int x3]) (rest := []) C (c_X10_seenIn l D cy ht hp1 q2.2.1 q2.2.2 x2 x3 q3 hc) gV_X10_X10_seenIn hd_X10_seenIn ⟨Nat.le_of_ble_eq_true rfl, Nat.le_of_ble_eq_true rfl⟩ ⟨Nat.le_refl _, Nat.le_refl _⟩ (va_recv hK hP (ci := 6) (q0 := 0) rfl rfl) hP hD hS hl.1 (Nat.le_of_ble_eq_true rfl) dX10_putOn_17 (fun H locs hP hD hS => ?_)
    have hP : va_P D vwCl (wMo ht cy q2.2.1 ++ (wAI hp1 cy 325 q2.2.2)) H := hP
    have hD : va_D A (wMo ht cy q2.2.1 ++ (wAI hp1 cy 325 q2.2.2)) := hD
    refine lv_istore (lv' := [(5, .int q3), (0, .ref (ht 0)), (1, .ref (hp1 0)), (2, .int x2), (3, .int x3), (4, .int x4)]) hx hb dX10_putOn_20 hl (by decide) rfl (fun ls hl => ?_)
    refine lv_aload_n hx hb dX10_putOn_22 rfl (lv_at hl 2 rfl) ?_
    refine lv_sipush (v := (304 : Int32)) hx hb dX10_putOn_23 (by decide) ?_
    refine lv_iload_n hx hb dX10_putOn_26 rfl (lv_at hl 3 rfl) ?_
    refine lv_iadd hx hb dX10_putOn_27 ?_
    refine z_iald (f := q2.2.2) hx hb hK hP 1 0 rfl rfl dX10_putOn_28 hf (fun hf => ?_)
    refine lv_istore (lv' := [(6, .int (q2.2.2 ((304 : Int32) + x2).toNatClampNeg)), (5, .int q3), (0, .ref (ht 0)), (1, .ref (hp1 0)), (2, .int x2), (3, .int x3), (4, .int x4)]) hx hb dX10_putOn_29 hl (by decide) rfl (fun ls hl => ?_)
    refine lv_iload hx hb dX10_putOn_31 (lv_at hl 1 rfl) ?_
    refine z_if_lt (tgt := 60) hx hb dX10_putOn_33 (by decide) hf (fun hf => ?_) (fun hf => ?_)
    · exact w_X10_putOn_60 l ht hp1 x2 x3 x4 C q2.2.1 q2.2.2 q3 (q2.2.2 ((304 : Int32) + x2).toNatClampNeg) H locs ls hf hP hD hS (lv_sub hl [2, 3, 5, 6, 1, 0] rfl)
    · refine lv_aload_n hx hb dX10_putOn_36 rfl (lv_at hl 3 rfl) ?_
      refine lv_bipush (v := (96 : Int32)) hx hb dX10_putOn_37 (by decide) ?_
      refine lv_iload hx hb dX10_putOn_39 (lv_at hl 1 rfl) ?_
      refine lv_iadd hx hb dX10_putOn_41 ?_
      refine z_iald (f := q2.2.2) hx hb hK hP 1 0 rfl rfl dX10_putOn_42 hf (fun hf => ?_)
      refine lv_iload hx hb dX10_putOn_43 (lv_at hl 0 rfl) ?_
      refine z_icmp_ne (tgt := 60) hx hb dX10_putOn_45 (by decide) hf (fun hf => ?_) (fun hf => ?_)
      · exact w_X10_putOn_60 l ht hp1 x2 x3 x4 C q2.2.1 q2.2.2 q3 (q2.2.2 ((304 : Int32) + x2).toNatClampNeg) H locs ls hf hP hD hS (lv_sub hl [2, 3, 5, 6, 1, 0] rfl)
      · refine lv_aload_n hx hb dX10_putOn_48 rfl (lv_at hl 3 rfl) ?_
        refine lv_bipush (v := (48 : Int32)) hx hb dX10_putOn_49 (by decide) ?_
        refine lv_iload hx hb dX10_putOn_51 (lv_at hl 1 rfl) ?_
        refine lv_iadd hx hb dX10_putOn_53 ?_
        refine lv_iload hx hb dX10_putOn_54 (lv_at hl 6 rfl) ?_
        refine z_iast (f := q2.2.2) (w2 := wMo ht cy q2.2.1 ++ (wAI hp1 cy 325 (upd q2.2.2 ((48 : Int32) + q3).toNatClampNeg x4))) hx hb hK hP hD hS 1 0 rfl rfl dX10_putOn_56 hf rfl (fun hf H locs hP hD hS => ?_)
        refine lv_iload hx hb dX10_putOn_57 (lv_at hl 1 rfl) ?_
        obtain rfl := Option.some.inj hf
        exact z_iret (v := q3) C hP hD hS dX10_putOn_59
  · refine lv_bipush (v := (-2 : Int32)) hx hb dX10_putOn_10 (by decide) ?_
    obtain rfl := Option.some.inj hf
    exact z_iret (v := (-2 : Int32)) C hP hD hS dX10_putOn_12
def f_X10_dropOn (St : SMo) (Sp1 : Nat → Int32) (x2 : Int32) (x3 : Int32) : Option (Int32 × SMo × (Nat → Int32)) :=
  (f_X10_isBarred St Sp1 x2 x3).bind (fun q1 =>
    (if q1.1 = 0 then
      (f_X10_seenIn q1.2.1 q1.2.2 x2 x3).bind (fun q2 =>
        (if 0 ≤ q2 then
          (if zib ((304 : Int32) + x2) 325 then (if zib ((144 : Int32) + q2) 325 then some (q2, q1.2.1, (upd q1.2.2 ((144 : Int32) + q2).toNatClampNeg (q1.2.2 ((304 : Int32) + x2).toNatClampNeg))) else none) else none)
          else
          some ((-2 : Int32), (mkMo (Mo_thrown q1.2.1) (Mo_taped q1.2.1) (Mo_size q1.2.1) (Mo_at q1.2.1) (Mo_end q1.2.1) (Mo_token q1.2.1) (Mo_whole q1.2.1) (Mo_nameSize q1.2.1) (Mo_fault q1.2.1) (Mo_place q1.2.1) (Mo_trouble q1.2.1) (Mo_failed q1.2.1) (Mo_hasStore q1.2.1) (Mo_undos q1.2.1) (Mo_images q1.2.1) (Mo_ring q1.2.1) (6 : Int32) (Mo_setMany q1.2.1) (Mo_someOf q1.2.1) (Mo_allOf q1.2.1) (Mo_firstRest q1.2.1) (Mo_allWeight q1.2.1) (Mo_seenWeight q1.2.1) (Mo_sumWeight q1.2.1)), q1.2.2)))
      else
      some ((-2 : Int32), q1.2.1, q1.2.2)))
set_option maxHeartbeats 4000000 in
set_option maxRecDepth 100000 in
theorem c_X10_dropOn (l : Launch) (D : va_G) (cy : Nat → ClassId) (ht : Nat → Nat) (hp1 : Nat → Nat) (St : SMo) (Sp1 : Nat → Int32) (x2 : Int32) (x3 : Int32) (r : Int32 × SMo × (Nat → Int32)) (hf : f_X10_dropOn St Sp1 x2 x3 = some r) : zCI l yX10_dropOn cX10_dropOn 5 (some FieldType.int) 7 168 D (zty cy) [.ref (ht 0), .ref (hp1 0), .int x2, .int x3] (wMo ht cy St ++ (wAI hp1 cy 325 Sp1)) (wMo ht cy r.2.1 ++ (wAI hp1 cy 325 r.2.2)) r.1 := by
  refine zCI_of (by decide +kernel) (Nat.le_of_ble_eq_true rfl) ?_
  intro p e s m below meth c A ls C hP hD hS hl
  generalize hargs : ([.ref (ht 0), .ref (hp1 0), .int x2, .int x3] : List Value).toArray = args at C ⊢
  have C : zX p s m meth c cX10_dropOn 5 args RX10 (some FieldType.int) A D (zty cy) := C
  obtain ⟨hx, hb, hr, hts, hown, hlocks, hml, hA, hK⟩ := id C
  have hl : lv_has ls 5 [(0, .ref (ht 0)), (1, .ref (hp1 0)), (2, .int x2), (3, .int x3)] := hl
  generalize hH : s.heap = H at hP ⊢
  have hS : va_S A s.heap H [] := by rw [← hH]; exact hS
  generalize ([] : List Loc) = locs at hS ⊢
  refine lv_aload_n hx hb dX10_dropOn_0 rfl (lv_at hl 0 rfl) ?_
  refine lv_aload_n hx hb dX10_dropOn_1 rfl (lv_at hl 1 rfl) ?_
  refine lv_iload_n hx hb dX10_dropOn_2 rfl (lv_at hl 2 rfl) ?_
  refine lv_iload_n hx hb dX10_dropOn_3 rfl (lv_at hl 3 rfl) ?_
  obtain ⟨q1, hc, hf⟩ := zbd hf
  refine z_cVi0 (As := [.ref (hp1 0), .int x2, .int x3]) (rest := []) C (c_X10_isBarred l D cy ht hp1 St Sp1 x2 x3 q1 hc) gV_X10_X10_isBarred hd_X10_isBarred ⟨Nat.le_of_ble_eq_true rfl, Nat.le_of_ble_eq_true rfl⟩ ⟨Nat.le_refl _, Nat.le_refl _⟩ (va_recv hK hP (ci := 6) (q0 := 0) rfl rfl) hP hD hS hl.1 (Nat.le_of_ble_eq_true rfl) dX10_dropOn_4 (fun H locs hP hD hS => ?_)
  have hP : va_P D vwCl (wMo ht cy q1.2.1 ++ (wAI hp1 cy 325 q1.2.2)) H := hP
  have hD : va_D A (wMo ht cy q1.2.1 ++ (wAI hp1 cy 325 q1.2.2)) := hD
  refine z_if_eq (tgt := 13) hx hb dX10_dropOn_7 (by decide) hf (fun hf => ?_) (fun hf => ?_)
  · refine lv_aload_n hx hb dX10_dropOn_13 rfl (lv_at hl 0 rfl) ?_
    refine lv_aload_n hx hb dX10_dropOn_14 rfl (lv_at hl 1 rfl) ?_
    refine lv_iload_n hx hb dX10_dropOn_15 rfl (lv_at hl 2 rfl) ?_
    refine lv_iload_n hx hb dX10_dropOn_16 rfl (lv_at hl 3 rfl) ?_
    obtain ⟨q2, hc, hf⟩ := zbd hf
    refine z_cVi0 (As := [.ref (hp1 0), .int x2, .int x3]) (rest := []) C (c_X10_seenIn l D cy ht hp1 q1.2.1 q1.2.2 x2 x3 q2 hc) gV_X10_X10_seenIn hd_X10_seenIn ⟨Nat.le_of_ble_eq_true rfl, Nat.le_of_ble_eq_true rfl⟩ ⟨Nat.le_refl _, Nat.le_refl _⟩ (va_recv hK hP (ci := 6) (q0 := 0) rfl rfl) hP hD hS hl.1 (Nat.le_of_ble_eq_true rfl) dX10_dropOn_17 (fun H locs hP hD hS => ?_)
    have hP : va_P D vwCl (wMo ht cy q1.2.1 ++ (wAI hp1 cy 325 q1.2.2)) H := hP
    have hD : va_D A (wMo ht cy q1.2.1 ++ (wAI hp1 cy 325 q1.2.2)) := hD
    refine lv_istore (lv' := [(4, .int q2), (0, .ref (ht 0)), (1, .ref (hp1 0)), (2, .int x2), (3, .int x3)]) hx hb dX10_dropOn_20 hl (by decide) rfl (fun ls hl => ?_)
    refine lv_iload hx hb dX10_dropOn_22 (lv_at hl 0 rfl) ?_
    refine z_if_ge (tgt := 36) hx hb dX10_dropOn_24 (by decide) hf (fun hf => ?_) (fun hf => ?_)
    · refine lv_aload_n hx hb dX10_dropOn_36 rfl (lv_at hl 2 rfl) ?_
      refine lv_sipush (v := (144 : Int32)) hx hb dX10_dropOn_37 (by decide) ?_
      refine lv_iload hx hb dX10_dropOn_40 (lv_at hl 0 rfl) ?_
      refine lv_iadd hx hb dX10_dropOn_42 ?_
      refine lv_aload_n hx hb dX10_dropOn_43 rfl (lv_at hl 2 rfl) ?_
      refine lv_sipush (v := (304 : Int32)) hx hb dX10_dropOn_44 (by decide) ?_
      refine lv_iload_n hx hb dX10_dropOn_47 rfl (lv_at hl 3 rfl) ?_
      refine lv_iadd hx hb dX10_dropOn_48 ?_
      refine z_iald (f := q1.2.2) hx hb hK hP 1 0 rfl rfl dX10_dropOn_49 hf (fun hf => ?_)
      refine z_iast (f := q1.2.2) (w2 := wMo ht cy q1.2.1 ++ (wAI hp1 cy 325 (upd q1.2.2 ((144 : Int32) + q2).toNatClampNeg (q1.2.2 ((304 : Int32) + x2).toNatClampNeg)))) hx hb hK hP hD hS 1 0 rfl rfl dX10_dropOn_50 hf rfl (fun hf H locs hP hD hS => ?_)
      refine lv_iload hx hb dX10_dropOn_51 (lv_at hl 0 rfl) ?_
      obtain rfl := Option.some.inj hf
      exact z_iret (v := q2) C hP hD hS dX10_dropOn_53
    · refine lv_aload_n hx hb dX10_dropOn_27 rfl (lv_at hl 1 rfl) ?_
      refine lv_bipush (v := (6 : Int32)) hx hb dX10_dropOn_28 (by decide) ?_
      refine z_put (w2 := vMo ht cy (Mo_thrown q1.2.1) (Mo_taped q1.2.1) (Mo_size q1.2.1) (Mo_at q1.2.1) (Mo_end q1.2.1) (Mo_token q1.2.1) (Mo_whole q1.2.1) (Mo_nameSize q1.2.1) (Mo_fault q1.2.1) (Mo_place q1.2.1) (Mo_trouble q1.2.1) (Mo_failed q1.2.1) (Mo_hasStore q1.2.1) (Mo_undos q1.2.1) (Mo_images q1.2.1) (Mo_ring q1.2.1) (6 : Int32) (Mo_setMany q1.2.1) (Mo_someOf q1.2.1) (Mo_allOf q1.2.1) (Mo_firstRest q1.2.1) (Mo_allWeight q1.2.1) (Mo_seenWeight q1.2.1) (Mo_sumWeight q1.2.1) ++ (wAI hp1 cy 325 q1.2.2)) hx hb hts in_X10 tyX10 tyX10_ok nmX10 hown hK hP hD hS 0 rfl rfl 28 (by decide) (hts _ q6_73) (fun _ h9 => h9) rfl rfl rfl (Nat.le_of_ble_eq_true rfl) dX10_dropOn_30 rfl (fun H locs hP hD hS => ?_)
      refine lv_bipush (v := (-2 : Int32)) hx hb dX10_dropOn_33 (by decide) ?_
      obtain rfl := Option.some.inj hf
      rw [← wMo_mk ht] at hP hD
      exact z_iret (v := (-2 : Int32)) C hP hD hS dX10_dropOn_35
  · refine lv_bipush (v := (-2 : Int32)) hx hb dX10_dropOn_10 (by decide) ?_
    obtain rfl := Option.some.inj hf
    exact z_iret (v := (-2 : Int32)) C hP hD hS dX10_dropOn_12
def b_X10_clearOn_38 (St : SMo) (k38 : (Nat → Int32) → (Nat → Int32) → Int32 → Int32 → Option (Int32 × (Nat → Int32) × (Nat → Int32))) (St_marked : Nat → Int32) (Sp1 : Nat → Int32) (v2 : Int32) (v3 : Int32) : Option (Int32 × (Nat → Int32) × (Nat → Int32)) :=
  (if (48 : Int32) ≤ v3 then
    some (v2, St_marked, Sp1)
    else
    (if zib v3 48 then (if (St_marked v3.toNatClampNeg) = 0 then
        (k38 St_marked Sp1 v2 (v3 + (1 : Int32)))
        else
        (if zib ((0 : Int32) + v3) 325 then (k38 St_marked (upd Sp1 ((0 : Int32) + v3).toNatClampNeg (0 : Int32)) (v2 + (1 : Int32)) (v3 + (1 : Int32))) else none)) else none))
set_option maxHeartbeats 4000000 in
set_option maxRecDepth 100000 in
theorem w_X10_clearOn_38 {p : Program} {e : Env} {s : State} {m : MethodId} {below : List Frame} {meth : Method} {c : Code} {A : Nat → Prop} {D : va_G} {cy : Nat → ClassId} {args : Array Value} {r : Int32 × (Nat → Int32) × (Nat → Int32)} (l : Launch) (ht : Nat → Nat) (hp1 : Nat → Nat) (St : SMo) (C : zX p s m meth c cX10_clearOn 4 args RX10 (some FieldType.int) A D (zty cy)) :
    ∀ (n : Nat) (St_marked : Nat → Int32) (Sp1 : Nat → Int32) (v2 : Int32) (v3 : Int32) (H : Heap) (locs : List Loc) (ls : Array Slot), zl4 (b_X10_clearOn_38 St) n St_marked Sp1 v2 v3 = some r → va_P D vwCl (wMo ht cy St ++ (wAI (fun _ => ht 13) cy 48 St_marked ++ (wAI hp1 cy 325 Sp1))) H → va_D A (wMo ht cy St ++ (wAI (fun _ => ht 13) cy 48 St_marked ++ (wAI hp1 cy 325 Sp1))) → va_S A s.heap H locs → lv_has ls 4 [(0, .ref (ht 0)), (1, .ref (hp1 0)), (2, .int v2), (3, .int v3)] → W p l e (zRm 5 115) s m args below meth c H locs 0 0 (MQ below (zQI D (zty cy) A (wMo ht cy St ++ (wAI (fun _ => ht 13) cy 48 r.2.1 ++ (wAI hp1 cy 325 r.2.2))) r.1) args s 0 0 A) (F0 m 38 ls []) := by
  obtain ⟨hx, hb, hr, hts, hown, hlocks, hml, hA, hK⟩ := id C
  intro n
  induction n with
  | zero => intro St_marked Sp1 v2 v3 H locs ls hf; exact zno hf
  | succ n ih =>
    intro St_marked Sp1 v2 v3 H locs ls hf hP hD hS hl
    have hf : b_X10_clearOn_38 St (zl4 (b_X10_clearOn_38 St) n) St_marked Sp1 v2 v3 = some r := hf
    have K38 := ih
    refine lv_iload_n hx hb dX10_clearOn_38 rfl (lv_at hl 3 rfl) ?_
    refine lv_bipush (v := (48 : Int32)) hx hb dX10_clearOn_39 (by decide) ?_
    refine z_icmp_ge (tgt := 71) hx hb dX10_clearOn_41 (by decide) hf (fun hf => ?_) (fun hf => ?_)
    · refine lv_iload_n hx hb dX10_clearOn_71 rfl (lv_at hl 2 rfl) ?_
      obtain rfl := Option.some.inj hf
      exact z_iret (v := v2) C hP hD hS dX10_clearOn_72
    · refine lv_aload_n hx hb dX10_clearOn_44 rfl (lv_at hl 0 rfl) ?_
      refine va_get (D := D) (ci := 6) (v := .ref (ht 13)) (C := RX10) (T := TX10) (N := 41) hx hb hts in_X10 hown hK hP 0 rfl rfl 29 (by decide) (hts _ q6_74) (fun _ h9 => h9) rfl dX10_clearOn_45 ?_
      refine lv_iload_n hx hb dX10_clearOn_48 rfl (lv_at hl 3 rfl) ?_
      refine z_iald (f := St_marked) hx hb hK hP 1 0 rfl rfl dX10_clearOn_49 hf (fun hf => ?_)
      refine z_if_ne (tgt := 56) hx hb dX10_clearOn_50 (by decide) hf (fun hf => ?_) (fun hf => ?_)
      · refine lv_aload_n hx hb dX10_clearOn_56 rfl (lv_at hl 1 rfl) ?_
        refine lv_iconst (v := (0 : Int32)) hx hb dX10_clearOn_57 (by decide) ?_
        refine lv_iload_n hx hb dX10_clearOn_58 rfl (lv_at hl 3 rfl) ?_
        refine lv_iadd hx hb dX10_clearOn_59 ?_
        refine lv_iconst (v := (0 : Int32)) hx hb dX10_clearOn_60 (by decide) ?_
        refine z_iast (f := Sp1) (w2 := wMo ht cy St ++ (wAI (fun _ => ht 13) cy 48 St_marked ++ (wAI hp1 cy 325 (upd Sp1 ((0 : Int32) + v3).toNatClampNeg (0 : Int32))))) hx hb hK hP hD hS 2 0 rfl rfl dX10_clearOn_61 hf rfl (fun hf H locs hP hD hS => ?_)
        refine lv_iinc (v := (v2 + (1 : Int32))) (lv' := [(2, .int (v2 + (1 : Int32))), (0, .ref (ht 0)), (1, .ref (hp1 0)), (3, .int v3)]) hx hb dX10_clearOn_62 hl (k := 2) rfl rfl (by decide) rfl (fun ls hl => ?_)
        refine lv_iinc (v := (v3 + (1 : Int32))) (lv' := [(3, .int (v3 + (1 : Int32))), (2, .int (v2 + (1 : Int32))), (0, .ref (ht 0)), (1, .ref (hp1 0))]) hx hb dX10_clearOn_65 hl (k := 3) rfl rfl (by decide) rfl (fun ls hl => ?_)
        refine lv_goto (tgt := 38) hx hb dX10_clearOn_68 (by decide) ?_
        exact K38 St_marked (upd Sp1 ((0 : Int32) + v3).toNatClampNeg (0 : Int32)) (v2 + (1 : Int32)) (v3 + (1 : Int32)) H locs ls hf hP hD hS (lv_sub hl [2, 3, 1, 0] rfl)
      · refine lv_goto (tgt := 65) hx hb dX10_clearOn_53 (by decide) ?_
        refine lv_iinc (v := (v3 + (1 : Int32))) (lv' := [(3, .int (v3 + (1 : Int32))), (0, .ref (ht 0)), (1, .ref (hp1 0)), (2, .int v2)]) hx hb dX10_clearOn_65 hl (k := 3) rfl rfl (by decide) rfl (fun ls hl => ?_)
        refine lv_goto (tgt := 38) hx hb dX10_clearOn_68 (by decide) ?_
        exact K38 St_marked Sp1 v2 (v3 + (1 : Int32)) H locs ls hf hP hD hS (lv_sub hl [1, 2, 3, 0] rfl)
def b_X10_clearOn_4 (St : SMo) (k4 : (Nat → Int32) → (Nat → Int32) → Int32 → Int32 → Option (Int32 × (Nat → Int32) × (Nat → Int32))) (St_marked : Nat → Int32) (Sp1 : Nat → Int32) (v2 : Int32) (v3 : Int32) : Option (Int32 × (Nat → Int32) × (Nat → Int32)) :=
  (if (48 : Int32) ≤ v3 then
    (zl4 (b_X10_clearOn_38 St) FU St_marked Sp1 v2 (0 : Int32))
    else
    (f_X10_isDead St Sp1 v3).bind (fun q1 =>
      (if q1 = 0 then
        (if zib v3 48 then (k4 (upd St_marked v3.toNatClampNeg (0 : Int32)) Sp1 v2 (v3 + (1 : Int32))) else none)
        else
        (if zib v3 48 then (k4 (upd St_marked v3.toNatClampNeg (1 : Int32)) Sp1 v2 (v3 + (1 : Int32))) else none))))
set_option maxHeartbeats 4000000 in
set_option maxRecDepth 100000 in
theorem w_X10_clearOn_4 {p : Program} {e : Env} {s : State} {m : MethodId} {below : List Frame} {meth : Method} {c : Code} {A : Nat → Prop} {D : va_G} {cy : Nat → ClassId} {args : Array Value} {r : Int32 × (Nat → Int32) × (Nat → Int32)} (l : Launch) (ht : Nat → Nat) (hp1 : Nat → Nat) (St : SMo) (C : zX p s m meth c cX10_clearOn 4 args RX10 (some FieldType.int) A D (zty cy)) :
    ∀ (n : Nat) (St_marked : Nat → Int32) (Sp1 : Nat → Int32) (v2 : Int32) (v3 : Int32) (H : Heap) (locs : List Loc) (ls : Array Slot), zl4 (b_X10_clearOn_4 St) n St_marked Sp1 v2 v3 = some r → va_P D vwCl (wMo ht cy St ++ (wAI (fun _ => ht 13) cy 48 St_marked ++ (wAI hp1 cy 325 Sp1))) H → va_D A (wMo ht cy St ++ (wAI (fun _ => ht 13) cy 48 St_marked ++ (wAI hp1 cy 325 Sp1))) → va_S A s.heap H locs → lv_has ls 4 [(0, .ref (ht 0)), (1, .ref (hp1 0)), (2, .int v2), (3, .int v3)] → W p l e (zRm 5 115) s m args below meth c H locs 0 0 (MQ below (zQI D (zty cy) A (wMo ht cy St ++ (wAI (fun _ => ht 13) cy 48 r.2.1 ++ (wAI hp1 cy 325 r.2.2))) r.1) args s 0 0 A) (F0 m 4 ls []) := by
  obtain ⟨hx, hb, hr, hts, hown, hlocks, hml, hA, hK⟩ := id C
  intro n
  induction n with
  | zero => intro St_marked Sp1 v2 v3 H locs ls hf; exact zno hf
  | succ n ih =>
    intro St_marked Sp1 v2 v3 H locs ls hf hP hD hS hl
    have hf : b_X10_clearOn_4 St (zl4 (b_X10_clearOn_4 St) n) St_marked Sp1 v2 v3 = some r := hf
    have K4 := ih
    refine lv_iload_n hx hb dX10_clearOn_4 rfl (lv_at hl 3 rfl) ?_
    refine lv_bipush (v := (48 : Int32)) hx hb dX10_clearOn_5 (by decide) ?_
    refine z_icmp_ge (tgt := 36) hx hb dX10_clearOn_7 (by decide) hf (fun hf => ?_) (fun hf => ?_)
    · refine lv_iconst (v := (0 : Int32)) hx hb dX10_clearOn_36 (by decide) ?_
      refine lv_istore_n (lv' := [(3, .int (0 : Int32)), (0, .ref (ht 0)), (1, .ref (hp1 0)), (2, .int v2)]) hx hb dX10_clearOn_37 rfl hl (by decide) rfl (fun ls hl => ?_)
      exact w_X10_clearOn_38 l ht hp1 St C FU St_marked Sp1 v2 (0 : Int32) H locs ls hf hP hD hS (lv_sub hl [1, 2, 3, 0] rfl)
    · refine lv_aload_n hx hb dX10_clearOn_10 rfl (lv_at hl 0 rfl) ?_
      refine va_get (D := D) (ci := 6) (v := .ref (ht 13)) (C := RX10) (T := TX10) (N := 41) hx hb hts in_X10 hown hK hP 0 rfl rfl 29 (by decide) (hts _ q6_74) (fun _ h9 => h9) rfl dX10_clearOn_11 ?_
      refine lv_iload_n hx hb dX10_clearOn_14 rfl (lv_at hl 3 rfl) ?_
      refine lv_aload_n hx hb dX10_clearOn_15 rfl (lv_at hl 0 rfl) ?_
      refine lv_aload_n hx hb dX10_clearOn_16 rfl (lv_at hl 1 rfl) ?_
      refine lv_iload_n hx hb dX10_clearOn_17 rfl (lv_at hl 3 rfl) ?_
      obtain ⟨q1, hc, hf⟩ := zbd hf
      refine z_cVi (As := [.ref (hp1 0), .int v3]) (rest := [.int v3, .ref (ht 13)]) C (c_X10_isDead l D cy ht hp1 St Sp1 v3 q1 hc) gV_X10_X10_isDead hd_X10_isDead ⟨Nat.le_of_ble_eq_true rfl, Nat.le_of_ble_eq_true rfl⟩ ⟨Nat.le_refl _, Nat.le_refl _⟩ (va_recv hK hP (ci := 6) (q0 := 0) rfl rfl) hP hD hS (w2 := wMo ht cy St ++ (wAI (fun _ => ht 13) cy 48 St_marked ++ (wAI hp1 cy 325 Sp1))) [0, 2] [1] [1, 0, 2] rfl rfl rfl rfl rfl rfl (by decide) hl.1 (Nat.le_of_ble_eq_true rfl) dX10_clearOn_18 (fun H locs hP hD hS => ?_)
      refine z_if_eq (tgt := 28) hx hb dX10_clearOn_21 (by decide) hf (fun hf => ?_) (fun hf => ?_)
      · refine lv_iconst (v := (0 : Int32)) hx hb dX10_clearOn_28 (by decide) ?_
        refine z_iast (f := St_marked) (w2 := wMo ht cy St ++ (wAI (fun _ => ht 13) cy 48 (upd St_marked v3.toNatClampNeg (0 : Int32)) ++ (wAI hp1 cy 325 Sp1))) hx hb hK hP hD hS 1 0 rfl rfl dX10_clearOn_29 hf rfl (fun hf H locs hP hD hS => ?_)
        refine lv_iinc (v := (v3 + (1 : Int32))) (lv' := [(3, .int (v3 + (1 : Int32))), (0, .ref (ht 0)), (1, .ref (hp1 0)), (2, .int v2)]) hx hb dX10_clearOn_30 hl (k := 3) rfl rfl (by decide) rfl (fun ls hl => ?_)
        refine lv_goto (tgt := 4) hx hb dX10_clearOn_33 (by decide) ?_
        exact K4 (upd St_marked v3.toNatClampNeg (0 : Int32)) Sp1 v2 (v3 + (1 : Int32)) H locs ls hf hP hD hS (lv_sub hl [1, 2, 3, 0] rfl)
      · refine lv_iconst (v := (1 : Int32)) hx hb dX10_clearOn_24 (by decide) ?_
        refine lv_goto (tgt := 29) hx hb dX10_clearOn_25 (by decide) ?_
        refine z_iast (f := St_marked) (w2 := wMo ht cy St ++ (wAI (fun _ => ht 13) cy 48 (upd St_marked v3.toNatClampNeg (1 : Int32)) ++ (wAI hp1 cy 325 Sp1))) hx hb hK hP hD hS 1 0 rfl rfl dX10_clearOn_29 hf rfl (fun hf H locs hP hD hS => ?_)
        refine lv_iinc (v := (v3 + (1 : Int32))) (lv' := [(3, .int (v3 + (1 : Int32))), (0, .ref (ht 0)), (1, .ref (hp1 0)), (2, .int v2)]) hx hb dX10_clearOn_30 hl (k := 3) rfl rfl (by decide) rfl (fun ls hl => ?_)
        refine lv_goto (tgt := 4) hx hb dX10_clearOn_33 (by decide) ?_
        exact K4 (upd St_marked v3.toNatClampNeg (1 : Int32)) Sp1 v2 (v3 + (1 : Int32)) H locs ls hf hP hD hS (lv_sub hl [1, 2, 3, 0] rfl)
def f_X10_clearOn (St : SMo) (St_marked : Nat → Int32) (Sp1 : Nat → Int32) : Option (Int32 × (Nat → Int32) × (Nat → Int32)) :=
  (zl4 (b_X10_clearOn_4 St) FU St_marked Sp1 (0 : Int32) (0 : Int32))
set_option maxHeartbeats 4000000 in
set_option maxRecDepth 100000 in
theorem c_X10_clearOn (l : Launch) (D : va_G) (cy : Nat → ClassId) (ht : Nat → Nat) (hp1 : Nat → Nat) (St : SMo) (St_marked : Nat → Int32) (Sp1 : Nat → Int32) (r : Int32 × (Nat → Int32) × (Nat → Int32)) (hf : f_X10_clearOn St St_marked Sp1 = some r) : zCI l yX10_clearOn cX10_clearOn 4 (some FieldType.int) 5 115 D (zty cy) [.ref (ht 0), .ref (hp1 0)] (wMo ht cy St ++ (wAI (fun _ => ht 13) cy 48 St_marked ++ (wAI hp1 cy 325 Sp1))) (wMo ht cy St ++ (wAI (fun _ => ht 13) cy 48 r.2.1 ++ (wAI hp1 cy 325 r.2.2))) r.1 := by
  refine zCI_of (by decide +kernel) (Nat.le_of_ble_eq_true rfl) ?_
  intro p e s m below meth c A ls C hP hD hS hl
  generalize hargs : ([.ref (ht 0), .ref (hp1 0)] : List Value).toArray = args at C ⊢
  have C : zX p s m meth c cX10_clearOn 4 args RX10 (some FieldType.int) A D (zty cy) := C
  obtain ⟨hx, hb, hr, hts, hown, hlocks, hml, hA, hK⟩ := id C
  have hl : lv_has ls 4 [(0, .ref (ht 0)), (1, .ref (hp1 0))] := hl
  generalize hH : s.heap = H at hP ⊢
  have hS : va_S A s.heap H [] := by rw [← hH]; exact hS
  generalize ([] : List Loc) = locs at hS ⊢
  refine lv_iconst (v := (0 : Int32)) hx hb dX10_clearOn_0 (by decide) ?_
  refine lv_istore_n (lv' := [(2, .int (0 : Int32)), (0, .ref (ht 0)), (1, .ref (hp1 0))]) hx hb dX10_clearOn_1 rfl hl (by decide) rfl (fun ls hl => ?_)
  refine lv_iconst (v := (0 : Int32)) hx hb dX10_clearOn_2 (by decide) ?_
  refine lv_istore_n (lv' := [(3, .int (0 : Int32)), (2, .int (0 : Int32)), (0, .ref (ht 0)), (1, .ref (hp1 0))]) hx hb dX10_clearOn_3 rfl hl (by decide) rfl (fun ls hl => ?_)
  exact w_X10_clearOn_4 l ht hp1 St C FU St_marked Sp1 (0 : Int32) (0 : Int32) H locs ls hf hP hD hS (lv_sub hl [2, 3, 1, 0] rfl)
def b_X10_freezeOn_98 (St : SMo) (k53 : (Nat → Int32) → (Nat → Int32) → Int32 → Int32 → Option (Int32 × (Nat → Int32) × (Nat → Int32))) (St_marked : Nat → Int32) (Sp1 : Nat → Int32) (v2 : Int32) (v3 : Int32) : Option (Int32 × (Nat → Int32) × (Nat → Int32)) :=
  (if zib v3 48 then (if (St_marked v3.toNatClampNeg) ≤ 0 then
      (k53 St_marked Sp1 (v2 + (0 : Int32)) (v3 + (1 : Int32)))
      else
      (k53 St_marked Sp1 (v2 + (1 : Int32)) (v3 + (1 : Int32)))) else none)
set_option maxHeartbeats 4000000 in
set_option maxRecDepth 100000 in
theorem w_X10_freezeOn_98 {p : Program} {e : Env} {s : State} {m : MethodId} {below : List Frame} {meth : Method} {c : Code} {A : Nat → Prop} {D : va_G} {cy : Nat → ClassId} {args : Array Value} {r : Int32 × (Nat → Int32) × (Nat → Int32)} (l : Launch) (ht : Nat → Nat) (hp1 : Nat → Nat) (St : SMo) {k53 : (Nat → Int32) → (Nat → Int32) → Int32 → Int32 → Option (Int32 × (Nat → Int32) × (Nat → Int32))} (C : zX p s m meth c cX10_freezeOn 4 args RX10 (some FieldType.int) A D (zty cy))
    (K53 : ∀ (St_marked : Nat → Int32) (Sp1 : Nat → Int32) (v2 : Int32) (v3 : Int32) (H : Heap) (locs : List Loc) (ls : Array Slot), k53 St_marked Sp1 v2 v3 = some r → va_P D vwCl (wMo ht cy St ++ (wAI (fun _ => ht 13) cy 48 St_marked ++ (wAI hp1 cy 325 Sp1))) H → va_D A (wMo ht cy St ++ (wAI (fun _ => ht 13) cy 48 St_marked ++ (wAI hp1 cy 325 Sp1))) → va_S A s.heap H locs → lv_has ls 4 [(0, .ref (ht 0)), (1, .ref (hp1 0)), (2, .int v2), (3, .int v3)] → W p l e (zRm 5 114) s m args below meth c H locs 0 0 (MQ below (zQI D (zty cy) A (wMo ht cy St ++ (wAI (fun _ => ht 13) cy 48 r.2.1 ++ (wAI hp1 cy 325 r.2.2))) r.1) args s 0 0 A) (F0 m 53 ls [])) :
    ∀ (St_marked : Nat → Int32) (Sp1 : Nat → Int32) (v2 : Int32) (v3 : Int32) (H : Heap) (locs : List Loc) (ls : Array Slot), b_X10_freezeOn_98 St k53 St_marked Sp1 v2 v3 = some r → va_P D vwCl (wMo ht cy St ++ (wAI (fun _ => ht 13) cy 48 St_marked ++ (wAI hp1 cy 325 Sp1))) H → va_D A (wMo ht cy St ++ (wAI (fun _ => ht 13) cy 48 St_marked ++ (wAI hp1 cy 325 Sp1))) → va_S A s.heap H locs → lv_has ls 4 [(0, .ref (ht 0)), (1, .ref (hp1 0)), (2, .int v2), (3, .int v3)] → W p l e (zRm 5 114) s m args below meth c H locs 0 0 (MQ below (zQI D (zty cy) A (wMo ht cy St ++ (wAI (fun _ => ht 13) cy 48 r.2.1 ++ (wAI hp1 cy 325 r.2.2))) r.1) args s 0 0 A) (F0 m 98 ls []) := by
  obtain ⟨hx, hb, hr, hts, hown, hlocks, hml, hA, hK⟩ := id C
  intro St_marked Sp1 v2 v3 H locs ls hf hP hD hS hl
  refine lv_iload_n hx hb dX10_freezeOn_98 rfl (lv_at hl 2 rfl) ?_
  refine lv_aload_n hx hb dX10_freezeOn_99 rfl (lv_at hl 0 rfl) ?_
  refine va_get (D := D) (ci := 6) (v := .ref (ht 13)) (C := RX10) (T := TX10) (N := 41) hx hb hts in_X10 hown hK hP 0 rfl rfl 29 (by decide) (hts _ q6_74) (fun _ h9 => h9) rfl dX10_freezeOn_100 ?_
  refine lv_iload_n hx hb dX10_freezeOn_103 rfl (lv_at hl 3 rfl) ?_
  refine z_iald (f := St_marked) hx hb hK hP 1 0 rfl rfl dX10_freezeOn_104 hf (fun hf => ?_)
  refine z_if_le (tgt := 112) hx hb dX10_freezeOn_105 (by decide) hf (fun hf => ?_) (fun hf => ?_)
  · refine lv_iconst (v := (0 : Int32)) hx hb dX10_freezeOn_112 (by decide) ?_
    refine lv_iadd hx hb dX10_freezeOn_113 ?_
    refine lv_istore_n (lv' := [(2, .int (v2 + (0 : Int32))), (0, .ref (ht 0)), (1, .ref (hp1 0)), (3, .int v3)]) hx hb dX10_freezeOn_114 rfl hl (by decide) rfl (fun ls hl => ?_)
    refine lv_iinc (v := (v3 + (1 : Int32))) (lv' := [(3, .int (v3 + (1 : Int32))), (2, .int (v2 + (0 : Int32))), (0, .ref (ht 0)), (1, .ref (hp1 0))]) hx hb dX10_freezeOn_115 hl (k := 3) rfl rfl (by decide) rfl (fun ls hl => ?_)
    refine lv_goto (tgt := 53) hx hb dX10_freezeOn_118 (by decide) ?_
    exact K53 St_marked Sp1 (v2 + (0 : Int32)) (v3 + (1 : Int32)) H locs ls hf hP hD hS (lv_sub hl [2, 3, 1, 0] rfl)
  · refine lv_iconst (v := (1 : Int32)) hx hb dX10_freezeOn_108 (by decide) ?_
    refine lv_goto (tgt := 113) hx hb dX10_freezeOn_109 (by decide) ?_
    refine lv_iadd hx hb dX10_freezeOn_113 ?_
    refine lv_istore_n (lv' := [(2, .int (v2 + (1 : Int32))), (0, .ref (ht 0)), (1, .ref (hp1 0)), (3, .int v3)]) hx hb dX10_freezeOn_114 rfl hl (by decide) rfl (fun ls hl => ?_)
    refine lv_iinc (v := (v3 + (1 : Int32))) (lv' := [(3, .int (v3 + (1 : Int32))), (2, .int (v2 + (1 : Int32))), (0, .ref (ht 0)), (1, .ref (hp1 0))]) hx hb dX10_freezeOn_115 hl (k := 3) rfl rfl (by decide) rfl (fun ls hl => ?_)
    refine lv_goto (tgt := 53) hx hb dX10_freezeOn_118 (by decide) ?_
    exact K53 St_marked Sp1 (v2 + (1 : Int32)) (v3 + (1 : Int32)) H locs ls hf hP hD hS (lv_sub hl [2, 3, 1, 0] rfl)
def b_X10_freezeOn_79 (St : SMo) (k53 : (Nat → Int32) → (Nat → Int32) → Int32 → Int32 → Option (Int32 × (Nat → Int32) × (Nat → Int32))) (St_marked : Nat → Int32) (Sp1 : Nat → Int32) (v2 : Int32) (v3 : Int32) : Option (Int32 × (Nat → Int32) × (Nat → Int32)) :=
  (if zib v3 48 then (if (St_marked v3.toNatClampNeg) ≤ (1 : Int32) then
      (b_X10_freezeOn_98 St k53 St_marked Sp1 v2 v3)
      else
      (if zib ((144 : Int32) + v3) 325 then (b_X10_freezeOn_98 St k53 St_marked (upd Sp1 ((144 : Int32) + v3).toNatClampNeg (-2 : Int32)) v2 v3) else none)) else none)
set_option maxHeartbeats 4000000 in
set_option maxRecDepth 100000 in
theorem w_X10_freezeOn_79 {p : Program} {e : Env} {s : State} {m : MethodId} {below : List Frame} {meth : Method} {c : Code} {A : Nat → Prop} {D : va_G} {cy : Nat → ClassId} {args : Array Value} {r : Int32 × (Nat → Int32) × (Nat → Int32)} (l : Launch) (ht : Nat → Nat) (hp1 : Nat → Nat) (St : SMo) {k53 : (Nat → Int32) → (Nat → Int32) → Int32 → Int32 → Option (Int32 × (Nat → Int32) × (Nat → Int32))} (C : zX p s m meth c cX10_freezeOn 4 args RX10 (some FieldType.int) A D (zty cy))
    (K53 : ∀ (St_marked : Nat → Int32) (Sp1 : Nat → Int32) (v2 : Int32) (v3 : Int32) (H : Heap) (locs : List Loc) (ls : Array Slot), k53 St_marked Sp1 v2 v3 = some r → va_P D vwCl (wMo ht cy St ++ (wAI (fun _ => ht 13) cy 48 St_marked ++ (wAI hp1 cy 325 Sp1))) H → va_D A (wMo ht cy St ++ (wAI (fun _ => ht 13) cy 48 St_marked ++ (wAI hp1 cy 325 Sp1))) → va_S A s.heap H locs → lv_has ls 4 [(0, .ref (ht 0)), (1, .ref (hp1 0)), (2, .int v2), (3, .int v3)] → W p l e (zRm 5 114) s m args below meth c H locs 0 0 (MQ below (zQI D (zty cy) A (wMo ht cy St ++ (wAI (fun _ => ht 13) cy 48 r.2.1 ++ (wAI hp1 cy 325 r.2.2))) r.1) args s 0 0 A) (F0 m 53 ls [])) :
    ∀ (St_marked : Nat → Int32) (Sp1 : Nat → Int32) (v2 : Int32) (v3 : Int32) (H : Heap) (locs : List Loc) (ls : Array Slot), b_X10_freezeOn_79 St k53 St_marked Sp1 v2 v3 = some r → va_P D vwCl (wMo ht cy St ++ (wAI (fun _ => ht 13) cy 48 St_marked ++ (wAI hp1 cy 325 Sp1))) H → va_D A (wMo ht cy St ++ (wAI (fun _ => ht 13) cy 48 St_marked ++ (wAI hp1 cy 325 Sp1))) → va_S A s.heap H locs → lv_has ls 4 [(0, .ref (ht 0)), (1, .ref (hp1 0)), (2, .int v2), (3, .int v3)] → W p l e (zRm 5 114) s m args below meth c H locs 0 0 (MQ below (zQI D (zty cy) A (wMo ht cy St ++ (wAI (fun _ => ht 13) cy 48 r.2.1 ++ (wAI hp1 cy 325 r.2.2))) r.1) args s 0 0 A) (F0 m 79 ls []) := by
  obtain ⟨hx, hb, hr, hts, hown, hlocks, hml, hA, hK⟩ := id C
  intro St_marked Sp1 v2 v3 H locs ls hf hP hD hS hl
  refine lv_aload_n hx hb dX10_freezeOn_79 rfl (lv_at hl 0 rfl) ?_
  refine va_get (D := D) (ci := 6) (v := .ref (ht 13)) (C := RX10) (T := TX10) (N := 41) hx hb hts in_X10 hown hK hP 0 rfl rfl 29 (by decide) (hts _ q6_74) (fun _ h9 => h9) rfl dX10_freezeOn_80 ?_
  refine lv_iload_n hx hb dX10_freezeOn_83 rfl (lv_at hl 3 rfl) ?_
  refine z_iald (f := St_marked) hx hb hK hP 1 0 rfl rfl dX10_freezeOn_84 hf (fun hf => ?_)
  refine lv_iconst (v := (1 : Int32)) hx hb dX10_freezeOn_85 (by decide) ?_
  refine z_icmp_le (tgt := 98) hx hb dX10_freezeOn_86 (by decide) hf (fun hf => ?_) (fun hf => ?_)
  · exact w_X10_freezeOn_98 l ht hp1 St C K53 St_marked Sp1 v2 v3 H locs ls hf hP hD hS (lv_sub hl [0, 1, 2, 3] rfl)
  · refine lv_aload_n hx hb dX10_freezeOn_89 rfl (lv_at hl 1 rfl) ?_
    refine lv_sipush (v := (144 : Int32)) hx hb dX10_freezeOn_90 (by decide) ?_
    refine lv_iload_n hx hb dX10_freezeOn_93 rfl (lv_at hl 3 rfl) ?_
    refine lv_iadd hx hb dX10_freezeOn_94 ?_
    refine lv_bipush (v := (-2 : Int32)) hx hb dX10_freezeOn_95 (by decide) ?_
    refine z_iast (f := Sp1) (w2 := wMo ht cy St ++ (wAI (fun _ => ht 13) cy 48 St_marked ++ (wAI hp1 cy 325 (upd Sp1 ((144 : Int32) + v3).toNatClampNeg (-2 : Int32))))) hx hb hK hP hD hS 2 0 rfl rfl dX10_freezeOn_97 hf rfl (fun hf H locs hP hD hS => ?_)
    exact w_X10_freezeOn_98 l ht hp1 St C K53 St_marked (upd Sp1 ((144 : Int32) + v3).toNatClampNeg (-2 : Int32)) v2 v3 H locs ls hf hP hD hS (lv_sub hl [0, 1, 2, 3] rfl)
def b_X10_freezeOn_53 (St : SMo) (k53 : (Nat → Int32) → (Nat → Int32) → Int32 → Int32 → Option (Int32 × (Nat → Int32) × (Nat → Int32))) (St_marked : Nat → Int32) (Sp1 : Nat → Int32) (v2 : Int32) (v3 : Int32) : Option (Int32 × (Nat → Int32) × (Nat → Int32)) :=
  (if (48 : Int32) ≤ v3 then
    some (v2, St_marked, Sp1)
    else
    (if zib v3 48 then (if ((St_marked v3.toNatClampNeg) - (St_marked v3.toNatClampNeg) / (2 : Int32) * (2 : Int32)) = (1 : Int32) then
        (if zib ((96 : Int32) + v3) 325 then (b_X10_freezeOn_79 St k53 St_marked (upd Sp1 ((96 : Int32) + v3).toNatClampNeg (-2 : Int32)) v2 v3) else none)
        else
        (b_X10_freezeOn_79 St k53 St_marked Sp1 v2 v3)) else none))
set_option maxHeartbeats 4000000 in
set_option maxRecDepth 100000 in
theorem w_X10_freezeOn_53 {p : Program} {e : Env} {s : State} {m : MethodId} {below : List Frame} {meth : Method} {c : Code} {A : Nat → Prop} {D : va_G} {cy : Nat → ClassId} {args : Array Value} {r : Int32 × (Nat → Int32) × (Nat → Int32)} (l : Launch) (ht : Nat → Nat) (hp1 : Nat → Nat) (St : SMo) (C : zX p s m meth c cX10_freezeOn 4 args RX10 (some FieldType.int) A D (zty cy)) :
    ∀ (n : Nat) (St_marked : Nat → Int32) (Sp1 : Nat → Int32) (v2 : Int32) (v3 : Int32) (H : Heap) (locs : List Loc) (ls : Array Slot), zl4 (b_X10_freezeOn_53 St) n St_marked Sp1 v2 v3 = some r → va_P D vwCl (wMo ht cy St ++ (wAI (fun _ => ht 13) cy 48 St_marked ++ (wAI hp1 cy 325 Sp1))) H → va_D A (wMo ht cy St ++ (wAI (fun _ => ht 13) cy 48 St_marked ++ (wAI hp1 cy 325 Sp1))) → va_S A s.heap H locs → lv_has ls 4 [(0, .ref (ht 0)), (1, .ref (hp1 0)), (2, .int v2), (3, .int v3)] → W p l e (zRm 5 114) s m args below meth c H locs 0 0 (MQ below (zQI D (zty cy) A (wMo ht cy St ++ (wAI (fun _ => ht 13) cy 48 r.2.1 ++ (wAI hp1 cy 325 r.2.2))) r.1) args s 0 0 A) (F0 m 53 ls []) := by
  obtain ⟨hx, hb, hr, hts, hown, hlocks, hml, hA, hK⟩ := id C
  intro n
  induction n with
  | zero => intro St_marked Sp1 v2 v3 H locs ls hf; exact zno hf
  | succ n ih =>
    intro St_marked Sp1 v2 v3 H locs ls hf hP hD hS hl
    have hf : b_X10_freezeOn_53 St (zl4 (b_X10_freezeOn_53 St) n) St_marked Sp1 v2 v3 = some r := hf
    have K53 := ih
    refine lv_iload_n hx hb dX10_freezeOn_53 rfl (lv_at hl 3 rfl) ?_
    refine lv_bipush (v := (48 : Int32)) hx hb dX10_freezeOn_54 (by decide) ?_
    refine z_icmp_ge (tgt := 121) hx hb dX10_freezeOn_56 (by decide) hf (fun hf => ?_) (fun hf => ?_)
    · refine lv_iload_n hx hb dX10_freezeOn_121 rfl (lv_at hl 2 rfl) ?_
      obtain rfl := Option.some.inj hf
      exact z_iret (v := v2) C hP hD hS dX10_freezeOn_122
    · refine lv_aload_n hx hb dX10_freezeOn_59 rfl (lv_at hl 0 rfl) ?_
      refine va_get (D := D) (ci := 6) (v := .ref (ht 13)) (C := RX10) (T := TX10) (N := 41) hx hb hts in_X10 hown hK hP 0 rfl rfl 29 (by decide) (hts _ q6_74) (fun _ h9 => h9) rfl dX10_freezeOn_60 ?_
      refine lv_iload_n hx hb dX10_freezeOn_63 rfl (lv_at hl 3 rfl) ?_
      refine z_iald (f := St_marked) hx hb hK hP 1 0 rfl rfl dX10_freezeOn_64 hf (fun hf => ?_)
      refine lv_iconst (v := (2 : Int32)) hx hb dX10_freezeOn_65 (by decide) ?_
      refine lv_irem hx hb dX10_freezeOn_66 (by decide) ?_
      refine lv_iconst (v := (1 : Int32)) hx hb dX10_freezeOn_67 (by decide) ?_
      refine z_icmp_ne (tgt := 79) hx hb dX10_freezeOn_68 (by decide) hf (fun hf => ?_) (fun hf => ?_)
      · exact w_X10_freezeOn_79 l ht hp1 St C K53 St_marked Sp1 v2 v3 H locs ls hf hP hD hS (lv_sub hl [0, 1, 2, 3] rfl)
      · refine lv_aload_n hx hb dX10_freezeOn_71 rfl (lv_at hl 1 rfl) ?_
        refine lv_bipush (v := (96 : Int32)) hx hb dX10_freezeOn_72 (by decide) ?_
        refine lv_iload_n hx hb dX10_freezeOn_74 rfl (lv_at hl 3 rfl) ?_
        refine lv_iadd hx hb dX10_freezeOn_75 ?_
        refine lv_bipush (v := (-2 : Int32)) hx hb dX10_freezeOn_76 (by decide) ?_
        refine z_iast (f := Sp1) (w2 := wMo ht cy St ++ (wAI (fun _ => ht 13) cy 48 St_marked ++ (wAI hp1 cy 325 (upd Sp1 ((96 : Int32) + v3).toNatClampNeg (-2 : Int32))))) hx hb hK hP hD hS 2 0 rfl rfl dX10_freezeOn_78 hf rfl (fun hf H locs hP hD hS => ?_)
        exact w_X10_freezeOn_79 l ht hp1 St C K53 St_marked (upd Sp1 ((96 : Int32) + v3).toNatClampNeg (-2 : Int32)) v2 v3 H locs ls hf hP hD hS (lv_sub hl [0, 1, 2, 3] rfl)
def b_X10_freezeOn_29 (St : SMo) (k4 : (Nat → Int32) → (Nat → Int32) → Int32 → Int32 → Option (Int32 × (Nat → Int32) × (Nat → Int32))) (St_marked : Nat → Int32) (Sp1 : Nat → Int32) (v2 : Int32) (v3 : Int32) (u1 : Int32) (u2 : Int32) : Option (Int32 × (Nat → Int32) × (Nat → Int32)) :=
  (f_X10_isLetGo Sp1 v3).bind (fun q1 =>
    (if q1 = 0 then
      (if zib u1 48 then (k4 (upd St_marked u1.toNatClampNeg (u2 + (0 : Int32))) Sp1 v2 (v3 + (1 : Int32))) else none)
      else
      (if zib u1 48 then (k4 (upd St_marked u1.toNatClampNeg (u2 + (2 : Int32))) Sp1 v2 (v3 + (1 : Int32))) else none)))
set_option maxHeartbeats 4000000 in
set_option maxRecDepth 100000 in
theorem w_X10_freezeOn_29 {p : Program} {e : Env} {s : State} {m : MethodId} {below : List Frame} {meth : Method} {c : Code} {A : Nat → Prop} {D : va_G} {cy : Nat → ClassId} {args : Array Value} {r : Int32 × (Nat → Int32) × (Nat → Int32)} (l : Launch) (ht : Nat → Nat) (hp1 : Nat → Nat) (St : SMo) {k4 : (Nat → Int32) → (Nat → Int32) → Int32 → Int32 → Option (Int32 × (Nat → Int32) × (Nat → Int32))} (C : zX p s m meth c cX10_freezeOn 4 args RX10 (some FieldType.int) A D (zty cy))
    (K4 : ∀ (St_marked : Nat → Int32) (Sp1 : Nat → Int32) (v2 : Int32) (v3 : Int32) (H : Heap) (locs : List Loc) (ls : Array Slot), k4 St_marked Sp1 v2 v3 = some r → va_P D vwCl (wMo ht cy St ++ (wAI (fun _ => ht 13) cy 48 St_marked ++ (wAI hp1 cy 325 Sp1))) H → va_D A (wMo ht cy St ++ (wAI (fun _ => ht 13) cy 48 St_marked ++ (wAI hp1 cy 325 Sp1))) → va_S A s.heap H locs → lv_has ls 4 [(0, .ref (ht 0)), (1, .ref (hp1 0)), (2, .int v2), (3, .int v3)] → W p l e (zRm 5 114) s m args below meth c H locs 0 0 (MQ below (zQI D (zty cy) A (wMo ht cy St ++ (wAI (fun _ => ht 13) cy 48 r.2.1 ++ (wAI hp1 cy 325 r.2.2))) r.1) args s 0 0 A) (F0 m 4 ls [])) :
    ∀ (St_marked : Nat → Int32) (Sp1 : Nat → Int32) (v2 : Int32) (v3 : Int32) (u1 : Int32) (u2 : Int32) (H : Heap) (locs : List Loc) (ls : Array Slot), b_X10_freezeOn_29 St k4 St_marked Sp1 v2 v3 u1 u2 = some r → va_P D vwCl (wMo ht cy St ++ (wAI (fun _ => ht 13) cy 48 St_marked ++ (wAI hp1 cy 325 Sp1))) H → va_D A (wMo ht cy St ++ (wAI (fun _ => ht 13) cy 48 St_marked ++ (wAI hp1 cy 325 Sp1))) → va_S A s.heap H locs → lv_has ls 4 [(0, .ref (ht 0)), (1, .ref (hp1 0)), (2, .int v2), (3, .int v3)] → W p l e (zRm 5 114) s m args below meth c H locs 0 0 (MQ below (zQI D (zty cy) A (wMo ht cy St ++ (wAI (fun _ => ht 13) cy 48 r.2.1 ++ (wAI hp1 cy 325 r.2.2))) r.1) args s 0 0 A) (F0 m 29 ls [.int u2, .int u1, .ref (ht 13)]) := by
  obtain ⟨hx, hb, hr, hts, hown, hlocks, hml, hA, hK⟩ := id C
  intro St_marked Sp1 v2 v3 u1 u2 H locs ls hf hP hD hS hl
  refine lv_aload_n hx hb dX10_freezeOn_29 rfl (lv_at hl 0 rfl) ?_
  refine lv_aload_n hx hb dX10_freezeOn_30 rfl (lv_at hl 1 rfl) ?_
  refine lv_iload_n hx hb dX10_freezeOn_31 rfl (lv_at hl 3 rfl) ?_
  obtain ⟨q1, hc, hf⟩ := zbd hf
  refine z_cVi (As := [.ref (hp1 0), .int v3]) (rest := [.int u2, .int u1, .ref (ht 13)]) C (c_X10_isLetGo l D cy ht hp1 Sp1 v3 q1 hc) gV_X10_X10_isLetGo hd_X10_isLetGo ⟨Nat.le_of_ble_eq_true rfl, Nat.le_of_ble_eq_true rfl⟩ ⟨Nat.le_refl _, Nat.le_refl _⟩ (va_recv hK hP (ci := 6) (q0 := 0) rfl rfl) hP hD hS (w2 := wMo ht cy St ++ (wAI (fun _ => ht 13) cy 48 St_marked ++ (wAI hp1 cy 325 Sp1))) [2] [0, 1] [0, 1, 2] rfl rfl rfl rfl rfl rfl (by decide) hl.1 (Nat.le_of_ble_eq_true rfl) dX10_freezeOn_32 (fun H locs hP hD hS => ?_)
  refine z_if_eq (tgt := 42) hx hb dX10_freezeOn_35 (by decide) hf (fun hf => ?_) (fun hf => ?_)
  · refine lv_iconst (v := (0 : Int32)) hx hb dX10_freezeOn_42 (by decide) ?_
    refine lv_iadd hx hb dX10_freezeOn_43 ?_
    refine z_iast (f := St_marked) (w2 := wMo ht cy St ++ (wAI (fun _ => ht 13) cy 48 (upd St_marked u1.toNatClampNeg (u2 + (0 : Int32))) ++ (wAI hp1 cy 325 Sp1))) hx hb hK hP hD hS 1 0 rfl rfl dX10_freezeOn_44 hf rfl (fun hf H locs hP hD hS => ?_)
    refine lv_iinc (v := (v3 + (1 : Int32))) (lv' := [(3, .int (v3 + (1 : Int32))), (0, .ref (ht 0)), (1, .ref (hp1 0)), (2, .int v2)]) hx hb dX10_freezeOn_45 hl (k := 3) rfl rfl (by decide) rfl (fun ls hl => ?_)
    refine lv_goto (tgt := 4) hx hb dX10_freezeOn_48 (by decide) ?_
    exact K4 (upd St_marked u1.toNatClampNeg (u2 + (0 : Int32))) Sp1 v2 (v3 + (1 : Int32)) H locs ls hf hP hD hS (lv_sub hl [1, 2, 3, 0] rfl)
  · refine lv_iconst (v := (2 : Int32)) hx hb dX10_freezeOn_38 (by decide) ?_
    refine lv_goto (tgt := 43) hx hb dX10_freezeOn_39 (by decide) ?_
    refine lv_iadd hx hb dX10_freezeOn_43 ?_
    refine z_iast (f := St_marked) (w2 := wMo ht cy St ++ (wAI (fun _ => ht 13) cy 48 (upd St_marked u1.toNatClampNeg (u2 + (2 : Int32))) ++ (wAI hp1 cy 325 Sp1))) hx hb hK hP hD hS 1 0 rfl rfl dX10_freezeOn_44 hf rfl (fun hf H locs hP hD hS => ?_)
    refine lv_iinc (v := (v3 + (1 : Int32))) (lv' := [(3, .int (v3 + (1 : Int32))), (0, .ref (ht 0)), (1, .ref (hp1 0)), (2, .int v2)]) hx hb dX10_freezeOn_45 hl (k := 3) rfl rfl (by decide) rfl (fun ls hl => ?_)
    refine lv_goto (tgt := 4) hx hb dX10_freezeOn_48 (by decide) ?_
    exact K4 (upd St_marked u1.toNatClampNeg (u2 + (2 : Int32))) Sp1 v2 (v3 + (1 : Int32)) H locs ls hf hP hD hS (lv_sub hl [1, 2, 3, 0] rfl)
def b_X10_freezeOn_4 (St : SMo) (k4 : (Nat → Int32) → (Nat → Int32) → Int32 → Int32 → Option (Int32 × (Nat → Int32) × (Nat → Int32))) (St_marked : Nat → Int32) (Sp1 : Nat → Int32) (v2 : Int32) (v3 : Int32) : Option (Int32 × (Nat → Int32) × (Nat → Int32)) :=
  (if (48 : Int32) ≤ v3 then
    (zl4 (b_X10_freezeOn_53 St) FU St_marked Sp1 v2 (0 : Int32))
    else
    (f_X10_isFrozenThen St Sp1 v3).bind (fun q2 =>
      (if q2 = 0 then
        (b_X10_freezeOn_29 St k4 St_marked Sp1 v2 v3 v3 (0 : Int32))
        else
        (b_X10_freezeOn_29 St k4 St_marked Sp1 v2 v3 v3 (1 : Int32)))))
set_option maxHeartbeats 4000000 in
set_option maxRecDepth 100000 in
theorem w_X10_freezeOn_4 {p : Program} {e : Env} {s : State} {m : MethodId} {below : List Frame} {meth : Method} {c : Code} {A : Nat → Prop} {D : va_G} {cy : Nat → ClassId} {args : Array Value} {r : Int32 × (Nat → Int32) × (Nat → Int32)} (l : Launch) (ht : Nat → Nat) (hp1 : Nat → Nat) (St : SMo) (C : zX p s m meth c cX10_freezeOn 4 args RX10 (some FieldType.int) A D (zty cy)) :
    ∀ (n : Nat) (St_marked : Nat → Int32) (Sp1 : Nat → Int32) (v2 : Int32) (v3 : Int32) (H : Heap) (locs : List Loc) (ls : Array Slot), zl4 (b_X10_freezeOn_4 St) n St_marked Sp1 v2 v3 = some r → va_P D vwCl (wMo ht cy St ++ (wAI (fun _ => ht 13) cy 48 St_marked ++ (wAI hp1 cy 325 Sp1))) H → va_D A (wMo ht cy St ++ (wAI (fun _ => ht 13) cy 48 St_marked ++ (wAI hp1 cy 325 Sp1))) → va_S A s.heap H locs → lv_has ls 4 [(0, .ref (ht 0)), (1, .ref (hp1 0)), (2, .int v2), (3, .int v3)] → W p l e (zRm 5 114) s m args below meth c H locs 0 0 (MQ below (zQI D (zty cy) A (wMo ht cy St ++ (wAI (fun _ => ht 13) cy 48 r.2.1 ++ (wAI hp1 cy 325 r.2.2))) r.1) args s 0 0 A) (F0 m 4 ls []) := by
  obtain ⟨hx, hb, hr, hts, hown, hlocks, hml, hA, hK⟩ := id C
  intro n
  induction n with
  | zero => intro St_marked Sp1 v2 v3 H locs ls hf; exact zno hf
  | succ n ih =>
    intro St_marked Sp1 v2 v3 H locs ls hf hP hD hS hl
    have hf : b_X10_freezeOn_4 St (zl4 (b_X10_freezeOn_4 St) n) St_marked Sp1 v2 v3 = some r := hf
    have K4 := ih
    refine lv_iload_n hx hb dX10_freezeOn_4 rfl (lv_at hl 3 rfl) ?_
    refine lv_bipush (v := (48 : Int32)) hx hb dX10_freezeOn_5 (by decide) ?_
    refine z_icmp_ge (tgt := 51) hx hb dX10_freezeOn_7 (by decide) hf (fun hf => ?_) (fun hf => ?_)
    · refine lv_iconst (v := (0 : Int32)) hx hb dX10_freezeOn_51 (by decide) ?_
      refine lv_istore_n (lv' := [(3, .int (0 : Int32)), (0, .ref (ht 0)), (1, .ref (hp1 0)), (2, .int v2)]) hx hb dX10_freezeOn_52 rfl hl (by decide) rfl (fun ls hl => ?_)
      exact w_X10_freezeOn_53 l ht hp1 St C FU St_marked Sp1 v2 (0 : Int32) H locs ls hf hP hD hS (lv_sub hl [1, 2, 3, 0] rfl)
    · refine lv_aload_n hx hb dX10_freezeOn_10 rfl (lv_at hl 0 rfl) ?_
      refine va_get (D := D) (ci := 6) (v := .ref (ht 13)) (C := RX10) (T := TX10) (N := 41) hx hb hts in_X10 hown hK hP 0 rfl rfl 29 (by decide) (hts _ q6_74) (fun _ h9 => h9) rfl dX10_freezeOn_11 ?_
      refine lv_iload_n hx hb dX10_freezeOn_14 rfl (lv_at hl 3 rfl) ?_
      refine lv_aload_n hx hb dX10_freezeOn_15 rfl (lv_at hl 0 rfl) ?_
      refine lv_aload_n hx hb dX10_freezeOn_16 rfl (lv_at hl 1 rfl) ?_
      refine lv_iload_n hx hb dX10_freezeOn_17 rfl (lv_at hl 3 rfl) ?_
      obtain ⟨q2, hc, hf⟩ := zbd hf
      refine z_cVi (As := [.ref (hp1 0), .int v3]) (rest := [.int v3, .ref (ht 13)]) C (c_X10_isFrozenThen l D cy ht hp1 St Sp1 v3 q2 hc) gV_X10_X10_isFrozenThen hd_X10_isFrozenThen ⟨Nat.le_of_ble_eq_true rfl, Nat.le_of_ble_eq_true rfl⟩ ⟨Nat.le_refl _, Nat.le_refl _⟩ (va_recv hK hP (ci := 6) (q0 := 0) rfl rfl) hP hD hS (w2 := wMo ht cy St ++ (wAI (fun _ => ht 13) cy 48 St_marked ++ (wAI hp1 cy 325 Sp1))) [0, 2] [1] [1, 0, 2] rfl rfl rfl rfl rfl rfl (by decide) hl.1 (Nat.le_of_ble_eq_true rfl) dX10_freezeOn_18 (fun H locs hP hD hS => ?_)
      refine z_if_eq (tgt := 28) hx hb dX10_freezeOn_21 (by decide) hf (fun hf => ?_) (fun hf => ?_)
      · refine lv_iconst (v := (0 : Int32)) hx hb dX10_freezeOn_28 (by decide) ?_
        exact w_X10_freezeOn_29 l ht hp1 St C K4 St_marked Sp1 v2 v3 v3 (0 : Int32) H locs ls hf hP hD hS (lv_sub hl [0, 1, 2, 3] rfl)
      · refine lv_iconst (v := (1 : Int32)) hx hb dX10_freezeOn_24 (by decide) ?_
        refine lv_goto (tgt := 29) hx hb dX10_freezeOn_25 (by decide) ?_
        exact w_X10_freezeOn_29 l ht hp1 St C K4 St_marked Sp1 v2 v3 v3 (1 : Int32) H locs ls hf hP hD hS (lv_sub hl [0, 1, 2, 3] rfl)
def f_X10_freezeOn (St : SMo) (St_marked : Nat → Int32) (Sp1 : Nat → Int32) : Option (Int32 × (Nat → Int32) × (Nat → Int32)) :=
  (zl4 (b_X10_freezeOn_4 St) FU St_marked Sp1 (0 : Int32) (0 : Int32))
set_option maxHeartbeats 4000000 in
set_option maxRecDepth 100000 in
theorem c_X10_freezeOn (l : Launch) (D : va_G) (cy : Nat → ClassId) (ht : Nat → Nat) (hp1 : Nat → Nat) (St : SMo) (St_marked : Nat → Int32) (Sp1 : Nat → Int32) (r : Int32 × (Nat → Int32) × (Nat → Int32)) (hf : f_X10_freezeOn St St_marked Sp1 = some r) : zCI l yX10_freezeOn cX10_freezeOn 4 (some FieldType.int) 5 114 D (zty cy) [.ref (ht 0), .ref (hp1 0)] (wMo ht cy St ++ (wAI (fun _ => ht 13) cy 48 St_marked ++ (wAI hp1 cy 325 Sp1))) (wMo ht cy St ++ (wAI (fun _ => ht 13) cy 48 r.2.1 ++ (wAI hp1 cy 325 r.2.2))) r.1 := by
  refine zCI_of (by decide +kernel) (Nat.le_of_ble_eq_true rfl) ?_
  intro p e s m below meth c A ls C hP hD hS hl
  generalize hargs : ([.ref (ht 0), .ref (hp1 0)] : List Value).toArray = args at C ⊢
  have C : zX p s m meth c cX10_freezeOn 4 args RX10 (some FieldType.int) A D (zty cy) := C
  obtain ⟨hx, hb, hr, hts, hown, hlocks, hml, hA, hK⟩ := id C
  have hl : lv_has ls 4 [(0, .ref (ht 0)), (1, .ref (hp1 0))] := hl
  generalize hH : s.heap = H at hP ⊢
  have hS : va_S A s.heap H [] := by rw [← hH]; exact hS
  generalize ([] : List Loc) = locs at hS ⊢
  refine lv_iconst (v := (0 : Int32)) hx hb dX10_freezeOn_0 (by decide) ?_
  refine lv_istore_n (lv' := [(2, .int (0 : Int32)), (0, .ref (ht 0)), (1, .ref (hp1 0))]) hx hb dX10_freezeOn_1 rfl hl (by decide) rfl (fun ls hl => ?_)
  refine lv_iconst (v := (0 : Int32)) hx hb dX10_freezeOn_2 (by decide) ?_
  refine lv_istore_n (lv' := [(3, .int (0 : Int32)), (2, .int (0 : Int32)), (0, .ref (ht 0)), (1, .ref (hp1 0))]) hx hb dX10_freezeOn_3 rfl hl (by decide) rfl (fun ls hl => ?_)
  exact w_X10_freezeOn_4 l ht hp1 St C FU St_marked Sp1 (0 : Int32) (0 : Int32) H locs ls hf hP hD hS (lv_sub hl [2, 3, 1, 0] rfl)
def f_X10_see (St : SMo) (St_tape : Nat → Int32) (x1 : Int32) : Option (Int32) :=
  (if (Mo_size St) ≤ x1 then
    some (-1 : Int32)
    else
    (if zib x1 900 then some (St_tape x1.toNatClampNeg) else none))
set_option maxHeartbeats 4000000 in
set_option maxRecDepth 100000 in
theorem c_X10_see (l : Launch) (D : va_G) (cy : Nat → ClassId) (ht : Nat → Nat) (St : SMo) (St_tape : Nat → Int32) (x1 : Int32) (r : Int32) (hf : f_X10_see St St_tape x1 = some r) : zCI l yX10_see cX10_see 2 (some FieldType.int) 0 0 D (zty cy) [.ref (ht 0), .int x1] (wMo ht cy St ++ (wAI (fun _ => ht 1) cy 900 St_tape)) (wMo ht cy St ++ (wAI (fun _ => ht 1) cy 900 St_tape)) r := by
  refine zCI_of (by decide +kernel) (Nat.le_of_ble_eq_true rfl) ?_
  intro p e s m below meth c A ls C hP hD hS hl
  generalize hargs : ([.ref (ht 0), .int x1] : List Value).toArray = args at C ⊢
  have C : zX p s m meth c cX10_see 2 args RX10 (some FieldType.int) A D (zty cy) := C
  obtain ⟨hx, hb, hr, hts, hown, hlocks, hml, hA, hK⟩ := id C
  have hl : lv_has ls 2 [(0, .ref (ht 0)), (1, .int x1)] := hl
  generalize hH : s.heap = H at hP ⊢
  have hS : va_S A s.heap H [] := by rw [← hH]; exact hS
  generalize ([] : List Loc) = locs at hS ⊢
  refine lv_iload_n hx hb dX10_see_0 rfl (lv_at hl 1 rfl) ?_
  refine lv_aload_n hx hb dX10_see_1 rfl (lv_at hl 0 rfl) ?_
  refine va_get (D := D) (ci := 6) (v := .int (Mo_size St)) (C := RX10) (T := TX10) (N := 41) hx hb hts in_X10 hown hK hP 0 rfl rfl 3 (by decide) (hts _ q6_48) (fun _ h9 => h9) rfl dX10_see_2 ?_
  refine z_icmp_ge (tgt := 17) hx hb dX10_see_5 (by decide) hf (fun hf => ?_) (fun hf => ?_)
  · refine lv_iconst (v := (-1 : Int32)) hx hb dX10_see_17 (by decide) ?_
    obtain rfl := Option.some.inj hf
    exact z_iret (v := (-1 : Int32)) C hP hD hS dX10_see_18
  · refine lv_aload_n hx hb dX10_see_8 rfl (lv_at hl 0 rfl) ?_
    refine va_get (D := D) (ci := 6) (v := .ref (ht 1)) (C := RX10) (T := TX10) (N := 41) hx hb hts in_X10 hown hK hP 0 rfl rfl 1 (by decide) (hts _ q6_46) (fun _ h9 => h9) rfl dX10_see_9 ?_
    refine lv_iload_n hx hb dX10_see_12 rfl (lv_at hl 1 rfl) ?_
    refine z_iald (f := St_tape) hx hb hK hP 1 0 rfl rfl dX10_see_13 hf (fun hf => ?_)
    refine lv_goto (tgt := 18) hx hb dX10_see_14 (by decide) ?_
    obtain rfl := Option.some.inj hf
    exact z_iret (v := (St_tape x1.toNatClampNeg)) C hP hD hS dX10_see_18
def f_X10_isSmall (x0 : Int32) : Option (Int32) :=
  (if x0 < (97 : Int32) then
    some (0 : Int32)
    else
    (if (122 : Int32) < x0 then
      some (0 : Int32)
      else
      some (1 : Int32)))
set_option maxHeartbeats 4000000 in
set_option maxRecDepth 100000 in
theorem c_X10_isSmall (l : Launch) (D : va_G) (cy : Nat → ClassId) (x0 : Int32) (r : Int32) (hf : f_X10_isSmall x0 = some r) : zCI l yX10_isSmall cX10_isSmall 1 (some FieldType.boolean) 0 0 D (zty cy) [.int x0] ([]) ([]) r := by
  refine zCI_of (by decide +kernel) (Nat.le_of_ble_eq_true rfl) ?_
  intro p e s m below meth c A ls C hP hD hS hl
  generalize hargs : ([.int x0] : List Value).toArray = args at C ⊢
  have C : zX p s m meth c cX10_isSmall 1 args RX10 (some FieldType.boolean) A D (zty cy) := C
  obtain ⟨hx, hb, hr, hts, hown, hlocks, hml, hA, hK⟩ := id C
  have hl : lv_has ls 1 [(0, .int x0)] := hl
  generalize hH : s.heap = H at hP ⊢
  have hS : va_S A s.heap H [] := by rw [← hH]; exact hS
  generalize ([] : List Loc) = locs at hS ⊢
  refine lv_iload_n hx hb dX10_isSmall_0 rfl (lv_at hl 0 rfl) ?_
  refine lv_bipush (v := (97 : Int32)) hx hb dX10_isSmall_1 (by decide) ?_
  refine z_icmp_lt (tgt := 16) hx hb dX10_isSmall_3 (by decide) hf (fun hf => ?_) (fun hf => ?_)
  · refine lv_iconst (v := (0 : Int32)) hx hb dX10_isSmall_16 (by decide) ?_
    obtain rfl := Option.some.inj hf
    exact z_zret (v := (0 : Int32)) C rfl hP hD hS dX10_isSmall_17
  · refine lv_iload_n hx hb dX10_isSmall_6 rfl (lv_at hl 0 rfl) ?_
    refine lv_bipush (v := (122 : Int32)) hx hb dX10_isSmall_7 (by decide) ?_
    refine z_icmp_gt (tgt := 16) hx hb dX10_isSmall_9 (by decide) hf (fun hf => ?_) (fun hf => ?_)
    · refine lv_iconst (v := (0 : Int32)) hx hb dX10_isSmall_16 (by decide) ?_
      obtain rfl := Option.some.inj hf
      exact z_zret (v := (0 : Int32)) C rfl hP hD hS dX10_isSmall_17
    · refine lv_iconst (v := (1 : Int32)) hx hb dX10_isSmall_12 (by decide) ?_
      refine lv_goto (tgt := 17) hx hb dX10_isSmall_13 (by decide) ?_
      obtain rfl := Option.some.inj hf
      exact z_zret (v := (1 : Int32)) C rfl hP hD hS dX10_isSmall_17
def f_X10_isDigit (x0 : Int32) : Option (Int32) :=
  (if x0 < (48 : Int32) then
    some (0 : Int32)
    else
    (if (57 : Int32) < x0 then
      some (0 : Int32)
      else
      some (1 : Int32)))
set_option maxHeartbeats 4000000 in
set_option maxRecDepth 100000 in
theorem c_X10_isDigit (l : Launch) (D : va_G) (cy : Nat → ClassId) (x0 : Int32) (r : Int32) (hf : f_X10_isDigit x0 = some r) : zCI l yX10_isDigit cX10_isDigit 1 (some FieldType.boolean) 0 0 D (zty cy) [.int x0] ([]) ([]) r := by
  refine zCI_of (by decide +kernel) (Nat.le_of_ble_eq_true rfl) ?_
  intro p e s m below meth c A ls C hP hD hS hl
  generalize hargs : ([.int x0] : List Value).toArray = args at C ⊢
  have C : zX p s m meth c cX10_isDigit 1 args RX10 (some FieldType.boolean) A D (zty cy) := C
  obtain ⟨hx, hb, hr, hts, hown, hlocks, hml, hA, hK⟩ := id C
  have hl : lv_has ls 1 [(0, .int x0)] := hl
  generalize hH : s.heap = H at hP ⊢
  have hS : va_S A s.heap H [] := by rw [← hH]; exact hS
  generalize ([] : List Loc) = locs at hS ⊢
  refine lv_iload_n hx hb dX10_isDigit_0 rfl (lv_at hl 0 rfl) ?_
  refine lv_bipush (v := (48 : Int32)) hx hb dX10_isDigit_1 (by decide) ?_
  refine z_icmp_lt (tgt := 16) hx hb dX10_isDigit_3 (by decide) hf (fun hf => ?_) (fun hf => ?_)
  · refine lv_iconst (v := (0 : Int32)) hx hb dX10_isDigit_16 (by decide) ?_
    obtain rfl := Option.some.inj hf
    exact z_zret (v := (0 : Int32)) C rfl hP hD hS dX10_isDigit_17
  · refine lv_iload_n hx hb dX10_isDigit_6 rfl (lv_at hl 0 rfl) ?_
    refine lv_bipush (v := (57 : Int32)) hx hb dX10_isDigit_7 (by decide) ?_
    refine z_icmp_gt (tgt := 16) hx hb dX10_isDigit_9 (by decide) hf (fun hf => ?_) (fun hf => ?_)
    · refine lv_iconst (v := (0 : Int32)) hx hb dX10_isDigit_16 (by decide) ?_
      obtain rfl := Option.some.inj hf
      exact z_zret (v := (0 : Int32)) C rfl hP hD hS dX10_isDigit_17
    · refine lv_iconst (v := (1 : Int32)) hx hb dX10_isDigit_12 (by decide) ?_
      refine lv_goto (tgt := 17) hx hb dX10_isDigit_13 (by decide) ?_
      obtain rfl := Option.some.inj hf
      exact z_zret (v := (1 : Int32)) C rfl hP hD hS dX10_isDigit_17
def b_X10_step_152 (St_tape : Nat → Int32) (k152 : SMo → (Nat → Int32) → Int32 → Int32 → Option (SMo × (Nat → Int32))) (St : SMo) (St_letters : Nat → Int32) (v1 : Int32) (v3 : Int32) : Option (SMo × (Nat → Int32)) :=
  (f_X10_see St St_tape v1).bind (fun q1 =>
    (f_X10_isDigit q1).bind (fun q2 =>
      (if q2 = 0 then
        (if v3 ≤ (3 : Int32) then
          some ((mkMo (Mo_thrown St) (Mo_taped St) (Mo_size St) (Mo_at St) v1 (3 : Int32) (Mo_whole St) (Mo_nameSize St) (Mo_fault St) (Mo_place St) (Mo_trouble St) (Mo_failed St) (Mo_hasStore St) (Mo_undos St) (Mo_images St) (Mo_ring St) (Mo_refused St) (Mo_setMany St) (Mo_someOf St) (Mo_allOf St) (Mo_firstRest St) (Mo_allWeight St) (Mo_seenWeight St) (Mo_sumWeight St)), St_letters)
          else
          some ((mkMo (Mo_thrown St) (Mo_taped St) (Mo_size St) (Mo_at St) v1 (1 : Int32) (Mo_whole St) (Mo_nameSize St) (Mo_fault St) (Mo_place St) (Mo_trouble St) (Mo_failed St) (Mo_hasStore St) (Mo_undos St) (Mo_images St) (Mo_ring St) (Mo_refused St) (Mo_setMany St) (Mo_someOf St) (Mo_allOf St) (Mo_firstRest St) (Mo_allWeight St) (Mo_seenWeight St) (Mo_sumWeight St)), St_letters))
        else
        (if (3 : Int32) ≤ v3 then
          (k152 St St_letters (v1 + (1 : Int32)) (v3 + (1 : Int32)))
          else
          (f_X10_see St St_tape v1).bind (fun q3 =>
            (k152 (mkMo (Mo_thrown St) (Mo_taped St) (Mo_size St) (Mo_at St) (Mo_end St) (Mo_token St) ((((10 : Int32) * (Mo_whole St)) + q3) - (48 : Int32)) (Mo_nameSize St) (Mo_fault St) (Mo_place St) (Mo_trouble St) (Mo_failed St) (Mo_hasStore St) (Mo_undos St) (Mo_images St) (Mo_ring St) (Mo_refused St) (Mo_setMany St) (Mo_someOf St) (Mo_allOf St) (Mo_firstRest St) (Mo_allWeight St) (Mo_seenWeight St) (Mo_sumWeight St)) St_letters (v1 + (1 : Int32)) (v3 + (1 : Int32))))))))
set_option maxHeartbeats 4000000 in
set_option maxRecDepth 100000 in
theorem w_X10_step_152 {p : Program} {e : Env} {s : State} {m : MethodId} {below : List Frame} {meth : Method} {c : Code} {A : Nat → Prop} {D : va_G} {cy : Nat → ClassId} {args : Array Value} {r : SMo × (Nat → Int32)} (l : Launch) (ht : Nat → Nat) (St_tape : Nat → Int32) (C : zX p s m meth c cX10_step 4 args RX10 none A D (zty cy)) :
    ∀ (n : Nat) (St : SMo) (St_letters : Nat → Int32) (v1 : Int32) (v3 : Int32) (H : Heap) (locs : List Loc) (ls : Array Slot), zl4 (b_X10_step_152 St_tape) n St St_letters v1 v3 = some r → va_P D vwCl (wMo ht cy St ++ (wAI (fun _ => ht 2) cy 8 St_letters ++ (wAI (fun _ => ht 1) cy 900 St_tape))) H → va_D A (wMo ht cy St ++ (wAI (fun _ => ht 2) cy 8 St_letters ++ (wAI (fun _ => ht 1) cy 900 St_tape))) → va_S A s.heap H locs → lv_has ls 4 [(0, .ref (ht 0)), (1, .int v1), (3, .int v3)] → W p l e (zRm 1 21) s m args below meth c H locs 0 0 (MQ below (zQV D (zty cy) A (wMo ht cy r.1 ++ (wAI (fun _ => ht 2) cy 8 r.2 ++ (wAI (fun _ => ht 1) cy 900 St_tape)))) args s 0 0 A) (F0 m 152 ls []) := by
  obtain ⟨hx, hb, hr, hts, hown, hlocks, hml, hA, hK⟩ := id C
  intro n
  induction n with
  | zero => intro St St_letters v1 v3 H locs ls hf; exact zno hf
  | succ n ih =>
    intro St St_letters v1 v3 H locs ls hf hP hD hS hl
    have hf : b_X10_step_152 St_tape (zl4 (b_X10_step_152 St_tape) n) St St_letters v1 v3 = some r := hf
    have K152 := ih
    refine lv_aload_n hx hb dX10_step_152 rfl (lv_at hl 0 rfl) ?_
    refine lv_iload_n hx hb dX10_step_153 rfl (lv_at hl 1 rfl) ?_
    obtain ⟨q1, hc, hf⟩ := zbd hf
    refine z_cVi (As := [.int v1]) (rest := []) C (c_X10_see l D cy ht St St_tape v1 q1 hc) gV_X10_X10_see hd_X10_see ⟨Nat.le_of_ble_eq_true rfl, Nat.le_of_ble_eq_true rfl⟩ ⟨Nat.le_refl _, Nat.le_refl _⟩ (va_recv hK hP (ci := 6) (q0 := 0) rfl rfl) hP hD hS (w2 := wMo ht cy St ++ (wAI (fun _ => ht 2) cy 8 St_letters ++ (wAI (fun _ => ht 1) cy 900 St_tape))) [0, 2] [1] [1, 0, 2] rfl rfl rfl rfl rfl rfl (by decide) hl.1 (Nat.le_of_ble_eq_true rfl) dX10_step_154 (fun H locs hP hD hS => ?_)
    obtain ⟨q2, hc, hf⟩ := zbd hf
    refine z_cSiE (As := [.int q1]) (rest := []) C (c_X10_isDigit l D cy q1 q2 hc) gS_X10_X10_isDigit hd_X10_isDigit ⟨Nat.le_of_ble_eq_true rfl, Nat.le_of_ble_eq_true rfl⟩ ⟨Nat.le_refl _, Nat.le_refl _⟩ hP hD hS hl.1 (Nat.le_of_ble_eq_true rfl) dX10_step_157 (fun H locs hP hD hS => ?_)
    refine z_if_eq (tgt := 197) hx hb dX10_step_160 (by decide) hf (fun hf => ?_) (fun hf => ?_)
    · refine lv_aload_n hx hb dX10_step_197 rfl (lv_at hl 0 rfl) ?_
      refine lv_iload_n hx hb dX10_step_198 rfl (lv_at hl 1 rfl) ?_
      refine z_put (w2 := vMo ht cy (Mo_thrown St) (Mo_taped St) (Mo_size St) (Mo_at St) v1 (Mo_token St) (Mo_whole St) (Mo_nameSize St) (Mo_fault St) (Mo_place St) (Mo_trouble St) (Mo_failed St) (Mo_hasStore St) (Mo_undos St) (Mo_images St) (Mo_ring St) (Mo_refused St) (Mo_setMany St) (Mo_someOf St) (Mo_allOf St) (Mo_firstRest St) (Mo_allWeight St) (Mo_seenWeight St) (Mo_sumWeight St) ++ (wAI (fun _ => ht 2) cy 8 St_letters ++ (wAI (fun _ => ht 1) cy 900 St_tape))) hx hb hts in_X10 tyX10 tyX10_ok nmX10 hown hK hP hD hS 0 rfl rfl 5 (by decide) (hts _ q6_50) (fun _ h9 => h9) rfl rfl rfl (Nat.le_of_ble_eq_true rfl) dX10_step_199 rfl (fun H locs hP hD hS => ?_)
      refine lv_aload_n hx hb dX10_step_202 rfl (lv_at hl 0 rfl) ?_
      refine lv_iload_n hx hb dX10_step_203 rfl (lv_at hl 2 rfl) ?_
      refine lv_iconst (v := (3 : Int32)) hx hb dX10_step_204 (by decide) ?_
      refine z_icmp_le (tgt := 212) hx hb dX10_step_205 (by decide) hf (fun hf => ?_) (fun hf => ?_)
      · refine lv_iconst (v := (3 : Int32)) hx hb dX10_step_212 (by decide) ?_
        refine z_put (w2 := vMo ht cy (Mo_thrown St) (Mo_taped St) (Mo_size St) (Mo_at St) v1 (3 : Int32) (Mo_whole St) (Mo_nameSize St) (Mo_fault St) (Mo_place St) (Mo_trouble St) (Mo_failed St) (Mo_hasStore St) (Mo_undos St) (Mo_images St) (Mo_ring St) (Mo_refused St) (Mo_setMany St) (Mo_someOf St) (Mo_allOf St) (Mo_firstRest St) (Mo_allWeight St) (Mo_seenWeight St) (Mo_sumWeight St) ++ (wAI (fun _ => ht 2) cy 8 St_letters ++ (wAI (fun _ => ht 1) cy 900 St_tape))) hx hb hts in_X10 tyX10 tyX10_ok nmX10 hown hK hP hD hS 0 rfl rfl 6 (by decide) (hts _ q6_51) (fun _ h9 => h9) rfl rfl rfl (Nat.le_of_ble_eq_true rfl) dX10_step_213 rfl (fun H locs hP hD hS => ?_)
        refine lv_goto (tgt := 241) hx hb dX10_step_216 (by decide) ?_
        obtain rfl := Option.some.inj hf
        rw [← wMo_mk ht] at hP hD
        exact z_vret C hP hD hS dX10_step_241
      · refine lv_iconst (v := (1 : Int32)) hx hb dX10_step_208 (by decide) ?_
        refine lv_goto (tgt := 213) hx hb dX10_step_209 (by decide) ?_
        refine z_put (w2 := vMo ht cy (Mo_thrown St) (Mo_taped St) (Mo_size St) (Mo_at St) v1 (1 : Int32) (Mo_whole St) (Mo_nameSize St) (Mo_fault St) (Mo_place St) (Mo_trouble St) (Mo_failed St) (Mo_hasStore St) (Mo_undos St) (Mo_images St) (Mo_ring St) (Mo_refused St) (Mo_setMany St) (Mo_someOf St) (Mo_allOf St) (Mo_firstRest St) (Mo_allWeight St) (Mo_seenWeight St) (Mo_sumWeight St) ++ (wAI (fun _ => ht 2) cy 8 St_letters ++ (wAI (fun _ => ht 1) cy 900 St_tape))) hx hb hts in_X10 tyX10 tyX10_ok nmX10 hown hK hP hD hS 0 rfl rfl 6 (by decide) (hts _ q6_51) (fun _ h9 => h9) rfl rfl rfl (Nat.le_of_ble_eq_true rfl) dX10_step_213 rfl (fun H locs hP hD hS => ?_)
        refine lv_goto (tgt := 241) hx hb dX10_step_216 (by decide) ?_
        obtain rfl := Option.some.inj hf
        rw [← wMo_mk ht] at hP hD
        exact z_vret C hP hD hS dX10_step_241
    · refine lv_iload_n hx hb dX10_step_163 rfl (lv_at hl 2 rfl) ?_
      refine lv_iconst (v := (3 : Int32)) hx hb dX10_step_164 (by decide) ?_
      refine z_icmp_ge (tgt := 188) hx hb dX10_step_165 (by decide) hf (fun hf => ?_) (fun hf => ?_)
      · refine lv_iinc (v := (v3 + (1 : Int32))) (lv' := [(3, .int (v3 + (1 : Int32))), (0, .ref (ht 0)), (1, .int v1)]) hx hb dX10_step_188 hl (k := 2) rfl rfl (by decide) rfl (fun ls hl => ?_)
        refine lv_iinc (v := (v1 + (1 : Int32))) (lv' := [(1, .int (v1 + (1 : Int32))), (3, .int (v3 + (1 : Int32))), (0, .ref (ht 0))]) hx hb dX10_step_191 hl (k := 2) rfl rfl (by decide) rfl (fun ls hl => ?_)
        refine lv_goto (tgt := 152) hx hb dX10_step_194 (by decide) ?_
        exact K152 St St_letters (v1 + (1 : Int32)) (v3 + (1 : Int32)) H locs ls hf hP hD hS (lv_sub hl [2, 0, 1] rfl)
      · refine lv_aload_n hx hb dX10_step_168 rfl (lv_at hl 0 rfl) ?_
        refine lv_bipush (v := (10 : Int32)) hx hb dX10_step_169 (by decide) ?_
        refine lv_aload_n hx hb dX10_step_171 rfl (lv_at hl 0 rfl) ?_
        refine va_get (D := D) (ci := 6) (v := .int (Mo_whole St)) (C := RX10) (T := TX10) (N := 41) hx hb hts in_X10 hown hK hP 0 rfl rfl 7 (by decide) (hts _ q6_52) (fun _ h9 => h9) rfl dX10_step_172 ?_
        refine lv_imul hx hb dX10_step_175 ?_
        refine lv_aload_n hx hb dX10_step_176 rfl (lv_at hl 0 rfl) ?_
        refine lv_iload_n hx hb dX10_step_177 rfl (lv_at hl 1 rfl) ?_
        obtain ⟨q3, hc, hf⟩ := zbd hf
        refine z_cVi (As := [.int v1]) (rest := [.int ((10 : Int32) * (Mo_whole St)), .ref (ht 0)]) C (c_X10_see l D cy ht St St_tape v1 q3 hc) gV_X10_X10_see hd_X10_see ⟨Nat.le_of_ble_eq_true rfl, Nat.le_of_ble_eq_true rfl⟩ ⟨Nat.le_refl _, Nat.le_refl _⟩ (va_recv hK hP (ci := 6) (q0 := 0) rfl rfl) hP hD hS (w2 := wMo ht cy St ++ (wAI (fun _ => ht 2) cy 8 St_letters ++ (wAI (fun _ => ht 1) cy 900 St_tape))) [0, 2] [1] [1, 0, 2] rfl rfl rfl rfl rfl rfl (by decide) hl.1 (Nat.le_of_ble_eq_true rfl) dX10_step_178 (fun H locs hP hD hS => ?_)
        refine lv_iadd hx hb dX10_step_181 ?_
        refine lv_bipush (v := (48 : Int32)) hx hb dX10_step_182 (by decide) ?_
        refine lv_isub hx hb dX10_step_184 ?_
        refine z_put (w2 := vMo ht cy (Mo_thrown St) (Mo_taped St) (Mo_size St) (Mo_at St) (Mo_end St) (Mo_token St) ((((10 : Int32) * (Mo_whole St)) + q3) - (48 : Int32)) (Mo_nameSize St) (Mo_fault St) (Mo_place St) (Mo_trouble St) (Mo_failed St) (Mo_hasStore St) (Mo_undos St) (Mo_images St) (Mo_ring St) (Mo_refused St) (Mo_setMany St) (Mo_someOf St) (Mo_allOf St) (Mo_firstRest St) (Mo_allWeight St) (Mo_seenWeight St) (Mo_sumWeight St) ++ (wAI (fun _ => ht 2) cy 8 St_letters ++ (wAI (fun _ => ht 1) cy 900 St_tape))) hx hb hts in_X10 tyX10 tyX10_ok nmX10 hown hK hP hD hS 0 rfl rfl 7 (by decide) (hts _ q6_52) (fun _ h9 => h9) rfl rfl rfl (Nat.le_of_ble_eq_true rfl) dX10_step_185 rfl (fun H locs hP hD hS => ?_)
        refine lv_iinc (v := (v3 + (1 : Int32))) (lv' := [(3, .int (v3 + (1 : Int32))), (0, .ref (ht 0)), (1, .int v1)]) hx hb dX10_step_188 hl (k := 2) rfl rfl (by decide) rfl (fun ls hl => ?_)
        refine lv_iinc (v := (v1 + (1 : Int32))) (lv' := [(1, .int (v1 + (1 : Int32))), (3, .int (v3 + (1 : Int32))), (0, .ref (ht 0))]) hx hb dX10_step_191 hl (k := 2) rfl rfl (by decide) rfl (fun ls hl => ?_)
        refine lv_goto (tgt := 152) hx hb dX10_step_194 (by decide) ?_
        rw [← wMo_mk ht] at hP hD
        exact K152 (mkMo (Mo_thrown St) (Mo_taped St) (Mo_size St) (Mo_at St) (Mo_end St) (Mo_token St) ((((10 : Int32) * (Mo_whole St)) + q3) - (48 : Int32)) (Mo_nameSize St) (Mo_fault St) (Mo_place St) (Mo_trouble St) (Mo_failed St) (Mo_hasStore St) (Mo_undos St) (Mo_images St) (Mo_ring St) (Mo_refused St) (Mo_setMany St) (Mo_someOf St) (Mo_allOf St) (Mo_firstRest St) (Mo_allWeight St) (Mo_seenWeight St) (Mo_sumWeight St)) St_letters (v1 + (1 : Int32)) (v3 + (1 : Int32)) H locs ls hf hP hD hS (lv_sub hl [2, 0, 1] rfl)
def b_X10_step_67 (St_tape : Nat → Int32) (k67 : SMo → (Nat → Int32) → Int32 → Option (SMo × (Nat → Int32))) (St : SMo) (St_letters : Nat → Int32) (v1 : Int32) : Option (SMo × (Nat → Int32)) :=
  (f_X10_see St St_tape v1).bind (fun q4 =>
    (f_X10_isSmall q4).bind (fun q5 =>
      (if q5 = 0 then
        (if (Mo_nameSize St) ≤ (8 : Int32) then
          some ((mkMo (Mo_thrown St) (Mo_taped St) (Mo_size St) (Mo_at St) v1 (2 : Int32) (Mo_whole St) (Mo_nameSize St) (Mo_fault St) (Mo_place St) (Mo_trouble St) (Mo_failed St) (Mo_hasStore St) (Mo_undos St) (Mo_images St) (Mo_ring St) (Mo_refused St) (Mo_setMany St) (Mo_someOf St) (Mo_allOf St) (Mo_firstRest St) (Mo_allWeight St) (Mo_seenWeight St) (Mo_sumWeight St)), St_letters)
          else
          some ((mkMo (Mo_thrown St) (Mo_taped St) (Mo_size St) (Mo_at St) v1 (1 : Int32) (Mo_whole St) (Mo_nameSize St) (Mo_fault St) (Mo_place St) (Mo_trouble St) (Mo_failed St) (Mo_hasStore St) (Mo_undos St) (Mo_images St) (Mo_ring St) (Mo_refused St) (Mo_setMany St) (Mo_someOf St) (Mo_allOf St) (Mo_firstRest St) (Mo_allWeight St) (Mo_seenWeight St) (Mo_sumWeight St)), St_letters))
        else
        (if (8 : Int32) ≤ (Mo_nameSize St) then
          (k67 (mkMo (Mo_thrown St) (Mo_taped St) (Mo_size St) (Mo_at St) (Mo_end St) (Mo_token St) (Mo_whole St) ((Mo_nameSize St) + (1 : Int32)) (Mo_fault St) (Mo_place St) (Mo_trouble St) (Mo_failed St) (Mo_hasStore St) (Mo_undos St) (Mo_images St) (Mo_ring St) (Mo_refused St) (Mo_setMany St) (Mo_someOf St) (Mo_allOf St) (Mo_firstRest St) (Mo_allWeight St) (Mo_seenWeight St) (Mo_sumWeight St)) St_letters (v1 + (1 : Int32)))
          else
          (f_X10_see St St_tape v1).bind (fun q6 =>
            (if zib (Mo_nameSize St) 8 then (k67 (mkMo (Mo_thrown St) (Mo_taped St) (Mo_size St) (Mo_at St) (Mo_end St) (Mo_token St) (Mo_whole St) ((Mo_nameSize St) + (1 : Int32)) (Mo_fault St) (Mo_place St) (Mo_trouble St) (Mo_failed St) (Mo_hasStore St) (Mo_undos St) (Mo_images St) (Mo_ring St) (Mo_refused St) (Mo_setMany St) (Mo_someOf St) (Mo_allOf St) (Mo_firstRest St) (Mo_allWeight St) (Mo_seenWeight St) (Mo_sumWeight St)) (upd St_letters (Mo_nameSize St).toNatClampNeg q6) (v1 + (1 : Int32))) else none))))))
set_option maxHeartbeats 4000000 in
set_option maxRecDepth 100000 in
theorem w_X10_step_67 {p : Program} {e : Env} {s : State} {m : MethodId} {below : List Frame} {meth : Method} {c : Code} {A : Nat → Prop} {D : va_G} {cy : Nat → ClassId} {args : Array Value} {r : SMo × (Nat → Int32)} (l : Launch) (ht : Nat → Nat) (St_tape : Nat → Int32) (C : zX p s m meth c cX10_step 4 args RX10 none A D (zty cy)) :
    ∀ (n : Nat) (St : SMo) (St_letters : Nat → Int32) (v1 : Int32) (H : Heap) (locs : List Loc) (ls : Array Slot), zl3 (b_X10_step_67 St_tape) n St St_letters v1 = some r → va_P D vwCl (wMo ht cy St ++ (wAI (fun _ => ht 2) cy 8 St_letters ++ (wAI (fun _ => ht 1) cy 900 St_tape))) H → va_D A (wMo ht cy St ++ (wAI (fun _ => ht 2) cy 8 St_letters ++ (wAI (fun _ => ht 1) cy 900 St_tape))) → va_S A s.heap H locs → lv_has ls 4 [(0, .ref (ht 0)), (1, .int v1)] → W p l e (zRm 1 21) s m args below meth c H locs 0 0 (MQ below (zQV D (zty cy) A (wMo ht cy r.1 ++ (wAI (fun _ => ht 2) cy 8 r.2 ++ (wAI (fun _ => ht 1) cy 900 St_tape)))) args s 0 0 A) (F0 m 67 ls []) := by
  obtain ⟨hx, hb, hr, hts, hown, hlocks, hml, hA, hK⟩ := id C
  intro n
  induction n with
  | zero => intro St St_letters v1 H locs ls hf; exact zno hf
  | succ n ih =>
    intro St St_letters v1 H locs ls hf hP hD hS hl
    have hf : b_X10_step_67 St_tape (zl3 (b_X10_step_67 St_tape) n) St St_letters v1 = some r := hf
    have K67 := ih
    refine lv_aload_n hx hb dX10_step_67 rfl (lv_at hl 0 rfl) ?_
    refine lv_iload_n hx hb dX10_step_68 rfl (lv_at hl 1 rfl) ?_
    obtain ⟨q4, hc, hf⟩ := zbd hf
    refine z_cVi (As := [.int v1]) (rest := []) C (c_X10_see l D cy ht St St_tape v1 q4 hc) gV_X10_X10_see hd_X10_see ⟨Nat.le_of_ble_eq_true rfl, Nat.le_of_ble_eq_true rfl⟩ ⟨Nat.le_refl _, Nat.le_refl _⟩ (va_recv hK hP (ci := 6) (q0 := 0) rfl rfl) hP hD hS (w2 := wMo ht cy St ++ (wAI (fun _ => ht 2) cy 8 St_letters ++ (wAI (fun _ => ht 1) cy 900 St_tape))) [0, 2] [1] [1, 0, 2] rfl rfl rfl rfl rfl rfl (by decide) hl.1 (Nat.le_of_ble_eq_true rfl) dX10_step_69 (fun H locs hP hD hS => ?_)
    obtain ⟨q5, hc, hf⟩ := zbd hf
    refine z_cSiE (As := [.int q4]) (rest := []) C (c_X10_isSmall l D cy q4 q5 hc) gS_X10_X10_isSmall hd_X10_isSmall ⟨Nat.le_of_ble_eq_true rfl, Nat.le_of_ble_eq_true rfl⟩ ⟨Nat.le_refl _, Nat.le_refl _⟩ hP hD hS hl.1 (Nat.le_of_ble_eq_true rfl) dX10_step_72 (fun H locs hP hD hS => ?_)
    refine z_if_eq (tgt := 117) hx hb dX10_step_75 (by decide) hf (fun hf => ?_) (fun hf => ?_)
    · refine lv_aload_n hx hb dX10_step_117 rfl (lv_at hl 0 rfl) ?_
      refine lv_iload_n hx hb dX10_step_118 rfl (lv_at hl 1 rfl) ?_
      refine z_put (w2 := vMo ht cy (Mo_thrown St) (Mo_taped St) (Mo_size St) (Mo_at St) v1 (Mo_token St) (Mo_whole St) (Mo_nameSize St) (Mo_fault St) (Mo_place St) (Mo_trouble St) (Mo_failed St) (Mo_hasStore St) (Mo_undos St) (Mo_images St) (Mo_ring St) (Mo_refused St) (Mo_setMany St) (Mo_someOf St) (Mo_allOf St) (Mo_firstRest St) (Mo_allWeight St) (Mo_seenWeight St) (Mo_sumWeight St) ++ (wAI (fun _ => ht 2) cy 8 St_letters ++ (wAI (fun _ => ht 1) cy 900 St_tape))) hx hb hts in_X10 tyX10 tyX10_ok nmX10 hown hK hP hD hS 0 rfl rfl 5 (by decide) (hts _ q6_50) (fun _ h9 => h9) rfl rfl rfl (Nat.le_of_ble_eq_true rfl) dX10_step_119 rfl (fun H locs hP hD hS => ?_)
      refine lv_aload_n hx hb dX10_step_122 rfl (lv_at hl 0 rfl) ?_
      refine lv_aload_n hx hb dX10_step_123 rfl (lv_at hl 0 rfl) ?_
      refine va_get (D := D) (ci := 6) (v := .int (Mo_nameSize St)) (C := RX10) (T := TX10) (N := 41) hx hb hts in_X10 hown hK hP 0 rfl rfl 8 (by decide) (hts _ q6_53) (fun _ h9 => h9) rfl dX10_step_124 ?_
      refine lv_bipush (v := (8 : Int32)) hx hb dX10_step_127 (by decide) ?_
      refine z_icmp_le (tgt := 136) hx hb dX10_step_129 (by decide) hf (fun hf => ?_) (fun hf => ?_)
      · refine lv_iconst (v := (2 : Int32)) hx hb dX10_step_136 (by decide) ?_
        refine z_put (w2 := vMo ht cy (Mo_thrown St) (Mo_taped St) (Mo_size St) (Mo_at St) v1 (2 : Int32) (Mo_whole St) (Mo_nameSize St) (Mo_fault St) (Mo_place St) (Mo_trouble St) (Mo_failed St) (Mo_hasStore St) (Mo_undos St) (Mo_images St) (Mo_ring St) (Mo_refused St) (Mo_setMany St) (Mo_someOf St) (Mo_allOf St) (Mo_firstRest St) (Mo_allWeight St) (Mo_seenWeight St) (Mo_sumWeight St) ++ (wAI (fun _ => ht 2) cy 8 St_letters ++ (wAI (fun _ => ht 1) cy 900 St_tape))) hx hb hts in_X10 tyX10 tyX10_ok nmX10 hown hK hP hD hS 0 rfl rfl 6 (by decide) (hts _ q6_51) (fun _ h9 => h9) rfl rfl rfl (Nat.le_of_ble_eq_true rfl) dX10_step_137 rfl (fun H locs hP hD hS => ?_)
        refine lv_goto (tgt := 241) hx hb dX10_step_140 (by decide) ?_
        obtain rfl := Option.some.inj hf
        rw [← wMo_mk ht] at hP hD
        exact z_vret C hP hD hS dX10_step_241
      · refine lv_iconst (v := (1 : Int32)) hx hb dX10_step_132 (by decide) ?_
        refine lv_goto (tgt := 137) hx hb dX10_step_133 (by decide) ?_
        refine z_put (w2 := vMo ht cy (Mo_thrown St) (Mo_taped St) (Mo_size St) (Mo_at St) v1 (1 : Int32) (Mo_whole St) (Mo_nameSize St) (Mo_fault St) (Mo_place St) (Mo_trouble St) (Mo_failed St) (Mo_hasStore St) (Mo_undos St) (Mo_images St) (Mo_ring St) (Mo_refused St) (Mo_setMany St) (Mo_someOf St) (Mo_allOf St) (Mo_firstRest St) (Mo_allWeight St) (Mo_seenWeight St) (Mo_sumWeight St) ++ (wAI (fun _ => ht 2) cy 8 St_letters ++ (wAI (fun _ => ht 1) cy 900 St_tape))) hx hb hts in_X10 tyX10 tyX10_ok nmX10 hown hK hP hD hS 0 rfl rfl 6 (by decide) (hts _ q6_51) (fun _ h9 => h9) rfl rfl rfl (Nat.le_of_ble_eq_true rfl) dX10_step_137 rfl (fun H locs hP hD hS => ?_)
        refine lv_goto (tgt := 241) hx hb dX10_step_140 (by decide) ?_
        obtain rfl := Option.some.inj hf
        rw [← wMo_mk ht] at hP hD
        exact z_vret C hP hD hS dX10_step_241
    · refine lv_aload_n hx hb dX10_step_78 rfl (lv_at hl 0 rfl) ?_
      refine va_get (D := D) (ci := 6) (v := .int (Mo_nameSize St)) (C := RX10) (T := TX10) (N := 41) hx hb hts in_X10 hown hK hP 0 rfl rfl 8 (by decide) (hts _ q6_53) (fun _ h9 => h9) rfl dX10_step_79 ?_
      refine lv_bipush (v := (8 : Int32)) hx hb dX10_step_82 (by decide) ?_
      refine z_icmp_ge (tgt := 101) hx hb dX10_step_84 (by decide) hf (fun hf => ?_) (fun hf => ?_)
      · refine lv_aload_n hx hb dX10_step_101 rfl (lv_at hl 0 rfl) ?_
        refine lv_dup hx hb dX10_step_102 rfl ?_
        refine va_get (D := D) (ci := 6) (v := .int (Mo_nameSize St)) (C := RX10) (T := TX10) (N := 41) hx hb hts in_X10 hown hK hP 0 rfl rfl 8 (by decide) (hts _ q6_53) (fun _ h9 => h9) rfl dX10_step_103 ?_
        refine lv_iconst (v := (1 : Int32)) hx hb dX10_step_106 (by decide) ?_
        refine lv_iadd hx hb dX10_step_107 ?_
        refine z_put (w2 := vMo ht cy (Mo_thrown St) (Mo_taped St) (Mo_size St) (Mo_at St) (Mo_end St) (Mo_token St) (Mo_whole St) ((Mo_nameSize St) + (1 : Int32)) (Mo_fault St) (Mo_place St) (Mo_trouble St) (Mo_failed St) (Mo_hasStore St) (Mo_undos St) (Mo_images St) (Mo_ring St) (Mo_refused St) (Mo_setMany St) (Mo_someOf St) (Mo_allOf St) (Mo_firstRest St) (Mo_allWeight St) (Mo_seenWeight St) (Mo_sumWeight St) ++ (wAI (fun _ => ht 2) cy 8 St_letters ++ (wAI (fun _ => ht 1) cy 900 St_tape))) hx hb hts in_X10 tyX10 tyX10_ok nmX10 hown hK hP hD hS 0 rfl rfl 8 (by decide) (hts _ q6_53) (fun _ h9 => h9) rfl rfl rfl (Nat.le_of_ble_eq_true rfl) dX10_step_108 rfl (fun H locs hP hD hS => ?_)
        refine lv_iinc (v := (v1 + (1 : Int32))) (lv' := [(1, .int (v1 + (1 : Int32))), (0, .ref (ht 0))]) hx hb dX10_step_111 hl (k := 1) rfl rfl (by decide) rfl (fun ls hl => ?_)
        refine lv_goto (tgt := 67) hx hb dX10_step_114 (by decide) ?_
        rw [← wMo_mk ht] at hP hD
        exact K67 (mkMo (Mo_thrown St) (Mo_taped St) (Mo_size St) (Mo_at St) (Mo_end St) (Mo_token St) (Mo_whole St) ((Mo_nameSize St) + (1 : Int32)) (Mo_fault St) (Mo_place St) (Mo_trouble St) (Mo_failed St) (Mo_hasStore St) (Mo_undos St) (Mo_images St) (Mo_ring St) (Mo_refused St) (Mo_setMany St) (Mo_someOf St) (Mo_allOf St) (Mo_firstRest St) (Mo_allWeight St) (Mo_seenWeight St) (Mo_sumWeight St)) St_letters (v1 + (1 : Int32)) H locs ls hf hP hD hS (lv_sub hl [1, 0] rfl)
      · refine lv_aload_n hx hb dX10_step_87 rfl (lv_at hl 0 rfl) ?_
        refine va_get (D := D) (ci := 6) (v := .ref (ht 2)) (C := RX10) (T := TX10) (N := 41) hx hb hts in_X10 hown hK hP 0 rfl rfl 12 (by decide) (hts _ q6_57) (fun _ h9 => h9) rfl dX10_step_88 ?_
        refine lv_aload_n hx hb dX10_step_91 rfl (lv_at hl 0 rfl) ?_
        refine va_get (D := D) (ci := 6) (v := .int (Mo_nameSize St)) (C := RX10) (T := TX10) (N := 41) hx hb hts in_X10 hown hK hP 0 rfl rfl 8 (by decide) (hts _ q6_53) (fun _ h9 => h9) rfl dX10_step_92 ?_
        refine lv_aload_n hx hb dX10_step_95 rfl (lv_at hl 0 rfl) ?_
        refine lv_iload_n hx hb dX10_step_96 rfl (lv_at hl 1 rfl) ?_
        obtain ⟨q6, hc, hf⟩ := zbd hf
        refine z_cVi (As := [.int v1]) (rest := [.int (Mo_nameSize St), .ref (ht 2)]) C (c_X10_see l D cy ht St St_tape v1 q6 hc) gV_X10_X10_see hd_X10_see ⟨Nat.le_of_ble_eq_true rfl, Nat.le_of_ble_eq_true rfl⟩ ⟨Nat.le_refl _, Nat.le_refl _⟩ (va_recv hK hP (ci := 6) (q0 := 0) rfl rfl) hP hD hS (w2 := wMo ht cy St ++ (wAI (fun _ => ht 2) cy 8 St_letters ++ (wAI (fun _ => ht 1) cy 900 St_tape))) [0, 2] [1] [1, 0, 2] rfl rfl rfl rfl rfl rfl (by decide) hl.1 (Nat.le_of_ble_eq_true rfl) dX10_step_97 (fun H locs hP hD hS => ?_)
        refine z_iast (f := St_letters) (w2 := wMo ht cy St ++ (wAI (fun _ => ht 2) cy 8 (upd St_letters (Mo_nameSize St).toNatClampNeg q6) ++ (wAI (fun _ => ht 1) cy 900 St_tape))) hx hb hK hP hD hS 1 0 rfl rfl dX10_step_100 hf rfl (fun hf H locs hP hD hS => ?_)
        refine lv_aload_n hx hb dX10_step_101 rfl (lv_at hl 0 rfl) ?_
        refine lv_dup hx hb dX10_step_102 rfl ?_
        refine va_get (D := D) (ci := 6) (v := .int (Mo_nameSize St)) (C := RX10) (T := TX10) (N := 41) hx hb hts in_X10 hown hK hP 0 rfl rfl 8 (by decide) (hts _ q6_53) (fun _ h9 => h9) rfl dX10_step_103 ?_
        refine lv_iconst (v := (1 : Int32)) hx hb dX10_step_106 (by decide) ?_
        refine lv_iadd hx hb dX10_step_107 ?_
        refine z_put (w2 := vMo ht cy (Mo_thrown St) (Mo_taped St) (Mo_size St) (Mo_at St) (Mo_end St) (Mo_token St) (Mo_whole St) ((Mo_nameSize St) + (1 : Int32)) (Mo_fault St) (Mo_place St) (Mo_trouble St) (Mo_failed St) (Mo_hasStore St) (Mo_undos St) (Mo_images St) (Mo_ring St) (Mo_refused St) (Mo_setMany St) (Mo_someOf St) (Mo_allOf St) (Mo_firstRest St) (Mo_allWeight St) (Mo_seenWeight St) (Mo_sumWeight St) ++ (wAI (fun _ => ht 2) cy 8 (upd St_letters (Mo_nameSize St).toNatClampNeg q6) ++ (wAI (fun _ => ht 1) cy 900 St_tape))) hx hb hts in_X10 tyX10 tyX10_ok nmX10 hown hK hP hD hS 0 rfl rfl 8 (by decide) (hts _ q6_53) (fun _ h9 => h9) rfl rfl rfl (Nat.le_of_ble_eq_true rfl) dX10_step_108 rfl (fun H locs hP hD hS => ?_)
        refine lv_iinc (v := (v1 + (1 : Int32))) (lv' := [(1, .int (v1 + (1 : Int32))), (0, .ref (ht 0))]) hx hb dX10_step_111 hl (k := 1) rfl rfl (by decide) rfl (fun ls hl => ?_)
        refine lv_goto (tgt := 67) hx hb dX10_step_114 (by decide) ?_
        rw [← wMo_mk ht] at hP hD
        exact K67 (mkMo (Mo_thrown St) (Mo_taped St) (Mo_size St) (Mo_at St) (Mo_end St) (Mo_token St) (Mo_whole St) ((Mo_nameSize St) + (1 : Int32)) (Mo_fault St) (Mo_place St) (Mo_trouble St) (Mo_failed St) (Mo_hasStore St) (Mo_undos St) (Mo_images St) (Mo_ring St) (Mo_refused St) (Mo_setMany St) (Mo_someOf St) (Mo_allOf St) (Mo_firstRest St) (Mo_allWeight St) (Mo_seenWeight St) (Mo_sumWeight St)) (upd St_letters (Mo_nameSize St).toNatClampNeg q6) (v1 + (1 : Int32)) H locs ls hf hP hD hS (lv_sub hl [1, 0] rfl)
def b_X10_step_5 (St_tape : Nat → Int32) (k5 : SMo → (Nat → Int32) → Int32 → Option (SMo × (Nat → Int32))) (St : SMo) (St_letters : Nat → Int32) (v1 : Int32) : Option (SMo × (Nat → Int32)) :=
  (f_X10_see St St_tape v1).bind (fun q7 =>
    (if q7 = (32 : Int32) then
      (k5 St St_letters (v1 + (1 : Int32)))
      else
      (f_X10_see (mkMo (Mo_thrown St) (Mo_taped St) (Mo_size St) v1 (Mo_end St) (Mo_token St) (Mo_whole St) (Mo_nameSize St) (Mo_fault St) (Mo_place St) (Mo_trouble St) (Mo_failed St) (Mo_hasStore St) (Mo_undos St) (Mo_images St) (Mo_ring St) (Mo_refused St) (Mo_setMany St) (Mo_someOf St) (Mo_allOf St) (Mo_firstRest St) (Mo_allWeight St) (Mo_seenWeight St) (Mo_sumWeight St)) St_tape v1).bind (fun q8 =>
        (if q8 = (-1 : Int32) then
          some ((mkMo (Mo_thrown St) (Mo_taped St) (Mo_size St) v1 v1 (0 : Int32) (0 : Int32) (0 : Int32) (Mo_fault St) (Mo_place St) (Mo_trouble St) (Mo_failed St) (Mo_hasStore St) (Mo_undos St) (Mo_images St) (Mo_ring St) (Mo_refused St) (Mo_setMany St) (Mo_someOf St) (Mo_allOf St) (Mo_firstRest St) (Mo_allWeight St) (Mo_seenWeight St) (Mo_sumWeight St)), St_letters)
          else
          (f_X10_isSmall q8).bind (fun q9 =>
            (if q9 = 0 then
              (f_X10_isDigit q8).bind (fun q10 =>
                (if q10 = 0 then
                  (if q8 = (59 : Int32) then
                    some ((mkMo (Mo_thrown St) (Mo_taped St) (Mo_size St) v1 (v1 + (1 : Int32)) q8 (0 : Int32) (0 : Int32) (Mo_fault St) (Mo_place St) (Mo_trouble St) (Mo_failed St) (Mo_hasStore St) (Mo_undos St) (Mo_images St) (Mo_ring St) (Mo_refused St) (Mo_setMany St) (Mo_someOf St) (Mo_allOf St) (Mo_firstRest St) (Mo_allWeight St) (Mo_seenWeight St) (Mo_sumWeight St)), St_letters)
                    else
                    some ((mkMo (Mo_thrown St) (Mo_taped St) (Mo_size St) v1 (v1 + (1 : Int32)) (1 : Int32) (0 : Int32) (0 : Int32) (Mo_fault St) (Mo_place St) (Mo_trouble St) (Mo_failed St) (Mo_hasStore St) (Mo_undos St) (Mo_images St) (Mo_ring St) (Mo_refused St) (Mo_setMany St) (Mo_someOf St) (Mo_allOf St) (Mo_firstRest St) (Mo_allWeight St) (Mo_seenWeight St) (Mo_sumWeight St)), St_letters))
                  else
                  (zl4 (b_X10_step_152 St_tape) FU (mkMo (Mo_thrown St) (Mo_taped St) (Mo_size St) v1 (Mo_end St) (Mo_token St) (0 : Int32) (0 : Int32) (Mo_fault St) (Mo_place St) (Mo_trouble St) (Mo_failed St) (Mo_hasStore St) (Mo_undos St) (Mo_images St) (Mo_ring St) (Mo_refused St) (Mo_setMany St) (Mo_someOf St) (Mo_allOf St) (Mo_firstRest St) (Mo_allWeight St) (Mo_seenWeight St) (Mo_sumWeight St)) St_letters v1 (0 : Int32))))
              else
              (zl3 (b_X10_step_67 St_tape) FU (mkMo (Mo_thrown St) (Mo_taped St) (Mo_size St) v1 (Mo_end St) (Mo_token St) (0 : Int32) (0 : Int32) (Mo_fault St) (Mo_place St) (Mo_trouble St) (Mo_failed St) (Mo_hasStore St) (Mo_undos St) (Mo_images St) (Mo_ring St) (Mo_refused St) (Mo_setMany St) (Mo_someOf St) (Mo_allOf St) (Mo_firstRest St) (Mo_allWeight St) (Mo_seenWeight St) (Mo_sumWeight St)) St_letters v1)))))))
set_option maxHeartbeats 4000000 in
set_option maxRecDepth 100000 in
theorem w_X10_step_5 {p : Program} {e : Env} {s : State} {m : MethodId} {below : List Frame} {meth : Method} {c : Code} {A : Nat → Prop} {D : va_G} {cy : Nat → ClassId} {args : Array Value} {r : SMo × (Nat → Int32)} (l : Launch) (ht : Nat → Nat) (St_tape : Nat → Int32) (C : zX p s m meth c cX10_step 4 args RX10 none A D (zty cy)) :
    ∀ (n : Nat) (St : SMo) (St_letters : Nat → Int32) (v1 : Int32) (H : Heap) (locs : List Loc) (ls : Array Slot), zl3 (b_X10_step_5 St_tape) n St St_letters v1 = some r → va_P D vwCl (wMo ht cy St ++ (wAI (fun _ => ht 2) cy 8 St_letters ++ (wAI (fun _ => ht 1) cy 900 St_tape))) H → va_D A (wMo ht cy St ++ (wAI (fun _ => ht 2) cy 8 St_letters ++ (wAI (fun _ => ht 1) cy 900 St_tape))) → va_S A s.heap H locs → lv_has ls 4 [(0, .ref (ht 0)), (1, .int v1)] → W p l e (zRm 1 21) s m args below meth c H locs 0 0 (MQ below (zQV D (zty cy) A (wMo ht cy r.1 ++ (wAI (fun _ => ht 2) cy 8 r.2 ++ (wAI (fun _ => ht 1) cy 900 St_tape)))) args s 0 0 A) (F0 m 5 ls []) := by
  obtain ⟨hx, hb, hr, hts, hown, hlocks, hml, hA, hK⟩ := id C
  intro n
  induction n with
  | zero => intro St St_letters v1 H locs ls hf; exact zno hf
  | succ n ih =>
    intro St St_letters v1 H locs ls hf hP hD hS hl
    have hf : b_X10_step_5 St_tape (zl3 (b_X10_step_5 St_tape) n) St St_letters v1 = some r := hf
    have K5 := ih
    refine lv_aload_n hx hb dX10_step_5 rfl (lv_at hl 0 rfl) ?_
    refine lv_iload_n hx hb dX10_step_6 rfl (lv_at hl 1 rfl) ?_
    obtain ⟨q7, hc, hf⟩ := zbd hf
    refine z_cVi (As := [.int v1]) (rest := []) C (c_X10_see l D cy ht St St_tape v1 q7 hc) gV_X10_X10_see hd_X10_see ⟨Nat.le_of_ble_eq_true rfl, Nat.le_of_ble_eq_true rfl⟩ ⟨Nat.le_refl _, Nat.le_refl _⟩ (va_recv hK hP (ci := 6) (q0 := 0) rfl rfl) hP hD hS (w2 := wMo ht cy St ++ (wAI (fun _ => ht 2) cy 8 St_letters ++ (wAI (fun _ => ht 1) cy 900 St_tape))) [0, 2] [1] [1, 0, 2] rfl rfl rfl rfl rfl rfl (by decide) hl.1 (Nat.le_of_ble_eq_true rfl) dX10_step_7 (fun H locs hP hD hS => ?_)
    refine lv_bipush (v := (32 : Int32)) hx hb dX10_step_10 (by decide) ?_
    refine z_icmp_ne (tgt := 21) hx hb dX10_step_12 (by decide) hf (fun hf => ?_) (fun hf => ?_)
    · refine lv_aload_n hx hb dX10_step_21 rfl (lv_at hl 0 rfl) ?_
      refine lv_iload_n hx hb dX10_step_22 rfl (lv_at hl 1 rfl) ?_
      refine z_put (w2 := vMo ht cy (Mo_thrown St) (Mo_taped St) (Mo_size St) v1 (Mo_end St) (Mo_token St) (Mo_whole St) (Mo_nameSize St) (Mo_fault St) (Mo_place St) (Mo_trouble St) (Mo_failed St) (Mo_hasStore St) (Mo_undos St) (Mo_images St) (Mo_ring St) (Mo_refused St) (Mo_setMany St) (Mo_someOf St) (Mo_allOf St) (Mo_firstRest St) (Mo_allWeight St) (Mo_seenWeight St) (Mo_sumWeight St) ++ (wAI (fun _ => ht 2) cy 8 St_letters ++ (wAI (fun _ => ht 1) cy 900 St_tape))) hx hb hts in_X10 tyX10 tyX10_ok nmX10 hown hK hP hD hS 0 rfl rfl 4 (by decide) (hts _ q6_49) (fun _ h9 => h9) rfl rfl rfl (Nat.le_of_ble_eq_true rfl) dX10_step_23 rfl (fun H locs hP hD hS => ?_)
      refine lv_aload_n hx hb dX10_step_26 rfl (lv_at hl 0 rfl) ?_
      refine lv_iload_n hx hb dX10_step_27 rfl (lv_at hl 1 rfl) ?_
      obtain ⟨q8, hc, hf⟩ := zbd hf
      rw [← wMo_mk ht] at hP hD
      refine z_cVi (As := [.int v1]) (rest := []) C (c_X10_see l D cy ht (mkMo (Mo_thrown St) (Mo_taped St) (Mo_size St) v1 (Mo_end St) (Mo_token St) (Mo_whole St) (Mo_nameSize St) (Mo_fault St) (Mo_place St) (Mo_trouble St) (Mo_failed St) (Mo_hasStore St) (Mo_undos St) (Mo_images St) (Mo_ring St) (Mo_refused St) (Mo_setMany St) (Mo_someOf St) (Mo_allOf St) (Mo_firstRest St) (Mo_allWeight St) (Mo_seenWeight St) (Mo_sumWeight St)) St_tape v1 q8 hc) gV_X10_X10_see hd_X10_see ⟨Nat.le_of_ble_eq_true rfl, Nat.le_of_ble_eq_true rfl⟩ ⟨Nat.le_refl _, Nat.le_refl _⟩ (va_recv hK hP (ci := 6) (q0 := 0) rfl rfl) hP hD hS (w2 := wMo ht cy (mkMo (Mo_thrown St) (Mo_taped St) (Mo_size St) v1 (Mo_end St) (Mo_token St) (Mo_whole St) (Mo_nameSize St) (Mo_fault St) (Mo_place St) (Mo_trouble St) (Mo_failed St) (Mo_hasStore St) (Mo_undos St) (Mo_images St) (Mo_ring St) (Mo_refused St) (Mo_setMany St) (Mo_someOf St) (Mo_allOf St) (Mo_firstRest St) (Mo_allWeight St) (Mo_seenWeight St) (Mo_sumWeight St)) ++ (wAI (fun _ => ht 2) cy 8 St_letters ++ (wAI (fun _ => ht 1) cy 900 St_tape))) [0, 2] [1] [1, 0, 2] rfl rfl rfl rfl rfl rfl (by decide) hl.1 (Nat.le_of_ble_eq_true rfl) dX10_step_28 (fun H locs hP hD hS => ?_)
      rw [wMo_mk ht] at hP hD
      refine lv_istore_n (lv' := [(2, .int q8), (0, .ref (ht 0)), (1, .int v1)]) hx hb dX10_step_31 rfl hl (by decide) rfl (fun ls hl => ?_)
      refine lv_aload_n hx hb dX10_step_32 rfl (lv_at hl 1 rfl) ?_
      refine lv_iconst (v := (0 : Int32)) hx hb dX10_step_33 (by decide) ?_
      refine z_put (w2 := vMo ht cy (Mo_thrown St) (Mo_taped St) (Mo_size St) v1 (Mo_end St) (Mo_token St) (Mo_whole St) (0 : Int32) (Mo_fault St) (Mo_place St) (Mo_trouble St) (Mo_failed St) (Mo_hasStore St) (Mo_undos St) (Mo_images St) (Mo_ring St) (Mo_refused St) (Mo_setMany St) (Mo_someOf St) (Mo_allOf St) (Mo_firstRest St) (Mo_allWeight St) (Mo_seenWeight St) (Mo_sumWeight St) ++ (wAI (fun _ => ht 2) cy 8 St_letters ++ (wAI (fun _ => ht 1) cy 900 St_tape))) hx hb hts in_X10 tyX10 tyX10_ok nmX10 hown hK hP hD hS 0 rfl rfl 8 (by decide) (hts _ q6_53) (fun _ h9 => h9) rfl rfl rfl (Nat.le_of_ble_eq_true rfl) dX10_step_34 rfl (fun H locs hP hD hS => ?_)
      refine lv_aload_n hx hb dX10_step_37 rfl (lv_at hl 1 rfl) ?_
      refine lv_iconst (v := (0 : Int32)) hx hb dX10_step_38 (by decide) ?_
      refine z_put (w2 := vMo ht cy (Mo_thrown St) (Mo_taped St) (Mo_size St) v1 (Mo_end St) (Mo_token St) (0 : Int32) (0 : Int32) (Mo_fault St) (Mo_place St) (Mo_trouble St) (Mo_failed St) (Mo_hasStore St) (Mo_undos St) (Mo_images St) (Mo_ring St) (Mo_refused St) (Mo_setMany St) (Mo_someOf St) (Mo_allOf St) (Mo_firstRest St) (Mo_allWeight St) (Mo_seenWeight St) (Mo_sumWeight St) ++ (wAI (fun _ => ht 2) cy 8 St_letters ++ (wAI (fun _ => ht 1) cy 900 St_tape))) hx hb hts in_X10 tyX10 tyX10_ok nmX10 hown hK hP hD hS 0 rfl rfl 7 (by decide) (hts _ q6_52) (fun _ h9 => h9) rfl rfl rfl (Nat.le_of_ble_eq_true rfl) dX10_step_39 rfl (fun H locs hP hD hS => ?_)
      refine lv_iload_n hx hb dX10_step_42 rfl (lv_at hl 0 rfl) ?_
      refine lv_iconst (v := (-1 : Int32)) hx hb dX10_step_43 (by decide) ?_
      refine z_icmp_ne (tgt := 60) hx hb dX10_step_44 (by decide) hf (fun hf => ?_) (fun hf => ?_)
      · refine lv_iload_n hx hb dX10_step_60 rfl (lv_at hl 0 rfl) ?_
        obtain ⟨q9, hc, hf⟩ := zbd hf
        refine z_cSiE (As := [.int q8]) (rest := []) C (c_X10_isSmall l D cy q8 q9 hc) gS_X10_X10_isSmall hd_X10_isSmall ⟨Nat.le_of_ble_eq_true rfl, Nat.le_of_ble_eq_true rfl⟩ ⟨Nat.le_refl _, Nat.le_refl _⟩ hP hD hS hl.1 (Nat.le_of_ble_eq_true rfl) dX10_step_61 (fun H locs hP hD hS => ?_)
        refine z_if_eq (tgt := 143) hx hb dX10_step_64 (by decide) hf (fun hf => ?_) (fun hf => ?_)
        · refine lv_iload_n hx hb dX10_step_143 rfl (lv_at hl 0 rfl) ?_
          obtain ⟨q10, hc, hf⟩ := zbd hf
          refine z_cSiE (As := [.int q8]) (rest := []) C (c_X10_isDigit l D cy q8 q10 hc) gS_X10_X10_isDigit hd_X10_isDigit ⟨Nat.le_of_ble_eq_true rfl, Nat.le_of_ble_eq_true rfl⟩ ⟨Nat.le_refl _, Nat.le_refl _⟩ hP hD hS hl.1 (Nat.le_of_ble_eq_true rfl) dX10_step_144 (fun H locs hP hD hS => ?_)
          refine z_if_eq (tgt := 219) hx hb dX10_step_147 (by decide) hf (fun hf => ?_) (fun hf => ?_)
          · refine lv_aload_n hx hb dX10_step_219 rfl (lv_at hl 1 rfl) ?_
            refine lv_iload_n hx hb dX10_step_220 rfl (lv_at hl 2 rfl) ?_
            refine lv_iconst (v := (1 : Int32)) hx hb dX10_step_221 (by decide) ?_
            refine lv_iadd hx hb dX10_step_222 ?_
            refine z_put (w2 := vMo ht cy (Mo_thrown St) (Mo_taped St) (Mo_size St) v1 (v1 + (1 : Int32)) (Mo_token St) (0 : Int32) (0 : Int32) (Mo_fault St) (Mo_place St) (Mo_trouble St) (Mo_failed St) (Mo_hasStore St) (Mo_undos St) (Mo_images St) (Mo_ring St) (Mo_refused St) (Mo_setMany St) (Mo_someOf St) (Mo_allOf St) (Mo_firstRest St) (Mo_allWeight St) (Mo_seenWeight St) (Mo_sumWeight St) ++ (wAI (fun _ => ht 2) cy 8 St_letters ++ (wAI (fun _ => ht 1) cy 900 St_tape))) hx hb hts in_X10 tyX10 tyX10_ok nmX10 hown hK hP hD hS 0 rfl rfl 5 (by decide) (hts _ q6_50) (fun _ h9 => h9) rfl rfl rfl (Nat.le_of_ble_eq_true rfl) dX10_step_223 rfl (fun H locs hP hD hS => ?_)
            refine lv_aload_n hx hb dX10_step_226 rfl (lv_at hl 1 rfl) ?_
            refine lv_iload_n hx hb dX10_step_227 rfl (lv_at hl 0 rfl) ?_
            refine lv_bipush (v := (59 : Int32)) hx hb dX10_step_228 (by decide) ?_
            refine z_icmp_ne (tgt := 237) hx hb dX10_step_230 (by decide) hf (fun hf => ?_) (fun hf => ?_)
            · refine lv_iconst (v := (1 : Int32)) hx hb dX10_step_237 (by decide) ?_
              refine z_put (w2 := vMo ht cy (Mo_thrown St) (Mo_taped St) (Mo_size St) v1 (v1 + (1 : Int32)) (1 : Int32) (0 : Int32) (0 : Int32) (Mo_fault St) (Mo_place St) (Mo_trouble St) (Mo_failed St) (Mo_hasStore St) (Mo_undos St) (Mo_images St) (Mo_ring St) (Mo_refused St) (Mo_setMany St) (Mo_someOf St) (Mo_allOf St) (Mo_firstRest St) (Mo_allWeight St) (Mo_seenWeight St) (Mo_sumWeight St) ++ (wAI (fun _ => ht 2) cy 8 St_letters ++ (wAI (fun _ => ht 1) cy 900 St_tape))) hx hb hts in_X10 tyX10 tyX10_ok nmX10 hown hK hP hD hS 0 rfl rfl 6 (by decide) (hts _ q6_51) (fun _ h9 => h9) rfl rfl rfl (Nat.le_of_ble_eq_true rfl) dX10_step_238 rfl (fun H locs hP hD hS => ?_)
              obtain rfl := Option.some.inj hf
              rw [← wMo_mk ht] at hP hD
              exact z_vret C hP hD hS dX10_step_241
            · refine lv_iload_n hx hb dX10_step_233 rfl (lv_at hl 0 rfl) ?_
              refine lv_goto (tgt := 238) hx hb dX10_step_234 (by decide) ?_
              refine z_put (w2 := vMo ht cy (Mo_thrown St) (Mo_taped St) (Mo_size St) v1 (v1 + (1 : Int32)) q8 (0 : Int32) (0 : Int32) (Mo_fault St) (Mo_place St) (Mo_trouble St) (Mo_failed St) (Mo_hasStore St) (Mo_undos St) (Mo_images St) (Mo_ring St) (Mo_refused St) (Mo_setMany St) (Mo_someOf St) (Mo_allOf St) (Mo_firstRest St) (Mo_allWeight St) (Mo_seenWeight St) (Mo_sumWeight St) ++ (wAI (fun _ => ht 2) cy 8 St_letters ++ (wAI (fun _ => ht 1) cy 900 St_tape))) hx hb hts in_X10 tyX10 tyX10_ok nmX10 hown hK hP hD hS 0 rfl rfl 6 (by decide) (hts _ q6_51) (fun _ h9 => h9) rfl rfl rfl (Nat.le_of_ble_eq_true rfl) dX10_step_238 rfl (fun H locs hP hD hS => ?_)
              obtain rfl := Option.some.inj hf
              rw [← wMo_mk ht] at hP hD
              exact z_vret C hP hD hS dX10_step_241
          · refine lv_iconst (v := (0 : Int32)) hx hb dX10_step_150 (by decide) ?_
            refine lv_istore_n (lv' := [(3, .int (0 : Int32)), (2, .int q8), (0, .ref (ht 0)), (1, .int v1)]) hx hb dX10_step_151 rfl hl (by decide) rfl (fun ls hl => ?_)
            rw [← wMo_mk ht] at hP hD
            exact w_X10_step_152 l ht St_tape C FU (mkMo (Mo_thrown St) (Mo_taped St) (Mo_size St) v1 (Mo_end St) (Mo_token St) (0 : Int32) (0 : Int32) (Mo_fault St) (Mo_place St) (Mo_trouble St) (Mo_failed St) (Mo_hasStore St) (Mo_undos St) (Mo_images St) (Mo_ring St) (Mo_refused St) (Mo_setMany St) (Mo_someOf St) (Mo_allOf St) (Mo_firstRest St) (Mo_allWeight St) (Mo_seenWeight St) (Mo_sumWeight St)) St_letters v1 (0 : Int32) H locs ls hf hP hD hS (lv_sub hl [2, 3, 0] rfl)
        · rw [← wMo_mk ht] at hP hD
          exact w_X10_step_67 l ht St_tape C FU (mkMo (Mo_thrown St) (Mo_taped St) (Mo_size St) v1 (Mo_end St) (Mo_token St) (0 : Int32) (0 : Int32) (Mo_fault St) (Mo_place St) (Mo_trouble St) (Mo_failed St) (Mo_hasStore St) (Mo_undos St) (Mo_images St) (Mo_ring St) (Mo_refused St) (Mo_setMany St) (Mo_someOf St) (Mo_allOf St) (Mo_firstRest St) (Mo_allWeight St) (Mo_seenWeight St) (Mo_sumWeight St)) St_letters v1 H locs ls hf hP hD hS (lv_sub hl [1, 2] rfl)
      · refine lv_aload_n hx hb dX10_step_47 rfl (lv_at hl 1 rfl) ?_
        refine lv_iconst (v := (0 : Int32)) hx hb dX10_step_48 (by decide) ?_
        refine z_put (w2 := vMo ht cy (Mo_thrown St) (Mo_taped St) (Mo_size St) v1 (Mo_end St) (0 : Int32) (0 : Int32) (0 : Int32) (Mo_fault St) (Mo_place St) (Mo_trouble St) (Mo_failed St) (Mo_hasStore St) (Mo_undos St) (Mo_images St) (Mo_ring St) (Mo_refused St) (Mo_setMany St) (Mo_someOf St) (Mo_allOf St) (Mo_firstRest St) (Mo_allWeight St) (Mo_seenWeight St) (Mo_sumWeight St) ++ (wAI (fun _ => ht 2) cy 8 St_letters ++ (wAI (fun _ => ht 1) cy 900 St_tape))) hx hb hts in_X10 tyX10 tyX10_ok nmX10 hown hK hP hD hS 0 rfl rfl 6 (by decide) (hts _ q6_51) (fun _ h9 => h9) rfl rfl rfl (Nat.le_of_ble_eq_true rfl) dX10_step_49 rfl (fun H locs hP hD hS => ?_)
        refine lv_aload_n hx hb dX10_step_52 rfl (lv_at hl 1 rfl) ?_
        refine lv_iload_n hx hb dX10_step_53 rfl (lv_at hl 2 rfl) ?_
        refine z_put (w2 := vMo ht cy (Mo_thrown St) (Mo_taped St) (Mo_size St) v1 v1 (0 : Int32) (0 : Int32) (0 : Int32) (Mo_fault St) (Mo_place St) (Mo_trouble St) (Mo_failed St) (Mo_hasStore St) (Mo_undos St) (Mo_images St) (Mo_ring St) (Mo_refused St) (Mo_setMany St) (Mo_someOf St) (Mo_allOf St) (Mo_firstRest St) (Mo_allWeight St) (Mo_seenWeight St) (Mo_sumWeight St) ++ (wAI (fun _ => ht 2) cy 8 St_letters ++ (wAI (fun _ => ht 1) cy 900 St_tape))) hx hb hts in_X10 tyX10 tyX10_ok nmX10 hown hK hP hD hS 0 rfl rfl 5 (by decide) (hts _ q6_50) (fun _ h9 => h9) rfl rfl rfl (Nat.le_of_ble_eq_true rfl) dX10_step_54 rfl (fun H locs hP hD hS => ?_)
        refine lv_goto (tgt := 241) hx hb dX10_step_57 (by decide) ?_
        obtain rfl := Option.some.inj hf
        rw [← wMo_mk ht] at hP hD
        exact z_vret C hP hD hS dX10_step_241
    · refine lv_iinc (v := (v1 + (1 : Int32))) (lv' := [(1, .int (v1 + (1 : Int32))), (0, .ref (ht 0))]) hx hb dX10_step_15 hl (k := 1) rfl rfl (by decide) rfl (fun ls hl => ?_)
      refine lv_goto (tgt := 5) hx hb dX10_step_18 (by decide) ?_
      exact K5 St St_letters (v1 + (1 : Int32)) H locs ls hf hP hD hS (lv_sub hl [1, 0] rfl)
def f_X10_step (St : SMo) (St_letters : Nat → Int32) (St_tape : Nat → Int32) : Option (SMo × (Nat → Int32)) :=
  (zl3 (b_X10_step_5 St_tape) FU St St_letters (Mo_end St))
set_option maxHeartbeats 4000000 in
set_option maxRecDepth 100000 in
theorem c_X10_step (l : Launch) (D : va_G) (cy : Nat → ClassId) (ht : Nat → Nat) (St : SMo) (St_letters : Nat → Int32) (St_tape : Nat → Int32) (r : SMo × (Nat → Int32)) (hf : f_X10_step St St_letters St_tape = some r) : zCV l yX10_step cX10_step 4 none 1 21 D (zty cy) [.ref (ht 0)] (wMo ht cy St ++ (wAI (fun _ => ht 2) cy 8 St_letters ++ (wAI (fun _ => ht 1) cy 900 St_tape))) (wMo ht cy r.1 ++ (wAI (fun _ => ht 2) cy 8 r.2 ++ (wAI (fun _ => ht 1) cy 900 St_tape))) := by
  refine zCV_of (by decide +kernel) (Nat.le_of_ble_eq_true rfl) ?_
  intro p e s m below meth c A ls C hP hD hS hl
  generalize hargs : ([.ref (ht 0)] : List Value).toArray = args at C ⊢
  have C : zX p s m meth c cX10_step 4 args RX10 none A D (zty cy) := C
  obtain ⟨hx, hb, hr, hts, hown, hlocks, hml, hA, hK⟩ := id C
  have hl : lv_has ls 4 [(0, .ref (ht 0))] := hl
  generalize hH : s.heap = H at hP ⊢
  have hS : va_S A s.heap H [] := by rw [← hH]; exact hS
  generalize ([] : List Loc) = locs at hS ⊢
  refine lv_aload_n hx hb dX10_step_0 rfl (lv_at hl 0 rfl) ?_
  refine va_get (D := D) (ci := 6) (v := .int (Mo_end St)) (C := RX10) (T := TX10) (N := 41) hx hb hts in_X10 hown hK hP 0 rfl rfl 5 (by decide) (hts _ q6_50) (fun _ h9 => h9) rfl dX10_step_1 ?_
  refine lv_istore_n (lv' := [(1, .int (Mo_end St)), (0, .ref (ht 0))]) hx hb dX10_step_4 rfl hl (by decide) rfl (fun ls hl => ?_)
  exact w_X10_step_5 l ht St_tape C FU St St_letters (Mo_end St) H locs ls hf hP hD hS (lv_sub hl [1, 0] rfl)
