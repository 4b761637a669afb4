theorem gS_X5_X6_bitOf : GoodIn WT (va_wsS RX5 107 yX6_bitOf (.code yX6_bitOf cX6_bitOf 1 (some FieldType.long) :: WT)) := gzS q3_169 q3_22 q1_3 q3_23
theorem hd_J6_bitCount_0f7a4 : yJ6_bitCount_0f7a4.cls ≠ "java/lang/invoke/MethodHandle" ∧ yJ6_bitCount_0f7a4.cls ≠ "java/lang/invoke/VarHandle" ∧ (parseMethodDescriptor yJ6_bitCount_0f7a4.desc).map (fun d => d.parameters.length) = some 1 := by decide +kernel
theorem gS_X9_J6_bitCount_0f7a4 : GoodIn WT (va_wsS RX9 357 yJ6_bitCount_0f7a4 (.code yJ6_bitCount_0f7a4 cJ6_bitCount_0f7a4 1 (some FieldType.int) :: WT)) := gzS q5_196 q5_197 q1_25 q5_198
theorem hd_X1_countingByDraws : yX1_countingByDraws.cls ≠ "java/lang/invoke/MethodHandle" ∧ yX1_countingByDraws.cls ≠ "java/lang/invoke/VarHandle" ∧ (parseMethodDescriptor yX1_countingByDraws.desc).map (fun d => d.parameters.length) = some 2 := by decide +kernel
theorem gS_X9_X1_countingByDraws : GoodIn WT (va_wsS RX9 297 yX1_countingByDraws (.code yX1_countingByDraws cX1_countingByDraws 6 (some FieldType.long) :: WT)) := gzS q5_121 q5_122 q1_20 q5_123
theorem hd_X1_inLowestTerms : yX1_inLowestTerms.cls ≠ "java/lang/invoke/MethodHandle" ∧ yX1_inLowestTerms.cls ≠ "java/lang/invoke/VarHandle" ∧ (parseMethodDescriptor yX1_inLowestTerms.desc).map (fun d => d.parameters.length) = some 3 := by decide +kernel
theorem gS_X9_X1_inLowestTerms : GoodIn WT (va_wsS RX9 289 yX1_inLowestTerms (.code yX1_inLowestTerms cX1_inLowestTerms 9 (some FieldType.long) :: WT)) := gzS q5_102 q5_103 q1_20 q5_104
theorem hd_X1_weightOfValue : yX1_weightOfValue.cls ≠ "java/lang/invoke/MethodHandle" ∧ yX1_weightOfValue.cls ≠ "java/lang/invoke/VarHandle" ∧ (parseMethodDescriptor yX1_weightOfValue.desc).map (fun d => d.parameters.length) = some 3 := by decide +kernel
theorem gS_X9_X1_weightOfValue : GoodIn WT (va_wsS RX9 279 yX1_weightOfValue (.code yX1_weightOfValue cX1_weightOfValue 9 (some FieldType.long) :: WT)) := gzS q5_80 q5_81 q1_20 q5_82
theorem hd_X1_weightedSum : yX1_weightedSum.cls ≠ "java/lang/invoke/MethodHandle" ∧ yX1_weightedSum.cls ≠ "java/lang/invoke/VarHandle" ∧ (parseMethodDescriptor yX1_weightedSum.desc).map (fun d => d.parameters.length) = some 1 := by decide +kernel
theorem gS_X9_X1_weightedSum : GoodIn WT (va_wsS RX9 293 yX1_weightedSum (.code yX1_weightedSum cX1_weightedSum 7 (some FieldType.long) :: WT)) := gzS q5_112 q5_113 q1_20 q5_114
theorem hd_X1_wholeWeight : yX1_wholeWeight.cls ≠ "java/lang/invoke/MethodHandle" ∧ yX1_wholeWeight.cls ≠ "java/lang/invoke/VarHandle" ∧ (parseMethodDescriptor yX1_wholeWeight.desc).map (fun d => d.parameters.length) = some 1 := by decide +kernel
theorem gS_X9_X1_wholeWeight : GoodIn WT (va_wsS RX9 285 yX1_wholeWeight (.code yX1_wholeWeight cX1_wholeWeight 5 (some FieldType.long) :: WT)) := gzS q5_98 q5_99 q1_20 q5_100
theorem hd_X3_countRests : yX3_countRests.cls ≠ "java/lang/invoke/MethodHandle" ∧ yX3_countRests.cls ≠ "java/lang/invoke/VarHandle" ∧ (parseMethodDescriptor yX3_countRests.desc).map (fun d => d.parameters.length) = some 1 := by decide +kernel
theorem gS_X9_X3_countRests : GoodIn WT (va_wsS RX9 270 yX3_countRests (.code yX3_countRests cX3_countRests 3 (some FieldType.int) :: WT)) := gzS q5_53 q5_54 q1_19 q5_55
theorem hd_X3_firstRest : yX3_firstRest.cls ≠ "java/lang/invoke/MethodHandle" ∧ yX3_firstRest.cls ≠ "java/lang/invoke/VarHandle" ∧ (parseMethodDescriptor yX3_firstRest.desc).map (fun d => d.parameters.length) = some 1 := by decide +kernel
theorem gS_X9_X3_firstRest : GoodIn WT (va_wsS RX9 273 yX3_firstRest (.code yX3_firstRest cX3_firstRest 2 (some FieldType.int) :: WT)) := gzS q5_70 q5_71 q1_19 q5_72
theorem gS_X9_X3_payoff : GoodIn WT (va_wsS RX9 264 yX3_payoff (.code yX3_payoff cX3_payoff 3 (some FieldType.int) :: WT)) := gzS q5_46 q5_47 q1_19 q5_48
theorem gS_X9_X6_holds : GoodIn WT (va_wsS RX9 116 yX6_holds (.code yX6_holds cX6_holds 3 (some FieldType.boolean) :: WT)) := gzS q4_16 q3_29 q1_3 q3_30
theorem hd_X9_isValue : yX9_isValue.cls ≠ "java/lang/invoke/MethodHandle" ∧ yX9_isValue.cls ≠ "java/lang/invoke/VarHandle" ∧ (parseMethodDescriptor yX9_isValue.desc).map (fun d => d.parameters.length) = some 1 := by decide +kernel
theorem gS_X9_X9_isValue : GoodIn WT (va_wsS RX9 276 yX9_isValue (.code yX9_isValue cX9_isValue 1 (some FieldType.boolean) :: WT)) := gzS q5_77 q5_78 q1_1 q5_79
theorem hd_X9_oneIf : yX9_oneIf.cls ≠ "java/lang/invoke/MethodHandle" ∧ yX9_oneIf.cls ≠ "java/lang/invoke/VarHandle" ∧ (parseMethodDescriptor yX9_oneIf.desc).map (fun d => d.parameters.length) = some 1 := by decide +kernel
theorem gS_X9_X9_oneIf : GoodIn WT (va_wsS RX9 120 yX9_oneIf (.code yX9_oneIf cX9_oneIf 1 (some FieldType.int) :: WT)) := gzS q4_17 q4_18 q1_1 q4_19
theorem hd_X2_addUnsure : yX2_addUnsure.cls = RX2 ∧ yX2_addUnsure.cls ≠ "java/lang/invoke/MethodHandle" ∧ yX2_addUnsure.cls ≠ "java/lang/invoke/VarHandle" ∧ (parseMethodDescriptor yX2_addUnsure.desc).map (fun d => d.parameters.length) = some 1 := by decide +kernel
theorem gV_X5_X2_addUnsure : GoodIn WT (wsV RX5 99 RX2 yX2_addUnsure (.code yX2_addUnsure cX2_addUnsure 3 none :: WT)) := gzV q3_170 q3_171 q3_172 q1_5 q3_173
theorem hd_X5_fail : yX5_fail.cls = RX5 ∧ yX5_fail.cls ≠ "java/lang/invoke/MethodHandle" ∧ yX5_fail.cls ≠ "java/lang/invoke/VarHandle" ∧ (parseMethodDescriptor yX5_fail.desc).map (fun d => d.parameters.length) = some 1 := by decide +kernel
theorem gV_X5_X5_fail : GoodIn WT (wsV RX5 76 RX5 yX5_fail (.code yX5_fail cX5_fail 2 (some FieldType.boolean) :: WT)) := gzV q2_157 q2_159 s_X5_fail q1_2 q2_160
theorem hd_X5_flipOf : yX5_flipOf.cls = RX5 ∧ yX5_flipOf.cls ≠ "java/lang/invoke/MethodHandle" ∧ yX5_flipOf.cls ≠ "java/lang/invoke/VarHandle" ∧ (parseMethodDescriptor yX5_flipOf.desc).map (fun d => d.parameters.length) = some 1 := by decide +kernel
theorem gV_X5_X5_flipOf : GoodIn WT (wsV RX5 95 RX5 yX5_flipOf (.code yX5_flipOf cX5_flipOf 4 (some FieldType.long) :: WT)) := gzV q3_161 q3_163 s_X5_flipOf q1_2 q3_164
theorem hd_X5_stampNamed : yX5_stampNamed.cls = RX5 ∧ yX5_stampNamed.cls ≠ "java/lang/invoke/MethodHandle" ∧ yX5_stampNamed.cls ≠ "java/lang/invoke/VarHandle" ∧ (parseMethodDescriptor yX5_stampNamed.desc).map (fun d => d.parameters.length) = some 1 := by decide +kernel
theorem gV_X5_X5_stampNamed : GoodIn WT (wsV RX5 103 RX5 yX5_stampNamed (.code yX5_stampNamed cX5_stampNamed 2 (some FieldType.int) :: WT)) := gzV q3_165 q3_167 s_X5_stampNamed q1_2 q3_168
theorem hd_X5_takeWhole : yX5_takeWhole.cls = RX5 ∧ yX5_takeWhole.cls ≠ "java/lang/invoke/MethodHandle" ∧ yX5_takeWhole.cls ≠ "java/lang/invoke/VarHandle" ∧ (parseMethodDescriptor yX5_takeWhole.desc).map (fun d => d.parameters.length) = some 2 := by decide +kernel
theorem gV_X5_X5_takeWhole : GoodIn WT (wsV RX5 150 RX5 yX5_takeWhole (.code yX5_takeWhole cX5_takeWhole 3 (some FieldType.boolean) :: WT)) := gzV q2_178 q2_180 s_X5_takeWhole q1_2 q2_181
theorem hd_X6_beginWriter : yX6_beginWriter.cls = RX6 ∧ yX6_beginWriter.cls ≠ "java/lang/invoke/MethodHandle" ∧ yX6_beginWriter.cls ≠ "java/lang/invoke/VarHandle" ∧ (parseMethodDescriptor yX6_beginWriter.desc).map (fun d => d.parameters.length) = some 0 := by decide +kernel
theorem gV_X5_X6_beginWriter : GoodIn WT (wsV RX5 243 RX6 yX6_beginWriter (.code yX6_beginWriter cX6_beginWriter 4 (some FieldType.int) :: WT)) := gzV q3_42 q3_43 q3_44 q1_3 q3_45
theorem hd_X6_endWriter : yX6_endWriter.cls = RX6 ∧ yX6_endWriter.cls ≠ "java/lang/invoke/MethodHandle" ∧ yX6_endWriter.cls ≠ "java/lang/invoke/VarHandle" ∧ (parseMethodDescriptor yX6_endWriter.desc).map (fun d => d.parameters.length) = some 2 := by decide +kernel
theorem gV_X5_X6_endWriter : GoodIn WT (wsV RX5 246 RX6 yX6_endWriter (.code yX6_endWriter cX6_endWriter 4 (some FieldType.int) :: WT)) := gzV q3_133 q3_134 q3_135 q1_3 q3_136
theorem gV_X5_X7_advance : GoodIn WT (wsV RX5 86 RX7 yX7_advance (.code yX7_advance cX7_advance 2 none :: WT)) := gzV q2_176 q2_80 q2_81 q1_6 q2_82
theorem hd_X2_bestToAsk : yX2_bestToAsk.cls = RX2 ∧ yX2_bestToAsk.cls ≠ "java/lang/invoke/MethodHandle" ∧ yX2_bestToAsk.cls ≠ "java/lang/invoke/VarHandle" ∧ (parseMethodDescriptor yX2_bestToAsk.desc).map (fun d => d.parameters.length) = some 0 := by decide +kernel
theorem gV_X9_X2_bestToAsk : GoodIn WT (wsV RX9 252 RX2 yX2_bestToAsk (.code yX2_bestToAsk cX2_bestToAsk 3 (some FieldType.int) :: WT)) := gzV q5_20 q5_21 q5_22 q1_5 q5_23
theorem gV_X9_X2_fitNumber : GoodIn WT (wsV RX9 243 RX2 yX2_fitNumber (.code yX2_fitNumber cX2_fitNumber 2 (some FieldType.int) :: WT)) := gzV q4_235 q4_236 q4_237 q1_5 q4_238
theorem hd_X2_inEveryFit : yX2_inEveryFit.cls = RX2 ∧ yX2_inEveryFit.cls ≠ "java/lang/invoke/MethodHandle" ∧ yX2_inEveryFit.cls ≠ "java/lang/invoke/VarHandle" ∧ (parseMethodDescriptor yX2_inEveryFit.desc).map (fun d => d.parameters.length) = some 0 := by decide +kernel
theorem gV_X9_X2_inEveryFit : GoodIn WT (wsV RX9 249 RX2 yX2_inEveryFit (.code yX2_inEveryFit cX2_inEveryFit 3 (some FieldType.int) :: WT)) := gzV q5_12 q5_13 q5_14 q1_5 q5_15
theorem hd_X2_inSomeFit : yX2_inSomeFit.cls = RX2 ∧ yX2_inSomeFit.cls ≠ "java/lang/invoke/MethodHandle" ∧ yX2_inSomeFit.cls ≠ "java/lang/invoke/VarHandle" ∧ (parseMethodDescriptor yX2_inSomeFit.desc).map (fun d => d.parameters.length) = some 0 := by decide +kernel
theorem gV_X9_X2_inSomeFit : GoodIn WT (wsV RX9 246 RX2 yX2_inSomeFit (.code yX2_inSomeFit cX2_inSomeFit 3 (some FieldType.int) :: WT)) := gzV q5_3 q5_4 q5_5 q1_5 q5_6
theorem gV_X9_X2_leftAtMost : GoodIn WT (wsV RX9 255 RX2 yX2_leftAtMost (.code yX2_leftAtMost cX2_leftAtMost 4 (some FieldType.int) :: WT)) := gzV q5_33 q5_25 q5_26 q1_5 q5_27
theorem gV_X9_X6_ageOf : GoodIn WT (wsV RX9 105 RX6 yX6_ageOf (.code yX6_ageOf cX6_ageOf 2 (some FieldType.int) :: WT)) := gzV q4_6 q3_32 q3_33 q1_3 q3_34
theorem hd_X6_chainLength : yX6_chainLength.cls = RX6 ∧ yX6_chainLength.cls ≠ "java/lang/invoke/MethodHandle" ∧ yX6_chainLength.cls ≠ "java/lang/invoke/VarHandle" ∧ (parseMethodDescriptor yX6_chainLength.desc).map (fun d => d.parameters.length) = some 1 := by decide +kernel
theorem gV_X9_X6_chainLength : GoodIn WT (wsV RX9 199 RX6 yX6_chainLength (.code yX6_chainLength cX6_chainLength 4 (some FieldType.int) :: WT)) := gzV q4_126 q4_127 q4_128 q1_3 q4_129
theorem hd_X6_countDeadWithout : yX6_countDeadWithout.cls = RX6 ∧ yX6_countDeadWithout.cls ≠ "java/lang/invoke/MethodHandle" ∧ yX6_countDeadWithout.cls ≠ "java/lang/invoke/VarHandle" ∧ (parseMethodDescriptor yX6_countDeadWithout.desc).map (fun d => d.parameters.length) = some 1 := by decide +kernel
theorem gV_X9_X6_countDeadWithout : GoodIn WT (wsV RX9 172 RX6 yX6_countDeadWithout (.code yX6_countDeadWithout cX6_countDeadWithout 8 (some FieldType.int) :: WT)) := gzV q4_97 q4_98 q4_99 q1_3 q4_100
theorem hd_X6_countFreezing : yX6_countFreezing.cls = RX6 ∧ yX6_countFreezing.cls ≠ "java/lang/invoke/MethodHandle" ∧ yX6_countFreezing.cls ≠ "java/lang/invoke/VarHandle" ∧ (parseMethodDescriptor yX6_countFreezing.desc).map (fun d => d.parameters.length) = some 0 := by decide +kernel
theorem gV_X9_X6_countFreezing : GoodIn WT (wsV RX9 209 RX6 yX6_countFreezing (.code yX6_countFreezing cX6_countFreezing 5 (some FieldType.int) :: WT)) := gzV q4_151 q4_152 q4_153 q1_3 q4_154
theorem hd_X6_countingAsOf : yX6_countingAsOf.cls = RX6 ∧ yX6_countingAsOf.cls ≠ "java/lang/invoke/MethodHandle" ∧ yX6_countingAsOf.cls ≠ "java/lang/invoke/VarHandle" ∧ (parseMethodDescriptor yX6_countingAsOf.desc).map (fun d => d.parameters.length) = some 1 := by decide +kernel
theorem gV_X9_X6_countingAsOf : GoodIn WT (wsV RX9 228 RX6 yX6_countingAsOf (.code yX6_countingAsOf cX6_countingAsOf 2 (some FieldType.long) :: WT)) := gzV q4_190 q4_191 q4_192 q1_3 q4_193
theorem gV_X9_X6_countingFor : GoodIn WT (wsV RX9 166 RX6 yX6_countingFor (.code yX6_countingFor cX6_countingFor 2 (some FieldType.long) :: WT)) := gzV q4_84 q3_64 q3_65 q1_3 q3_66
theorem gV_X9_X6_countingFresh : GoodIn WT (wsV RX9 225 RX6 yX6_countingFresh (.code yX6_countingFresh cX6_countingFresh 1 (some FieldType.long) :: WT)) := gzV q4_181 q3_191 q3_192 q1_3 q3_193
theorem hd_X6_endedBy : yX6_endedBy.cls = RX6 ∧ yX6_endedBy.cls ≠ "java/lang/invoke/MethodHandle" ∧ yX6_endedBy.cls ≠ "java/lang/invoke/VarHandle" ∧ (parseMethodDescriptor yX6_endedBy.desc).map (fun d => d.parameters.length) = some 1 := by decide +kernel
theorem gV_X9_X6_endedBy : GoodIn WT (wsV RX9 156 RX6 yX6_endedBy (.code yX6_endedBy cX6_endedBy 4 (some FieldType.int) :: WT)) := gzV q4_68 q4_69 q4_70 q1_3 q4_71
theorem gV_X9_X6_fromOf : GoodIn WT (wsV RX9 184 RX6 yX6_fromOf (.code yX6_fromOf cX6_fromOf 2 (some FieldType.int) :: WT)) := gzV q4_108 q3_92 q3_93 q1_3 q3_94
theorem gV_X9_X6_greatestAge : GoodIn WT (wsV RX9 128 RX6 yX6_greatestAge (.code yX6_greatestAge cX6_greatestAge 5 (some FieldType.int) :: WT)) := gzV q4_25 q3_25 q3_26 q1_3 q3_27
theorem gV_X9_X6_hasLost : GoodIn WT (wsV RX9 147 RX6 yX6_hasLost (.code yX6_hasLost cX6_hasLost 2 (some FieldType.boolean) :: WT)) := gzV q4_53 q3_56 q3_57 q1_3 q3_58
theorem hd_X6_holder : yX6_holder.cls = RX6 ∧ yX6_holder.cls ≠ "java/lang/invoke/MethodHandle" ∧ yX6_holder.cls ≠ "java/lang/invoke/VarHandle" ∧ (parseMethodDescriptor yX6_holder.desc).map (fun d => d.parameters.length) = some 2 := by decide +kernel
theorem gV_X9_X6_holder : GoodIn WT (wsV RX9 234 RX6 yX6_holder (.code yX6_holder cX6_holder 4 (some FieldType.int) :: WT)) := gzV q4_207 q4_208 q4_209 q1_3 q4_210
theorem gV_X9_X6_horizonWithout : GoodIn WT (wsV RX9 138 RX6 yX6_horizonWithout (.code yX6_horizonWithout cX6_horizonWithout 6 (some FieldType.int) :: WT)) := gzV q4_46 q3_146 q3_147 q1_3 q3_148
theorem gV_X9_X6_inUse : GoodIn WT (wsV RX9 124 RX6 yX6_inUse (.code yX6_inUse cX6_inUse 4 (some FieldType.long) :: WT)) := gzV q4_24 q3_10 q3_11 q1_3 q3_12
theorem hd_X6_inUseWhenFrozen : yX6_inUseWhenFrozen.cls = RX6 ∧ yX6_inUseWhenFrozen.cls ≠ "java/lang/invoke/MethodHandle" ∧ yX6_inUseWhenFrozen.cls ≠ "java/lang/invoke/VarHandle" ∧ (parseMethodDescriptor yX6_inUseWhenFrozen.desc).map (fun d => d.parameters.length) = some 0 := by decide +kernel
theorem gV_X9_X6_inUseWhenFrozen : GoodIn WT (wsV RX9 135 RX6 yX6_inUseWhenFrozen (.code yX6_inUseWhenFrozen cX6_inUseWhenFrozen 6 (some FieldType.long) :: WT)) := gzV q4_38 q4_39 q4_40 q1_3 q4_41
theorem hd_X6_isDeadNow : yX6_isDeadNow.cls = RX6 ∧ yX6_isDeadNow.cls ≠ "java/lang/invoke/MethodHandle" ∧ yX6_isDeadNow.cls ≠ "java/lang/invoke/VarHandle" ∧ (parseMethodDescriptor yX6_isDeadNow.desc).map (fun d => d.parameters.length) = some 1 := by decide +kernel
theorem gV_X9_X6_isDeadNow : GoodIn WT (wsV RX9 190 RX6 yX6_isDeadNow (.code yX6_isDeadNow cX6_isDeadNow 2 (some FieldType.boolean) :: WT)) := gzV q4_110 q4_111 q4_112 q1_3 q4_113
theorem hd_X6_isRow : yX6_isRow.cls = RX6 ∧ yX6_isRow.cls ≠ "java/lang/invoke/MethodHandle" ∧ yX6_isRow.cls ≠ "java/lang/invoke/VarHandle" ∧ (parseMethodDescriptor yX6_isRow.desc).map (fun d => d.parameters.length) = some 1 := by decide +kernel
theorem gV_X9_X6_isRow : GoodIn WT (wsV RX9 196 RX6 yX6_isRow (.code yX6_isRow cX6_isRow 2 (some FieldType.boolean) :: WT)) := gzV q4_122 q4_123 q4_124 q1_3 q4_125
theorem gV_X9_X6_isSeen : GoodIn WT (wsV RX9 205 RX6 yX6_isSeen (.code yX6_isSeen cX6_isSeen 5 (some FieldType.boolean) :: WT)) := gzV q4_142 q3_84 q3_85 q1_3 q3_86
theorem hd_X6_isStamp : yX6_isStamp.cls = RX6 ∧ yX6_isStamp.cls ≠ "java/lang/invoke/MethodHandle" ∧ yX6_isStamp.cls ≠ "java/lang/invoke/VarHandle" ∧ (parseMethodDescriptor yX6_isStamp.desc).map (fun d => d.parameters.length) = some 1 := by decide +kernel
theorem gV_X9_X6_isStamp : GoodIn WT (wsV RX9 163 RX6 yX6_isStamp (.code yX6_isStamp cX6_isStamp 2 (some FieldType.boolean) :: WT)) := gzV q4_2 q4_3 q4_4 q1_3 q4_5
theorem gV_X9_X6_isVersion : GoodIn WT (wsV RX9 175 RX6 yX6_isVersion (.code yX6_isVersion cX6_isVersion 2 (some FieldType.boolean) :: WT)) := gzV q4_105 q3_18 q3_19 q1_3 q3_20
theorem hd_X6_madeBy : yX6_madeBy.cls = RX6 ∧ yX6_madeBy.cls ≠ "java/lang/invoke/MethodHandle" ∧ yX6_madeBy.cls ≠ "java/lang/invoke/VarHandle" ∧ (parseMethodDescriptor yX6_madeBy.desc).map (fun d => d.parameters.length) = some 1 := by decide +kernel
theorem gV_X9_X6_madeBy : GoodIn WT (wsV RX9 153 RX6 yX6_madeBy (.code yX6_madeBy cX6_madeBy 4 (some FieldType.int) :: WT)) := gzV q4_64 q4_65 q4_66 q1_3 q4_67
theorem gV_X9_X6_olderThan : GoodIn WT (wsV RX9 112 RX6 yX6_olderThan (.code yX6_olderThan cX6_olderThan 6 (some FieldType.long) :: WT)) := gzV q4_15 q3_68 q3_69 q1_3 q3_70
theorem hd_X6_roomBeside : yX6_roomBeside.cls = RX6 ∧ yX6_roomBeside.cls ≠ "java/lang/invoke/MethodHandle" ∧ yX6_roomBeside.cls ≠ "java/lang/invoke/VarHandle" ∧ (parseMethodDescriptor yX6_roomBeside.desc).map (fun d => d.parameters.length) = some 1 := by decide +kernel
theorem gV_X9_X6_roomBeside : GoodIn WT (wsV RX9 132 RX6 yX6_roomBeside (.code yX6_roomBeside cX6_roomBeside 4 (some FieldType.int) :: WT)) := gzV q4_30 q4_31 q4_32 q1_3 q4_33
theorem gV_X9_X6_rowOf : GoodIn WT (wsV RX9 178 RX6 yX6_rowOf (.code yX6_rowOf cX6_rowOf 2 (some FieldType.int) :: WT)) := gzV q4_106 q3_80 q3_81 q1_3 q3_82
theorem hd_X6_rowsWithVerdict : yX6_rowsWithVerdict.cls = RX6 ∧ yX6_rowsWithVerdict.cls ≠ "java/lang/invoke/MethodHandle" ∧ yX6_rowsWithVerdict.cls ≠ "java/lang/invoke/VarHandle" ∧ (parseMethodDescriptor yX6_rowsWithVerdict.desc).map (fun d => d.parameters.length) = some 2 := by decide +kernel
theorem gV_X9_X6_rowsWithVerdict : GoodIn WT (wsV RX9 237 RX6 yX6_rowsWithVerdict (.code yX6_rowsWithVerdict cX6_rowsWithVerdict 5 (some FieldType.int) :: WT)) := gzV q4_219 q4_220 q4_221 q1_3 q4_222
theorem hd_X6_runningSlots : yX6_runningSlots.cls = RX6 ∧ yX6_runningSlots.cls ≠ "java/lang/invoke/MethodHandle" ∧ yX6_runningSlots.cls ≠ "java/lang/invoke/VarHandle" ∧ (parseMethodDescriptor yX6_runningSlots.desc).map (fun d => d.parameters.length) = some 0 := by decide +kernel
theorem gV_X9_X6_runningSlots : GoodIn WT (wsV RX9 159 RX6 yX6_runningSlots (.code yX6_runningSlots cX6_runningSlots 3 (some FieldType.int) :: WT)) := gzV q4_76 q4_77 q4_78 q1_3 q4_79
theorem gV_X9_X6_runs : GoodIn WT (wsV RX9 141 RX6 yX6_runs (.code yX6_runs cX6_runs 2 (some FieldType.boolean) :: WT)) := gzV q4_51 q3_60 q3_61 q1_3 q3_62
theorem hd_X6_slotHoldingBack : yX6_slotHoldingBack.cls = RX6 ∧ yX6_slotHoldingBack.cls ≠ "java/lang/invoke/MethodHandle" ∧ yX6_slotHoldingBack.cls ≠ "java/lang/invoke/VarHandle" ∧ (parseMethodDescriptor yX6_slotHoldingBack.desc).map (fun d => d.parameters.length) = some 0 := by decide +kernel
theorem gV_X9_X6_slotHoldingBack : GoodIn WT (wsV RX9 169 RX6 yX6_slotHoldingBack (.code yX6_slotHoldingBack cX6_slotHoldingBack 5 (some FieldType.int) :: WT)) := gzV q4_89 q4_90 q4_91 q1_3 q4_92
theorem hd_X6_snapshotLength : yX6_snapshotLength.cls = RX6 ∧ yX6_snapshotLength.cls ≠ "java/lang/invoke/MethodHandle" ∧ yX6_snapshotLength.cls ≠ "java/lang/invoke/VarHandle" ∧ (parseMethodDescriptor yX6_snapshotLength.desc).map (fun d => d.parameters.length) = some 1 := by decide +kernel
theorem gV_X9_X6_snapshotLength : GoodIn WT (wsV RX9 150 RX6 yX6_snapshotLength (.code yX6_snapshotLength cX6_snapshotLength 2 (some FieldType.int) :: WT)) := gzV q4_54 q4_55 q4_56 q1_3 q4_57
theorem gV_X9_X6_stampOf : GoodIn WT (wsV RX9 144 RX6 yX6_stampOf (.code yX6_stampOf cX6_stampOf 2 (some FieldType.int) :: WT)) := gzV q4_52 q3_108 q3_109 q1_3 q3_110
theorem gV_X9_X6_sumSeen : GoodIn WT (wsV RX9 219 RX6 yX6_sumSeen (.code yX6_sumSeen cX6_sumSeen 7 (some FieldType.int) :: WT)) := gzV q4_169 q4_170 q4_171 q1_3 q4_172
theorem gV_X9_X6_tillOf : GoodIn WT (wsV RX9 187 RX6 yX6_tillOf (.code yX6_tillOf cX6_tillOf 2 (some FieldType.int) :: WT)) := gzV q4_109 q3_96 q3_97 q1_3 q3_98
theorem gV_X9_X6_valueOf : GoodIn WT (wsV RX9 181 RX6 yX6_valueOf (.code yX6_valueOf cX6_valueOf 2 (some FieldType.int) :: WT)) := gzV q4_107 q3_203 q3_204 q1_3 q3_205
theorem gV_X9_X6_valueSeen : GoodIn WT (wsV RX9 216 RX6 yX6_valueSeen (.code yX6_valueSeen cX6_valueSeen 4 (some FieldType.int) :: WT)) := gzV q4_164 q3_199 q3_200 q1_3 q3_201
theorem gV_X9_X6_verdict : GoodIn WT (wsV RX9 231 RX6 yX6_verdict (.code yX6_verdict cX6_verdict 7 (some FieldType.int) :: WT)) := gzV q4_202 q3_52 q3_53 q1_3 q3_54
theorem hd_X6_versionInChain : yX6_versionInChain.cls = RX6 ∧ yX6_versionInChain.cls ≠ "java/lang/invoke/MethodHandle" ∧ yX6_versionInChain.cls ≠ "java/lang/invoke/VarHandle" ∧ (parseMethodDescriptor yX6_versionInChain.desc).map (fun d => d.parameters.length) = some 2 := by decide +kernel
theorem gV_X9_X6_versionInChain : GoodIn WT (wsV RX9 202 RX6 yX6_versionInChain (.code yX6_versionInChain cX6_versionInChain 6 (some FieldType.int) :: WT)) := gzV q4_134 q4_135 q4_136 q1_3 q4_137
theorem gV_X9_X6_versionSeen : GoodIn WT (wsV RX9 212 RX6 yX6_versionSeen (.code yX6_versionSeen cX6_versionSeen 6 (some FieldType.int) :: WT)) := gzV q4_159 q3_72 q3_73 q1_3 q3_74
theorem hd_X6_wouldFreeze : yX6_wouldFreeze.cls = RX6 ∧ yX6_wouldFreeze.cls ≠ "java/lang/invoke/MethodHandle" ∧ yX6_wouldFreeze.cls ≠ "java/lang/invoke/VarHandle" ∧ (parseMethodDescriptor yX6_wouldFreeze.desc).map (fun d => d.parameters.length) = some 1 := by decide +kernel
theorem gV_X9_X6_wouldFreeze : GoodIn WT (wsV RX9 193 RX6 yX6_wouldFreeze (.code yX6_wouldFreeze cX6_wouldFreeze 2 (some FieldType.boolean) :: WT)) := gzV q4_114 q4_115 q4_116 q1_3 q4_117
theorem hd_X7_addFour : yX7_addFour.cls = RX7 ∧ yX7_addFour.cls ≠ "java/lang/invoke/MethodHandle" ∧ yX7_addFour.cls ≠ "java/lang/invoke/VarHandle" ∧ (parseMethodDescriptor yX7_addFour.desc).map (fun d => d.parameters.length) = some 1 := by decide +kernel
theorem gV_X9_X7_addFour : GoodIn WT (wsV RX9 47 RX7 yX7_addFour (.code yX7_addFour cX7_addFour 3 none :: WT)) := gzV q2_45 q2_46 q2_47 q1_6 q2_48
theorem hd_X9_answer : yX9_answer.cls = RX9 ∧ yX9_answer.cls ≠ "java/lang/invoke/MethodHandle" ∧ yX9_answer.cls ≠ "java/lang/invoke/VarHandle" ∧ (parseMethodDescriptor yX9_answer.desc).map (fun d => d.parameters.length) = some 1 := by decide +kernel
theorem gV_X9_X9_answer : GoodIn WT (wsV RX9 89 RX9 yX9_answer (.code yX9_answer cX9_answer 2 (some FieldType.int) :: WT)) := gzV q3_214 q3_216 s_X9_answer q1_1 q3_217
theorem hd_X9_costTrouble : yX9_costTrouble.cls = RX9 ∧ yX9_costTrouble.cls ≠ "java/lang/invoke/MethodHandle" ∧ yX9_costTrouble.cls ≠ "java/lang/invoke/VarHandle" ∧ (parseMethodDescriptor yX9_costTrouble.desc).map (fun d => d.parameters.length) = some 1 := by decide +kernel
theorem gV_X9_X9_costTrouble : GoodIn WT (wsV RX9 261 RX9 yX9_costTrouble (.code yX9_costTrouble cX9_costTrouble 2 (some FieldType.int) :: WT)) := gzV q5_42 q5_44 s_X9_costTrouble q1_1 q5_45
theorem hd_X9_hasStore : yX9_hasStore.cls = RX9 ∧ yX9_hasStore.cls ≠ "java/lang/invoke/MethodHandle" ∧ yX9_hasStore.cls ≠ "java/lang/invoke/VarHandle" ∧ (parseMethodDescriptor yX9_hasStore.desc).map (fun d => d.parameters.length) = some 0 := by decide +kernel
theorem gV_X9_X9_hasStore : GoodIn WT (wsV RX9 95 RX9 yX9_hasStore (.code yX9_hasStore cX9_hasStore 1 (some FieldType.boolean) :: WT)) := gzV q3_230 q3_232 s_X9_hasStore q1_1 q3_233
theorem hd_X9_refuse : yX9_refuse.cls = RX9 ∧ yX9_refuse.cls ≠ "java/lang/invoke/MethodHandle" ∧ yX9_refuse.cls ≠ "java/lang/invoke/VarHandle" ∧ (parseMethodDescriptor yX9_refuse.desc).map (fun d => d.parameters.length) = some 1 := by decide +kernel
theorem gV_X9_X9_refuse : GoodIn WT (wsV RX9 51 RX9 yX9_refuse (.code yX9_refuse cX9_refuse 2 (some FieldType.int) :: WT)) := gzV q2_53 q2_55 s_X9_refuse q1_1 q2_56
theorem hd_X9_stampTrouble : yX9_stampTrouble.cls = RX9 ∧ yX9_stampTrouble.cls ≠ "java/lang/invoke/MethodHandle" ∧ yX9_stampTrouble.cls ≠ "java/lang/invoke/VarHandle" ∧ (parseMethodDescriptor yX9_stampTrouble.desc).map (fun d => d.parameters.length) = some 1 := by decide +kernel
theorem gV_X9_X9_stampTrouble : GoodIn WT (wsV RX9 102 RX9 yX9_stampTrouble (.code yX9_stampTrouble cX9_stampTrouble 2 (some FieldType.int) :: WT)) := gzV q3_238 q4_0 s_X9_stampTrouble q1_1 q4_1
theorem hd_X9_stampsTrouble : yX9_stampsTrouble.cls = RX9 ∧ yX9_stampsTrouble.cls ≠ "java/lang/invoke/MethodHandle" ∧ yX9_stampsTrouble.cls ≠ "java/lang/invoke/VarHandle" ∧ (parseMethodDescriptor yX9_stampsTrouble.desc).map (fun d => d.parameters.length) = some 2 := by decide +kernel
theorem gV_X9_X9_stampsTrouble : GoodIn WT (wsV RX9 108 RX9 yX9_stampsTrouble (.code yX9_stampsTrouble cX9_stampsTrouble 4 (some FieldType.int) :: WT)) := gzV q4_11 q4_13 s_X9_stampsTrouble q1_1 q4_14
def f_X5_fail (St : SRd) (St_tape : STape) (x1 : Int32) : Option (Int32 × SRd) :=
  some ((0 : Int32), (mkRd x1 (Tape_start St_tape) (Rd_nameCount St) (Rd_names St) (Rd_nameStamps St) (Rd_nameSlots St) (Rd_unsureNames St) (Rd_unsureCount St) (Rd_head St) (Rd_name St) (Rd_row St) (Rd_whole St)))
set_option maxHeartbeats 4000000 in
set_option maxRecDepth 100000 in
theorem c_X5_fail (l : Launch) (D : va_G) (cy : Nat → ClassId) (ht : Nat → Nat) (ht_rows : Nat → Nat) (ht_evidence : Nat → Nat) (ht_tape : Nat → Nat) (ad : Nat → Nat) (St : SRd) (St_tape : STape) (x1 : Int32) (r : Int32 × SRd) (hf : f_X5_fail St St_tape x1 = some r) : zCI l yX5_fail cX5_fail 2 (some FieldType.boolean) 0 0 D (zty cy) [.ref (ht 0), .int x1] (wRd ht (ht_rows 0) (ht_evidence 0) (ht_tape 0) ad cy St ++ (wTape ht_tape cy St_tape)) (wRd ht (ht_rows 0) (ht_evidence 0) (ht_tape 0) ad cy r.2 ++ (wTape ht_tape cy St_tape)) r.1 := by
  refine zCI_of (by decide +kernel) (Nat.le_of_ble_eq_true rfl) ?_
  intro p e s m below meth c A ls C hP hD hS hl
  generalize hargs : ([.ref (ht 0), .int x1] : List Value).toArray = args at C ⊢
  have C : zX p s m meth c cX5_fail 2 args RX5 (some FieldType.boolean) A D (zty cy) := C
  obtain ⟨hx, hb, hr, hts, hown, hlocks, hml, hA, hK⟩ := id C
  have hl : lv_has ls 2 [(0, .ref (ht 0)), (1, .int x1)] := hl
  generalize hH : s.heap = H at hP ⊢
  have hS : va_S A s.heap H [] := by rw [← hH]; exact hS
  generalize ([] : List Loc) = locs at hS ⊢
  refine lv_aload_n hx hb dX5_fail_0 rfl (lv_at hl 0 rfl) ?_
  refine lv_iload_n hx hb dX5_fail_1 rfl (lv_at hl 1 rfl) ?_
  refine z_put (w2 := vRd ht (ht_rows 0) (ht_evidence 0) (ht_tape 0) ad cy x1 (Rd_place St) (Rd_nameCount St) (Rd_names St) (Rd_nameStamps St) (Rd_nameSlots St) (Rd_unsureNames St) (Rd_unsureCount St) (Rd_head St) (Rd_name St) (Rd_row St) (Rd_whole St) ++ (wTape ht_tape cy St_tape)) hx hb hts in_X5 tyX5 tyX5_ok nmX5 hown hK hP hD hS 0 rfl rfl 0 (by decide) (hts _ q1_177) (fun _ h9 => h9) rfl rfl rfl (Nat.le_of_ble_eq_true rfl) dX5_fail_2 rfl (fun H locs hP hD hS => ?_)
  refine lv_aload_n hx hb dX5_fail_5 rfl (lv_at hl 0 rfl) ?_
  refine lv_aload_n hx hb dX5_fail_6 rfl (lv_at hl 0 rfl) ?_
  refine va_get (D := D) (ci := 2) (v := .ref (ht_tape 0)) (C := RX5) (T := TX5) (N := 15) hx hb hts in_X5 hown hK hP 0 rfl rfl 4 (by decide) (hts _ q1_185) (fun _ h9 => h9) rfl dX5_fail_7 ?_
  refine va_get (D := D) (ci := 4) (v := .int (Tape_start St_tape)) (C := RX7) (T := TX7) (N := 7) hx hb hts in_X7 hown hK hP 5 rfl rfl 2 (by decide) (hts _ q1_154) (fun _ h9 => h9) rfl dX5_fail_10 ?_
  refine z_put (w2 := vRd ht (ht_rows 0) (ht_evidence 0) (ht_tape 0) ad cy x1 (Tape_start St_tape) (Rd_nameCount St) (Rd_names St) (Rd_nameStamps St) (Rd_nameSlots St) (Rd_unsureNames St) (Rd_unsureCount St) (Rd_head St) (Rd_name St) (Rd_row St) (Rd_whole St) ++ (wTape ht_tape cy St_tape)) hx hb hts in_X5 tyX5 tyX5_ok nmX5 hown hK hP hD hS 0 rfl rfl 1 (by decide) (hts _ q1_179) (fun _ h9 => h9) rfl rfl rfl (Nat.le_of_ble_eq_true rfl) dX5_fail_13 rfl (fun H locs hP hD hS => ?_)
  refine lv_iconst (v := (0 : Int32)) hx hb dX5_fail_16 (by decide) ?_
  obtain rfl := Option.some.inj hf
  rw [← wRd_mk ht] at hP hD
  exact z_zret (v := (0 : Int32)) C rfl hP hD hS dX5_fail_17
def f_X5_isStored (St : SRd) (St_rows : SRows) : Option (Int32) :=
  (if (Rows_ring St_rows) = 0 then
    some (0 : Int32)
    else
    some (1 : Int32))
set_option maxHeartbeats 4000000 in
set_option maxRecDepth 100000 in
theorem c_X5_isStored (l : Launch) (D : va_G) (cy : Nat → ClassId) (ht : Nat → Nat) (ht_rows : Nat → Nat) (ht_evidence : Nat → Nat) (ht_tape : Nat → Nat) (ad : Nat → Nat) (St : SRd) (St_rows : SRows) (r : Int32) (hf : f_X5_isStored St St_rows = some r) : zCI l yX5_isStored cX5_isStored 1 (some FieldType.boolean) 0 0 D (zty cy) [.ref (ht 0)] (wRd ht (ht_rows 0) (ht_evidence 0) (ht_tape 0) ad cy St ++ (wRows ht_rows cy St_rows)) (wRd ht (ht_rows 0) (ht_evidence 0) (ht_tape 0) ad cy St ++ (wRows ht_rows cy St_rows)) r := by
  refine zCI_of (by decide +kernel) (Nat.le_of_ble_eq_true rfl) ?_
  intro p e s m below meth c A ls C hP hD hS hl
  generalize hargs : ([.ref (ht 0)] : List Value).toArray = args at C ⊢
  have C : zX p s m meth c cX5_isStored 1 args RX5 (some FieldType.boolean) A D (zty cy) := C
  obtain ⟨hx, hb, hr, hts, hown, hlocks, hml, hA, hK⟩ := id C
  have hl : lv_has ls 1 [(0, .ref (ht 0))] := hl
  generalize hH : s.heap = H at hP ⊢
  have hS : va_S A s.heap H [] := by rw [← hH]; exact hS
  generalize ([] : List Loc) = locs at hS ⊢
  refine lv_aload_n hx hb dX5_isStored_0 rfl (lv_at hl 0 rfl) ?_
  refine va_get (D := D) (ci := 2) (v := .ref (ht_rows 0)) (C := RX5) (T := TX5) (N := 15) hx hb hts in_X5 hown hK hP 0 rfl rfl 2 (by decide) (hts _ q1_181) (fun _ h9 => h9) rfl dX5_isStored_1 ?_
  refine va_get (D := D) (ci := 3) (v := .int (Rows_ring St_rows)) (C := RX6) (T := TX6) (N := 16) hx hb hts in_X6 hown hK hP 5 rfl rfl 0 (by decide) (hts _ q1_50) (fun _ h9 => h9) rfl dX5_isStored_4 ?_
  refine z_if_eq (tgt := 14) hx hb dX5_isStored_7 (by decide) hf (fun hf => ?_) (fun hf => ?_)
  · refine lv_iconst (v := (0 : Int32)) hx hb dX5_isStored_14 (by decide) ?_
    obtain rfl := Option.some.inj hf
    exact z_zret (v := (0 : Int32)) C rfl hP hD hS dX5_isStored_15
  · refine lv_iconst (v := (1 : Int32)) hx hb dX5_isStored_10 (by decide) ?_
    refine lv_goto (tgt := 15) hx hb dX5_isStored_11 (by decide) ?_
    obtain rfl := Option.some.inj hf
    exact z_zret (v := (1 : Int32)) C rfl hP hD hS dX5_isStored_15
def f_X5_stampNamed (St : SRd) (x1 : Int32) : Option (Int32) :=
  (if x1 < 0 then
    some (-2 : Int32)
    else
    (if (12 : Int32) ≤ x1 then
      some (-2 : Int32)
      else
      (if zib x1 12 then some ((Rd_nameStamps St) x1.toNatClampNeg) else none)))
set_option maxHeartbeats 4000000 in
set_option maxRecDepth 100000 in
theorem c_X5_stampNamed (l : Launch) (D : va_G) (cy : Nat → ClassId) (ht : Nat → Nat) (ht_rows : Nat → Nat) (ht_evidence : Nat → Nat) (ht_tape : Nat → Nat) (ad : Nat → Nat) (St : SRd) (x1 : Int32) (r : Int32) (hf : f_X5_stampNamed St x1 = some r) : zCI l yX5_stampNamed cX5_stampNamed 2 (some FieldType.int) 0 0 D (zty cy) [.ref (ht 0), .int x1] (wRd ht (ht_rows 0) (ht_evidence 0) (ht_tape 0) ad cy St) (wRd ht (ht_rows 0) (ht_evidence 0) (ht_tape 0) ad cy St) r := by
  refine zCI_of (by decide +kernel) (Nat.le_of_ble_eq_true rfl) ?_
  intro p e s m below meth c A ls C hP hD hS hl
  generalize hargs : ([.ref (ht 0), .int x1] : List Value).toArray = args at C ⊢
  have C : zX p s m meth c cX5_stampNamed 2 args RX5 (some FieldType.int) A D (zty cy) := C
  obtain ⟨hx, hb, hr, hts, hown, hlocks, hml, hA, hK⟩ := id C
  have hl : lv_has ls 2 [(0, .ref (ht 0)), (1, .int x1)] := hl
  generalize hH : s.heap = H at hP ⊢
  have hS : va_S A s.heap H [] := by rw [← hH]; exact hS
  generalize ([] : List Loc) = locs at hS ⊢
  refine lv_iload_n hx hb dX5_stampNamed_0 rfl (lv_at hl 1 rfl) ?_
  refine z_if_lt (tgt := 19) hx hb dX5_stampNamed_1 (by decide) hf (fun hf => ?_) (fun hf => ?_)
  · refine lv_bipush (v := (-2 : Int32)) hx hb dX5_stampNamed_19 (by decide) ?_
    obtain rfl := Option.some.inj hf
    exact z_iret (v := (-2 : Int32)) C hP hD hS dX5_stampNamed_21
  · refine lv_iload_n hx hb dX5_stampNamed_4 rfl (lv_at hl 1 rfl) ?_
    refine lv_bipush (v := (12 : Int32)) hx hb dX5_stampNamed_5 (by decide) ?_
    refine z_icmp_ge (tgt := 19) hx hb dX5_stampNamed_7 (by decide) hf (fun hf => ?_) (fun hf => ?_)
    · refine lv_bipush (v := (-2 : Int32)) hx hb dX5_stampNamed_19 (by decide) ?_
      obtain rfl := Option.some.inj hf
      exact z_iret (v := (-2 : Int32)) C hP hD hS dX5_stampNamed_21
    · refine lv_aload_n hx hb dX5_stampNamed_10 rfl (lv_at hl 0 rfl) ?_
      refine va_get (D := D) (ci := 2) (v := .ref (ht 2)) (C := RX5) (T := TX5) (N := 15) hx hb hts in_X5 hown hK hP 0 rfl rfl 7 (by decide) (hts _ q1_189) (fun _ h9 => h9) rfl dX5_stampNamed_11 ?_
      refine lv_iload_n hx hb dX5_stampNamed_14 rfl (lv_at hl 1 rfl) ?_
      refine z_iald (f := (Rd_nameStamps St)) hx hb hK hP 2 0 rfl rfl dX5_stampNamed_15 hf (fun hf => ?_)
      refine lv_goto (tgt := 21) hx hb dX5_stampNamed_16 (by decide) ?_
      obtain rfl := Option.some.inj hf
      exact z_iret (v := ((Rd_nameStamps St) x1.toNatClampNeg)) C hP hD hS dX5_stampNamed_21
def b_X5_flipOf_10 (St : SRd) (x1 : Int32) (k10 : Int32 → Int32 → Option (Int64)) (v2 : Int32) (v3 : Int32) : Option (Int64) :=
  (if (Rd_nameCount St) ≤ v3 then
    (f_X6_bitOf v2).bind (fun q1 =>
      some q1)
    else
    (f_X5_stampNamed St v3).bind (fun q2 =>
      (if q2 = v2 then
        some (0 : Int64)
        else
        (k10 v2 (v3 + (1 : Int32))))))
set_option maxHeartbeats 4000000 in
set_option maxRecDepth 100000 in
theorem w_X5_flipOf_10 {p : Program} {e : Env} {s : State} {m : MethodId} {below : List Frame} {meth : Method} {c : Code} {A : Nat → Prop} {D : va_G} {cy : Nat → ClassId} {args : Array Value} {r : Int64} (l : Launch) (ht : Nat → Nat) (ht_rows : Nat → Nat) (ht_evidence : Nat → Nat) (ht_tape : Nat → Nat) (ad : Nat → Nat) (St : SRd) (x1 : Int32) (C : zX p s m meth c cX5_flipOf 4 args RX5 (some FieldType.long) A D (zty cy)) :
    ∀ (n : Nat) (v2 : Int32) (v3 : Int32) (H : Heap) (locs : List Loc) (ls : Array Slot), zl2 (b_X5_flipOf_10 St x1) n v2 v3 = some r → va_P D vwCl (wRd ht (ht_rows 0) (ht_evidence 0) (ht_tape 0) ad cy St) H → va_D A (wRd ht (ht_rows 0) (ht_evidence 0) (ht_tape 0) ad cy St) → va_S A s.heap H locs → lv_has ls 4 [(0, .ref (ht 0)), (2, .int v2), (3, .int v3)] → W p l e (zRm 1 21) s m args below meth c H locs 0 0 (MQ below (zQL D (zty cy) A (wRd ht (ht_rows 0) (ht_evidence 0) (ht_tape 0) ad cy St) r) args s 0 0 A) (F0 m 10 ls []) := by
  obtain ⟨hx, hb, hr, hts, hown, hlocks, hml, hA, hK⟩ := id C
  intro n
  induction n with
  | zero => intro v2 v3 H locs ls hf; exact zno hf
  | succ n ih =>
    intro v2 v3 H locs ls hf hP hD hS hl
    have hf : b_X5_flipOf_10 St x1 (zl2 (b_X5_flipOf_10 St x1) n) v2 v3 = some r := hf
    have K10 := ih
    refine lv_iload_n hx hb dX5_flipOf_10 rfl (lv_at hl 2 rfl) ?_
    refine lv_aload_n hx hb dX5_flipOf_11 rfl (lv_at hl 0 rfl) ?_
    refine va_get (D := D) (ci := 2) (v := .int (Rd_nameCount St)) (C := RX5) (T := TX5) (N := 15) hx hb hts in_X5 hown hK hP 0 rfl rfl 5 (by decide) (hts _ q1_187) (fun _ h9 => h9) rfl dX5_flipOf_12 ?_
    refine z_icmp_ge (tgt := 35) hx hb dX5_flipOf_15 (by decide) hf (fun hf => ?_) (fun hf => ?_)
    · refine lv_iload_n hx hb dX5_flipOf_35 rfl (lv_at hl 1 rfl) ?_
      obtain ⟨q1, hc, hf⟩ := zbd hf
      refine z_cSlE (As := [.int v2]) (rest := []) C (c_X6_bitOf l D cy v2 q1 hc) gS_X5_X6_bitOf hd_X6_bitOf ⟨Nat.le_of_ble_eq_true rfl, Nat.le_of_ble_eq_true rfl⟩ ⟨Nat.le_refl _, Nat.le_refl _⟩ hP hD hS hl.1 (Nat.le_of_ble_eq_true rfl) dX5_flipOf_36 (fun H locs hP hD hS => ?_)
      obtain rfl := Option.some.inj hf
      exact z_lret (v := q1) C hP hD hS dX5_flipOf_39
    · refine lv_aload_n hx hb dX5_flipOf_18 rfl (lv_at hl 0 rfl) ?_
      refine lv_iload_n hx hb dX5_flipOf_19 rfl (lv_at hl 2 rfl) ?_
      obtain ⟨q2, hc, hf⟩ := zbd hf
      refine z_cVi0 (As := [.int v3]) (rest := []) C (c_X5_stampNamed l D cy ht ht_rows ht_evidence ht_tape ad St v3 q2 hc) gV_X5_X5_stampNamed hd_X5_stampNamed ⟨Nat.le_of_ble_eq_true rfl, Nat.le_of_ble_eq_true rfl⟩ ⟨Nat.le_refl _, Nat.le_refl _⟩ (va_recv hK hP (ci := 2) (q0 := 0) rfl rfl) hP hD hS hl.1 (Nat.le_of_ble_eq_true rfl) dX5_flipOf_20 (fun H locs hP hD hS => ?_)
      have hP : va_P D vwCl (wRd ht (ht_rows 0) (ht_evidence 0) (ht_tape 0) ad cy St) H := hP
      have hD : va_D A (wRd ht (ht_rows 0) (ht_evidence 0) (ht_tape 0) ad cy St) := hD
      refine lv_iload_n hx hb dX5_flipOf_23 rfl (lv_at hl 1 rfl) ?_
      refine z_icmp_ne (tgt := 29) hx hb dX5_flipOf_24 (by decide) hf (fun hf => ?_) (fun hf => ?_)
      · refine lv_iinc (v := (v3 + (1 : Int32))) (lv' := [(3, .int (v3 + (1 : Int32))), (0, .ref (ht 0)), (2, .int v2)]) hx hb dX5_flipOf_29 hl (k := 2) rfl rfl (by decide) rfl (fun ls hl => ?_)
        refine lv_goto (tgt := 10) hx hb dX5_flipOf_32 (by decide) ?_
        exact K10 v2 (v3 + (1 : Int32)) H locs ls hf hP hD hS (lv_sub hl [1, 2, 0] rfl)
      · refine lv_lconst (v := (0 : Int64)) hx hb dX5_flipOf_27 (by decide) ?_
        obtain rfl := Option.some.inj hf
        exact z_lret (v := (0 : Int64)) C hP hD hS dX5_flipOf_28
def f_X5_flipOf (St : SRd) (x1 : Int32) : Option (Int64) :=
  (f_X5_stampNamed St x1).bind (fun q3 =>
    (zl2 (b_X5_flipOf_10 St x1) FU q3 (x1 + (1 : Int32))))
set_option maxHeartbeats 4000000 in
set_option maxRecDepth 100000 in
theorem c_X5_flipOf (l : Launch) (D : va_G) (cy : Nat → ClassId) (ht : Nat → Nat) (ht_rows : Nat → Nat) (ht_evidence : Nat → Nat) (ht_tape : Nat → Nat) (ad : Nat → Nat) (St : SRd) (x1 : Int32) (r : Int64) (hf : f_X5_flipOf St x1 = some r) : zCL l yX5_flipOf cX5_flipOf 4 (some FieldType.long) 1 21 D (zty cy) [.ref (ht 0), .int x1] (wRd ht (ht_rows 0) (ht_evidence 0) (ht_tape 0) ad cy St) (wRd ht (ht_rows 0) (ht_evidence 0) (ht_tape 0) ad cy St) r := by
  refine zCL_of (by decide +kernel) (Nat.le_of_ble_eq_true rfl) ?_
  intro p e s m below meth c A ls C hP hD hS hl
  generalize hargs : ([.ref (ht 0), .int x1] : List Value).toArray = args at C ⊢
  have C : zX p s m meth c cX5_flipOf 4 args RX5 (some FieldType.long) A D (zty cy) := C
  obtain ⟨hx, hb, hr, hts, hown, hlocks, hml, hA, hK⟩ := id C
  have hl : lv_has ls 4 [(0, .ref (ht 0)), (1, .int x1)] := hl
  generalize hH : s.heap = H at hP ⊢
  have hS : va_S A s.heap H [] := by rw [← hH]; exact hS
  generalize ([] : List Loc) = locs at hS ⊢
  refine lv_aload_n hx hb dX5_flipOf_0 rfl (lv_at hl 0 rfl) ?_
  refine lv_iload_n hx hb dX5_flipOf_1 rfl (lv_at hl 1 rfl) ?_
  obtain ⟨q3, hc, hf⟩ := zbd hf
  refine z_cVi0 (As := [.int x1]) (rest := []) C (c_X5_stampNamed l D cy ht ht_rows ht_evidence ht_tape ad St x1 q3 hc) gV_X5_X5_stampNamed hd_X5_stampNamed ⟨Nat.le_of_ble_eq_true rfl, Nat.le_of_ble_eq_true rfl⟩ ⟨Nat.le_refl _, Nat.le_refl _⟩ (va_recv hK hP (ci := 2) (q0 := 0) rfl rfl) hP hD hS hl.1 (Nat.le_of_ble_eq_true rfl) dX5_flipOf_2 (fun H locs hP hD hS => ?_)
  have hP : va_P D vwCl (wRd ht (ht_rows 0) (ht_evidence 0) (ht_tape 0) ad cy St) H := hP
  have hD : va_D A (wRd ht (ht_rows 0) (ht_evidence 0) (ht_tape 0) ad cy St) := hD
  refine lv_istore_n (lv' := [(2, .int q3), (0, .ref (ht 0)), (1, .int x1)]) hx hb dX5_flipOf_5 rfl hl (by decide) rfl (fun ls hl => ?_)
  refine lv_iload_n hx hb dX5_flipOf_6 rfl (lv_at hl 2 rfl) ?_
  refine lv_iconst (v := (1 : Int32)) hx hb dX5_flipOf_7 (by decide) ?_
  refine lv_iadd hx hb dX5_flipOf_8 ?_
  refine lv_istore_n (lv' := [(3, .int (x1 + (1 : Int32))), (2, .int q3), (0, .ref (ht 0)), (1, .int x1)]) hx hb dX5_flipOf_9 rfl hl (by decide) rfl (fun ls hl => ?_)
  exact w_X5_flipOf_10 l ht ht_rows ht_evidence ht_tape ad St x1 C FU q3 (x1 + (1 : Int32)) H locs ls hf hP hD hS (lv_sub hl [2, 1, 0] rfl)
def b_X5_tellUnsure_2 (St : SRd) (k2 : SEv → Int32 → Option (SEv)) (St_evidence : SEv) (v1 : Int32) : Option (SEv) :=
  (if (Rd_unsureCount St) ≤ v1 then
    some St_evidence
    else
    (if (4 : Int32) ≤ v1 then
      some St_evidence
      else
      (if zib v1 4 then (f_X5_flipOf St ((Rd_unsureNames St) v1.toNatClampNeg)).bind (fun q1 =>
          (f_X2_addUnsure St_evidence q1).bind (fun q2 =>
            (k2 q2 (v1 + (1 : Int32))))) else none)))
set_option maxHeartbeats 4000000 in
set_option maxRecDepth 100000 in
theorem w_X5_tellUnsure_2 {p : Program} {e : Env} {s : State} {m : MethodId} {below : List Frame} {meth : Method} {c : Code} {A : Nat → Prop} {D : va_G} {cy : Nat → ClassId} {args : Array Value} {r : SEv} (l : Launch) (ht : Nat → Nat) (ht_rows : Nat → Nat) (ht_evidence : Nat → Nat) (ht_tape : Nat → Nat) (ad : Nat → Nat) (St : SRd) (C : zX p s m meth c cX5_tellUnsure 2 args RX5 none A D (zty cy)) :
    ∀ (n : Nat) (St_evidence : SEv) (v1 : Int32) (H : Heap) (locs : List Loc) (ls : Array Slot), zl2 (b_X5_tellUnsure_2 St) n St_evidence v1 = some r → va_P D vwCl (wRd ht (ht_rows 0) (ht_evidence 0) (ht_tape 0) ad cy St ++ (wEv ht_evidence cy St_evidence)) H → va_D A (wRd ht (ht_rows 0) (ht_evidence 0) (ht_tape 0) ad cy St ++ (wEv ht_evidence cy St_evidence)) → va_S A s.heap H locs → lv_has ls 2 [(0, .ref (ht 0)), (1, .int v1)] → W p l e (zRm 2 44) s m args below meth c H locs 0 0 (MQ below (zQV D (zty cy) A (wRd ht (ht_rows 0) (ht_evidence 0) (ht_tape 0) ad cy St ++ (wEv ht_evidence cy r))) args s 0 0 A) (F0 m 2 ls []) := by
  obtain ⟨hx, hb, hr, hts, hown, hlocks, hml, hA, hK⟩ := id C
  intro n
  induction n with
  | zero => intro St_evidence v1 H locs ls hf; exact zno hf
  | succ n ih =>
    intro St_evidence v1 H locs ls hf hP hD hS hl
    have hf : b_X5_tellUnsure_2 St (zl2 (b_X5_tellUnsure_2 St) n) St_evidence v1 = some r := hf
    have K2 := ih
    refine lv_iload_n hx hb dX5_tellUnsure_2 rfl (lv_at hl 1 rfl) ?_
    refine lv_aload_n hx hb dX5_tellUnsure_3 rfl (lv_at hl 0 rfl) ?_
    refine va_get (D := D) (ci := 2) (v := .int (Rd_unsureCount St)) (C := RX5) (T := TX5) (N := 15) hx hb hts in_X5 hown hK hP 0 rfl rfl 10 (by decide) (hts _ q1_192) (fun _ h9 => h9) rfl dX5_tellUnsure_4 ?_
    refine z_icmp_ge (tgt := 38) hx hb dX5_tellUnsure_7 (by decide) hf (fun hf => ?_) (fun hf => ?_)
    · obtain rfl := Option.some.inj hf
      exact z_vret C hP hD hS dX5_tellUnsure_38
    · refine lv_iload_n hx hb dX5_tellUnsure_10 rfl (lv_at hl 1 rfl) ?_
      refine lv_iconst (v := (4 : Int32)) hx hb dX5_tellUnsure_11 (by decide) ?_
      refine z_icmp_ge (tgt := 38) hx hb dX5_tellUnsure_12 (by decide) hf (fun hf => ?_) (fun hf => ?_)
      · obtain rfl := Option.some.inj hf
        exact z_vret C hP hD hS dX5_tellUnsure_38
      · refine lv_aload_n hx hb dX5_tellUnsure_15 rfl (lv_at hl 0 rfl) ?_
        refine va_get (D := D) (ci := 2) (v := .ref (ht_evidence 0)) (C := RX5) (T := TX5) (N := 15) hx hb hts in_X5 hown hK hP 0 rfl rfl 3 (by decide) (hts _ q1_183) (fun _ h9 => h9) rfl dX5_tellUnsure_16 ?_
        refine lv_aload_n hx hb dX5_tellUnsure_19 rfl (lv_at hl 0 rfl) ?_
        refine lv_aload_n hx hb dX5_tellUnsure_20 rfl (lv_at hl 0 rfl) ?_
        refine va_get (D := D) (ci := 2) (v := .ref (ht 4)) (C := RX5) (T := TX5) (N := 15) hx hb hts in_X5 hown hK hP 0 rfl rfl 9 (by decide) (hts _ q1_191) (fun _ h9 => h9) rfl dX5_tellUnsure_21 ?_
        refine lv_iload_n hx hb dX5_tellUnsure_24 rfl (lv_at hl 1 rfl) ?_
        refine z_iald (f := (Rd_unsureNames St)) hx hb hK hP 4 0 rfl rfl dX5_tellUnsure_25 hf (fun hf => ?_)
        obtain ⟨q1, hc, hf⟩ := zbd hf
        refine z_cVl (As := [.int ((Rd_unsureNames St) v1.toNatClampNeg)]) (rest := [.ref (ht_evidence 0)]) C (c_X5_flipOf l D cy ht ht_rows ht_evidence ht_tape ad St ((Rd_unsureNames St) v1.toNatClampNeg) q1 hc) gV_X5_X5_flipOf hd_X5_flipOf ⟨Nat.le_of_ble_eq_true rfl, Nat.le_of_ble_eq_true rfl⟩ ⟨Nat.le_refl _, Nat.le_refl _⟩ (va_recv hK hP (ci := 2) (q0 := 0) rfl rfl) hP hD hS (w2 := wRd ht (ht_rows 0) (ht_evidence 0) (ht_tape 0) ad cy St ++ (wEv ht_evidence cy St_evidence)) [0, 1, 2, 3, 4] [5, 6, 7, 8, 9] [5, 6, 7, 8, 9, 0, 1, 2, 3, 4] rfl rfl rfl rfl rfl rfl (by decide) hl.1 (Nat.le_of_ble_eq_true rfl) dX5_tellUnsure_26 (fun H locs hP hD hS => ?_)
        obtain ⟨q2, hc, hf⟩ := zbd hf
        refine z_cVv (As := [.long q1]) (rest := []) C (c_X2_addUnsure l D cy ht_evidence St_evidence q1 q2 hc) gV_X5_X2_addUnsure hd_X2_addUnsure ⟨Nat.le_of_ble_eq_true rfl, Nat.le_of_ble_eq_true rfl⟩ ⟨Nat.le_refl _, Nat.le_refl _⟩ (va_recv hK hP (ci := 0) (q0 := 5) rfl rfl) hP hD hS (w2 := wRd ht (ht_rows 0) (ht_evidence 0) (ht_tape 0) ad cy St ++ (wEv ht_evidence cy q2)) [5, 6, 7, 8, 9] [0, 1, 2, 3, 4] [0, 1, 2, 3, 4, 5, 6, 7, 8, 9] rfl rfl rfl rfl rfl rfl (by decide) hl.1 (Nat.le_of_ble_eq_true rfl) dX5_tellUnsure_29 (fun H locs hP hD hS => ?_)
        refine lv_iinc (v := (v1 + (1 : Int32))) (lv' := [(1, .int (v1 + (1 : Int32))), (0, .ref (ht 0))]) hx hb dX5_tellUnsure_32 hl (k := 1) rfl rfl (by decide) rfl (fun ls hl => ?_)
        refine lv_goto (tgt := 2) hx hb dX5_tellUnsure_35 (by decide) ?_
        exact K2 q2 (v1 + (1 : Int32)) H locs ls hf hP hD hS (lv_sub hl [1, 0] rfl)
def f_X5_tellUnsure (St : SRd) (St_evidence : SEv) : Option (SEv) :=
  (zl2 (b_X5_tellUnsure_2 St) FU St_evidence (0 : Int32))
set_option maxHeartbeats 4000000 in
set_option maxRecDepth 100000 in
theorem c_X5_tellUnsure (l : Launch) (D : va_G) (cy : Nat → ClassId) (ht : Nat → Nat) (ht_rows : Nat → Nat) (ht_evidence : Nat → Nat) (ht_tape : Nat → Nat) (ad : Nat → Nat) (St : SRd) (St_evidence : SEv) (r : SEv) (hf : f_X5_tellUnsure St St_evidence = some r) : zCV l yX5_tellUnsure cX5_tellUnsure 2 none 2 44 D (zty cy) [.ref (ht 0)] (wRd ht (ht_rows 0) (ht_evidence 0) (ht_tape 0) ad cy St ++ (wEv ht_evidence cy St_evidence)) (wRd ht (ht_rows 0) (ht_evidence 0) (ht_tape 0) ad cy St ++ (wEv ht_evidence cy r)) := by
  refine zCV_of (by decide +kernel) (Nat.le_of_ble_eq_true rfl) ?_
  intro p e s m below meth c A ls C hP hD hS hl
  generalize hargs : ([.ref (ht 0)] : List Value).toArray = args at C ⊢
  have C : zX p s m meth c cX5_tellUnsure 2 args RX5 none A D (zty cy) := C
  obtain ⟨hx, hb, hr, hts, hown, hlocks, hml, hA, hK⟩ := id C
  have hl : lv_has ls 2 [(0, .ref (ht 0))] := hl
  generalize hH : s.heap = H at hP ⊢
  have hS : va_S A s.heap H [] := by rw [← hH]; exact hS
  generalize ([] : List Loc) = locs at hS ⊢
  refine lv_iconst (v := (0 : Int32)) hx hb dX5_tellUnsure_0 (by decide) ?_
  refine lv_istore_n (lv' := [(1, .int (0 : Int32)), (0, .ref (ht 0))]) hx hb dX5_tellUnsure_1 rfl hl (by decide) rfl (fun ls hl => ?_)
  exact w_X5_tellUnsure_2 l ht ht_rows ht_evidence ht_tape ad St C FU St_evidence (0 : Int32) H locs ls hf hP hD hS (lv_sub hl [1, 0] rfl)
def f_X5_slotNamed (St : SRd) (x1 : Int32) : Option (Int32) :=
  (if x1 < 0 then
    some (-2 : Int32)
    else
    (if (12 : Int32) ≤ x1 then
      some (-2 : Int32)
      else
      (if zib x1 12 then some ((Rd_nameSlots St) x1.toNatClampNeg) else none)))
set_option maxHeartbeats 4000000 in
set_option maxRecDepth 100000 in
theorem c_X5_slotNamed (l : Launch) (D : va_G) (cy : Nat → ClassId) (ht : Nat → Nat) (ht_rows : Nat → Nat) (ht_evidence : Nat → Nat) (ht_tape : Nat → Nat) (ad : Nat → Nat) (St : SRd) (x1 : Int32) (r : Int32) (hf : f_X5_slotNamed St x1 = some r) : zCI l yX5_slotNamed cX5_slotNamed 2 (some FieldType.int) 0 0 D (zty cy) [.ref (ht 0), .int x1] (wRd ht (ht_rows 0) (ht_evidence 0) (ht_tape 0) ad cy St) (wRd ht (ht_rows 0) (ht_evidence 0) (ht_tape 0) ad cy St) r := by
  refine zCI_of (by decide +kernel) (Nat.le_of_ble_eq_true rfl) ?_
  intro p e s m below meth c A ls C hP hD hS hl
  generalize hargs : ([.ref (ht 0), .int x1] : List Value).toArray = args at C ⊢
  have C : zX p s m meth c cX5_slotNamed 2 args RX5 (some FieldType.int) A D (zty cy) := C
  obtain ⟨hx, hb, hr, hts, hown, hlocks, hml, hA, hK⟩ := id C
  have hl : lv_has ls 2 [(0, .ref (ht 0)), (1, .int x1)] := hl
  generalize hH : s.heap = H at hP ⊢
  have hS : va_S A s.heap H [] := by rw [← hH]; exact hS
  generalize ([] : List Loc) = locs at hS ⊢
  refine lv_iload_n hx hb dX5_slotNamed_0 rfl (lv_at hl 1 rfl) ?_
  refine z_if_lt (tgt := 19) hx hb dX5_slotNamed_1 (by decide) hf (fun hf => ?_) (fun hf => ?_)
  · refine lv_bipush (v := (-2 : Int32)) hx hb dX5_slotNamed_19 (by decide) ?_
    obtain rfl := Option.some.inj hf
    exact z_iret (v := (-2 : Int32)) C hP hD hS dX5_slotNamed_21
  · refine lv_iload_n hx hb dX5_slotNamed_4 rfl (lv_at hl 1 rfl) ?_
    refine lv_bipush (v := (12 : Int32)) hx hb dX5_slotNamed_5 (by decide) ?_
    refine z_icmp_ge (tgt := 19) hx hb dX5_slotNamed_7 (by decide) hf (fun hf => ?_) (fun hf => ?_)
    · refine lv_bipush (v := (-2 : Int32)) hx hb dX5_slotNamed_19 (by decide) ?_
      obtain rfl := Option.some.inj hf
      exact z_iret (v := (-2 : Int32)) C hP hD hS dX5_slotNamed_21
    · refine lv_aload_n hx hb dX5_slotNamed_10 rfl (lv_at hl 0 rfl) ?_
      refine va_get (D := D) (ci := 2) (v := .ref (ht 3)) (C := RX5) (T := TX5) (N := 15) hx hb hts in_X5 hown hK hP 0 rfl rfl 8 (by decide) (hts _ q1_190) (fun _ h9 => h9) rfl dX5_slotNamed_11 ?_
      refine lv_iload_n hx hb dX5_slotNamed_14 rfl (lv_at hl 1 rfl) ?_
      refine z_iald (f := (Rd_nameSlots St)) hx hb hK hP 3 0 rfl rfl dX5_slotNamed_15 hf (fun hf => ?_)
      refine lv_goto (tgt := 21) hx hb dX5_slotNamed_16 (by decide) ?_
      obtain rfl := Option.some.inj hf
      exact z_iret (v := ((Rd_nameSlots St) x1.toNatClampNeg)) C hP hD hS dX5_slotNamed_21
def b_X5_isUnsure_2 (St : SRd) (x1 : Int32) (k2 : Int32 → Option (Int32)) (v2 : Int32) : Option (Int32) :=
  (if (Rd_unsureCount St) ≤ v2 then
    some (0 : Int32)
    else
    (if (4 : Int32) ≤ v2 then
      some (0 : Int32)
      else
      (if zib v2 4 then (if ((Rd_unsureNames St) v2.toNatClampNeg) = x1 then
          some (1 : Int32)
          else
          (k2 (v2 + (1 : Int32)))) else none)))
set_option maxHeartbeats 4000000 in
set_option maxRecDepth 100000 in
theorem w_X5_isUnsure_2 {p : Program} {e : Env} {s : State} {m : MethodId} {below : List Frame} {meth : Method} {c : Code} {A : Nat → Prop} {D : va_G} {cy : Nat → ClassId} {args : Array Value} {r : Int32} (l : Launch) (ht : Nat → Nat) (ht_rows : Nat → Nat) (ht_evidence : Nat → Nat) (ht_tape : Nat → Nat) (ad : Nat → Nat) (St : SRd) (x1 : Int32) (C : zX p s m meth c cX5_isUnsure 3 args RX5 (some FieldType.boolean) A D (zty cy)) :
    ∀ (n : Nat) (v2 : Int32) (H : Heap) (locs : List Loc) (ls : Array Slot), zl1 (b_X5_isUnsure_2 St x1) n v2 = some r → va_P D vwCl (wRd ht (ht_rows 0) (ht_evidence 0) (ht_tape 0) ad cy St) H → va_D A (wRd ht (ht_rows 0) (ht_evidence 0) (ht_tape 0) ad cy St) → va_S A s.heap H locs → lv_has ls 3 [(0, .ref (ht 0)), (1, .int x1), (2, .int v2)] → W p l e (zRm 0 0) s m args below meth c H locs 0 0 (MQ below (zQI D (zty cy) A (wRd ht (ht_rows 0) (ht_evidence 0) (ht_tape 0) ad cy St) r) args s 0 0 A) (F0 m 2 ls []) := by
  obtain ⟨hx, hb, hr, hts, hown, hlocks, hml, hA, hK⟩ := id C
  intro n
  induction n with
  | zero => intro v2 H locs ls hf; exact zno hf
  | succ n ih =>
    intro v2 H locs ls hf hP hD hS hl
    have hf : b_X5_isUnsure_2 St x1 (zl1 (b_X5_isUnsure_2 St x1) n) v2 = some r := hf
    have K2 := ih
    refine lv_iload_n hx hb dX5_isUnsure_2 rfl (lv_at hl 2 rfl) ?_
    refine lv_aload_n hx hb dX5_isUnsure_3 rfl (lv_at hl 0 rfl) ?_
    refine va_get (D := D) (ci := 2) (v := .int (Rd_unsureCount St)) (C := RX5) (T := TX5) (N := 15) hx hb hts in_X5 hown hK hP 0 rfl rfl 10 (by decide) (hts _ q1_192) (fun _ h9 => h9) rfl dX5_isUnsure_4 ?_
    refine z_icmp_ge (tgt := 33) hx hb dX5_isUnsure_7 (by decide) hf (fun hf => ?_) (fun hf => ?_)
    · refine lv_iconst (v := (0 : Int32)) hx hb dX5_isUnsure_33 (by decide) ?_
      obtain rfl := Option.some.inj hf
      exact z_zret (v := (0 : Int32)) C rfl hP hD hS dX5_isUnsure_34
    · refine lv_iload_n hx hb dX5_isUnsure_10 rfl (lv_at hl 2 rfl) ?_
      refine lv_iconst (v := (4 : Int32)) hx hb dX5_isUnsure_11 (by decide) ?_
      refine z_icmp_ge (tgt := 33) hx hb dX5_isUnsure_12 (by decide) hf (fun hf => ?_) (fun hf => ?_)
      · refine lv_iconst (v := (0 : Int32)) hx hb dX5_isUnsure_33 (by decide) ?_
        obtain rfl := Option.some.inj hf
        exact z_zret (v := (0 : Int32)) C rfl hP hD hS dX5_isUnsure_34
      · refine lv_aload_n hx hb dX5_isUnsure_15 rfl (lv_at hl 0 rfl) ?_
        refine va_get (D := D) (ci := 2) (v := .ref (ht 4)) (C := RX5) (T := TX5) (N := 15) hx hb hts in_X5 hown hK hP 0 rfl rfl 9 (by decide) (hts _ q1_191) (fun _ h9 => h9) rfl dX5_isUnsure_16 ?_
        refine lv_iload_n hx hb dX5_isUnsure_19 rfl (lv_at hl 2 rfl) ?_
        refine z_iald (f := (Rd_unsureNames St)) hx hb hK hP 4 0 rfl rfl dX5_isUnsure_20 hf (fun hf => ?_)
        refine lv_iload_n hx hb dX5_isUnsure_21 rfl (lv_at hl 1 rfl) ?_
        refine z_icmp_ne (tgt := 27) hx hb dX5_isUnsure_22 (by decide) hf (fun hf => ?_) (fun hf => ?_)
        · refine lv_iinc (v := (v2 + (1 : Int32))) (lv' := [(2, .int (v2 + (1 : Int32))), (0, .ref (ht 0)), (1, .int x1)]) hx hb dX5_isUnsure_27 hl (k := 2) rfl rfl (by decide) rfl (fun ls hl => ?_)
          refine lv_goto (tgt := 2) hx hb dX5_isUnsure_30 (by decide) ?_
          exact K2 (v2 + (1 : Int32)) H locs ls hf hP hD hS (lv_sub hl [1, 2, 0] rfl)
        · refine lv_iconst (v := (1 : Int32)) hx hb dX5_isUnsure_25 (by decide) ?_
          obtain rfl := Option.some.inj hf
          exact z_zret (v := (1 : Int32)) C rfl hP hD hS dX5_isUnsure_26
def f_X5_isUnsure (St : SRd) (x1 : Int32) : Option (Int32) :=
  (zl1 (b_X5_isUnsure_2 St x1) FU (0 : Int32))
set_option maxHeartbeats 4000000 in
set_option maxRecDepth 100000 in
theorem c_X5_isUnsure (l : Launch) (D : va_G) (cy : Nat → ClassId) (ht : Nat → Nat) (ht_rows : Nat → Nat) (ht_evidence : Nat → Nat) (ht_tape : Nat → Nat) (ad : Nat → Nat) (St : SRd) (x1 : Int32) (r : Int32) (hf : f_X5_isUnsure St x1 = some r) : zCI l yX5_isUnsure cX5_isUnsure 3 (some FieldType.boolean) 0 0 D (zty cy) [.ref (ht 0), .int x1] (wRd ht (ht_rows 0) (ht_evidence 0) (ht_tape 0) ad cy St) (wRd ht (ht_rows 0) (ht_evidence 0) (ht_tape 0) ad cy St) r := by
  refine zCI_of (by decide +kernel) (Nat.le_of_ble_eq_true rfl) ?_
  intro p e s m below meth c A ls C hP hD hS hl
  generalize hargs : ([.ref (ht 0), .int x1] : List Value).toArray = args at C ⊢
  have C : zX p s m meth c cX5_isUnsure 3 args RX5 (some FieldType.boolean) A D (zty cy) := C
  obtain ⟨hx, hb, hr, hts, hown, hlocks, hml, hA, hK⟩ := id C
  have hl : lv_has ls 3 [(0, .ref (ht 0)), (1, .int x1)] := hl
  generalize hH : s.heap = H at hP ⊢
  have hS : va_S A s.heap H [] := by rw [← hH]; exact hS
  generalize ([] : List Loc) = locs at hS ⊢
  refine lv_iconst (v := (0 : Int32)) hx hb dX5_isUnsure_0 (by decide) ?_
  refine lv_istore_n (lv' := [(2, .int (0 : Int32)), (0, .ref (ht 0)), (1, .int x1)]) hx hb dX5_isUnsure_1 rfl hl (by decide) rfl (fun ls hl => ?_)
  exact w_X5_isUnsure_2 l ht ht_rows ht_evidence ht_tape ad St x1 C FU (0 : Int32) H locs ls hf hP hD hS (lv_sub hl [1, 2, 0] rfl)
def f_X5_takeWhole (St : SRd) (St_tape : STape) (x1 : Int32) (x2 : Int32) : Option (Int32 × SRd × STape) :=
  (f_X7_advance St_tape).bind (fun q1 =>
    (if (Tape_kind q1) = (2 : Int32) then
      (if (lg_cmp (Tape_value q1) (x1.toInt64)) < 0 then
        (f_X5_fail St q1 (4 : Int32)).bind (fun q2 =>
          (if zbo q2.1 then some (q2.1, q2.2, q1) else none))
        else
        (if (lg_cmp (Tape_value q1) (x2.toInt64)) ≤ 0 then
          some ((1 : Int32), (mkRd (Rd_fault St) (Rd_place St) (Rd_nameCount St) (Rd_names St) (Rd_nameStamps St) (Rd_nameSlots St) (Rd_unsureNames St) (Rd_unsureCount St) (Rd_head St) (Rd_name St) (Rd_row St) ((Tape_value q1).toInt32)), q1)
          else
          (f_X5_fail St q1 (4 : Int32)).bind (fun q3 =>
            (if zbo q3.1 then some (q3.1, q3.2, q1) else none))))
      else
      (f_X5_fail St q1 (1 : Int32)).bind (fun q4 =>
        (if zbo q4.1 then some (q4.1, q4.2, q1) else none))))
set_option maxHeartbeats 4000000 in
set_option maxRecDepth 100000 in
theorem c_X5_takeWhole (l : Launch) (D : va_G) (cy : Nat → ClassId) (ht : Nat → Nat) (ht_rows : Nat → Nat) (ht_evidence : Nat → Nat) (ht_tape : Nat → Nat) (ad : Nat → Nat) (St : SRd) (St_tape : STape) (x1 : Int32) (x2 : Int32) (r : Int32 × SRd × STape) (hf : f_X5_takeWhole St St_tape x1 x2 = some r) : zCI l yX5_takeWhole cX5_takeWhole 3 (some FieldType.boolean) 2 41 D (zty cy) [.ref (ht 0), .int x1, .int x2] (wRd ht (ht_rows 0) (ht_evidence 0) (ht_tape 0) ad cy St ++ (wTape ht_tape cy St_tape)) (wRd ht (ht_rows 0) (ht_evidence 0) (ht_tape 0) ad cy r.2.1 ++ (wTape ht_tape cy r.2.2)) r.1 := by
  refine zCI_of (by decide +kernel) (Nat.le_of_ble_eq_true rfl) ?_
  intro p e s m below meth c A ls C hP hD hS hl
  generalize hargs : ([.ref (ht 0), .int x1, .int x2] : List Value).toArray = args at C ⊢
  have C : zX p s m meth c cX5_takeWhole 3 args RX5 (some FieldType.boolean) A D (zty cy) := C
  obtain ⟨hx, hb, hr, hts, hown, hlocks, hml, hA, hK⟩ := id C
  have hl : lv_has ls 3 [(0, .ref (ht 0)), (1, .int x1), (2, .int x2)] := hl
  generalize hH : s.heap = H at hP ⊢
  have hS : va_S A s.heap H [] := by rw [← hH]; exact hS
  generalize ([] : List Loc) = locs at hS ⊢
  refine lv_aload_n hx hb dX5_takeWhole_0 rfl (lv_at hl 0 rfl) ?_
  refine va_get (D := D) (ci := 2) (v := .ref (ht_tape 0)) (C := RX5) (T := TX5) (N := 15) hx hb hts in_X5 hown hK hP 0 rfl rfl 4 (by decide) (hts _ q1_185) (fun _ h9 => h9) rfl dX5_takeWhole_1 ?_
  obtain ⟨q1, hc, hf⟩ := zbd hf
  refine z_cVv (As := []) (rest := []) C (c_X7_advance l D cy ht_tape St_tape q1 hc) gV_X5_X7_advance hd_X7_advance ⟨Nat.le_of_ble_eq_true rfl, Nat.le_of_ble_eq_true rfl⟩ ⟨Nat.le_refl _, Nat.le_refl _⟩ (va_recv hK hP (ci := 4) (q0 := 5) rfl rfl) hP hD hS (w2 := wRd ht (ht_rows 0) (ht_evidence 0) (ht_tape 0) ad cy St ++ (wTape ht_tape cy q1)) [5, 6] [0, 1, 2, 3, 4] [0, 1, 2, 3, 4, 5, 6] rfl rfl rfl rfl rfl rfl (by decide) hl.1 (Nat.le_of_ble_eq_true rfl) dX5_takeWhole_4 (fun H locs hP hD hS => ?_)
  refine lv_aload_n hx hb dX5_takeWhole_7 rfl (lv_at hl 0 rfl) ?_
  refine va_get (D := D) (ci := 2) (v := .ref (ht_tape 0)) (C := RX5) (T := TX5) (N := 15) hx hb hts in_X5 hown hK hP 0 rfl rfl 4 (by decide) (hts _ q1_185) (fun _ h9 => h9) rfl dX5_takeWhole_8 ?_
  refine va_get (D := D) (ci := 4) (v := .int (Tape_kind q1)) (C := RX7) (T := TX7) (N := 7) hx hb hts in_X7 hown hK hP 5 rfl rfl 1 (by decide) (hts _ q1_152) (fun _ h9 => h9) rfl dX5_takeWhole_11 ?_
  refine lv_iconst (v := (2 : Int32)) hx hb dX5_takeWhole_14 (by decide) ?_
  refine z_icmp_eq (tgt := 24) hx hb dX5_takeWhole_15 (by decide) hf (fun hf => ?_) (fun hf => ?_)
  · refine lv_aload_n hx hb dX5_takeWhole_24 rfl (lv_at hl 0 rfl) ?_
    refine va_get (D := D) (ci := 2) (v := .ref (ht_tape 0)) (C := RX5) (T := TX5) (N := 15) hx hb hts in_X5 hown hK hP 0 rfl rfl 4 (by decide) (hts _ q1_185) (fun _ h9 => h9) rfl dX5_takeWhole_25 ?_
    refine va_get (D := D) (ci := 4) (v := .long (Tape_value q1)) (C := RX7) (T := TX7) (N := 7) hx hb hts in_X7 hown hK hP 5 rfl rfl 3 (by decide) (hts _ q1_157) (fun _ h9 => h9) rfl dX5_takeWhole_28 ?_
    refine lv_iload_n hx hb dX5_takeWhole_31 rfl (lv_at hl 1 rfl) ?_
    refine lv_i2l (v := x1.toInt64) hx hb dX5_takeWhole_32 rfl ?_
    refine W.lcmp hx hb dX5_takeWhole_33 ?_
    refine z_if_lt (tgt := 50) hx hb dX5_takeWhole_34 (by decide) hf (fun hf => ?_) (fun hf => ?_)
    · refine lv_aload_n hx hb dX5_takeWhole_50 rfl (lv_at hl 0 rfl) ?_
      refine lv_iconst (v := (4 : Int32)) hx hb dX5_takeWhole_51 (by decide) ?_
      obtain ⟨q2, hc, hf⟩ := zbd hf
      refine z_cVi0 (As := [.int (4 : Int32)]) (rest := []) C (c_X5_fail l D cy ht ht_rows ht_evidence ht_tape ad St q1 (4 : Int32) q2 hc) gV_X5_X5_fail hd_X5_fail ⟨Nat.le_of_ble_eq_true rfl, Nat.le_of_ble_eq_true rfl⟩ ⟨Nat.le_refl _, Nat.le_refl _⟩ (va_recv hK hP (ci := 2) (q0 := 0) rfl rfl) hP hD hS hl.1 (Nat.le_of_ble_eq_true rfl) dX5_takeWhole_52 (fun H locs hP hD hS => ?_)
      have hP : va_P D vwCl (wRd ht (ht_rows 0) (ht_evidence 0) (ht_tape 0) ad cy q2.2 ++ (wTape ht_tape cy q1)) H := hP
      have hD : va_D A (wRd ht (ht_rows 0) (ht_evidence 0) (ht_tape 0) ad cy q2.2 ++ (wTape ht_tape cy q1)) := hD
      obtain ⟨hz, hf⟩ := zgd hf
      obtain rfl := Option.some.inj hf
      exact z_zret (v := q2.1) C (zbo_n hz) hP hD hS dX5_takeWhole_55
    · refine lv_aload_n hx hb dX5_takeWhole_37 rfl (lv_at hl 0 rfl) ?_
      refine va_get (D := D) (ci := 2) (v := .ref (ht_tape 0)) (C := RX5) (T := TX5) (N := 15) hx hb hts in_X5 hown hK hP 0 rfl rfl 4 (by decide) (hts _ q1_185) (fun _ h9 => h9) rfl dX5_takeWhole_38 ?_
      refine va_get (D := D) (ci := 4) (v := .long (Tape_value q1)) (C := RX7) (T := TX7) (N := 7) hx hb hts in_X7 hown hK hP 5 rfl rfl 3 (by decide) (hts _ q1_157) (fun _ h9 => h9) rfl dX5_takeWhole_41 ?_
      refine lv_iload_n hx hb dX5_takeWhole_44 rfl (lv_at hl 2 rfl) ?_
      refine lv_i2l (v := x2.toInt64) hx hb dX5_takeWhole_45 rfl ?_
      refine W.lcmp hx hb dX5_takeWhole_46 ?_
      refine z_if_le (tgt := 56) hx hb dX5_takeWhole_47 (by decide) hf (fun hf => ?_) (fun hf => ?_)
      · refine lv_aload_n hx hb dX5_takeWhole_56 rfl (lv_at hl 0 rfl) ?_
        refine lv_aload_n hx hb dX5_takeWhole_57 rfl (lv_at hl 0 rfl) ?_
        refine va_get (D := D) (ci := 2) (v := .ref (ht_tape 0)) (C := RX5) (T := TX5) (N := 15) hx hb hts in_X5 hown hK hP 0 rfl rfl 4 (by decide) (hts _ q1_185) (fun _ h9 => h9) rfl dX5_takeWhole_58 ?_
        refine va_get (D := D) (ci := 4) (v := .long (Tape_value q1)) (C := RX7) (T := TX7) (N := 7) hx hb hts in_X7 hown hK hP 5 rfl rfl 3 (by decide) (hts _ q1_157) (fun _ h9 => h9) rfl dX5_takeWhole_61 ?_
        refine lv_l2i (v := (Tape_value q1).toInt32) hx hb dX5_takeWhole_64 rfl ?_
        refine z_put (w2 := vRd ht (ht_rows 0) (ht_evidence 0) (ht_tape 0) ad cy (Rd_fault St) (Rd_place St) (Rd_nameCount St) (Rd_names St) (Rd_nameStamps St) (Rd_nameSlots St) (Rd_unsureNames St) (Rd_unsureCount St) (Rd_head St) (Rd_name St) (Rd_row St) ((Tape_value q1).toInt32) ++ (wTape ht_tape cy q1)) hx hb hts in_X5 tyX5 tyX5_ok nmX5 hown hK hP hD hS 0 rfl rfl 14 (by decide) (hts _ q1_196) (fun _ h9 => h9) rfl rfl rfl (Nat.le_of_ble_eq_true rfl) dX5_takeWhole_65 rfl (fun H locs hP hD hS => ?_)
        refine lv_iconst (v := (1 : Int32)) hx hb dX5_takeWhole_68 (by decide) ?_
        obtain rfl := Option.some.inj hf
        rw [← wRd_mk ht] at hP hD
        exact z_zret (v := (1 : Int32)) C rfl hP hD hS dX5_takeWhole_69
      · refine lv_aload_n hx hb dX5_takeWhole_50 rfl (lv_at hl 0 rfl) ?_
        refine lv_iconst (v := (4 : Int32)) hx hb dX5_takeWhole_51 (by decide) ?_
        obtain ⟨q3, hc, hf⟩ := zbd hf
        refine z_cVi0 (As := [.int (4 : Int32)]) (rest := []) C (c_X5_fail l D cy ht ht_rows ht_evidence ht_tape ad St q1 (4 : Int32) q3 hc) gV_X5_X5_fail hd_X5_fail ⟨Nat.le_of_ble_eq_true rfl, Nat.le_of_ble_eq_true rfl⟩ ⟨Nat.le_refl _, Nat.le_refl _⟩ (va_recv hK hP (ci := 2) (q0 := 0) rfl rfl) hP hD hS hl.1 (Nat.le_of_ble_eq_true rfl) dX5_takeWhole_52 (fun H locs hP hD hS => ?_)
        have hP : va_P D vwCl (wRd ht (ht_rows 0) (ht_evidence 0) (ht_tape 0) ad cy q3.2 ++ (wTape ht_tape cy q1)) H := hP
        have hD : va_D A (wRd ht (ht_rows 0) (ht_evidence 0) (ht_tape 0) ad cy q3.2 ++ (wTape ht_tape cy q1)) := hD
        obtain ⟨hz, hf⟩ := zgd hf
        obtain rfl := Option.some.inj hf
        exact z_zret (v := q3.1) C (zbo_n hz) hP hD hS dX5_takeWhole_55
  · refine lv_aload_n hx hb dX5_takeWhole_18 rfl (lv_at hl 0 rfl) ?_
    refine lv_iconst (v := (1 : Int32)) hx hb dX5_takeWhole_19 (by decide) ?_
    obtain ⟨q4, hc, hf⟩ := zbd hf
    refine z_cVi0 (As := [.int (1 : Int32)]) (rest := []) C (c_X5_fail l D cy ht ht_rows ht_evidence ht_tape ad St q1 (1 : Int32) q4 hc) gV_X5_X5_fail hd_X5_fail ⟨Nat.le_of_ble_eq_true rfl, Nat.le_of_ble_eq_true rfl⟩ ⟨Nat.le_refl _, Nat.le_refl _⟩ (va_recv hK hP (ci := 2) (q0 := 0) rfl rfl) hP hD hS hl.1 (Nat.le_of_ble_eq_true rfl) dX5_takeWhole_20 (fun H locs hP hD hS => ?_)
    have hP : va_P D vwCl (wRd ht (ht_rows 0) (ht_evidence 0) (ht_tape 0) ad cy q4.2 ++ (wTape ht_tape cy q1)) H := hP
    have hD : va_D A (wRd ht (ht_rows 0) (ht_evidence 0) (ht_tape 0) ad cy q4.2 ++ (wTape ht_tape cy q1)) := hD
    obtain ⟨hz, hf⟩ := zgd hf
    obtain rfl := Option.some.inj hf
    exact z_zret (v := q4.1) C (zbo_n hz) hP hD hS dX5_takeWhole_23
def f_X5_takeRow (St : SRd) (St_rows : SRows) (St_tape : STape) : Option (Int32 × SRd × STape) :=
  (f_X5_takeWhole St St_tape (0 : Int32) ((Rows_rowCount St_rows) - (1 : Int32))).bind (fun q1 =>
    (if zbo q1.1 then some (q1.1, (mkRd (Rd_fault q1.2.1) (Rd_place q1.2.1) (Rd_nameCount q1.2.1) (Rd_names q1.2.1) (Rd_nameStamps q1.2.1) (Rd_nameSlots q1.2.1) (Rd_unsureNames q1.2.1) (Rd_unsureCount q1.2.1) (Rd_head q1.2.1) (Rd_name q1.2.1) (Rd_whole q1.2.1) (Rd_whole q1.2.1)), q1.2.2) else none))
set_option maxHeartbeats 4000000 in
set_option maxRecDepth 100000 in
theorem c_X5_takeRow (l : Launch) (D : va_G) (cy : Nat → ClassId) (ht : Nat → Nat) (ht_rows : Nat → Nat) (ht_evidence : Nat → Nat) (ht_tape : Nat → Nat) (ad : Nat → Nat) (St : SRd) (St_rows : SRows) (St_tape : STape) (r : Int32 × SRd × STape) (hf : f_X5_takeRow St St_rows St_tape = some r) : zCI l yX5_takeRow cX5_takeRow 2 (some FieldType.boolean) 3 63 D (zty cy) [.ref (ht 0)] (wRd ht (ht_rows 0) (ht_evidence 0) (ht_tape 0) ad cy St ++ (wRows ht_rows cy St_rows ++ (wTape ht_tape cy St_tape))) (wRd ht (ht_rows 0) (ht_evidence 0) (ht_tape 0) ad cy r.2.1 ++ (wRows ht_rows cy St_rows ++ (wTape ht_tape cy r.2.2))) r.1 := by
  refine zCI_of (by decide +kernel) (Nat.le_of_ble_eq_true rfl) ?_
  intro p e s m below meth c A ls C hP hD hS hl
  generalize hargs : ([.ref (ht 0)] : List Value).toArray = args at C ⊢
  have C : zX p s m meth c cX5_takeRow 2 args RX5 (some FieldType.boolean) A D (zty cy) := C
  obtain ⟨hx, hb, hr, hts, hown, hlocks, hml, hA, hK⟩ := id C
  have hl : lv_has ls 2 [(0, .ref (ht 0))] := hl
  generalize hH : s.heap = H at hP ⊢
  have hS : va_S A s.heap H [] := by rw [← hH]; exact hS
  generalize ([] : List Loc) = locs at hS ⊢
  refine lv_aload_n hx hb dX5_takeRow_0 rfl (lv_at hl 0 rfl) ?_
  refine lv_iconst (v := (0 : Int32)) hx hb dX5_takeRow_1 (by decide) ?_
  refine lv_aload_n hx hb dX5_takeRow_2 rfl (lv_at hl 0 rfl) ?_
  refine va_get (D := D) (ci := 2) (v := .ref (ht_rows 0)) (C := RX5) (T := TX5) (N := 15) hx hb hts in_X5 hown hK hP 0 rfl rfl 2 (by decide) (hts _ q1_181) (fun _ h9 => h9) rfl dX5_takeRow_3 ?_
  refine va_get (D := D) (ci := 3) (v := .int (Rows_rowCount St_rows)) (C := RX6) (T := TX6) (N := 16) hx hb hts in_X6 hown hK hP 5 rfl rfl 1 (by decide) (hts _ q1_53) (fun _ h9 => h9) rfl dX5_takeRow_6 ?_
  refine lv_iconst (v := (1 : Int32)) hx hb dX5_takeRow_9 (by decide) ?_
  refine lv_isub hx hb dX5_takeRow_10 ?_
  obtain ⟨q1, hc, hf⟩ := zbd hf
  refine z_cVi (As := [.int (0 : Int32), .int ((Rows_rowCount St_rows) - (1 : Int32))]) (rest := []) C (c_X5_takeWhole l D cy ht ht_rows ht_evidence ht_tape ad St St_tape (0 : Int32) ((Rows_rowCount St_rows) - (1 : Int32)) q1 hc) gV_X5_X5_takeWhole hd_X5_takeWhole ⟨Nat.le_of_ble_eq_true rfl, Nat.le_of_ble_eq_true rfl⟩ ⟨Nat.le_refl _, Nat.le_refl _⟩ (va_recv hK hP (ci := 2) (q0 := 0) rfl rfl) hP hD hS (w2 := wRd ht (ht_rows 0) (ht_evidence 0) (ht_tape 0) ad cy q1.2.1 ++ (wRows ht_rows cy St_rows ++ (wTape ht_tape cy q1.2.2))) [0, 1, 2, 3, 4, 13, 14] [5, 6, 7, 8, 9, 10, 11, 12] [8, 9, 10, 11, 12, 0, 1, 2, 3, 4, 5, 6, 7, 13, 14] rfl rfl rfl rfl rfl rfl (by decide) hl.1 (Nat.le_of_ble_eq_true rfl) dX5_takeRow_11 (fun H locs hP hD hS => ?_)
  refine lv_istore_n (lv' := [(1, .int q1.1), (0, .ref (ht 0))]) hx hb dX5_takeRow_14 rfl hl (by decide) rfl (fun ls hl => ?_)
  refine lv_aload_n hx hb dX5_takeRow_15 rfl (lv_at hl 1 rfl) ?_
  refine lv_aload_n hx hb dX5_takeRow_16 rfl (lv_at hl 1 rfl) ?_
  refine va_get (D := D) (ci := 2) (v := .int (Rd_whole q1.2.1)) (C := RX5) (T := TX5) (N := 15) hx hb hts in_X5 hown hK hP 0 rfl rfl 14 (by decide) (hts _ q1_196) (fun _ h9 => h9) rfl dX5_takeRow_17 ?_
  refine z_put (w2 := vRd ht (ht_rows 0) (ht_evidence 0) (ht_tape 0) ad cy (Rd_fault q1.2.1) (Rd_place q1.2.1) (Rd_nameCount q1.2.1) (Rd_names q1.2.1) (Rd_nameStamps q1.2.1) (Rd_nameSlots q1.2.1) (Rd_unsureNames q1.2.1) (Rd_unsureCount q1.2.1) (Rd_head q1.2.1) (Rd_name q1.2.1) (Rd_whole q1.2.1) (Rd_whole q1.2.1) ++ (wRows ht_rows cy St_rows ++ (wTape ht_tape cy q1.2.2))) hx hb hts in_X5 tyX5 tyX5_ok nmX5 hown hK hP hD hS 0 rfl rfl 13 (by decide) (hts _ q1_195) (fun _ h9 => h9) rfl rfl rfl (Nat.le_of_ble_eq_true rfl) dX5_takeRow_20 rfl (fun H locs hP hD hS => ?_)
  refine lv_iload_n hx hb dX5_takeRow_23 rfl (lv_at hl 0 rfl) ?_
  obtain ⟨hz, hf⟩ := zgd hf
  obtain rfl := Option.some.inj hf
  rw [← wRd_mk ht] at hP hD
  exact z_zret (v := q1.1) C (zbo_n hz) hP hD hS dX5_takeRow_24
def f_X5_takeLineEnd (St : SRd) (St_tape : STape) : Option (Int32 × SRd × STape) :=
  (f_X7_advance St_tape).bind (fun q1 =>
    (if (Tape_kind q1) = (3 : Int32) then
      some ((1 : Int32), St, q1)
      else
      (if (Tape_kind q1) = 0 then
        some ((1 : Int32), St, q1)
        else
        (f_X5_fail St q1 (1 : Int32)).bind (fun q2 =>
          (if q2.1 = 0 then
            some ((0 : Int32), q2.2, q1)
            else
            some ((1 : Int32), q2.2, q1))))))
set_option maxHeartbeats 4000000 in
set_option maxRecDepth 100000 in
theorem c_X5_takeLineEnd (l : Launch) (D : va_G) (cy : Nat → ClassId) (ht : Nat → Nat) (ht_rows : Nat → Nat) (ht_evidence : Nat → Nat) (ht_tape : Nat → Nat) (ad : Nat → Nat) (St : SRd) (St_tape : STape) (r : Int32 × SRd × STape) (hf : f_X5_takeLineEnd St St_tape = some r) : zCI l yX5_takeLineEnd cX5_takeLineEnd 1 (some FieldType.boolean) 2 41 D (zty cy) [.ref (ht 0)] (wRd ht (ht_rows 0) (ht_evidence 0) (ht_tape 0) ad cy St ++ (wTape ht_tape cy St_tape)) (wRd ht (ht_rows 0) (ht_evidence 0) (ht_tape 0) ad cy r.2.1 ++ (wTape ht_tape cy r.2.2)) r.1 := by
  refine zCI_of (by decide +kernel) (Nat.le_of_ble_eq_true rfl) ?_
  intro p e s m below meth c A ls C hP hD hS hl
  generalize hargs : ([.ref (ht 0)] : List Value).toArray = args at C ⊢
  have C : zX p s m meth c cX5_takeLineEnd 1 args RX5 (some FieldType.boolean) A D (zty cy) := C
  obtain ⟨hx, hb, hr, hts, hown, hlocks, hml, hA, hK⟩ := id C
  have hl : lv_has ls 1 [(0, .ref (ht 0))] := hl
  generalize hH : s.heap = H at hP ⊢
  have hS : va_S A s.heap H [] := by rw [← hH]; exact hS
  generalize ([] : List Loc) = locs at hS ⊢
  refine lv_aload_n hx hb dX5_takeLineEnd_0 rfl (lv_at hl 0 rfl) ?_
  refine va_get (D := D) (ci := 2) (v := .ref (ht_tape 0)) (C := RX5) (T := TX5) (N := 15) hx hb hts in_X5 hown hK hP 0 rfl rfl 4 (by decide) (hts _ q1_185) (fun _ h9 => h9) rfl dX5_takeLineEnd_1 ?_
  obtain ⟨q1, hc, hf⟩ := zbd hf
  refine z_cVv (As := []) (rest := []) C (c_X7_advance l D cy ht_tape St_tape q1 hc) gV_X5_X7_advance hd_X7_advance ⟨Nat.le_of_ble_eq_true rfl, Nat.le_of_ble_eq_true rfl⟩ ⟨Nat.le_refl _, Nat.le_refl _⟩ (va_recv hK hP (ci := 4) (q0 := 5) rfl rfl) hP hD hS (w2 := wRd ht (ht_rows 0) (ht_evidence 0) (ht_tape 0) ad cy St ++ (wTape ht_tape cy q1)) [5, 6] [0, 1, 2, 3, 4] [0, 1, 2, 3, 4, 5, 6] rfl rfl rfl rfl rfl rfl (by decide) hl.1 (Nat.le_of_ble_eq_true rfl) dX5_takeLineEnd_4 (fun H locs hP hD hS => ?_)
  refine lv_aload_n hx hb dX5_takeLineEnd_7 rfl (lv_at hl 0 rfl) ?_
  refine va_get (D := D) (ci := 2) (v := .ref (ht_tape 0)) (C := RX5) (T := TX5) (N := 15) hx hb hts in_X5 hown hK hP 0 rfl rfl 4 (by decide) (hts _ q1_185) (fun _ h9 => h9) rfl dX5_takeLineEnd_8 ?_
  refine va_get (D := D) (ci := 4) (v := .int (Tape_kind q1)) (C := RX7) (T := TX7) (N := 7) hx hb hts in_X7 hown hK hP 5 rfl rfl 1 (by decide) (hts _ q1_152) (fun _ h9 => h9) rfl dX5_takeLineEnd_11 ?_
  refine lv_iconst (v := (3 : Int32)) hx hb dX5_takeLineEnd_14 (by decide) ?_
  refine z_icmp_eq (tgt := 36) hx hb dX5_takeLineEnd_15 (by decide) hf (fun hf => ?_) (fun hf => ?_)
  · refine lv_iconst (v := (1 : Int32)) hx hb dX5_takeLineEnd_36 (by decide) ?_
    refine lv_goto (tgt := 41) hx hb dX5_takeLineEnd_37 (by decide) ?_
    obtain rfl := Option.some.inj hf
    exact z_zret (v := (1 : Int32)) C rfl hP hD hS dX5_takeLineEnd_41
  · refine lv_aload_n hx hb dX5_takeLineEnd_18 rfl (lv_at hl 0 rfl) ?_
    refine va_get (D := D) (ci := 2) (v := .ref (ht_tape 0)) (C := RX5) (T := TX5) (N := 15) hx hb hts in_X5 hown hK hP 0 rfl rfl 4 (by decide) (hts _ q1_185) (fun _ h9 => h9) rfl dX5_takeLineEnd_19 ?_
    refine va_get (D := D) (ci := 4) (v := .int (Tape_kind q1)) (C := RX7) (T := TX7) (N := 7) hx hb hts in_X7 hown hK hP 5 rfl rfl 1 (by decide) (hts _ q1_152) (fun _ h9 => h9) rfl dX5_takeLineEnd_22 ?_
    refine z_if_eq (tgt := 36) hx hb dX5_takeLineEnd_25 (by decide) hf (fun hf => ?_) (fun hf => ?_)
    · refine lv_iconst (v := (1 : Int32)) hx hb dX5_takeLineEnd_36 (by decide) ?_
      refine lv_goto (tgt := 41) hx hb dX5_takeLineEnd_37 (by decide) ?_
      obtain rfl := Option.some.inj hf
      exact z_zret (v := (1 : Int32)) C rfl hP hD hS dX5_takeLineEnd_41
    · refine lv_aload_n hx hb dX5_takeLineEnd_28 rfl (lv_at hl 0 rfl) ?_
      refine lv_iconst (v := (1 : Int32)) hx hb dX5_takeLineEnd_29 (by decide) ?_
      obtain ⟨q2, hc, hf⟩ := zbd hf
      refine z_cVi0 (As := [.int (1 : Int32)]) (rest := []) C (c_X5_fail l D cy ht ht_rows ht_evidence ht_tape ad St q1 (1 : Int32) q2 hc) gV_X5_X5_fail hd_X5_fail ⟨Nat.le_of_ble_eq_true rfl, Nat.le_of_ble_eq_true rfl⟩ ⟨Nat.le_refl _, Nat.le_refl _⟩ (va_recv hK hP (ci := 2) (q0 := 0) rfl rfl) hP hD hS hl.1 (Nat.le_of_ble_eq_true rfl) dX5_takeLineEnd_30 (fun H locs hP hD hS => ?_)
      have hP : va_P D vwCl (wRd ht (ht_rows 0) (ht_evidence 0) (ht_tape 0) ad cy q2.2 ++ (wTape ht_tape cy q1)) H := hP
      have hD : va_D A (wRd ht (ht_rows 0) (ht_evidence 0) (ht_tape 0) ad cy q2.2 ++ (wTape ht_tape cy q1)) := hD
      refine z_if_eq (tgt := 40) hx hb dX5_takeLineEnd_33 (by decide) hf (fun hf => ?_) (fun hf => ?_)
      · refine lv_iconst (v := (0 : Int32)) hx hb dX5_takeLineEnd_40 (by decide) ?_
        obtain rfl := Option.some.inj hf
        exact z_zret (v := (0 : Int32)) C rfl hP hD hS dX5_takeLineEnd_41
      · refine lv_iconst (v := (1 : Int32)) hx hb dX5_takeLineEnd_36 (by decide) ?_
        refine lv_goto (tgt := 41) hx hb dX5_takeLineEnd_37 (by decide) ?_
        obtain rfl := Option.some.inj hf
        exact z_zret (v := (1 : Int32)) C rfl hP hD hS dX5_takeLineEnd_41
def f_X5_addWriter (St : SRd) (St_rows : SRows) : Option (Int32 × SRd × SRows) :=
  (if (Rd_nameCount St) < (12 : Int32) then
    (if zib (Rd_nameCount St) 12 then (f_X6_beginWriter St_rows).bind (fun q1 =>
        (if zib (Rd_nameCount St) 12 then some ((1 : Int32), (mkRd (Rd_fault St) (Rd_place St) ((Rd_nameCount St) + (1 : Int32)) (Rd_names St) (upd (Rd_nameStamps St) (Rd_nameCount St).toNatClampNeg (Rows_nextStamp St_rows)) (upd (Rd_nameSlots St) (Rd_nameCount St).toNatClampNeg q1.1) (Rd_unsureNames St) (Rd_unsureCount St) (Rd_head St) (Rd_name St) (Rd_row St) (Rd_whole St)), q1.2) else none)) else none)
    else
    some ((0 : Int32), St, St_rows))
set_option maxHeartbeats 4000000 in
set_option maxRecDepth 100000 in
theorem c_X5_addWriter (l : Launch) (D : va_G) (cy : Nat → ClassId) (ht : Nat → Nat) (ht_rows : Nat → Nat) (ht_evidence : Nat → Nat) (ht_tape : Nat → Nat) (ad : Nat → Nat) (St : SRd) (St_rows : SRows) (r : Int32 × SRd × SRows) (hf : f_X5_addWriter St St_rows = some r) : zCI l yX5_addWriter cX5_addWriter 1 (some FieldType.boolean) 2 44 D (zty cy) [.ref (ht 0)] (wRd ht (ht_rows 0) (ht_evidence 0) (ht_tape 0) ad cy St ++ (wRows ht_rows cy St_rows)) (wRd ht (ht_rows 0) (ht_evidence 0) (ht_tape 0) ad cy r.2.1 ++ (wRows ht_rows cy r.2.2)) r.1 := by
  refine zCI_of (by decide +kernel) (Nat.le_of_ble_eq_true rfl) ?_
  intro p e s m below meth c A ls C hP hD hS hl
  generalize hargs : ([.ref (ht 0)] : List Value).toArray = args at C ⊢
  have C : zX p s m meth c cX5_addWriter 1 args RX5 (some FieldType.boolean) A D (zty cy) := C
  obtain ⟨hx, hb, hr, hts, hown, hlocks, hml, hA, hK⟩ := id C
  have hl : lv_has ls 1 [(0, .ref (ht 0))] := hl
  generalize hH : s.heap = H at hP ⊢
  have hS : va_S A s.heap H [] := by rw [← hH]; exact hS
  generalize ([] : List Loc) = locs at hS ⊢
  refine lv_aload_n hx hb dX5_addWriter_0 rfl (lv_at hl 0 rfl) ?_
  refine va_get (D := D) (ci := 2) (v := .int (Rd_nameCount St)) (C := RX5) (T := TX5) (N := 15) hx hb hts in_X5 hown hK hP 0 rfl rfl 5 (by decide) (hts _ q1_187) (fun _ h9 => h9) rfl dX5_addWriter_1 ?_
  refine lv_bipush (v := (12 : Int32)) hx hb dX5_addWriter_4 (by decide) ?_
  refine z_icmp_lt (tgt := 11) hx hb dX5_addWriter_6 (by decide) hf (fun hf => ?_) (fun hf => ?_)
  · refine lv_aload_n hx hb dX5_addWriter_11 rfl (lv_at hl 0 rfl) ?_
    refine va_get (D := D) (ci := 2) (v := .ref (ht 2)) (C := RX5) (T := TX5) (N := 15) hx hb hts in_X5 hown hK hP 0 rfl rfl 7 (by decide) (hts _ q1_189) (fun _ h9 => h9) rfl dX5_addWriter_12 ?_
    refine lv_aload_n hx hb dX5_addWriter_15 rfl (lv_at hl 0 rfl) ?_
    refine va_get (D := D) (ci := 2) (v := .int (Rd_nameCount St)) (C := RX5) (T := TX5) (N := 15) hx hb hts in_X5 hown hK hP 0 rfl rfl 5 (by decide) (hts _ q1_187) (fun _ h9 => h9) rfl dX5_addWriter_16 ?_
    refine lv_aload_n hx hb dX5_addWriter_19 rfl (lv_at hl 0 rfl) ?_
    refine va_get (D := D) (ci := 2) (v := .ref (ht_rows 0)) (C := RX5) (T := TX5) (N := 15) hx hb hts in_X5 hown hK hP 0 rfl rfl 2 (by decide) (hts _ q1_181) (fun _ h9 => h9) rfl dX5_addWriter_20 ?_
    refine va_get (D := D) (ci := 3) (v := .int (Rows_nextStamp St_rows)) (C := RX6) (T := TX6) (N := 16) hx hb hts in_X6 hown hK hP 5 rfl rfl 3 (by decide) (hts _ q1_60) (fun _ h9 => h9) rfl dX5_addWriter_23 ?_
    refine z_iast (f := (Rd_nameStamps St)) (w2 := vRd ht (ht_rows 0) (ht_evidence 0) (ht_tape 0) ad cy (Rd_fault St) (Rd_place St) (Rd_nameCount St) (Rd_names St) (upd (Rd_nameStamps St) (Rd_nameCount St).toNatClampNeg (Rows_nextStamp St_rows)) (Rd_nameSlots St) (Rd_unsureNames St) (Rd_unsureCount St) (Rd_head St) (Rd_name St) (Rd_row St) (Rd_whole St) ++ (wRows ht_rows cy St_rows)) hx hb hK hP hD hS 2 0 rfl rfl dX5_addWriter_26 hf rfl (fun hf H locs hP hD hS => ?_)
    refine lv_aload_n hx hb dX5_addWriter_27 rfl (lv_at hl 0 rfl) ?_
    refine va_get (D := D) (ci := 2) (v := .ref (ht 3)) (C := RX5) (T := TX5) (N := 15) hx hb hts in_X5 hown hK hP 0 rfl rfl 8 (by decide) (hts _ q1_190) (fun _ h9 => h9) rfl dX5_addWriter_28 ?_
    refine lv_aload_n hx hb dX5_addWriter_31 rfl (lv_at hl 0 rfl) ?_
    refine va_get (D := D) (ci := 2) (v := .int (Rd_nameCount St)) (C := RX5) (T := TX5) (N := 15) hx hb hts in_X5 hown hK hP 0 rfl rfl 5 (by decide) (hts _ q1_187) (fun _ h9 => h9) rfl dX5_addWriter_32 ?_
    refine lv_aload_n hx hb dX5_addWriter_35 rfl (lv_at hl 0 rfl) ?_
    refine va_get (D := D) (ci := 2) (v := .ref (ht_rows 0)) (C := RX5) (T := TX5) (N := 15) hx hb hts in_X5 hown hK hP 0 rfl rfl 2 (by decide) (hts _ q1_181) (fun _ h9 => h9) rfl dX5_addWriter_36 ?_
    obtain ⟨q1, hc, hf⟩ := zbd hf
    refine z_cVi (As := []) (rest := [.int (Rd_nameCount St), .ref (ht 3)]) C (c_X6_beginWriter l D cy ht_rows St_rows q1 hc) gV_X5_X6_beginWriter hd_X6_beginWriter ⟨Nat.le_of_ble_eq_true rfl, Nat.le_of_ble_eq_true rfl⟩ ⟨Nat.le_refl _, Nat.le_refl _⟩ (va_recv hK hP (ci := 3) (q0 := 5) rfl rfl) hP hD hS (w2 := vRd ht (ht_rows 0) (ht_evidence 0) (ht_tape 0) ad cy (Rd_fault St) (Rd_place St) (Rd_nameCount St) (Rd_names St) (upd (Rd_nameStamps St) (Rd_nameCount St).toNatClampNeg (Rows_nextStamp St_rows)) (Rd_nameSlots St) (Rd_unsureNames St) (Rd_unsureCount St) (Rd_head St) (Rd_name St) (Rd_row St) (Rd_whole St) ++ (wRows ht_rows cy q1.2)) [5, 6, 7, 8, 9, 10, 11, 12] [0, 1, 2, 3, 4] [0, 1, 2, 3, 4, 5, 6, 7, 8, 9, 10, 11, 12] rfl rfl rfl rfl rfl rfl (by decide) hl.1 (Nat.le_of_ble_eq_true rfl) dX5_addWriter_39 (fun H locs hP hD hS => ?_)
    refine z_iast (f := (Rd_nameSlots St)) (w2 := vRd ht (ht_rows 0) (ht_evidence 0) (ht_tape 0) ad cy (Rd_fault St) (Rd_place St) (Rd_nameCount St) (Rd_names St) (upd (Rd_nameStamps St) (Rd_nameCount St).toNatClampNeg (Rows_nextStamp St_rows)) (upd (Rd_nameSlots St) (Rd_nameCount St).toNatClampNeg q1.1) (Rd_unsureNames St) (Rd_unsureCount St) (Rd_head St) (Rd_name St) (Rd_row St) (Rd_whole St) ++ (wRows ht_rows cy q1.2)) hx hb hK hP hD hS 3 0 rfl rfl dX5_addWriter_42 hf rfl (fun hf H locs hP hD hS => ?_)
    refine lv_aload_n hx hb dX5_addWriter_43 rfl (lv_at hl 0 rfl) ?_
    refine lv_dup hx hb dX5_addWriter_44 rfl ?_
    refine va_get (D := D) (ci := 2) (v := .int (Rd_nameCount St)) (C := RX5) (T := TX5) (N := 15) hx hb hts in_X5 hown hK hP 0 rfl rfl 5 (by decide) (hts _ q1_187) (fun _ h9 => h9) rfl dX5_addWriter_45 ?_
    refine lv_iconst (v := (1 : Int32)) hx hb dX5_addWriter_48 (by decide) ?_
    refine lv_iadd hx hb dX5_addWriter_49 ?_
    refine z_put (w2 := vRd ht (ht_rows 0) (ht_evidence 0) (ht_tape 0) ad cy (Rd_fault St) (Rd_place St) ((Rd_nameCount St) + (1 : Int32)) (Rd_names St) (upd (Rd_nameStamps St) (Rd_nameCount St).toNatClampNeg (Rows_nextStamp St_rows)) (upd (Rd_nameSlots St) (Rd_nameCount St).toNatClampNeg q1.1) (Rd_unsureNames St) (Rd_unsureCount St) (Rd_head St) (Rd_name St) (Rd_row St) (Rd_whole St) ++ (wRows ht_rows cy q1.2)) hx hb hts in_X5 tyX5 tyX5_ok nmX5 hown hK hP hD hS 0 rfl rfl 5 (by decide) (hts _ q1_187) (fun _ h9 => h9) rfl rfl rfl (Nat.le_of_ble_eq_true rfl) dX5_addWriter_50 rfl (fun H locs hP hD hS => ?_)
    refine lv_iconst (v := (1 : Int32)) hx hb dX5_addWriter_53 (by decide) ?_
    obtain rfl := Option.some.inj hf
    rw [← wRd_mk ht] at hP hD
    exact z_zret (v := (1 : Int32)) C rfl hP hD hS dX5_addWriter_54
  · refine lv_iconst (v := (0 : Int32)) hx hb dX5_addWriter_9 (by decide) ?_
    obtain rfl := Option.some.inj hf
    exact z_zret (v := (0 : Int32)) C rfl hP hD hS dX5_addWriter_10
def f_X5_endNamed (St : SRd) (St_rows : SRows) (x1 : Int32) : Option (Int32 × SRd × SRows) :=
  (if (Rd_name St) < 0 then
    some ((0 : Int32), St, St_rows)
    else
    (if (Rd_name St) < (12 : Int32) then
      (if zib (Rd_name St) 12 then (f_X6_endWriter St_rows ((Rd_nameSlots St) (Rd_name St).toNatClampNeg) x1).bind (fun q1 =>
          (if zib (Rd_name St) 12 then some ((1 : Int32), (mkRd (Rd_fault St) (Rd_place St) (Rd_nameCount St) (Rd_names St) (Rd_nameStamps St) (upd (Rd_nameSlots St) (Rd_name St).toNatClampNeg (-2 : Int32)) (Rd_unsureNames St) (Rd_unsureCount St) (Rd_head St) (Rd_name St) (Rd_row St) (Rd_whole St)), q1.2) else none)) else none)
      else
      some ((0 : Int32), St, St_rows)))
set_option maxHeartbeats 4000000 in
set_option maxRecDepth 100000 in
theorem c_X5_endNamed (l : Launch) (D : va_G) (cy : Nat → ClassId) (ht : Nat → Nat) (ht_rows : Nat → Nat) (ht_evidence : Nat → Nat) (ht_tape : Nat → Nat) (ad : Nat → Nat) (St : SRd) (St_rows : SRows) (x1 : Int32) (r : Int32 × SRd × SRows) (hf : f_X5_endNamed St St_rows x1 = some r) : zCI l yX5_endNamed cX5_endNamed 2 (some FieldType.boolean) 2 44 D (zty cy) [.ref (ht 0), .int x1] (wRd ht (ht_rows 0) (ht_evidence 0) (ht_tape 0) ad cy St ++ (wRows ht_rows cy St_rows)) (wRd ht (ht_rows 0) (ht_evidence 0) (ht_tape 0) ad cy r.2.1 ++ (wRows ht_rows cy r.2.2)) r.1 := by
  refine zCI_of (by decide +kernel) (Nat.le_of_ble_eq_true rfl) ?_
  intro p e s m below meth c A ls C hP hD hS hl
  generalize hargs : ([.ref (ht 0), .int x1] : List Value).toArray = args at C ⊢
  have C : zX p s m meth c cX5_endNamed 2 args RX5 (some FieldType.boolean) A D (zty cy) := C
  obtain ⟨hx, hb, hr, hts, hown, hlocks, hml, hA, hK⟩ := id C
  have hl : lv_has ls 2 [(0, .ref (ht 0)), (1, .int x1)] := hl
  generalize hH : s.heap = H at hP ⊢
  have hS : va_S A s.heap H [] := by rw [← hH]; exact hS
  generalize ([] : List Loc) = locs at hS ⊢
  refine lv_aload_n hx hb dX5_endNamed_0 rfl (lv_at hl 0 rfl) ?_
  refine va_get (D := D) (ci := 2) (v := .int (Rd_name St)) (C := RX5) (T := TX5) (N := 15) hx hb hts in_X5 hown hK hP 0 rfl rfl 12 (by decide) (hts _ q1_194) (fun _ h9 => h9) rfl dX5_endNamed_1 ?_
  refine z_if_lt (tgt := 16) hx hb dX5_endNamed_4 (by decide) hf (fun hf => ?_) (fun hf => ?_)
  · refine lv_iconst (v := (0 : Int32)) hx hb dX5_endNamed_16 (by decide) ?_
    obtain rfl := Option.some.inj hf
    exact z_zret (v := (0 : Int32)) C rfl hP hD hS dX5_endNamed_17
  · refine lv_aload_n hx hb dX5_endNamed_7 rfl (lv_at hl 0 rfl) ?_
    refine va_get (D := D) (ci := 2) (v := .int (Rd_name St)) (C := RX5) (T := TX5) (N := 15) hx hb hts in_X5 hown hK hP 0 rfl rfl 12 (by decide) (hts _ q1_194) (fun _ h9 => h9) rfl dX5_endNamed_8 ?_
    refine lv_bipush (v := (12 : Int32)) hx hb dX5_endNamed_11 (by decide) ?_
    refine z_icmp_lt (tgt := 18) hx hb dX5_endNamed_13 (by decide) hf (fun hf => ?_) (fun hf => ?_)
    · refine lv_aload_n hx hb dX5_endNamed_18 rfl (lv_at hl 0 rfl) ?_
      refine va_get (D := D) (ci := 2) (v := .ref (ht_rows 0)) (C := RX5) (T := TX5) (N := 15) hx hb hts in_X5 hown hK hP 0 rfl rfl 2 (by decide) (hts _ q1_181) (fun _ h9 => h9) rfl dX5_endNamed_19 ?_
      refine lv_aload_n hx hb dX5_endNamed_22 rfl (lv_at hl 0 rfl) ?_
      refine va_get (D := D) (ci := 2) (v := .ref (ht 3)) (C := RX5) (T := TX5) (N := 15) hx hb hts in_X5 hown hK hP 0 rfl rfl 8 (by decide) (hts _ q1_190) (fun _ h9 => h9) rfl dX5_endNamed_23 ?_
      refine lv_aload_n hx hb dX5_endNamed_26 rfl (lv_at hl 0 rfl) ?_
      refine va_get (D := D) (ci := 2) (v := .int (Rd_name St)) (C := RX5) (T := TX5) (N := 15) hx hb hts in_X5 hown hK hP 0 rfl rfl 12 (by decide) (hts _ q1_194) (fun _ h9 => h9) rfl dX5_endNamed_27 ?_
      refine z_iald (f := (Rd_nameSlots St)) hx hb hK hP 3 0 rfl rfl dX5_endNamed_30 hf (fun hf => ?_)
      refine lv_iload_n hx hb dX5_endNamed_31 rfl (lv_at hl 1 rfl) ?_
      obtain ⟨q1, hc, hf⟩ := zbd hf
      refine z_cVi (As := [.int ((Rd_nameSlots St) (Rd_name St).toNatClampNeg), .int x1]) (rest := []) C (c_X6_endWriter l D cy ht_rows St_rows ((Rd_nameSlots St) (Rd_name St).toNatClampNeg) x1 q1 hc) gV_X5_X6_endWriter hd_X6_endWriter ⟨Nat.le_of_ble_eq_true rfl, Nat.le_of_ble_eq_true rfl⟩ ⟨Nat.le_refl _, Nat.le_refl _⟩ (va_recv hK hP (ci := 3) (q0 := 5) rfl rfl) hP hD hS (w2 := wRd ht (ht_rows 0) (ht_evidence 0) (ht_tape 0) ad cy St ++ (wRows ht_rows cy q1.2)) [5, 6, 7, 8, 9, 10, 11, 12] [0, 1, 2, 3, 4] [0, 1, 2, 3, 4, 5, 6, 7, 8, 9, 10, 11, 12] rfl rfl rfl rfl rfl rfl (by decide) hl.1 (Nat.le_of_ble_eq_true rfl) dX5_endNamed_32 (fun H locs hP hD hS => ?_)
      refine lv_pop hx hb dX5_endNamed_35 rfl ?_
      refine lv_aload_n hx hb dX5_endNamed_36 rfl (lv_at hl 0 rfl) ?_
      refine va_get (D := D) (ci := 2) (v := .ref (ht 3)) (C := RX5) (T := TX5) (N := 15) hx hb hts in_X5 hown hK hP 0 rfl rfl 8 (by decide) (hts _ q1_190) (fun _ h9 => h9) rfl dX5_endNamed_37 ?_
      refine lv_aload_n hx hb dX5_endNamed_40 rfl (lv_at hl 0 rfl) ?_
      refine va_get (D := D) (ci := 2) (v := .int (Rd_name St)) (C := RX5) (T := TX5) (N := 15) hx hb hts in_X5 hown hK hP 0 rfl rfl 12 (by decide) (hts _ q1_194) (fun _ h9 => h9) rfl dX5_endNamed_41 ?_
      refine lv_bipush (v := (-2 : Int32)) hx hb dX5_endNamed_44 (by decide) ?_
      refine z_iast (f := (Rd_nameSlots St)) (w2 := vRd ht (ht_rows 0) (ht_evidence 0) (ht_tape 0) ad cy (Rd_fault St) (Rd_place St) (Rd_nameCount St) (Rd_names St) (Rd_nameStamps St) (upd (Rd_nameSlots St) (Rd_name St).toNatClampNeg (-2 : Int32)) (Rd_unsureNames St) (Rd_unsureCount St) (Rd_head St) (Rd_name St) (Rd_row St) (Rd_whole St) ++ (wRows ht_rows cy q1.2)) hx hb hK hP hD hS 3 0 rfl rfl dX5_endNamed_46 hf rfl (fun hf H locs hP hD hS => ?_)
      refine lv_iconst (v := (1 : Int32)) hx hb dX5_endNamed_47 (by decide) ?_
      obtain rfl := Option.some.inj hf
      rw [← wRd_mk ht] at hP hD
      exact z_zret (v := (1 : Int32)) C rfl hP hD hS dX5_endNamed_48
    · refine lv_iconst (v := (0 : Int32)) hx hb dX5_endNamed_16 (by decide) ?_
      obtain rfl := Option.some.inj hf
      exact z_zret (v := (0 : Int32)) C rfl hP hD hS dX5_endNamed_17
def f_X9_feed (St : SSR) (St_reader : SRd) (St_reader_tape : STape) (x1 : Int32) (x2 : Int32) (x3 : Int32) (x4 : Int32) (x5 : Int32) : Option (Int32 × STape) :=
  (if ((Tape_size St_reader_tape) + (20 : Int32)) ≤ (900 : Int32) then
    (f_X7_addFour St_reader_tape x1).bind (fun q1 =>
      (f_X7_addFour q1 x2).bind (fun q2 =>
        (f_X7_addFour q2 x3).bind (fun q3 =>
          (f_X7_addFour q3 x4).bind (fun q4 =>
            (f_X7_addFour q4 x5).bind (fun q5 =>
              some ((Tape_size q5), q5))))))
    else
    some ((-1 : Int32), St_reader_tape))
set_option maxHeartbeats 4000000 in
set_option maxRecDepth 100000 in
theorem c_X9_feed (l : Launch) (D : va_G) (cy : Nat → ClassId) (ht : Nat → Nat) (ht_reader : Nat → Nat) (ht_rows : Nat → Nat) (ht_evidence : Nat → Nat) (ht_history : Nat → Nat) (ht_reader_rows : Nat → Nat) (ht_reader_evidence : Nat → Nat) (ht_reader_tape : Nat → Nat) (ad : Nat → Nat) (St : SSR) (St_reader : SRd) (St_reader_tape : STape) (x1 : Int32) (x2 : Int32) (x3 : Int32) (x4 : Int32) (x5 : Int32) (r : Int32 × STape) (hf : f_X9_feed St St_reader St_reader_tape x1 x2 x3 x4 x5 = some r) : zCI l yX9_feed cX9_feed 7 (some FieldType.int) 1 22 D (zty cy) [.ref (ht 0), .int x1, .int x2, .int x3, .int x4, .int x5] (wSR ht (ht_reader 0) (ht_rows 0) (ht_evidence 0) (ht_history 0) cy St ++ (wRd ht_reader (ht_reader_rows 0) (ht_reader_evidence 0) (ht_reader_tape 0) ad cy St_reader ++ (wTape ht_reader_tape cy St_reader_tape))) (wSR ht (ht_reader 0) (ht_rows 0) (ht_evidence 0) (ht_history 0) cy St ++ (wRd ht_reader (ht_reader_rows 0) (ht_reader_evidence 0) (ht_reader_tape 0) ad cy St_reader ++ (wTape ht_reader_tape cy r.2))) r.1 := by
  refine zCI_of (by decide +kernel) (Nat.le_of_ble_eq_true rfl) ?_
  intro p e s m below meth c A ls C hP hD hS hl
  generalize hargs : ([.ref (ht 0), .int x1, .int x2, .int x3, .int x4, .int x5] : List Value).toArray = args at C ⊢
  have C : zX p s m meth c cX9_feed 7 args RX9 (some FieldType.int) A D (zty cy) := C
  obtain ⟨hx, hb, hr, hts, hown, hlocks, hml, hA, hK⟩ := id C
  have hl : lv_has ls 7 [(0, .ref (ht 0)), (1, .int x1), (2, .int x2), (3, .int x3), (4, .int x4), (5, .int x5)] := hl
  generalize hH : s.heap = H at hP ⊢
  have hS : va_S A s.heap H [] := by rw [← hH]; exact hS
  generalize ([] : List Loc) = locs at hS ⊢
  refine lv_aload_n hx hb dX9_feed_0 rfl (lv_at hl 0 rfl) ?_
  refine va_get (D := D) (ci := 5) (v := .ref (ht_reader 0)) (C := RX9) (T := TX9) (N := 7) hx hb hts in_X9 hown hK hP 0 rfl rfl 0 (by decide) (hts _ q2_19) (fun _ h9 => h9) rfl dX9_feed_1 ?_
  refine va_get (D := D) (ci := 2) (v := .ref (ht_reader_tape 0)) (C := RX5) (T := TX5) (N := 15) hx hb hts in_X5 hown hK hP 1 rfl rfl 4 (by decide) (hts _ q1_186) (fun _ h9 => h9) rfl dX9_feed_4 ?_
  refine lv_astore (lv' := [(6, .ref (ht_reader_tape 0)), (0, .ref (ht 0)), (1, .int x1), (2, .int x2), (3, .int x3), (4, .int x4), (5, .int x5)]) hx hb dX9_feed_7 hl (by decide) rfl (fun ls hl => ?_)
  refine lv_aload hx hb dX9_feed_9 (lv_at hl 0 rfl) ?_
  refine va_get (D := D) (ci := 4) (v := .int (Tape_size St_reader_tape)) (C := RX7) (T := TX7) (N := 7) hx hb hts in_X7 hown hK hP 6 rfl rfl 0 (by decide) (hts _ q1_151) (fun _ h9 => h9) rfl dX9_feed_11 ?_
  refine lv_bipush (v := (20 : Int32)) hx hb dX9_feed_14 (by decide) ?_
  refine lv_iadd hx hb dX9_feed_16 ?_
  refine lv_sipush (v := (900 : Int32)) hx hb dX9_feed_17 (by decide) ?_
  refine z_icmp_le (tgt := 25) hx hb dX9_feed_20 (by decide) hf (fun hf => ?_) (fun hf => ?_)
  · refine lv_aload hx hb dX9_feed_25 (lv_at hl 0 rfl) ?_
    refine lv_iload_n hx hb dX9_feed_27 rfl (lv_at hl 2 rfl) ?_
    obtain ⟨q1, hc, hf⟩ := zbd hf
    refine z_cVv (As := [.int x1]) (rest := []) C (c_X7_addFour l D cy ht_reader_tape St_reader_tape x1 q1 hc) gV_X9_X7_addFour hd_X7_addFour ⟨Nat.le_of_ble_eq_true rfl, Nat.le_of_ble_eq_true rfl⟩ ⟨Nat.le_refl _, Nat.le_refl _⟩ (va_recv hK hP (ci := 4) (q0 := 6) rfl rfl) hP hD hS (w2 := wSR ht (ht_reader 0) (ht_rows 0) (ht_evidence 0) (ht_history 0) cy St ++ (wRd ht_reader (ht_reader_rows 0) (ht_reader_evidence 0) (ht_reader_tape 0) ad cy St_reader ++ (wTape ht_reader_tape cy q1))) [6, 7] [0, 1, 2, 3, 4, 5] [0, 1, 2, 3, 4, 5, 6, 7] rfl rfl rfl rfl rfl rfl (by decide) hl.1 (Nat.le_of_ble_eq_true rfl) dX9_feed_28 (fun H locs hP hD hS => ?_)
    refine lv_aload hx hb dX9_feed_31 (lv_at hl 0 rfl) ?_
    refine lv_iload_n hx hb dX9_feed_33 rfl (lv_at hl 3 rfl) ?_
    obtain ⟨q2, hc, hf⟩ := zbd hf
    refine z_cVv (As := [.int x2]) (rest := []) C (c_X7_addFour l D cy ht_reader_tape q1 x2 q2 hc) gV_X9_X7_addFour hd_X7_addFour ⟨Nat.le_of_ble_eq_true rfl, Nat.le_of_ble_eq_true rfl⟩ ⟨Nat.le_refl _, Nat.le_refl _⟩ (va_recv hK hP (ci := 4) (q0 := 6) rfl rfl) hP hD hS (w2 := wSR ht (ht_reader 0) (ht_rows 0) (ht_evidence 0) (ht_history 0) cy St ++ (wRd ht_reader (ht_reader_rows 0) (ht_reader_evidence 0) (ht_reader_tape 0) ad cy St_reader ++ (wTape ht_reader_tape cy q2))) [6, 7] [0, 1, 2, 3, 4, 5] [0, 1, 2, 3, 4, 5, 6, 7] rfl rfl rfl rfl rfl rfl (by decide) hl.1 (Nat.le_of_ble_eq_true rfl) dX9_feed_34 (fun H locs hP hD hS => ?_)
    refine lv_aload hx hb dX9_feed_37 (lv_at hl 0 rfl) ?_
    refine lv_iload_n hx hb dX9_feed_39 rfl (lv_at hl 4 rfl) ?_
    obtain ⟨q3, hc, hf⟩ := zbd hf
    refine z_cVv (As := [.int x3]) (rest := []) C (c_X7_addFour l D cy ht_reader_tape q2 x3 q3 hc) gV_X9_X7_addFour hd_X7_addFour ⟨Nat.le_of_ble_eq_true rfl, Nat.le_of_ble_eq_true rfl⟩ ⟨Nat.le_refl _, Nat.le_refl _⟩ (va_recv hK hP (ci := 4) (q0 := 6) rfl rfl) hP hD hS (w2 := wSR ht (ht_reader 0) (ht_rows 0) (ht_evidence 0) (ht_history 0) cy St ++ (wRd ht_reader (ht_reader_rows 0) (ht_reader_evidence 0) (ht_reader_tape 0) ad cy St_reader ++ (wTape ht_reader_tape cy q3))) [6, 7] [0, 1, 2, 3, 4, 5] [0, 1, 2, 3, 4, 5, 6, 7] rfl rfl rfl rfl rfl rfl (by decide) hl.1 (Nat.le_of_ble_eq_true rfl) dX9_feed_40 (fun H locs hP hD hS => ?_)
    refine lv_aload hx hb dX9_feed_43 (lv_at hl 0 rfl) ?_
    refine lv_iload hx hb dX9_feed_45 (lv_at hl 5 rfl) ?_
    obtain ⟨q4, hc, hf⟩ := zbd hf
    refine z_cVv (As := [.int x4]) (rest := []) C (c_X7_addFour l D cy ht_reader_tape q3 x4 q4 hc) gV_X9_X7_addFour hd_X7_addFour ⟨Nat.le_of_ble_eq_true rfl, Nat.le_of_ble_eq_true rfl⟩ ⟨Nat.le_refl _, Nat.le_refl _⟩ (va_recv hK hP (ci := 4) (q0 := 6) rfl rfl) hP hD hS (w2 := wSR ht (ht_reader 0) (ht_rows 0) (ht_evidence 0) (ht_history 0) cy St ++ (wRd ht_reader (ht_reader_rows 0) (ht_reader_evidence 0) (ht_reader_tape 0) ad cy St_reader ++ (wTape ht_reader_tape cy q4))) [6, 7] [0, 1, 2, 3, 4, 5] [0, 1, 2, 3, 4, 5, 6, 7] rfl rfl rfl rfl rfl rfl (by decide) hl.1 (Nat.le_of_ble_eq_true rfl) dX9_feed_47 (fun H locs hP hD hS => ?_)
    refine lv_aload hx hb dX9_feed_50 (lv_at hl 0 rfl) ?_
    refine lv_iload hx hb dX9_feed_52 (lv_at hl 6 rfl) ?_
    obtain ⟨q5, hc, hf⟩ := zbd hf
    refine z_cVv (As := [.int x5]) (rest := []) C (c_X7_addFour l D cy ht_reader_tape q4 x5 q5 hc) gV_X9_X7_addFour hd_X7_addFour ⟨Nat.le_of_ble_eq_true rfl, Nat.le_of_ble_eq_true rfl⟩ ⟨Nat.le_refl _, Nat.le_refl _⟩ (va_recv hK hP (ci := 4) (q0 := 6) rfl rfl) hP hD hS (w2 := wSR ht (ht_reader 0) (ht_rows 0) (ht_evidence 0) (ht_history 0) cy St ++ (wRd ht_reader (ht_reader_rows 0) (ht_reader_evidence 0) (ht_reader_tape 0) ad cy St_reader ++ (wTape ht_reader_tape cy q5))) [6, 7] [0, 1, 2, 3, 4, 5] [0, 1, 2, 3, 4, 5, 6, 7] rfl rfl rfl rfl rfl rfl (by decide) hl.1 (Nat.le_of_ble_eq_true rfl) dX9_feed_54 (fun H locs hP hD hS => ?_)
    refine lv_aload hx hb dX9_feed_57 (lv_at hl 0 rfl) ?_
    refine va_get (D := D) (ci := 4) (v := .int (Tape_size q5)) (C := RX7) (T := TX7) (N := 7) hx hb hts in_X7 hown hK hP 6 rfl rfl 0 (by decide) (hts _ q1_151) (fun _ h9 => h9) rfl dX9_feed_59 ?_
    obtain rfl := Option.some.inj hf
    exact z_iret (v := (Tape_size q5)) C hP hD hS dX9_feed_62
  · refine lv_iconst (v := (-1 : Int32)) hx hb dX9_feed_23 (by decide) ?_
    obtain rfl := Option.some.inj hf
    exact z_iret (v := (-1 : Int32)) C hP hD hS dX9_feed_24
def f_X9_fault (St : SSR) : Option (Int32) :=
  some (SR_faultNumber St)
set_option maxHeartbeats 4000000 in
set_option maxRecDepth 100000 in
theorem c_X9_fault (l : Launch) (D : va_G) (cy : Nat → ClassId) (ht : Nat → Nat) (ht_reader : Nat → Nat) (ht_rows : Nat → Nat) (ht_evidence : Nat → Nat) (ht_history : Nat → Nat) (St : SSR) (r : Int32) (hf : f_X9_fault St = some r) : zCI l yX9_fault cX9_fault 1 (some FieldType.int) 0 0 D (zty cy) [.ref (ht 0)] (wSR ht (ht_reader 0) (ht_rows 0) (ht_evidence 0) (ht_history 0) cy St) (wSR ht (ht_reader 0) (ht_rows 0) (ht_evidence 0) (ht_history 0) cy St) r := by
  refine zCI_of (by decide +kernel) (Nat.le_of_ble_eq_true rfl) ?_
  intro p e s m below meth c A ls C hP hD hS hl
  generalize hargs : ([.ref (ht 0)] : List Value).toArray = args at C ⊢
  have C : zX p s m meth c cX9_fault 1 args RX9 (some FieldType.int) A D (zty cy) := C
  obtain ⟨hx, hb, hr, hts, hown, hlocks, hml, hA, hK⟩ := id C
  have hl : lv_has ls 1 [(0, .ref (ht 0))] := hl
  generalize hH : s.heap = H at hP ⊢
  have hS : va_S A s.heap H [] := by rw [← hH]; exact hS
  generalize ([] : List Loc) = locs at hS ⊢
  refine lv_aload_n hx hb dX9_fault_0 rfl (lv_at hl 0 rfl) ?_
  refine va_get (D := D) (ci := 5) (v := .int (SR_faultNumber St)) (C := RX9) (T := TX9) (N := 7) hx hb hts in_X9 hown hK hP 0 rfl rfl 5 (by decide) (hts _ q2_24) (fun _ h9 => h9) rfl dX9_fault_1 ?_
  obtain rfl := Option.some.inj hf
  exact z_iret (v := (SR_faultNumber St)) C hP hD hS dX9_fault_4
def f_X9_where (St : SSR) : Option (Int32) :=
  (if (SR_troubleNumber St) = (4 : Int32) then
    some (SR_faultPlace St)
    else
    some (-1 : Int32))
set_option maxHeartbeats 4000000 in
set_option maxRecDepth 100000 in
theorem c_X9_where (l : Launch) (D : va_G) (cy : Nat → ClassId) (ht : Nat → Nat) (ht_reader : Nat → Nat) (ht_rows : Nat → Nat) (ht_evidence : Nat → Nat) (ht_history : Nat → Nat) (St : SSR) (r : Int32) (hf : f_X9_where St = some r) : zCI l yX9_where cX9_where 1 (some FieldType.int) 0 0 D (zty cy) [.ref (ht 0)] (wSR ht (ht_reader 0) (ht_rows 0) (ht_evidence 0) (ht_history 0) cy St) (wSR ht (ht_reader 0) (ht_rows 0) (ht_evidence 0) (ht_history 0) cy St) r := by
  refine zCI_of (by decide +kernel) (Nat.le_of_ble_eq_true rfl) ?_
  intro p e s m below meth c A ls C hP hD hS hl
  generalize hargs : ([.ref (ht 0)] : List Value).toArray = args at C ⊢
  have C : zX p s m meth c cX9_where 1 args RX9 (some FieldType.int) A D (zty cy) := C
  obtain ⟨hx, hb, hr, hts, hown, hlocks, hml, hA, hK⟩ := id C
  have hl : lv_has ls 1 [(0, .ref (ht 0))] := hl
  generalize hH : s.heap = H at hP ⊢
  have hS : va_S A s.heap H [] := by rw [← hH]; exact hS
  generalize ([] : List Loc) = locs at hS ⊢
  refine lv_aload_n hx hb dX9_where_0 rfl (lv_at hl 0 rfl) ?_
  refine va_get (D := D) (ci := 5) (v := .int (SR_troubleNumber St)) (C := RX9) (T := TX9) (N := 7) hx hb hts in_X9 hown hK hP 0 rfl rfl 4 (by decide) (hts _ q2_23) (fun _ h9 => h9) rfl dX9_where_1 ?_
  refine lv_iconst (v := (4 : Int32)) hx hb dX9_where_4 (by decide) ?_
  refine z_icmp_ne (tgt := 15) hx hb dX9_where_5 (by decide) hf (fun hf => ?_) (fun hf => ?_)
  · refine lv_iconst (v := (-1 : Int32)) hx hb dX9_where_15 (by decide) ?_
    obtain rfl := Option.some.inj hf
    exact z_iret (v := (-1 : Int32)) C hP hD hS dX9_where_16
  · refine lv_aload_n hx hb dX9_where_8 rfl (lv_at hl 0 rfl) ?_
    refine va_get (D := D) (ci := 5) (v := .int (SR_faultPlace St)) (C := RX9) (T := TX9) (N := 7) hx hb hts in_X9 hown hK hP 0 rfl rfl 6 (by decide) (hts _ q2_25) (fun _ h9 => h9) rfl dX9_where_9 ?_
    refine lv_goto (tgt := 16) hx hb dX9_where_12 (by decide) ?_
    obtain rfl := Option.some.inj hf
    exact z_iret (v := (SR_faultPlace St)) C hP hD hS dX9_where_16
def f_X9_hasStore (St : SSR) (St_rows : SRows) : Option (Int32) :=
  (if (Rows_ring St_rows) = 0 then
    some (0 : Int32)
    else
    some (1 : Int32))
set_option maxHeartbeats 4000000 in
set_option maxRecDepth 100000 in
theorem c_X9_hasStore (l : Launch) (D : va_G) (cy : Nat → ClassId) (ht : Nat → Nat) (ht_reader : Nat → Nat) (ht_rows : Nat → Nat) (ht_evidence : Nat → Nat) (ht_history : Nat → Nat) (St : SSR) (St_rows : SRows) (r : Int32) (hf : f_X9_hasStore St St_rows = some r) : zCI l yX9_hasStore cX9_hasStore 1 (some FieldType.boolean) 0 0 D (zty cy) [.ref (ht 0)] (wSR ht (ht_reader 0) (ht_rows 0) (ht_evidence 0) (ht_history 0) cy St ++ (wRows ht_rows cy St_rows)) (wSR ht (ht_reader 0) (ht_rows 0) (ht_evidence 0) (ht_history 0) cy St ++ (wRows ht_rows cy St_rows)) r := by
  refine zCI_of (by decide +kernel) (Nat.le_of_ble_eq_true rfl) ?_
  intro p e s m below meth c A ls C hP hD hS hl
  generalize hargs : ([.ref (ht 0)] : List Value).toArray = args at C ⊢
  have C : zX p s m meth c cX9_hasStore 1 args RX9 (some FieldType.boolean) A D (zty cy) := C
  obtain ⟨hx, hb, hr, hts, hown, hlocks, hml, hA, hK⟩ := id C
  have hl : lv_has ls 1 [(0, .ref (ht 0))] := hl
  generalize hH : s.heap = H at hP ⊢
  have hS : va_S A s.heap H [] := by rw [← hH]; exact hS
  generalize ([] : List Loc) = locs at hS ⊢
  refine lv_aload_n hx hb dX9_hasStore_0 rfl (lv_at hl 0 rfl) ?_
  refine va_get (D := D) (ci := 5) (v := .ref (ht_rows 0)) (C := RX9) (T := TX9) (N := 7) hx hb hts in_X9 hown hK hP 0 rfl rfl 1 (by decide) (hts _ q2_20) (fun _ h9 => h9) rfl dX9_hasStore_1 ?_
  refine va_get (D := D) (ci := 3) (v := .int (Rows_ring St_rows)) (C := RX6) (T := TX6) (N := 16) hx hb hts in_X6 hown hK hP 1 rfl rfl 0 (by decide) (hts _ q1_51) (fun _ h9 => h9) rfl dX9_hasStore_4 ?_
  refine z_if_eq (tgt := 14) hx hb dX9_hasStore_7 (by decide) hf (fun hf => ?_) (fun hf => ?_)
  · refine lv_iconst (v := (0 : Int32)) hx hb dX9_hasStore_14 (by decide) ?_
    obtain rfl := Option.some.inj hf
    exact z_zret (v := (0 : Int32)) C rfl hP hD hS dX9_hasStore_15
  · refine lv_iconst (v := (1 : Int32)) hx hb dX9_hasStore_10 (by decide) ?_
    refine lv_goto (tgt := 15) hx hb dX9_hasStore_11 (by decide) ?_
    obtain rfl := Option.some.inj hf
    exact z_zret (v := (1 : Int32)) C rfl hP hD hS dX9_hasStore_15
def f_X9_answer (St : SSR) (x1 : Int32) : Option (Int32 × SSR) :=
  some (x1, (mkSR (0 : Int32) (SR_faultNumber St) (SR_faultPlace St)))
set_option maxHeartbeats 4000000 in
set_option maxRecDepth 100000 in
theorem c_X9_answer (l : Launch) (D : va_G) (cy : Nat → ClassId) (ht : Nat → Nat) (ht_reader : Nat → Nat) (ht_rows : Nat → Nat) (ht_evidence : Nat → Nat) (ht_history : Nat → Nat) (St : SSR) (x1 : Int32) (r : Int32 × SSR) (hf : f_X9_answer St x1 = some r) : zCI l yX9_answer cX9_answer 2 (some FieldType.int) 0 0 D (zty cy) [.ref (ht 0), .int x1] (wSR ht (ht_reader 0) (ht_rows 0) (ht_evidence 0) (ht_history 0) cy St) (wSR ht (ht_reader 0) (ht_rows 0) (ht_evidence 0) (ht_history 0) cy r.2) r.1 := by
  refine zCI_of (by decide +kernel) (Nat.le_of_ble_eq_true rfl) ?_
  intro p e s m below meth c A ls C hP hD hS hl
  generalize hargs : ([.ref (ht 0), .int x1] : List Value).toArray = args at C ⊢
  have C : zX p s m meth c cX9_answer 2 args RX9 (some FieldType.int) A D (zty cy) := C
  obtain ⟨hx, hb, hr, hts, hown, hlocks, hml, hA, hK⟩ := id C
  have hl : lv_has ls 2 [(0, .ref (ht 0)), (1, .int x1)] := hl
  generalize hH : s.heap = H at hP ⊢
  have hS : va_S A s.heap H [] := by rw [← hH]; exact hS
  generalize ([] : List Loc) = locs at hS ⊢
  refine lv_aload_n hx hb dX9_answer_0 rfl (lv_at hl 0 rfl) ?_
  refine lv_iconst (v := (0 : Int32)) hx hb dX9_answer_1 (by decide) ?_
  refine z_put (w2 := vSR ht (ht_reader 0) (ht_rows 0) (ht_evidence 0) (ht_history 0) cy (0 : Int32) (SR_faultNumber St) (SR_faultPlace St)) hx hb hts in_X9 tyX9 tyX9_ok nmX9 hown hK hP hD hS 0 rfl rfl 4 (by decide) (hts _ q2_23) (fun _ h9 => h9) rfl rfl rfl (Nat.le_of_ble_eq_true rfl) dX9_answer_2 rfl (fun H locs hP hD hS => ?_)
  refine lv_iload_n hx hb dX9_answer_5 rfl (lv_at hl 1 rfl) ?_
  obtain rfl := Option.some.inj hf
  rw [← wSR_mk ht] at hP hD
  exact z_iret (v := x1) C hP hD hS dX9_answer_6
def f_X9_refuse (St : SSR) (x1 : Int32) : Option (Int32 × SSR) :=
  some ((-1 : Int32), (mkSR x1 (SR_faultNumber St) (SR_faultPlace St)))
set_option maxHeartbeats 4000000 in
set_option maxRecDepth 100000 in
theorem c_X9_refuse (l : Launch) (D : va_G) (cy : Nat → ClassId) (ht : Nat → Nat) (ht_reader : Nat → Nat) (ht_rows : Nat → Nat) (ht_evidence : Nat → Nat) (ht_history : Nat → Nat) (St : SSR) (x1 : Int32) (r : Int32 × SSR) (hf : f_X9_refuse St x1 = some r) : zCI l yX9_refuse cX9_refuse 2 (some FieldType.int) 0 0 D (zty cy) [.ref (ht 0), .int x1] (wSR ht (ht_reader 0) (ht_rows 0) (ht_evidence 0) (ht_history 0) cy St) (wSR ht (ht_reader 0) (ht_rows 0) (ht_evidence 0) (ht_history 0) cy r.2) r.1 := by
  refine zCI_of (by decide +kernel) (Nat.le_of_ble_eq_true rfl) ?_
  intro p e s m below meth c A ls C hP hD hS hl
  generalize hargs : ([.ref (ht 0), .int x1] : List Value).toArray = args at C ⊢
  have C : zX p s m meth c cX9_refuse 2 args RX9 (some FieldType.int) A D (zty cy) := C
  obtain ⟨hx, hb, hr, hts, hown, hlocks, hml, hA, hK⟩ := id C
  have hl : lv_has ls 2 [(0, .ref (ht 0)), (1, .int x1)] := hl
  generalize hH : s.heap = H at hP ⊢
  have hS : va_S A s.heap H [] := by rw [← hH]; exact hS
  generalize ([] : List Loc) = locs at hS ⊢
  refine lv_aload_n hx hb dX9_refuse_0 rfl (lv_at hl 0 rfl) ?_
  refine lv_iload_n hx hb dX9_refuse_1 rfl (lv_at hl 1 rfl) ?_
  refine z_put (w2 := vSR ht (ht_reader 0) (ht_rows 0) (ht_evidence 0) (ht_history 0) cy x1 (SR_faultNumber St) (SR_faultPlace St)) hx hb hts in_X9 tyX9 tyX9_ok nmX9 hown hK hP hD hS 0 rfl rfl 4 (by decide) (hts _ q2_23) (fun _ h9 => h9) rfl rfl rfl (Nat.le_of_ble_eq_true rfl) dX9_refuse_2 rfl (fun H locs hP hD hS => ?_)
  refine lv_iconst (v := (-1 : Int32)) hx hb dX9_refuse_5 (by decide) ?_
  obtain rfl := Option.some.inj hf
  rw [← wSR_mk ht] at hP hD
  exact z_iret (v := (-1 : Int32)) C hP hD hS dX9_refuse_6
def f_X9_next (St : SSR) (St_rows : SRows) : Option (Int32 × SSR) :=
  (f_X9_hasStore St St_rows).bind (fun q1 =>
    (if q1 = 0 then
      (f_X9_refuse St (1 : Int32)).bind (fun q2 =>
        some (q2.1, q2.2))
      else
      (f_X9_answer St (Rows_nextStamp St_rows)).bind (fun q3 =>
        some (q3.1, q3.2))))
set_option maxHeartbeats 4000000 in
set_option maxRecDepth 100000 in
theorem c_X9_next (l : Launch) (D : va_G) (cy : Nat → ClassId) (ht : Nat → Nat) (ht_reader : Nat → Nat) (ht_rows : Nat → Nat) (ht_evidence : Nat → Nat) (ht_history : Nat → Nat) (St : SSR) (St_rows : SRows) (r : Int32 × SSR) (hf : f_X9_next St St_rows = some r) : zCI l yX9_next cX9_next 1 (some FieldType.int) 1 21 D (zty cy) [.ref (ht 0)] (wSR ht (ht_reader 0) (ht_rows 0) (ht_evidence 0) (ht_history 0) cy St ++ (wRows ht_rows cy St_rows)) (wSR ht (ht_reader 0) (ht_rows 0) (ht_evidence 0) (ht_history 0) cy r.2 ++ (wRows ht_rows cy St_rows)) r.1 := by
  refine zCI_of (by decide +kernel) (Nat.le_of_ble_eq_true rfl) ?_
  intro p e s m below meth c A ls C hP hD hS hl
  generalize hargs : ([.ref (ht 0)] : List Value).toArray = args at C ⊢
  have C : zX p s m meth c cX9_next 1 args RX9 (some FieldType.int) A D (zty cy) := C
  obtain ⟨hx, hb, hr, hts, hown, hlocks, hml, hA, hK⟩ := id C
  have hl : lv_has ls 1 [(0, .ref (ht 0))] := hl
  generalize hH : s.heap = H at hP ⊢
  have hS : va_S A s.heap H [] := by rw [← hH]; exact hS
  generalize ([] : List Loc) = locs at hS ⊢
  refine lv_aload_n hx hb dX9_next_0 rfl (lv_at hl 0 rfl) ?_
  obtain ⟨q1, hc, hf⟩ := zbd hf
  refine z_cVi0 (As := []) (rest := []) C (c_X9_hasStore l D cy ht ht_reader ht_rows ht_evidence ht_history St St_rows q1 hc) gV_X9_X9_hasStore hd_X9_hasStore ⟨Nat.le_of_ble_eq_true rfl, Nat.le_of_ble_eq_true rfl⟩ ⟨Nat.le_refl _, Nat.le_refl _⟩ (va_recv hK hP (ci := 5) (q0 := 0) rfl rfl) hP hD hS hl.1 (Nat.le_of_ble_eq_true rfl) dX9_next_1 (fun H locs hP hD hS => ?_)
  have hP : va_P D vwCl (wSR ht (ht_reader 0) (ht_rows 0) (ht_evidence 0) (ht_history 0) cy St ++ (wRows ht_rows cy St_rows)) H := hP
  have hD : va_D A (wSR ht (ht_reader 0) (ht_rows 0) (ht_evidence 0) (ht_history 0) cy St ++ (wRows ht_rows cy St_rows)) := hD
  refine z_if_eq (tgt := 21) hx hb dX9_next_4 (by decide) hf (fun hf => ?_) (fun hf => ?_)
  · refine lv_aload_n hx hb dX9_next_21 rfl (lv_at hl 0 rfl) ?_
    refine lv_iconst (v := (1 : Int32)) hx hb dX9_next_22 (by decide) ?_
    obtain ⟨q2, hc, hf⟩ := zbd hf
    refine z_cVi (As := [.int (1 : Int32)]) (rest := []) C (c_X9_refuse l D cy ht ht_reader ht_rows ht_evidence ht_history St (1 : Int32) q2 hc) gV_X9_X9_refuse hd_X9_refuse ⟨Nat.le_of_ble_eq_true rfl, Nat.le_of_ble_eq_true rfl⟩ ⟨Nat.le_refl _, Nat.le_refl _⟩ (va_recv hK hP (ci := 5) (q0 := 0) rfl rfl) hP hD hS (w2 := wSR ht (ht_reader 0) (ht_rows 0) (ht_evidence 0) (ht_history 0) cy q2.2 ++ (wRows ht_rows cy St_rows)) [0] [1, 2, 3, 4, 5, 6, 7, 8] [8, 0, 1, 2, 3, 4, 5, 6, 7] rfl rfl rfl rfl rfl rfl (by decide) hl.1 (Nat.le_of_ble_eq_true rfl) dX9_next_23 (fun H locs hP hD hS => ?_)
    obtain rfl := Option.some.inj hf
    exact z_iret (v := q2.1) C hP hD hS dX9_next_26
  · refine lv_aload_n hx hb dX9_next_7 rfl (lv_at hl 0 rfl) ?_
    refine lv_aload_n hx hb dX9_next_8 rfl (lv_at hl 0 rfl) ?_
    refine va_get (D := D) (ci := 5) (v := .ref (ht_rows 0)) (C := RX9) (T := TX9) (N := 7) hx hb hts in_X9 hown hK hP 0 rfl rfl 1 (by decide) (hts _ q2_20) (fun _ h9 => h9) rfl dX9_next_9 ?_
    refine va_get (D := D) (ci := 3) (v := .int (Rows_nextStamp St_rows)) (C := RX6) (T := TX6) (N := 16) hx hb hts in_X6 hown hK hP 1 rfl rfl 3 (by decide) (hts _ q1_59) (fun _ h9 => h9) rfl dX9_next_12 ?_
    obtain ⟨q3, hc, hf⟩ := zbd hf
    refine z_cVi (As := [.int (Rows_nextStamp St_rows)]) (rest := []) C (c_X9_answer l D cy ht ht_reader ht_rows ht_evidence ht_history St (Rows_nextStamp St_rows) q3 hc) gV_X9_X9_answer hd_X9_answer ⟨Nat.le_of_ble_eq_true rfl, Nat.le_of_ble_eq_true rfl⟩ ⟨Nat.le_refl _, Nat.le_refl _⟩ (va_recv hK hP (ci := 5) (q0 := 0) rfl rfl) hP hD hS (w2 := wSR ht (ht_reader 0) (ht_rows 0) (ht_evidence 0) (ht_history 0) cy q3.2 ++ (wRows ht_rows cy St_rows)) [0] [1, 2, 3, 4, 5, 6, 7, 8] [8, 0, 1, 2, 3, 4, 5, 6, 7] rfl rfl rfl rfl rfl rfl (by decide) hl.1 (Nat.le_of_ble_eq_true rfl) dX9_next_15 (fun H locs hP hD hS => ?_)
    refine lv_goto (tgt := 26) hx hb dX9_next_18 (by decide) ?_
    obtain rfl := Option.some.inj hf
    exact z_iret (v := q3.1) C hP hD hS dX9_next_26
def f_X9_stampTrouble (St : SSR) (St_rows : SRows) (x1 : Int32) : Option (Int32) :=
  (f_X9_hasStore St St_rows).bind (fun q1 =>
    (if q1 = 0 then
      some (1 : Int32)
      else
      (f_X6_isStamp St_rows x1).bind (fun q2 =>
        (if q2 = 0 then
          some (2 : Int32)
          else
          some (0 : Int32)))))
set_option maxHeartbeats 4000000 in
set_option maxRecDepth 100000 in
theorem c_X9_stampTrouble (l : Launch) (D : va_G) (cy : Nat → ClassId) (ht : Nat → Nat) (ht_reader : Nat → Nat) (ht_rows : Nat → Nat) (ht_evidence : Nat → Nat) (ht_history : Nat → Nat) (St : SSR) (St_rows : SRows) (x1 : Int32) (r : Int32) (hf : f_X9_stampTrouble St St_rows x1 = some r) : zCI l yX9_stampTrouble cX9_stampTrouble 2 (some FieldType.int) 1 21 D (zty cy) [.ref (ht 0), .int x1] (wSR ht (ht_reader 0) (ht_rows 0) (ht_evidence 0) (ht_history 0) cy St ++ (wRows ht_rows cy St_rows)) (wSR ht (ht_reader 0) (ht_rows 0) (ht_evidence 0) (ht_history 0) cy St ++ (wRows ht_rows cy St_rows)) r := by
  refine zCI_of (by decide +kernel) (Nat.le_of_ble_eq_true rfl) ?_
  intro p e s m below meth c A ls C hP hD hS hl
  generalize hargs : ([.ref (ht 0), .int x1] : List Value).toArray = args at C ⊢
  have C : zX p s m meth c cX9_stampTrouble 2 args RX9 (some FieldType.int) A D (zty cy) := C
  obtain ⟨hx, hb, hr, hts, hown, hlocks, hml, hA, hK⟩ := id C
  have hl : lv_has ls 2 [(0, .ref (ht 0)), (1, .int x1)] := hl
  generalize hH : s.heap = H at hP ⊢
  have hS : va_S A s.heap H [] := by rw [← hH]; exact hS
  generalize ([] : List Loc) = locs at hS ⊢
  refine lv_aload_n hx hb dX9_stampTrouble_0 rfl (lv_at hl 0 rfl) ?_
  obtain ⟨q1, hc, hf⟩ := zbd hf
  refine z_cVi0 (As := []) (rest := []) C (c_X9_hasStore l D cy ht ht_reader ht_rows ht_evidence ht_history St St_rows q1 hc) gV_X9_X9_hasStore hd_X9_hasStore ⟨Nat.le_of_ble_eq_true rfl, Nat.le_of_ble_eq_true rfl⟩ ⟨Nat.le_refl _, Nat.le_refl _⟩ (va_recv hK hP (ci := 5) (q0 := 0) rfl rfl) hP hD hS hl.1 (Nat.le_of_ble_eq_true rfl) dX9_stampTrouble_1 (fun H locs hP hD hS => ?_)
  have hP : va_P D vwCl (wSR ht (ht_reader 0) (ht_rows 0) (ht_evidence 0) (ht_history 0) cy St ++ (wRows ht_rows cy St_rows)) H := hP
  have hD : va_D A (wSR ht (ht_reader 0) (ht_rows 0) (ht_evidence 0) (ht_history 0) cy St ++ (wRows ht_rows cy St_rows)) := hD
  refine z_if_ne (tgt := 9) hx hb dX9_stampTrouble_4 (by decide) hf (fun hf => ?_) (fun hf => ?_)
  · refine lv_aload_n hx hb dX9_stampTrouble_9 rfl (lv_at hl 0 rfl) ?_
    refine va_get (D := D) (ci := 5) (v := .ref (ht_rows 0)) (C := RX9) (T := TX9) (N := 7) hx hb hts in_X9 hown hK hP 0 rfl rfl 1 (by decide) (hts _ q2_20) (fun _ h9 => h9) rfl dX9_stampTrouble_10 ?_
    refine lv_iload_n hx hb dX9_stampTrouble_13 rfl (lv_at hl 1 rfl) ?_
    obtain ⟨q2, hc, hf⟩ := zbd hf
    refine z_cVi (As := [.int x1]) (rest := []) C (c_X6_isStamp l D cy ht_rows St_rows x1 q2 hc) gV_X9_X6_isStamp hd_X6_isStamp ⟨Nat.le_of_ble_eq_true rfl, Nat.le_of_ble_eq_true rfl⟩ ⟨Nat.le_refl _, Nat.le_refl _⟩ (va_recv hK hP (ci := 3) (q0 := 1) rfl rfl) hP hD hS (w2 := wSR ht (ht_reader 0) (ht_rows 0) (ht_evidence 0) (ht_history 0) cy St ++ (wRows ht_rows cy St_rows)) [1, 2, 3, 4, 5, 6, 7, 8] [0] [0, 1, 2, 3, 4, 5, 6, 7, 8] rfl rfl rfl rfl rfl rfl (by decide) hl.1 (Nat.le_of_ble_eq_true rfl) dX9_stampTrouble_14 (fun H locs hP hD hS => ?_)
    refine z_if_eq (tgt := 24) hx hb dX9_stampTrouble_17 (by decide) hf (fun hf => ?_) (fun hf => ?_)
    · refine lv_iconst (v := (2 : Int32)) hx hb dX9_stampTrouble_24 (by decide) ?_
      obtain rfl := Option.some.inj hf
      exact z_iret (v := (2 : Int32)) C hP hD hS dX9_stampTrouble_25
    · refine lv_iconst (v := (0 : Int32)) hx hb dX9_stampTrouble_20 (by decide) ?_
      refine lv_goto (tgt := 25) hx hb dX9_stampTrouble_21 (by decide) ?_
      obtain rfl := Option.some.inj hf
      exact z_iret (v := (0 : Int32)) C hP hD hS dX9_stampTrouble_25
  · refine lv_iconst (v := (1 : Int32)) hx hb dX9_stampTrouble_7 (by decide) ?_
    obtain rfl := Option.some.inj hf
    exact z_iret (v := (1 : Int32)) C hP hD hS dX9_stampTrouble_8
def f_X9_age (St : SSR) (St_rows : SRows) (x1 : Int32) : Option (Int32 × SSR) :=
  (f_X9_stampTrouble St St_rows x1).bind (fun q1 =>
    (if q1 = 0 then
      (f_X6_ageOf St_rows x1).bind (fun q2 =>
        (f_X9_answer St q2).bind (fun q3 =>
          some (q3.1, q3.2)))
      else
      (f_X9_refuse St q1).bind (fun q4 =>
        some (q4.1, q4.2))))
set_option maxHeartbeats 4000000 in
set_option maxRecDepth 100000 in
theorem c_X9_age (l : Launch) (D : va_G) (cy : Nat → ClassId) (ht : Nat → Nat) (ht_reader : Nat → Nat) (ht_rows : Nat → Nat) (ht_evidence : Nat → Nat) (ht_history : Nat → Nat) (St : SSR) (St_rows : SRows) (x1 : Int32) (r : Int32 × SSR) (hf : f_X9_age St St_rows x1 = some r) : zCI l yX9_age cX9_age 3 (some FieldType.int) 2 42 D (zty cy) [.ref (ht 0), .int x1] (wSR ht (ht_reader 0) (ht_rows 0) (ht_evidence 0) (ht_history 0) cy St ++ (wRows ht_rows cy St_rows)) (wSR ht (ht_reader 0) (ht_rows 0) (ht_evidence 0) (ht_history 0) cy r.2 ++ (wRows ht_rows cy St_rows)) r.1 := by
  refine zCI_of (by decide +kernel) (Nat.le_of_ble_eq_true rfl) ?_
  intro p e s m below meth c A ls C hP hD hS hl
  generalize hargs : ([.ref (ht 0), .int x1] : List Value).toArray = args at C ⊢
  have C : zX p s m meth c cX9_age 3 args RX9 (some FieldType.int) A D (zty cy) := C
  obtain ⟨hx, hb, hr, hts, hown, hlocks, hml, hA, hK⟩ := id C
  have hl : lv_has ls 3 [(0, .ref (ht 0)), (1, .int x1)] := hl
  generalize hH : s.heap = H at hP ⊢
  have hS : va_S A s.heap H [] := by rw [← hH]; exact hS
  generalize ([] : List Loc) = locs at hS ⊢
  refine lv_aload_n hx hb dX9_age_0 rfl (lv_at hl 0 rfl) ?_
  refine lv_iload_n hx hb dX9_age_1 rfl (lv_at hl 1 rfl) ?_
  obtain ⟨q1, hc, hf⟩ := zbd hf
  refine z_cVi0 (As := [.int x1]) (rest := []) C (c_X9_stampTrouble l D cy ht ht_reader ht_rows ht_evidence ht_history St St_rows x1 q1 hc) gV_X9_X9_stampTrouble hd_X9_stampTrouble ⟨Nat.le_of_ble_eq_true rfl, Nat.le_of_ble_eq_true rfl⟩ ⟨Nat.le_refl _, Nat.le_refl _⟩ (va_recv hK hP (ci := 5) (q0 := 0) rfl rfl) hP hD hS hl.1 (Nat.le_of_ble_eq_true rfl) dX9_age_2 (fun H locs hP hD hS => ?_)
  have hP : va_P D vwCl (wSR ht (ht_reader 0) (ht_rows 0) (ht_evidence 0) (ht_history 0) cy St ++ (wRows ht_rows cy St_rows)) H := hP
  have hD : va_D A (wSR ht (ht_reader 0) (ht_rows 0) (ht_evidence 0) (ht_history 0) cy St ++ (wRows ht_rows cy St_rows)) := hD
  refine lv_istore_n (lv' := [(2, .int q1), (0, .ref (ht 0)), (1, .int x1)]) hx hb dX9_age_5 rfl hl (by decide) rfl (fun ls hl => ?_)
  refine lv_iload_n hx hb dX9_age_6 rfl (lv_at hl 0 rfl) ?_
  refine z_if_eq (tgt := 18) hx hb dX9_age_7 (by decide) hf (fun hf => ?_) (fun hf => ?_)
  · refine lv_aload_n hx hb dX9_age_18 rfl (lv_at hl 1 rfl) ?_
    refine lv_aload_n hx hb dX9_age_19 rfl (lv_at hl 1 rfl) ?_
    refine va_get (D := D) (ci := 5) (v := .ref (ht_rows 0)) (C := RX9) (T := TX9) (N := 7) hx hb hts in_X9 hown hK hP 0 rfl rfl 1 (by decide) (hts _ q2_20) (fun _ h9 => h9) rfl dX9_age_20 ?_
    refine lv_iload_n hx hb dX9_age_23 rfl (lv_at hl 2 rfl) ?_
    obtain ⟨q2, hc, hf⟩ := zbd hf
    refine z_cVi (As := [.int x1]) (rest := [.ref (ht 0)]) C (c_X6_ageOf l D cy ht_rows St_rows x1 q2 hc) gV_X9_X6_ageOf hd_X6_ageOf ⟨Nat.le_of_ble_eq_true rfl, Nat.le_of_ble_eq_true rfl⟩ ⟨Nat.le_refl _, Nat.le_refl _⟩ (va_recv hK hP (ci := 3) (q0 := 1) rfl rfl) hP hD hS (w2 := wSR ht (ht_reader 0) (ht_rows 0) (ht_evidence 0) (ht_history 0) cy St ++ (wRows ht_rows cy St_rows)) [1, 2, 3, 4, 5, 6, 7, 8] [0] [0, 1, 2, 3, 4, 5, 6, 7, 8] rfl rfl rfl rfl rfl rfl (by decide) hl.1 (Nat.le_of_ble_eq_true rfl) dX9_age_24 (fun H locs hP hD hS => ?_)
    obtain ⟨q3, hc, hf⟩ := zbd hf
    refine z_cVi (As := [.int q2]) (rest := []) C (c_X9_answer l D cy ht ht_reader ht_rows ht_evidence ht_history St q2 q3 hc) gV_X9_X9_answer hd_X9_answer ⟨Nat.le_of_ble_eq_true rfl, Nat.le_of_ble_eq_true rfl⟩ ⟨Nat.le_refl _, Nat.le_refl _⟩ (va_recv hK hP (ci := 5) (q0 := 0) rfl rfl) hP hD hS (w2 := wSR ht (ht_reader 0) (ht_rows 0) (ht_evidence 0) (ht_history 0) cy q3.2 ++ (wRows ht_rows cy St_rows)) [0] [1, 2, 3, 4, 5, 6, 7, 8] [8, 0, 1, 2, 3, 4, 5, 6, 7] rfl rfl rfl rfl rfl rfl (by decide) hl.1 (Nat.le_of_ble_eq_true rfl) dX9_age_27 (fun H locs hP hD hS => ?_)
    obtain rfl := Option.some.inj hf
    exact z_iret (v := q3.1) C hP hD hS dX9_age_30
  · refine lv_aload_n hx hb dX9_age_10 rfl (lv_at hl 1 rfl) ?_
    refine lv_iload_n hx hb dX9_age_11 rfl (lv_at hl 0 rfl) ?_
    obtain ⟨q4, hc, hf⟩ := zbd hf
    refine z_cVi (As := [.int q1]) (rest := []) C (c_X9_refuse l D cy ht ht_reader ht_rows ht_evidence ht_history St q1 q4 hc) gV_X9_X9_refuse hd_X9_refuse ⟨Nat.le_of_ble_eq_true rfl, Nat.le_of_ble_eq_true rfl⟩ ⟨Nat.le_refl _, Nat.le_refl _⟩ (va_recv hK hP (ci := 5) (q0 := 0) rfl rfl) hP hD hS (w2 := wSR ht (ht_reader 0) (ht_rows 0) (ht_evidence 0) (ht_history 0) cy q4.2 ++ (wRows ht_rows cy St_rows)) [0] [1, 2, 3, 4, 5, 6, 7, 8] [8, 0, 1, 2, 3, 4, 5, 6, 7] rfl rfl rfl rfl rfl rfl (by decide) hl.1 (Nat.le_of_ble_eq_true rfl) dX9_age_12 (fun H locs hP hD hS => ?_)
    refine lv_goto (tgt := 30) hx hb dX9_age_15 (by decide) ?_
    obtain rfl := Option.some.inj hf
    exact z_iret (v := q4.1) C hP hD hS dX9_age_30
def f_X9_stampsTrouble (St : SSR) (St_rows : SRows) (x1 : Int32) (x2 : Int32) : Option (Int32) :=
  (f_X9_stampTrouble St St_rows x1).bind (fun q1 =>
    (if q1 = 0 then
      (f_X9_stampTrouble St St_rows x2).bind (fun q2 =>
        some q2)
      else
      some q1))
set_option maxHeartbeats 4000000 in
set_option maxRecDepth 100000 in
theorem c_X9_stampsTrouble (l : Launch) (D : va_G) (cy : Nat → ClassId) (ht : Nat → Nat) (ht_reader : Nat → Nat) (ht_rows : Nat → Nat) (ht_evidence : Nat → Nat) (ht_history : Nat → Nat) (St : SSR) (St_rows : SRows) (x1 : Int32) (x2 : Int32) (r : Int32) (hf : f_X9_stampsTrouble St St_rows x1 x2 = some r) : zCI l yX9_stampsTrouble cX9_stampsTrouble 4 (some FieldType.int) 2 42 D (zty cy) [.ref (ht 0), .int x1, .int x2] (wSR ht (ht_reader 0) (ht_rows 0) (ht_evidence 0) (ht_history 0) cy St ++ (wRows ht_rows cy St_rows)) (wSR ht (ht_reader 0) (ht_rows 0) (ht_evidence 0) (ht_history 0) cy St ++ (wRows ht_rows cy St_rows)) r := by
  refine zCI_of (by decide +kernel) (Nat.le_of_ble_eq_true rfl) ?_
  intro p e s m below meth c A ls C hP hD hS hl
  generalize hargs : ([.ref (ht 0), .int x1, .int x2] : List Value).toArray = args at C ⊢
  have C : zX p s m meth c cX9_stampsTrouble 4 args RX9 (some FieldType.int) A D (zty cy) := C
  obtain ⟨hx, hb, hr, hts, hown, hlocks, hml, hA, hK⟩ := id C
  have hl : lv_has ls 4 [(0, .ref (ht 0)), (1, .int x1), (2, .int x2)] := hl
  generalize hH : s.heap = H at hP ⊢
  have hS : va_S A s.heap H [] := by rw [← hH]; exact hS
  generalize ([] : List Loc) = locs at hS ⊢
  refine lv_aload_n hx hb dX9_stampsTrouble_0 rfl (lv_at hl 0 rfl) ?_
  refine lv_iload_n hx hb dX9_stampsTrouble_1 rfl (lv_at hl 1 rfl) ?_
  obtain ⟨q1, hc, hf⟩ := zbd hf
  refine z_cVi0 (As := [.int x1]) (rest := []) C (c_X9_stampTrouble l D cy ht ht_reader ht_rows ht_evidence ht_history St St_rows x1 q1 hc) gV_X9_X9_stampTrouble hd_X9_stampTrouble ⟨Nat.le_of_ble_eq_true rfl, Nat.le_of_ble_eq_true rfl⟩ ⟨Nat.le_refl _, Nat.le_refl _⟩ (va_recv hK hP (ci := 5) (q0 := 0) rfl rfl) hP hD hS hl.1 (Nat.le_of_ble_eq_true rfl) dX9_stampsTrouble_2 (fun H locs hP hD hS => ?_)
  have hP : va_P D vwCl (wSR ht (ht_reader 0) (ht_rows 0) (ht_evidence 0) (ht_history 0) cy St ++ (wRows ht_rows cy St_rows)) H := hP
  have hD : va_D A (wSR ht (ht_reader 0) (ht_rows 0) (ht_evidence 0) (ht_history 0) cy St ++ (wRows ht_rows cy St_rows)) := hD
  refine lv_istore_n (lv' := [(3, .int q1), (0, .ref (ht 0)), (1, .int x1), (2, .int x2)]) hx hb dX9_stampsTrouble_5 rfl hl (by decide) rfl (fun ls hl => ?_)
  refine lv_iload_n hx hb dX9_stampsTrouble_6 rfl (lv_at hl 0 rfl) ?_
  refine z_if_eq (tgt := 14) hx hb dX9_stampsTrouble_7 (by decide) hf (fun hf => ?_) (fun hf => ?_)
  · refine lv_aload_n hx hb dX9_stampsTrouble_14 rfl (lv_at hl 1 rfl) ?_
    refine lv_iload_n hx hb dX9_stampsTrouble_15 rfl (lv_at hl 3 rfl) ?_
    obtain ⟨q2, hc, hf⟩ := zbd hf
    refine z_cVi0 (As := [.int x2]) (rest := []) C (c_X9_stampTrouble l D cy ht ht_reader ht_rows ht_evidence ht_history St St_rows x2 q2 hc) gV_X9_X9_stampTrouble hd_X9_stampTrouble ⟨Nat.le_of_ble_eq_true rfl, Nat.le_of_ble_eq_true rfl⟩ ⟨Nat.le_refl _, Nat.le_refl _⟩ (va_recv hK hP (ci := 5) (q0 := 0) rfl rfl) hP hD hS hl.1 (Nat.le_of_ble_eq_true rfl) dX9_stampsTrouble_16 (fun H locs hP hD hS => ?_)
    have hP : va_P D vwCl (wSR ht (ht_reader 0) (ht_rows 0) (ht_evidence 0) (ht_history 0) cy St ++ (wRows ht_rows cy St_rows)) H := hP
    have hD : va_D A (wSR ht (ht_reader 0) (ht_rows 0) (ht_evidence 0) (ht_history 0) cy St ++ (wRows ht_rows cy St_rows)) := hD
    obtain rfl := Option.some.inj hf
    exact z_iret (v := q2) C hP hD hS dX9_stampsTrouble_19
  · refine lv_iload_n hx hb dX9_stampsTrouble_10 rfl (lv_at hl 0 rfl) ?_
    refine lv_goto (tgt := 19) hx hb dX9_stampsTrouble_11 (by decide) ?_
    obtain rfl := Option.some.inj hf
    exact z_iret (v := q1) C hP hD hS dX9_stampsTrouble_19
def f_X9_oneIf (x0 : Int32) : Option (Int32) :=
  (if x0 = 0 then
    some (0 : Int32)
    else
    some (1 : Int32))
set_option maxHeartbeats 4000000 in
set_option maxRecDepth 100000 in
theorem c_X9_oneIf (l : Launch) (D : va_G) (cy : Nat → ClassId) (x0 : Int32) (r : Int32) (hf : f_X9_oneIf x0 = some r) : zCI l yX9_oneIf cX9_oneIf 1 (some FieldType.int) 0 0 D (zty cy) [.int x0] ([]) ([]) r := by
  refine zCI_of (by decide +kernel) (Nat.le_of_ble_eq_true rfl) ?_
  intro p e s m below meth c A ls C hP hD hS hl
  generalize hargs : ([.int x0] : List Value).toArray = args at C ⊢
  have C : zX p s m meth c cX9_oneIf 1 args RX9 (some FieldType.int) A D (zty cy) := C
  obtain ⟨hx, hb, hr, hts, hown, hlocks, hml, hA, hK⟩ := id C
  have hl : lv_has ls 1 [(0, .int x0)] := hl
  generalize hH : s.heap = H at hP ⊢
  have hS : va_S A s.heap H [] := by rw [← hH]; exact hS
  generalize ([] : List Loc) = locs at hS ⊢
  refine lv_iload_n hx hb dX9_oneIf_0 rfl (lv_at hl 0 rfl) ?_
  refine z_if_eq (tgt := 8) hx hb dX9_oneIf_1 (by decide) hf (fun hf => ?_) (fun hf => ?_)
  · refine lv_iconst (v := (0 : Int32)) hx hb dX9_oneIf_8 (by decide) ?_
    obtain rfl := Option.some.inj hf
    exact z_iret (v := (0 : Int32)) C hP hD hS dX9_oneIf_9
  · refine lv_iconst (v := (1 : Int32)) hx hb dX9_oneIf_4 (by decide) ?_
    refine lv_goto (tgt := 9) hx hb dX9_oneIf_5 (by decide) ?_
    obtain rfl := Option.some.inj hf
    exact z_iret (v := (1 : Int32)) C hP hD hS dX9_oneIf_9
def f_X9_older (St : SSR) (St_rows : SRows) (x1 : Int32) (x2 : Int32) : Option (Int32 × SSR) :=
  (f_X9_stampsTrouble St St_rows x1 x2).bind (fun q1 =>
    (if q1 = 0 then
      (f_X6_olderThan St_rows x2).bind (fun q2 =>
        (f_X6_holds q2 x1).bind (fun q3 =>
          (f_X9_oneIf q3).bind (fun q4 =>
            (f_X9_answer St q4).bind (fun q5 =>
              some (q5.1, q5.2)))))
      else
      (f_X9_refuse St q1).bind (fun q6 =>
        some (q6.1, q6.2))))
set_option maxHeartbeats 4000000 in
set_option maxRecDepth 100000 in
theorem c_X9_older (l : Launch) (D : va_G) (cy : Nat → ClassId) (ht : Nat → Nat) (ht_reader : Nat → Nat) (ht_rows : Nat → Nat) (ht_evidence : Nat → Nat) (ht_history : Nat → Nat) (St : SSR) (St_rows : SRows) (x1 : Int32) (x2 : Int32) (r : Int32 × SSR) (hf : f_X9_older St St_rows x1 x2 = some r) : zCI l yX9_older cX9_older 4 (some FieldType.int) 3 65 D (zty cy) [.ref (ht 0), .int x1, .int x2] (wSR ht (ht_reader 0) (ht_rows 0) (ht_evidence 0) (ht_history 0) cy St ++ (wRows ht_rows cy St_rows)) (wSR ht (ht_reader 0) (ht_rows 0) (ht_evidence 0) (ht_history 0) cy r.2 ++ (wRows ht_rows cy St_rows)) r.1 := by
  refine zCI_of (by decide +kernel) (Nat.le_of_ble_eq_true rfl) ?_
  intro p e s m below meth c A ls C hP hD hS hl
  generalize hargs : ([.ref (ht 0), .int x1, .int x2] : List Value).toArray = args at C ⊢
  have C : zX p s m meth c cX9_older 4 args RX9 (some FieldType.int) A D (zty cy) := C
  obtain ⟨hx, hb, hr, hts, hown, hlocks, hml, hA, hK⟩ := id C
  have hl : lv_has ls 4 [(0, .ref (ht 0)), (1, .int x1), (2, .int x2)] := hl
  generalize hH : s.heap = H at hP ⊢
  have hS : va_S A s.heap H [] := by rw [← hH]; exact hS
  generalize ([] : List Loc) = locs at hS ⊢
  refine lv_aload_n hx hb dX9_older_0 rfl (lv_at hl 0 rfl) ?_
  refine lv_iload_n hx hb dX9_older_1 rfl (lv_at hl 1 rfl) ?_
  refine lv_iload_n hx hb dX9_older_2 rfl (lv_at hl 2 rfl) ?_
  obtain ⟨q1, hc, hf⟩ := zbd hf
  refine z_cVi0 (As := [.int x1, .int x2]) (rest := []) C (c_X9_stampsTrouble l D cy ht ht_reader ht_rows ht_evidence ht_history St St_rows x1 x2 q1 hc) gV_X9_X9_stampsTrouble hd_X9_stampsTrouble ⟨Nat.le_of_ble_eq_true rfl, Nat.le_of_ble_eq_true rfl⟩ ⟨Nat.le_refl _, Nat.le_refl _⟩ (va_recv hK hP (ci := 5) (q0 := 0) rfl rfl) hP hD hS hl.1 (Nat.le_of_ble_eq_true rfl) dX9_older_3 (fun H locs hP hD hS => ?_)
  have hP : va_P D vwCl (wSR ht (ht_reader 0) (ht_rows 0) (ht_evidence 0) (ht_history 0) cy St ++ (wRows ht_rows cy St_rows)) H := hP
  have hD : va_D A (wSR ht (ht_reader 0) (ht_rows 0) (ht_evidence 0) (ht_history 0) cy St ++ (wRows ht_rows cy St_rows)) := hD
  refine lv_istore_n (lv' := [(3, .int q1), (0, .ref (ht 0)), (1, .int x1), (2, .int x2)]) hx hb dX9_older_6 rfl hl (by decide) rfl (fun ls hl => ?_)
  refine lv_iload_n hx hb dX9_older_7 rfl (lv_at hl 0 rfl) ?_
  refine z_if_eq (tgt := 19) hx hb dX9_older_8 (by decide) hf (fun hf => ?_) (fun hf => ?_)
  · refine lv_aload_n hx hb dX9_older_19 rfl (lv_at hl 1 rfl) ?_
    refine lv_aload_n hx hb dX9_older_20 rfl (lv_at hl 1 rfl) ?_
    refine va_get (D := D) (ci := 5) (v := .ref (ht_rows 0)) (C := RX9) (T := TX9) (N := 7) hx hb hts in_X9 hown hK hP 0 rfl rfl 1 (by decide) (hts _ q2_20) (fun _ h9 => h9) rfl dX9_older_21 ?_
    refine lv_iload_n hx hb dX9_older_24 rfl (lv_at hl 3 rfl) ?_
    obtain ⟨q2, hc, hf⟩ := zbd hf
    refine z_cVl (As := [.int x2]) (rest := [.ref (ht 0)]) C (c_X6_olderThan l D cy ht_rows St_rows x2 q2 hc) gV_X9_X6_olderThan hd_X6_olderThan ⟨Nat.le_of_ble_eq_true rfl, Nat.le_of_ble_eq_true rfl⟩ ⟨Nat.le_refl _, Nat.le_refl _⟩ (va_recv hK hP (ci := 3) (q0 := 1) rfl rfl) hP hD hS (w2 := wSR ht (ht_reader 0) (ht_rows 0) (ht_evidence 0) (ht_history 0) cy St ++ (wRows ht_rows cy St_rows)) [1, 2, 3, 4, 5, 6, 7, 8] [0] [0, 1, 2, 3, 4, 5, 6, 7, 8] rfl rfl rfl rfl rfl rfl (by decide) hl.1 (Nat.le_of_ble_eq_true rfl) dX9_older_25 (fun H locs hP hD hS => ?_)
    refine lv_iload_n hx hb dX9_older_28 rfl (lv_at hl 2 rfl) ?_
    obtain ⟨q3, hc, hf⟩ := zbd hf
    refine z_cSiE (As := [.long q2, .int x1]) (rest := [.ref (ht 0)]) C (c_X6_holds l D cy q2 x1 q3 hc) gS_X9_X6_holds hd_X6_holds ⟨Nat.le_of_ble_eq_true rfl, Nat.le_of_ble_eq_true rfl⟩ ⟨Nat.le_refl _, Nat.le_refl _⟩ hP hD hS hl.1 (Nat.le_of_ble_eq_true rfl) dX9_older_29 (fun H locs hP hD hS => ?_)
    obtain ⟨q4, hc, hf⟩ := zbd hf
    refine z_cSiE (As := [.int q3]) (rest := [.ref (ht 0)]) C (c_X9_oneIf l D cy q3 q4 hc) gS_X9_X9_oneIf hd_X9_oneIf ⟨Nat.le_of_ble_eq_true rfl, Nat.le_of_ble_eq_true rfl⟩ ⟨Nat.le_refl _, Nat.le_refl _⟩ hP hD hS hl.1 (Nat.le_of_ble_eq_true rfl) dX9_older_32 (fun H locs hP hD hS => ?_)
    obtain ⟨q5, hc, hf⟩ := zbd hf
    refine z_cVi (As := [.int q4]) (rest := []) C (c_X9_answer l D cy ht ht_reader ht_rows ht_evidence ht_history St q4 q5 hc) gV_X9_X9_answer hd_X9_answer ⟨Nat.le_of_ble_eq_true rfl, Nat.le_of_ble_eq_true rfl⟩ ⟨Nat.le_refl _, Nat.le_refl _⟩ (va_recv hK hP (ci := 5) (q0 := 0) rfl rfl) hP hD hS (w2 := wSR ht (ht_reader 0) (ht_rows 0) (ht_evidence 0) (ht_history 0) cy q5.2 ++ (wRows ht_rows cy St_rows)) [0] [1, 2, 3, 4, 5, 6, 7, 8] [8, 0, 1, 2, 3, 4, 5, 6, 7] rfl rfl rfl rfl rfl rfl (by decide) hl.1 (Nat.le_of_ble_eq_true rfl) dX9_older_35 (fun H locs hP hD hS => ?_)
    obtain rfl := Option.some.inj hf
    exact z_iret (v := q5.1) C hP hD hS dX9_older_38
  · refine lv_aload_n hx hb dX9_older_11 rfl (lv_at hl 1 rfl) ?_
    refine lv_iload_n hx hb dX9_older_12 rfl (lv_at hl 0 rfl) ?_
    obtain ⟨q6, hc, hf⟩ := zbd hf
    refine z_cVi (As := [.int q1]) (rest := []) C (c_X9_refuse l D cy ht ht_reader ht_rows ht_evidence ht_history St q1 q6 hc) gV_X9_X9_refuse hd_X9_refuse ⟨Nat.le_of_ble_eq_true rfl, Nat.le_of_ble_eq_true rfl⟩ ⟨Nat.le_refl _, Nat.le_refl _⟩ (va_recv hK hP (ci := 5) (q0 := 0) rfl rfl) hP hD hS (w2 := wSR ht (ht_reader 0) (ht_rows 0) (ht_evidence 0) (ht_history 0) cy q6.2 ++ (wRows ht_rows cy St_rows)) [0] [1, 2, 3, 4, 5, 6, 7, 8] [8, 0, 1, 2, 3, 4, 5, 6, 7] rfl rfl rfl rfl rfl rfl (by decide) hl.1 (Nat.le_of_ble_eq_true rfl) dX9_older_13 (fun H locs hP hD hS => ?_)
    refine lv_goto (tgt := 38) hx hb dX9_older_16 (by decide) ?_
    obtain rfl := Option.some.inj hf
    exact z_iret (v := q6.1) C hP hD hS dX9_older_38
def f_X9_oldest (St : SSR) (St_rows : SRows) : Option (Int32 × SSR) :=
  (f_X9_hasStore St St_rows).bind (fun q1 =>
    (if q1 = 0 then
      (f_X9_refuse St (1 : Int32)).bind (fun q2 =>
        some (q2.1, q2.2))
      else
      (f_X6_inUse St_rows).bind (fun q3 =>
        (f_X6_greatestAge St_rows q3).bind (fun q4 =>
          (f_X9_answer St q4).bind (fun q5 =>
            some (q5.1, q5.2))))))
set_option maxHeartbeats 4000000 in
set_option maxRecDepth 100000 in
theorem c_X9_oldest (l : Launch) (D : va_G) (cy : Nat → ClassId) (ht : Nat → Nat) (ht_reader : Nat → Nat) (ht_rows : Nat → Nat) (ht_evidence : Nat → Nat) (ht_history : Nat → Nat) (St : SSR) (St_rows : SRows) (r : Int32 × SSR) (hf : f_X9_oldest St St_rows = some r) : zCI l yX9_oldest cX9_oldest 1 (some FieldType.int) 2 64 D (zty cy) [.ref (ht 0)] (wSR ht (ht_reader 0) (ht_rows 0) (ht_evidence 0) (ht_history 0) cy St ++ (wRows ht_rows cy St_rows)) (wSR ht (ht_reader 0) (ht_rows 0) (ht_evidence 0) (ht_history 0) cy r.2 ++ (wRows ht_rows cy St_rows)) r.1 := by
  refine zCI_of (by decide +kernel) (Nat.le_of_ble_eq_true rfl) ?_
  intro p e s m below meth c A ls C hP hD hS hl
  generalize hargs : ([.ref (ht 0)] : List Value).toArray = args at C ⊢
  have C : zX p s m meth c cX9_oldest 1 args RX9 (some FieldType.int) A D (zty cy) := C
  obtain ⟨hx, hb, hr, hts, hown, hlocks, hml, hA, hK⟩ := id C
  have hl : lv_has ls 1 [(0, .ref (ht 0))] := hl
  generalize hH : s.heap = H at hP ⊢
  have hS : va_S A s.heap H [] := by rw [← hH]; exact hS
  generalize ([] : List Loc) = locs at hS ⊢
  refine lv_aload_n hx hb dX9_oldest_0 rfl (lv_at hl 0 rfl) ?_
  obtain ⟨q1, hc, hf⟩ := zbd hf
  refine z_cVi0 (As := []) (rest := []) C (c_X9_hasStore l D cy ht ht_reader ht_rows ht_evidence ht_history St St_rows q1 hc) gV_X9_X9_hasStore hd_X9_hasStore ⟨Nat.le_of_ble_eq_true rfl, Nat.le_of_ble_eq_true rfl⟩ ⟨Nat.le_refl _, Nat.le_refl _⟩ (va_recv hK hP (ci := 5) (q0 := 0) rfl rfl) hP hD hS hl.1 (Nat.le_of_ble_eq_true rfl) dX9_oldest_1 (fun H locs hP hD hS => ?_)
  have hP : va_P D vwCl (wSR ht (ht_reader 0) (ht_rows 0) (ht_evidence 0) (ht_history 0) cy St ++ (wRows ht_rows cy St_rows)) H := hP
  have hD : va_D A (wSR ht (ht_reader 0) (ht_rows 0) (ht_evidence 0) (ht_history 0) cy St ++ (wRows ht_rows cy St_rows)) := hD
  refine z_if_eq (tgt := 28) hx hb dX9_oldest_4 (by decide) hf (fun hf => ?_) (fun hf => ?_)
  · refine lv_aload_n hx hb dX9_oldest_28 rfl (lv_at hl 0 rfl) ?_
    refine lv_iconst (v := (1 : Int32)) hx hb dX9_oldest_29 (by decide) ?_
    obtain ⟨q2, hc, hf⟩ := zbd hf
    refine z_cVi (As := [.int (1 : Int32)]) (rest := []) C (c_X9_refuse l D cy ht ht_reader ht_rows ht_evidence ht_history St (1 : Int32) q2 hc) gV_X9_X9_refuse hd_X9_refuse ⟨Nat.le_of_ble_eq_true rfl, Nat.le_of_ble_eq_true rfl⟩ ⟨Nat.le_refl _, Nat.le_refl _⟩ (va_recv hK hP (ci := 5) (q0 := 0) rfl rfl) hP hD hS (w2 := wSR ht (ht_reader 0) (ht_rows 0) (ht_evidence 0) (ht_history 0) cy q2.2 ++ (wRows ht_rows cy St_rows)) [0] [1, 2, 3, 4, 5, 6, 7, 8] [8, 0, 1, 2, 3, 4, 5, 6, 7] rfl rfl rfl rfl rfl rfl (by decide) hl.1 (Nat.le_of_ble_eq_true rfl) dX9_oldest_30 (fun H locs hP hD hS => ?_)
    obtain rfl := Option.some.inj hf
    exact z_iret (v := q2.1) C hP hD hS dX9_oldest_33
  · refine lv_aload_n hx hb dX9_oldest_7 rfl (lv_at hl 0 rfl) ?_
    refine lv_aload_n hx hb dX9_oldest_8 rfl (lv_at hl 0 rfl) ?_
    refine va_get (D := D) (ci := 5) (v := .ref (ht_rows 0)) (C := RX9) (T := TX9) (N := 7) hx hb hts in_X9 hown hK hP 0 rfl rfl 1 (by decide) (hts _ q2_20) (fun _ h9 => h9) rfl dX9_oldest_9 ?_
    refine lv_aload_n hx hb dX9_oldest_12 rfl (lv_at hl 0 rfl) ?_
    refine va_get (D := D) (ci := 5) (v := .ref (ht_rows 0)) (C := RX9) (T := TX9) (N := 7) hx hb hts in_X9 hown hK hP 0 rfl rfl 1 (by decide) (hts _ q2_20) (fun _ h9 => h9) rfl dX9_oldest_13 ?_
    obtain ⟨q3, hc, hf⟩ := zbd hf
    refine z_cVl (As := []) (rest := [.ref (ht_rows 0), .ref (ht 0)]) C (c_X6_inUse l D cy ht_rows St_rows q3 hc) gV_X9_X6_inUse hd_X6_inUse ⟨Nat.le_of_ble_eq_true rfl, Nat.le_of_ble_eq_true rfl⟩ ⟨Nat.le_refl _, Nat.le_refl _⟩ (va_recv hK hP (ci := 3) (q0 := 1) rfl rfl) hP hD hS (w2 := wSR ht (ht_reader 0) (ht_rows 0) (ht_evidence 0) (ht_history 0) cy St ++ (wRows ht_rows cy St_rows)) [1, 2, 3, 4, 5, 6, 7, 8] [0] [0, 1, 2, 3, 4, 5, 6, 7, 8] rfl rfl rfl rfl rfl rfl (by decide) hl.1 (Nat.le_of_ble_eq_true rfl) dX9_oldest_16 (fun H locs hP hD hS => ?_)
    obtain ⟨q4, hc, hf⟩ := zbd hf
    refine z_cVi (As := [.long q3]) (rest := [.ref (ht 0)]) C (c_X6_greatestAge l D cy ht_rows St_rows q3 q4 hc) gV_X9_X6_greatestAge hd_X6_greatestAge ⟨Nat.le_of_ble_eq_true rfl, Nat.le_of_ble_eq_true rfl⟩ ⟨Nat.le_refl _, Nat.le_refl _⟩ (va_recv hK hP (ci := 3) (q0 := 1) rfl rfl) hP hD hS (w2 := wSR ht (ht_reader 0) (ht_rows 0) (ht_evidence 0) (ht_history 0) cy St ++ (wRows ht_rows cy St_rows)) [1, 2, 3, 4, 5, 6, 7, 8] [0] [0, 1, 2, 3, 4, 5, 6, 7, 8] rfl rfl rfl rfl rfl rfl (by decide) hl.1 (Nat.le_of_ble_eq_true rfl) dX9_oldest_19 (fun H locs hP hD hS => ?_)
    obtain ⟨q5, hc, hf⟩ := zbd hf
    refine z_cVi (As := [.int q4]) (rest := []) C (c_X9_answer l D cy ht ht_reader ht_rows ht_evidence ht_history St q4 q5 hc) gV_X9_X9_answer hd_X9_answer ⟨Nat.le_of_ble_eq_true rfl, Nat.le_of_ble_eq_true rfl⟩ ⟨Nat.le_refl _, Nat.le_refl _⟩ (va_recv hK hP (ci := 5) (q0 := 0) rfl rfl) hP hD hS (w2 := wSR ht (ht_reader 0) (ht_rows 0) (ht_evidence 0) (ht_history 0) cy q5.2 ++ (wRows ht_rows cy St_rows)) [0] [1, 2, 3, 4, 5, 6, 7, 8] [8, 0, 1, 2, 3, 4, 5, 6, 7] rfl rfl rfl rfl rfl rfl (by decide) hl.1 (Nat.le_of_ble_eq_true rfl) dX9_oldest_22 (fun H locs hP hD hS => ?_)
    refine lv_goto (tgt := 33) hx hb dX9_oldest_25 (by decide) ?_
    obtain rfl := Option.some.inj hf
    exact z_iret (v := q5.1) C hP hD hS dX9_oldest_33
def f_X9_room (St : SSR) (St_rows : SRows) : Option (Int32 × SSR) :=
  (f_X9_hasStore St St_rows).bind (fun q1 =>
    (if q1 = 0 then
      (f_X9_refuse St (1 : Int32)).bind (fun q2 =>
        some (q2.1, q2.2))
      else
      (f_X6_inUse St_rows).bind (fun q3 =>
        (f_X6_roomBeside St_rows q3).bind (fun q4 =>
          (f_X9_answer St q4).bind (fun q5 =>
            some (q5.1, q5.2))))))
set_option maxHeartbeats 4000000 in
set_option maxRecDepth 100000 in
theorem c_X9_room (l : Launch) (D : va_G) (cy : Nat → ClassId) (ht : Nat → Nat) (ht_reader : Nat → Nat) (ht_rows : Nat → Nat) (ht_evidence : Nat → Nat) (ht_history : Nat → Nat) (St : SSR) (St_rows : SRows) (r : Int32 × SSR) (hf : f_X9_room St St_rows = some r) : zCI l yX9_room cX9_room 1 (some FieldType.int) 3 87 D (zty cy) [.ref (ht 0)] (wSR ht (ht_reader 0) (ht_rows 0) (ht_evidence 0) (ht_history 0) cy St ++ (wRows ht_rows cy St_rows)) (wSR ht (ht_reader 0) (ht_rows 0) (ht_evidence 0) (ht_history 0) cy r.2 ++ (wRows ht_rows cy St_rows)) r.1 := by
  refine zCI_of (by decide +kernel) (Nat.le_of_ble_eq_true rfl) ?_
  intro p e s m below meth c A ls C hP hD hS hl
  generalize hargs : ([.ref (ht 0)] : List Value).toArray = args at C ⊢
  have C : zX p s m meth c cX9_room 1 args RX9 (some FieldType.int) A D (zty cy) := C
  obtain ⟨hx, hb, hr, hts, hown, hlocks, hml, hA, hK⟩ := id C
  have hl : lv_has ls 1 [(0, .ref (ht 0))] := hl
  generalize hH : s.heap = H at hP ⊢
  have hS : va_S A s.heap H [] := by rw [← hH]; exact hS
  generalize ([] : List Loc) = locs at hS ⊢
  refine lv_aload_n hx hb dX9_room_0 rfl (lv_at hl 0 rfl) ?_
  obtain ⟨q1, hc, hf⟩ := zbd hf
  refine z_cVi0 (As := []) (rest := []) C (c_X9_hasStore l D cy ht ht_reader ht_rows ht_evidence ht_history St St_rows q1 hc) gV_X9_X9_hasStore hd_X9_hasStore ⟨Nat.le_of_ble_eq_true rfl, Nat.le_of_ble_eq_true rfl⟩ ⟨Nat.le_refl _, Nat.le_refl _⟩ (va_recv hK hP (ci := 5) (q0 := 0) rfl rfl) hP hD hS hl.1 (Nat.le_of_ble_eq_true rfl) dX9_room_1 (fun H locs hP hD hS => ?_)
  have hP : va_P D vwCl (wSR ht (ht_reader 0) (ht_rows 0) (ht_evidence 0) (ht_history 0) cy St ++ (wRows ht_rows cy St_rows)) H := hP
  have hD : va_D A (wSR ht (ht_reader 0) (ht_rows 0) (ht_evidence 0) (ht_history 0) cy St ++ (wRows ht_rows cy St_rows)) := hD
  refine z_if_eq (tgt := 28) hx hb dX9_room_4 (by decide) hf (fun hf => ?_) (fun hf => ?_)
  · refine lv_aload_n hx hb dX9_room_28 rfl (lv_at hl 0 rfl) ?_
    refine lv_iconst (v := (1 : Int32)) hx hb dX9_room_29 (by decide) ?_
    obtain ⟨q2, hc, hf⟩ := zbd hf
    refine z_cVi (As := [.int (1 : Int32)]) (rest := []) C (c_X9_refuse l D cy ht ht_reader ht_rows ht_evidence ht_history St (1 : Int32) q2 hc) gV_X9_X9_refuse hd_X9_refuse ⟨Nat.le_of_ble_eq_true rfl, Nat.le_of_ble_eq_true rfl⟩ ⟨Nat.le_refl _, Nat.le_refl _⟩ (va_recv hK hP (ci := 5) (q0 := 0) rfl rfl) hP hD hS (w2 := wSR ht (ht_reader 0) (ht_rows 0) (ht_evidence 0) (ht_history 0) cy q2.2 ++ (wRows ht_rows cy St_rows)) [0] [1, 2, 3, 4, 5, 6, 7, 8] [8, 0, 1, 2, 3, 4, 5, 6, 7] rfl rfl rfl rfl rfl rfl (by decide) hl.1 (Nat.le_of_ble_eq_true rfl) dX9_room_30 (fun H locs hP hD hS => ?_)
    obtain rfl := Option.some.inj hf
    exact z_iret (v := q2.1) C hP hD hS dX9_room_33
  · refine lv_aload_n hx hb dX9_room_7 rfl (lv_at hl 0 rfl) ?_
    refine lv_aload_n hx hb dX9_room_8 rfl (lv_at hl 0 rfl) ?_
    refine va_get (D := D) (ci := 5) (v := .ref (ht_rows 0)) (C := RX9) (T := TX9) (N := 7) hx hb hts in_X9 hown hK hP 0 rfl rfl 1 (by decide) (hts _ q2_20) (fun _ h9 => h9) rfl dX9_room_9 ?_
    refine lv_aload_n hx hb dX9_room_12 rfl (lv_at hl 0 rfl) ?_
    refine va_get (D := D) (ci := 5) (v := .ref (ht_rows 0)) (C := RX9) (T := TX9) (N := 7) hx hb hts in_X9 hown hK hP 0 rfl rfl 1 (by decide) (hts _ q2_20) (fun _ h9 => h9) rfl dX9_room_13 ?_
    obtain ⟨q3, hc, hf⟩ := zbd hf
    refine z_cVl (As := []) (rest := [.ref (ht_rows 0), .ref (ht 0)]) C (c_X6_inUse l D cy ht_rows St_rows q3 hc) gV_X9_X6_inUse hd_X6_inUse ⟨Nat.le_of_ble_eq_true rfl, Nat.le_of_ble_eq_true rfl⟩ ⟨Nat.le_refl _, Nat.le_refl _⟩ (va_recv hK hP (ci := 3) (q0 := 1) rfl rfl) hP hD hS (w2 := wSR ht (ht_reader 0) (ht_rows 0) (ht_evidence 0) (ht_history 0) cy St ++ (wRows ht_rows cy St_rows)) [1, 2, 3, 4, 5, 6, 7, 8] [0] [0, 1, 2, 3, 4, 5, 6, 7, 8] rfl rfl rfl rfl rfl rfl (by decide) hl.1 (Nat.le_of_ble_eq_true rfl) dX9_room_16 (fun H locs hP hD hS => ?_)
    obtain ⟨q4, hc, hf⟩ := zbd hf
    refine z_cVi (As := [.long q3]) (rest := [.ref (ht 0)]) C (c_X6_roomBeside l D cy ht_rows St_rows q3 q4 hc) gV_X9_X6_roomBeside hd_X6_roomBeside ⟨Nat.le_of_ble_eq_true rfl, Nat.le_of_ble_eq_true rfl⟩ ⟨Nat.le_refl _, Nat.le_refl _⟩ (va_recv hK hP (ci := 3) (q0 := 1) rfl rfl) hP hD hS (w2 := wSR ht (ht_reader 0) (ht_rows 0) (ht_evidence 0) (ht_history 0) cy St ++ (wRows ht_rows cy St_rows)) [1, 2, 3, 4, 5, 6, 7, 8] [0] [0, 1, 2, 3, 4, 5, 6, 7, 8] rfl rfl rfl rfl rfl rfl (by decide) hl.1 (Nat.le_of_ble_eq_true rfl) dX9_room_19 (fun H locs hP hD hS => ?_)
    obtain ⟨q5, hc, hf⟩ := zbd hf
    refine z_cVi (As := [.int q4]) (rest := []) C (c_X9_answer l D cy ht ht_reader ht_rows ht_evidence ht_history St q4 q5 hc) gV_X9_X9_answer hd_X9_answer ⟨Nat.le_of_ble_eq_true rfl, Nat.le_of_ble_eq_true rfl⟩ ⟨Nat.le_refl _, Nat.le_refl _⟩ (va_recv hK hP (ci := 5) (q0 := 0) rfl rfl) hP hD hS (w2 := wSR ht (ht_reader 0) (ht_rows 0) (ht_evidence 0) (ht_history 0) cy q5.2 ++ (wRows ht_rows cy St_rows)) [0] [1, 2, 3, 4, 5, 6, 7, 8] [8, 0, 1, 2, 3, 4, 5, 6, 7] rfl rfl rfl rfl rfl rfl (by decide) hl.1 (Nat.le_of_ble_eq_true rfl) dX9_room_22 (fun H locs hP hD hS => ?_)
    refine lv_goto (tgt := 33) hx hb dX9_room_25 (by decide) ?_
    obtain rfl := Option.some.inj hf
    exact z_iret (v := q5.1) C hP hD hS dX9_room_33
def f_X9_roomFrozen (St : SSR) (St_rows : SRows) : Option (Int32 × SSR) :=
  (f_X9_hasStore St St_rows).bind (fun q1 =>
    (if q1 = 0 then
      (f_X9_refuse St (1 : Int32)).bind (fun q2 =>
        some (q2.1, q2.2))
      else
      (f_X6_inUseWhenFrozen St_rows).bind (fun q3 =>
        (f_X6_roomBeside St_rows q3).bind (fun q4 =>
          (f_X9_answer St q4).bind (fun q5 =>
            some (q5.1, q5.2))))))
set_option maxHeartbeats 4000000 in
set_option maxRecDepth 100000 in
theorem c_X9_roomFrozen (l : Launch) (D : va_G) (cy : Nat → ClassId) (ht : Nat → Nat) (ht_reader : Nat → Nat) (ht_rows : Nat → Nat) (ht_evidence : Nat → Nat) (ht_history : Nat → Nat) (St : SSR) (St_rows : SRows) (r : Int32 × SSR) (hf : f_X9_roomFrozen St St_rows = some r) : zCI l yX9_roomFrozen cX9_roomFrozen 1 (some FieldType.int) 4 95 D (zty cy) [.ref (ht 0)] (wSR ht (ht_reader 0) (ht_rows 0) (ht_evidence 0) (ht_history 0) cy St ++ (wRows ht_rows cy St_rows)) (wSR ht (ht_reader 0) (ht_rows 0) (ht_evidence 0) (ht_history 0) cy r.2 ++ (wRows ht_rows cy St_rows)) r.1 := by
  refine zCI_of (by decide +kernel) (Nat.le_of_ble_eq_true rfl) ?_
  intro p e s m below meth c A ls C hP hD hS hl
  generalize hargs : ([.ref (ht 0)] : List Value).toArray = args at C ⊢
  have C : zX p s m meth c cX9_roomFrozen 1 args RX9 (some FieldType.int) A D (zty cy) := C
  obtain ⟨hx, hb, hr, hts, hown, hlocks, hml, hA, hK⟩ := id C
  have hl : lv_has ls 1 [(0, .ref (ht 0))] := hl
  generalize hH : s.heap = H at hP ⊢
  have hS : va_S A s.heap H [] := by rw [← hH]; exact hS
  generalize ([] : List Loc) = locs at hS ⊢
  refine lv_aload_n hx hb dX9_roomFrozen_0 rfl (lv_at hl 0 rfl) ?_
  obtain ⟨q1, hc, hf⟩ := zbd hf
  refine z_cVi0 (As := []) (rest := []) C (c_X9_hasStore l D cy ht ht_reader ht_rows ht_evidence ht_history St St_rows q1 hc) gV_X9_X9_hasStore hd_X9_hasStore ⟨Nat.le_of_ble_eq_true rfl, Nat.le_of_ble_eq_true rfl⟩ ⟨Nat.le_refl _, Nat.le_refl _⟩ (va_recv hK hP (ci := 5) (q0 := 0) rfl rfl) hP hD hS hl.1 (Nat.le_of_ble_eq_true rfl) dX9_roomFrozen_1 (fun H locs hP hD hS => ?_)
  have hP : va_P D vwCl (wSR ht (ht_reader 0) (ht_rows 0) (ht_evidence 0) (ht_history 0) cy St ++ (wRows ht_rows cy St_rows)) H := hP
  have hD : va_D A (wSR ht (ht_reader 0) (ht_rows 0) (ht_evidence 0) (ht_history 0) cy St ++ (wRows ht_rows cy St_rows)) := hD
  refine z_if_eq (tgt := 28) hx hb dX9_roomFrozen_4 (by decide) hf (fun hf => ?_) (fun hf => ?_)
  · refine lv_aload_n hx hb dX9_roomFrozen_28 rfl (lv_at hl 0 rfl) ?_
    refine lv_iconst (v := (1 : Int32)) hx hb dX9_roomFrozen_29 (by decide) ?_
    obtain ⟨q2, hc, hf⟩ := zbd hf
    refine z_cVi (As := [.int (1 : Int32)]) (rest := []) C (c_X9_refuse l D cy ht ht_reader ht_rows ht_evidence ht_history St (1 : Int32) q2 hc) gV_X9_X9_refuse hd_X9_refuse ⟨Nat.le_of_ble_eq_true rfl, Nat.le_of_ble_eq_true rfl⟩ ⟨Nat.le_refl _, Nat.le_refl _⟩ (va_recv hK hP (ci := 5) (q0 := 0) rfl rfl) hP hD hS (w2 := wSR ht (ht_reader 0) (ht_rows 0) (ht_evidence 0) (ht_history 0) cy q2.2 ++ (wRows ht_rows cy St_rows)) [0] [1, 2, 3, 4, 5, 6, 7, 8] [8, 0, 1, 2, 3, 4, 5, 6, 7] rfl rfl rfl rfl rfl rfl (by decide) hl.1 (Nat.le_of_ble_eq_true rfl) dX9_roomFrozen_30 (fun H locs hP hD hS => ?_)
    obtain rfl := Option.some.inj hf
    exact z_iret (v := q2.1) C hP hD hS dX9_roomFrozen_33
  · refine lv_aload_n hx hb dX9_roomFrozen_7 rfl (lv_at hl 0 rfl) ?_
    refine lv_aload_n hx hb dX9_roomFrozen_8 rfl (lv_at hl 0 rfl) ?_
    refine va_get (D := D) (ci := 5) (v := .ref (ht_rows 0)) (C := RX9) (T := TX9) (N := 7) hx hb hts in_X9 hown hK hP 0 rfl rfl 1 (by decide) (hts _ q2_20) (fun _ h9 => h9) rfl dX9_roomFrozen_9 ?_
    refine lv_aload_n hx hb dX9_roomFrozen_12 rfl (lv_at hl 0 rfl) ?_
    refine va_get (D := D) (ci := 5) (v := .ref (ht_rows 0)) (C := RX9) (T := TX9) (N := 7) hx hb hts in_X9 hown hK hP 0 rfl rfl 1 (by decide) (hts _ q2_20) (fun _ h9 => h9) rfl dX9_roomFrozen_13 ?_
    obtain ⟨q3, hc, hf⟩ := zbd hf
    refine z_cVl (As := []) (rest := [.ref (ht_rows 0), .ref (ht 0)]) C (c_X6_inUseWhenFrozen l D cy ht_rows St_rows q3 hc) gV_X9_X6_inUseWhenFrozen hd_X6_inUseWhenFrozen ⟨Nat.le_of_ble_eq_true rfl, Nat.le_of_ble_eq_true rfl⟩ ⟨Nat.le_refl _, Nat.le_refl _⟩ (va_recv hK hP (ci := 3) (q0 := 1) rfl rfl) hP hD hS (w2 := wSR ht (ht_reader 0) (ht_rows 0) (ht_evidence 0) (ht_history 0) cy St ++ (wRows ht_rows cy St_rows)) [1, 2, 3, 4, 5, 6, 7, 8] [0] [0, 1, 2, 3, 4, 5, 6, 7, 8] rfl rfl rfl rfl rfl rfl (by decide) hl.1 (Nat.le_of_ble_eq_true rfl) dX9_roomFrozen_16 (fun H locs hP hD hS => ?_)
    obtain ⟨q4, hc, hf⟩ := zbd hf
    refine z_cVi (As := [.long q3]) (rest := [.ref (ht 0)]) C (c_X6_roomBeside l D cy ht_rows St_rows q3 q4 hc) gV_X9_X6_roomBeside hd_X6_roomBeside ⟨Nat.le_of_ble_eq_true rfl, Nat.le_of_ble_eq_true rfl⟩ ⟨Nat.le_refl _, Nat.le_refl _⟩ (va_recv hK hP (ci := 3) (q0 := 1) rfl rfl) hP hD hS (w2 := wSR ht (ht_reader 0) (ht_rows 0) (ht_evidence 0) (ht_history 0) cy St ++ (wRows ht_rows cy St_rows)) [1, 2, 3, 4, 5, 6, 7, 8] [0] [0, 1, 2, 3, 4, 5, 6, 7, 8] rfl rfl rfl rfl rfl rfl (by decide) hl.1 (Nat.le_of_ble_eq_true rfl) dX9_roomFrozen_19 (fun H locs hP hD hS => ?_)
    obtain ⟨q5, hc, hf⟩ := zbd hf
    refine z_cVi (As := [.int q4]) (rest := []) C (c_X9_answer l D cy ht ht_reader ht_rows ht_evidence ht_history St q4 q5 hc) gV_X9_X9_answer hd_X9_answer ⟨Nat.le_of_ble_eq_true rfl, Nat.le_of_ble_eq_true rfl⟩ ⟨Nat.le_refl _, Nat.le_refl _⟩ (va_recv hK hP (ci := 5) (q0 := 0) rfl rfl) hP hD hS (w2 := wSR ht (ht_reader 0) (ht_rows 0) (ht_evidence 0) (ht_history 0) cy q5.2 ++ (wRows ht_rows cy St_rows)) [0] [1, 2, 3, 4, 5, 6, 7, 8] [8, 0, 1, 2, 3, 4, 5, 6, 7] rfl rfl rfl rfl rfl rfl (by decide) hl.1 (Nat.le_of_ble_eq_true rfl) dX9_roomFrozen_22 (fun H locs hP hD hS => ?_)
    refine lv_goto (tgt := 33) hx hb dX9_roomFrozen_25 (by decide) ?_
    obtain rfl := Option.some.inj hf
    exact z_iret (v := q5.1) C hP hD hS dX9_roomFrozen_33
def f_X9_horizon (St : SSR) (St_rows : SRows) : Option (Int32 × SSR) :=
  (f_X9_hasStore St St_rows).bind (fun q1 =>
    (if q1 = 0 then
      (f_X9_refuse St (1 : Int32)).bind (fun q2 =>
        some (q2.1, q2.2))
      else
      (f_X6_horizonWithout St_rows (-2 : Int32)).bind (fun q3 =>
        (f_X9_answer St q3).bind (fun q4 =>
          some (q4.1, q4.2)))))
set_option maxHeartbeats 4000000 in
set_option maxRecDepth 100000 in
theorem c_X9_horizon (l : Launch) (D : va_G) (cy : Nat → ClassId) (ht : Nat → Nat) (ht_reader : Nat → Nat) (ht_rows : Nat → Nat) (ht_evidence : Nat → Nat) (ht_history : Nat → Nat) (St : SSR) (St_rows : SRows) (r : Int32 × SSR) (hf : f_X9_horizon St St_rows = some r) : zCI l yX9_horizon cX9_horizon 1 (some FieldType.int) 2 49 D (zty cy) [.ref (ht 0)] (wSR ht (ht_reader 0) (ht_rows 0) (ht_evidence 0) (ht_history 0) cy St ++ (wRows ht_rows cy St_rows)) (wSR ht (ht_reader 0) (ht_rows 0) (ht_evidence 0) (ht_history 0) cy r.2 ++ (wRows ht_rows cy St_rows)) r.1 := by
  refine zCI_of (by decide +kernel) (Nat.le_of_ble_eq_true rfl) ?_
  intro p e s m below meth c A ls C hP hD hS hl
  generalize hargs : ([.ref (ht 0)] : List Value).toArray = args at C ⊢
  have C : zX p s m meth c cX9_horizon 1 args RX9 (some FieldType.int) A D (zty cy) := C
  obtain ⟨hx, hb, hr, hts, hown, hlocks, hml, hA, hK⟩ := id C
  have hl : lv_has ls 1 [(0, .ref (ht 0))] := hl
  generalize hH : s.heap = H at hP ⊢
  have hS : va_S A s.heap H [] := by rw [← hH]; exact hS
  generalize ([] : List Loc) = locs at hS ⊢
  refine lv_aload_n hx hb dX9_horizon_0 rfl (lv_at hl 0 rfl) ?_
  obtain ⟨q1, hc, hf⟩ := zbd hf
  refine z_cVi0 (As := []) (rest := []) C (c_X9_hasStore l D cy ht ht_reader ht_rows ht_evidence ht_history St St_rows q1 hc) gV_X9_X9_hasStore hd_X9_hasStore ⟨Nat.le_of_ble_eq_true rfl, Nat.le_of_ble_eq_true rfl⟩ ⟨Nat.le_refl _, Nat.le_refl _⟩ (va_recv hK hP (ci := 5) (q0 := 0) rfl rfl) hP hD hS hl.1 (Nat.le_of_ble_eq_true rfl) dX9_horizon_1 (fun H locs hP hD hS => ?_)
  have hP : va_P D vwCl (wSR ht (ht_reader 0) (ht_rows 0) (ht_evidence 0) (ht_history 0) cy St ++ (wRows ht_rows cy St_rows)) H := hP
  have hD : va_D A (wSR ht (ht_reader 0) (ht_rows 0) (ht_evidence 0) (ht_history 0) cy St ++ (wRows ht_rows cy St_rows)) := hD
  refine z_if_eq (tgt := 23) hx hb dX9_horizon_4 (by decide) hf (fun hf => ?_) (fun hf => ?_)
  · refine lv_aload_n hx hb dX9_horizon_23 rfl (lv_at hl 0 rfl) ?_
    refine lv_iconst (v := (1 : Int32)) hx hb dX9_horizon_24 (by decide) ?_
    obtain ⟨q2, hc, hf⟩ := zbd hf
    refine z_cVi (As := [.int (1 : Int32)]) (rest := []) C (c_X9_refuse l D cy ht ht_reader ht_rows ht_evidence ht_history St (1 : Int32) q2 hc) gV_X9_X9_refuse hd_X9_refuse ⟨Nat.le_of_ble_eq_true rfl, Nat.le_of_ble_eq_true rfl⟩ ⟨Nat.le_refl _, Nat.le_refl _⟩ (va_recv hK hP (ci := 5) (q0 := 0) rfl rfl) hP hD hS (w2 := wSR ht (ht_reader 0) (ht_rows 0) (ht_evidence 0) (ht_history 0) cy q2.2 ++ (wRows ht_rows cy St_rows)) [0] [1, 2, 3, 4, 5, 6, 7, 8] [8, 0, 1, 2, 3, 4, 5, 6, 7] rfl rfl rfl rfl rfl rfl (by decide) hl.1 (Nat.le_of_ble_eq_true rfl) dX9_horizon_25 (fun H locs hP hD hS => ?_)
    obtain rfl := Option.some.inj hf
    exact z_iret (v := q2.1) C hP hD hS dX9_horizon_28
  · refine lv_aload_n hx hb dX9_horizon_7 rfl (lv_at hl 0 rfl) ?_
    refine lv_aload_n hx hb dX9_horizon_8 rfl (lv_at hl 0 rfl) ?_
    refine va_get (D := D) (ci := 5) (v := .ref (ht_rows 0)) (C := RX9) (T := TX9) (N := 7) hx hb hts in_X9 hown hK hP 0 rfl rfl 1 (by decide) (hts _ q2_20) (fun _ h9 => h9) rfl dX9_horizon_9 ?_
    refine lv_bipush (v := (-2 : Int32)) hx hb dX9_horizon_12 (by decide) ?_
    obtain ⟨q3, hc, hf⟩ := zbd hf
    refine z_cVi (As := [.int (-2 : Int32)]) (rest := [.ref (ht 0)]) C (c_X6_horizonWithout l D cy ht_rows St_rows (-2 : Int32) q3 hc) gV_X9_X6_horizonWithout hd_X6_horizonWithout ⟨Nat.le_of_ble_eq_true rfl, Nat.le_of_ble_eq_true rfl⟩ ⟨Nat.le_refl _, Nat.le_refl _⟩ (va_recv hK hP (ci := 3) (q0 := 1) rfl rfl) hP hD hS (w2 := wSR ht (ht_reader 0) (ht_rows 0) (ht_evidence 0) (ht_history 0) cy St ++ (wRows ht_rows cy St_rows)) [1, 2, 3, 4, 5, 6, 7, 8] [0] [0, 1, 2, 3, 4, 5, 6, 7, 8] rfl rfl rfl rfl rfl rfl (by decide) hl.1 (Nat.le_of_ble_eq_true rfl) dX9_horizon_14 (fun H locs hP hD hS => ?_)
    obtain ⟨q4, hc, hf⟩ := zbd hf
    refine z_cVi (As := [.int q3]) (rest := []) C (c_X9_answer l D cy ht ht_reader ht_rows ht_evidence ht_history St q3 q4 hc) gV_X9_X9_answer hd_X9_answer ⟨Nat.le_of_ble_eq_true rfl, Nat.le_of_ble_eq_true rfl⟩ ⟨Nat.le_refl _, Nat.le_refl _⟩ (va_recv hK hP (ci := 5) (q0 := 0) rfl rfl) hP hD hS (w2 := wSR ht (ht_reader 0) (ht_rows 0) (ht_evidence 0) (ht_history 0) cy q4.2 ++ (wRows ht_rows cy St_rows)) [0] [1, 2, 3, 4, 5, 6, 7, 8] [8, 0, 1, 2, 3, 4, 5, 6, 7] rfl rfl rfl rfl rfl rfl (by decide) hl.1 (Nat.le_of_ble_eq_true rfl) dX9_horizon_17 (fun H locs hP hD hS => ?_)
    refine lv_goto (tgt := 28) hx hb dX9_horizon_20 (by decide) ?_
    obtain rfl := Option.some.inj hf
    exact z_iret (v := q4.1) C hP hD hS dX9_horizon_28
def f_X9_writer (St : SSR) (St_rows : SRows) (x1 : Int32) (x2 : Int32) : Option (Int32 × SSR) :=
  (f_X6_runs St_rows x1).bind (fun q1 =>
    (if q1 = 0 then
      (f_X9_refuse St (1 : Int32)).bind (fun q16 =>
        some (q16.1, q16.2))
      else
      (if x2 = 0 then
        (f_X6_stampOf St_rows x1).bind (fun q2 =>
          (f_X9_answer St q2).bind (fun q3 =>
            some (q3.1, q3.2)))
        else
        (if x2 = 1 then
          (f_X6_hasLost St_rows x1).bind (fun q4 =>
            (f_X9_oneIf q4).bind (fun q5 =>
              (f_X9_answer St q5).bind (fun q6 =>
                some (q6.1, q6.2))))
          else
          (if x2 = 2 then
            (f_X6_snapshotLength St_rows x1).bind (fun q7 =>
              (f_X9_answer St q7).bind (fun q8 =>
                some (q8.1, q8.2)))
            else
            (if x2 = 3 then
              (f_X6_stampOf St_rows x1).bind (fun q9 =>
                (f_X6_madeBy St_rows q9).bind (fun q10 =>
                  (f_X9_answer St q10).bind (fun q11 =>
                    some (q11.1, q11.2))))
              else
              (if x2 = 4 then
                (f_X6_stampOf St_rows x1).bind (fun q12 =>
                  (f_X6_endedBy St_rows q12).bind (fun q13 =>
                    (f_X9_answer St q13).bind (fun q14 =>
                      some (q14.1, q14.2))))
                else
                (f_X9_refuse St (1 : Int32)).bind (fun q15 =>
                  some (q15.1, q15.2)))))))))
set_option maxHeartbeats 4000000 in
set_option maxRecDepth 100000 in
theorem c_X9_writer (l : Launch) (D : va_G) (cy : Nat → ClassId) (ht : Nat → Nat) (ht_reader : Nat → Nat) (ht_rows : Nat → Nat) (ht_evidence : Nat → Nat) (ht_history : Nat → Nat) (St : SSR) (St_rows : SRows) (x1 : Int32) (x2 : Int32) (r : Int32 × SSR) (hf : f_X9_writer St St_rows x1 x2 = some r) : zCI l yX9_writer cX9_writer 3 (some FieldType.int) 2 44 D (zty cy) [.ref (ht 0), .int x1, .int x2] (wSR ht (ht_reader 0) (ht_rows 0) (ht_evidence 0) (ht_history 0) cy St ++ (wRows ht_rows cy St_rows)) (wSR ht (ht_reader 0) (ht_rows 0) (ht_evidence 0) (ht_history 0) cy r.2 ++ (wRows ht_rows cy St_rows)) r.1 := by
  refine zCI_of (by decide +kernel) (Nat.le_of_ble_eq_true rfl) ?_
  intro p e s m below meth c A ls C hP hD hS hl
  generalize hargs : ([.ref (ht 0), .int x1, .int x2] : List Value).toArray = args at C ⊢
  have C : zX p s m meth c cX9_writer 3 args RX9 (some FieldType.int) A D (zty cy) := C
  obtain ⟨hx, hb, hr, hts, hown, hlocks, hml, hA, hK⟩ := id C
  have hl : lv_has ls 3 [(0, .ref (ht 0)), (1, .int x1), (2, .int x2)] := hl
  generalize hH : s.heap = H at hP ⊢
  have hS : va_S A s.heap H [] := by rw [← hH]; exact hS
  generalize ([] : List Loc) = locs at hS ⊢
  refine lv_aload_n hx hb dX9_writer_0 rfl (lv_at hl 0 rfl) ?_
  refine va_get (D := D) (ci := 5) (v := .ref (ht_rows 0)) (C := RX9) (T := TX9) (N := 7) hx hb hts in_X9 hown hK hP 0 rfl rfl 1 (by decide) (hts _ q2_20) (fun _ h9 => h9) rfl dX9_writer_1 ?_
  refine lv_iload_n hx hb dX9_writer_4 rfl (lv_at hl 1 rfl) ?_
  obtain ⟨q1, hc, hf⟩ := zbd hf
  refine z_cVi (As := [.int x1]) (rest := []) C (c_X6_runs l D cy ht_rows St_rows x1 q1 hc) gV_X9_X6_runs hd_X6_runs ⟨Nat.le_of_ble_eq_true rfl, Nat.le_of_ble_eq_true rfl⟩ ⟨Nat.le_refl _, Nat.le_refl _⟩ (va_recv hK hP (ci := 3) (q0 := 1) rfl rfl) hP hD hS (w2 := wSR ht (ht_reader 0) (ht_rows 0) (ht_evidence 0) (ht_history 0) cy St ++ (wRows ht_rows cy St_rows)) [1, 2, 3, 4, 5, 6, 7, 8] [0] [0, 1, 2, 3, 4, 5, 6, 7, 8] rfl rfl rfl rfl rfl rfl (by decide) hl.1 (Nat.le_of_ble_eq_true rfl) dX9_writer_5 (fun H locs hP hD hS => ?_)
  refine z_if_ne (tgt := 17) hx hb dX9_writer_8 (by decide) hf (fun hf => ?_) (fun hf => ?_)
  · refine lv_iload_n hx hb dX9_writer_17 rfl (lv_at hl 2 rfl) ?_
    rcases zsw hf with ⟨hq0, hf⟩ | ⟨hq0, hf⟩
    · rw [hq0]
      refine lv_tableIn (tgt := 52) hx hb dX9_writer_18 (by decide) (by decide) rfl (by decide) ?_
      refine lv_aload_n hx hb dX9_writer_52 rfl (lv_at hl 0 rfl) ?_
      refine lv_aload_n hx hb dX9_writer_53 rfl (lv_at hl 0 rfl) ?_
      refine va_get (D := D) (ci := 5) (v := .ref (ht_rows 0)) (C := RX9) (T := TX9) (N := 7) hx hb hts in_X9 hown hK hP 0 rfl rfl 1 (by decide) (hts _ q2_20) (fun _ h9 => h9) rfl dX9_writer_54 ?_
      refine lv_iload_n hx hb dX9_writer_57 rfl (lv_at hl 1 rfl) ?_
      obtain ⟨q2, hc, hf⟩ := zbd hf
      refine z_cVi (As := [.int x1]) (rest := [.ref (ht 0)]) C (c_X6_stampOf l D cy ht_rows St_rows x1 q2 hc) gV_X9_X6_stampOf hd_X6_stampOf ⟨Nat.le_of_ble_eq_true rfl, Nat.le_of_ble_eq_true rfl⟩ ⟨Nat.le_refl _, Nat.le_refl _⟩ (va_recv hK hP (ci := 3) (q0 := 1) rfl rfl) hP hD hS (w2 := wSR ht (ht_reader 0) (ht_rows 0) (ht_evidence 0) (ht_history 0) cy St ++ (wRows ht_rows cy St_rows)) [1, 2, 3, 4, 5, 6, 7, 8] [0] [0, 1, 2, 3, 4, 5, 6, 7, 8] rfl rfl rfl rfl rfl rfl (by decide) hl.1 (Nat.le_of_ble_eq_true rfl) dX9_writer_58 (fun H locs hP hD hS => ?_)
      obtain ⟨q3, hc, hf⟩ := zbd hf
      refine z_cVi (As := [.int q2]) (rest := []) C (c_X9_answer l D cy ht ht_reader ht_rows ht_evidence ht_history St q2 q3 hc) gV_X9_X9_answer hd_X9_answer ⟨Nat.le_of_ble_eq_true rfl, Nat.le_of_ble_eq_true rfl⟩ ⟨Nat.le_refl _, Nat.le_refl _⟩ (va_recv hK hP (ci := 5) (q0 := 0) rfl rfl) hP hD hS (w2 := wSR ht (ht_reader 0) (ht_rows 0) (ht_evidence 0) (ht_history 0) cy q3.2 ++ (wRows ht_rows cy St_rows)) [0] [1, 2, 3, 4, 5, 6, 7, 8] [8, 0, 1, 2, 3, 4, 5, 6, 7] rfl rfl rfl rfl rfl rfl (by decide) hl.1 (Nat.le_of_ble_eq_true rfl) dX9_writer_61 (fun H locs hP hD hS => ?_)
      obtain rfl := Option.some.inj hf
      exact z_iret (v := q3.1) C hP hD hS dX9_writer_64
    ·
      rcases zsw hf with ⟨hq1, hf⟩ | ⟨hq1, hf⟩
      · rw [hq1]
        refine lv_tableIn (tgt := 65) hx hb dX9_writer_18 (by decide) (by decide) rfl (by decide) ?_
        refine lv_aload_n hx hb dX9_writer_65 rfl (lv_at hl 0 rfl) ?_
        refine lv_aload_n hx hb dX9_writer_66 rfl (lv_at hl 0 rfl) ?_
        refine va_get (D := D) (ci := 5) (v := .ref (ht_rows 0)) (C := RX9) (T := TX9) (N := 7) hx hb hts in_X9 hown hK hP 0 rfl rfl 1 (by decide) (hts _ q2_20) (fun _ h9 => h9) rfl dX9_writer_67 ?_
        refine lv_iload_n hx hb dX9_writer_70 rfl (lv_at hl 1 rfl) ?_
        obtain ⟨q4, hc, hf⟩ := zbd hf
        refine z_cVi (As := [.int x1]) (rest := [.ref (ht 0)]) C (c_X6_hasLost l D cy ht_rows St_rows x1 q4 hc) gV_X9_X6_hasLost hd_X6_hasLost ⟨Nat.le_of_ble_eq_true rfl, Nat.le_of_ble_eq_true rfl⟩ ⟨Nat.le_refl _, Nat.le_refl _⟩ (va_recv hK hP (ci := 3) (q0 := 1) rfl rfl) hP hD hS (w2 := wSR ht (ht_reader 0) (ht_rows 0) (ht_evidence 0) (ht_history 0) cy St ++ (wRows ht_rows cy St_rows)) [1, 2, 3, 4, 5, 6, 7, 8] [0] [0, 1, 2, 3, 4, 5, 6, 7, 8] rfl rfl rfl rfl rfl rfl (by decide) hl.1 (Nat.le_of_ble_eq_true rfl) dX9_writer_71 (fun H locs hP hD hS => ?_)
        obtain ⟨q5, hc, hf⟩ := zbd hf
        refine z_cSiE (As := [.int q4]) (rest := [.ref (ht 0)]) C (c_X9_oneIf l D cy q4 q5 hc) gS_X9_X9_oneIf hd_X9_oneIf ⟨Nat.le_of_ble_eq_true rfl, Nat.le_of_ble_eq_true rfl⟩ ⟨Nat.le_refl _, Nat.le_refl _⟩ hP hD hS hl.1 (Nat.le_of_ble_eq_true rfl) dX9_writer_74 (fun H locs hP hD hS => ?_)
        obtain ⟨q6, hc, hf⟩ := zbd hf
        refine z_cVi (As := [.int q5]) (rest := []) C (c_X9_answer l D cy ht ht_reader ht_rows ht_evidence ht_history St q5 q6 hc) gV_X9_X9_answer hd_X9_answer ⟨Nat.le_of_ble_eq_true rfl, Nat.le_of_ble_eq_true rfl⟩ ⟨Nat.le_refl _, Nat.le_refl _⟩ (va_recv hK hP (ci := 5) (q0 := 0) rfl rfl) hP hD hS (w2 := wSR ht (ht_reader 0) (ht_rows 0) (ht_evidence 0) (ht_history 0) cy q6.2 ++ (wRows ht_rows cy St_rows)) [0] [1, 2, 3, 4, 5, 6, 7, 8] [8, 0, 1, 2, 3, 4, 5, 6, 7] rfl rfl rfl rfl rfl rfl (by decide) hl.1 (Nat.le_of_ble_eq_true rfl) dX9_writer_77 (fun H locs hP hD hS => ?_)
        obtain rfl := Option.some.inj hf
        exact z_iret (v := q6.1) C hP hD hS dX9_writer_80
      ·
        rcases zsw hf with ⟨hq2, hf⟩ | ⟨hq2, hf⟩
        · rw [hq2]
          refine lv_tableIn (tgt := 81) hx hb dX9_writer_18 (by decide) (by decide) rfl (by decide) ?_
          refine lv_aload_n hx hb dX9_writer_81 rfl (lv_at hl 0 rfl) ?_
          refine lv_aload_n hx hb dX9_writer_82 rfl (lv_at hl 0 rfl) ?_
          refine va_get (D := D) (ci := 5) (v := .ref (ht_rows 0)) (C := RX9) (T := TX9) (N := 7) hx hb hts in_X9 hown hK hP 0 rfl rfl 1 (by decide) (hts _ q2_20) (fun _ h9 => h9) rfl dX9_writer_83 ?_
          refine lv_iload_n hx hb dX9_writer_86 rfl (lv_at hl 1 rfl) ?_
          obtain ⟨q7, hc, hf⟩ := zbd hf
          refine z_cVi (As := [.int x1]) (rest := [.ref (ht 0)]) C (c_X6_snapshotLength l D cy ht_rows St_rows x1 q7 hc) gV_X9_X6_snapshotLength hd_X6_snapshotLength ⟨Nat.le_of_ble_eq_true rfl, Nat.le_of_ble_eq_true rfl⟩ ⟨Nat.le_refl _, Nat.le_refl _⟩ (va_recv hK hP (ci := 3) (q0 := 1) rfl rfl) hP hD hS (w2 := wSR ht (ht_reader 0) (ht_rows 0) (ht_evidence 0) (ht_history 0) cy St ++ (wRows ht_rows cy St_rows)) [1, 2, 3, 4, 5, 6, 7, 8] [0] [0, 1, 2, 3, 4, 5, 6, 7, 8] rfl rfl rfl rfl rfl rfl (by decide) hl.1 (Nat.le_of_ble_eq_true rfl) dX9_writer_87 (fun H locs hP hD hS => ?_)
          obtain ⟨q8, hc, hf⟩ := zbd hf
          refine z_cVi (As := [.int q7]) (rest := []) C (c_X9_answer l D cy ht ht_reader ht_rows ht_evidence ht_history St q7 q8 hc) gV_X9_X9_answer hd_X9_answer ⟨Nat.le_of_ble_eq_true rfl, Nat.le_of_ble_eq_true rfl⟩ ⟨Nat.le_refl _, Nat.le_refl _⟩ (va_recv hK hP (ci := 5) (q0 := 0) rfl rfl) hP hD hS (w2 := wSR ht (ht_reader 0) (ht_rows 0) (ht_evidence 0) (ht_history 0) cy q8.2 ++ (wRows ht_rows cy St_rows)) [0] [1, 2, 3, 4, 5, 6, 7, 8] [8, 0, 1, 2, 3, 4, 5, 6, 7] rfl rfl rfl rfl rfl rfl (by decide) hl.1 (Nat.le_of_ble_eq_true rfl) dX9_writer_90 (fun H locs hP hD hS => ?_)
          obtain rfl := Option.some.inj hf
          exact z_iret (v := q8.1) C hP hD hS dX9_writer_93
        ·
          rcases zsw hf with ⟨hq3, hf⟩ | ⟨hq3, hf⟩
          · rw [hq3]
            refine lv_tableIn (tgt := 94) hx hb dX9_writer_18 (by decide) (by decide) rfl (by decide) ?_
            refine lv_aload_n hx hb dX9_writer_94 rfl (lv_at hl 0 rfl) ?_
            refine lv_aload_n hx hb dX9_writer_95 rfl (lv_at hl 0 rfl) ?_
            refine va_get (D := D) (ci := 5) (v := .ref (ht_rows 0)) (C := RX9) (T := TX9) (N := 7) hx hb hts in_X9 hown hK hP 0 rfl rfl 1 (by decide) (hts _ q2_20) (fun _ h9 => h9) rfl dX9_writer_96 ?_
            refine lv_aload_n hx hb dX9_writer_99 rfl (lv_at hl 0 rfl) ?_
            refine va_get (D := D) (ci := 5) (v := .ref (ht_rows 0)) (C := RX9) (T := TX9) (N := 7) hx hb hts in_X9 hown hK hP 0 rfl rfl 1 (by decide) (hts _ q2_20) (fun _ h9 => h9) rfl dX9_writer_100 ?_
            refine lv_iload_n hx hb dX9_writer_103 rfl (lv_at hl 1 rfl) ?_
            obtain ⟨q9, hc, hf⟩ := zbd hf
            refine z_cVi (As := [.int x1]) (rest := [.ref (ht_rows 0), .ref (ht 0)]) C (c_X6_stampOf l D cy ht_rows St_rows x1 q9 hc) gV_X9_X6_stampOf hd_X6_stampOf ⟨Nat.le_of_ble_eq_true rfl, Nat.le_of_ble_eq_true rfl⟩ ⟨Nat.le_refl _, Nat.le_refl _⟩ (va_recv hK hP (ci := 3) (q0 := 1) rfl rfl) hP hD hS (w2 := wSR ht (ht_reader 0) (ht_rows 0) (ht_evidence 0) (ht_history 0) cy St ++ (wRows ht_rows cy St_rows)) [1, 2, 3, 4, 5, 6, 7, 8] [0] [0, 1, 2, 3, 4, 5, 6, 7, 8] rfl rfl rfl rfl rfl rfl (by decide) hl.1 (Nat.le_of_ble_eq_true rfl) dX9_writer_104 (fun H locs hP hD hS => ?_)
            obtain ⟨q10, hc, hf⟩ := zbd hf
            refine z_cVi (As := [.int q9]) (rest := [.ref (ht 0)]) C (c_X6_madeBy l D cy ht_rows St_rows q9 q10 hc) gV_X9_X6_madeBy hd_X6_madeBy ⟨Nat.le_of_ble_eq_true rfl, Nat.le_of_ble_eq_true rfl⟩ ⟨Nat.le_refl _, Nat.le_refl _⟩ (va_recv hK hP (ci := 3) (q0 := 1) rfl rfl) hP hD hS (w2 := wSR ht (ht_reader 0) (ht_rows 0) (ht_evidence 0) (ht_history 0) cy St ++ (wRows ht_rows cy St_rows)) [1, 2, 3, 4, 5, 6, 7, 8] [0] [0, 1, 2, 3, 4, 5, 6, 7, 8] rfl rfl rfl rfl rfl rfl (by decide) hl.1 (Nat.le_of_ble_eq_true rfl) dX9_writer_107 (fun H locs hP hD hS => ?_)
            obtain ⟨q11, hc, hf⟩ := zbd hf
            refine z_cVi (As := [.int q10]) (rest := []) C (c_X9_answer l D cy ht ht_reader ht_rows ht_evidence ht_history St q10 q11 hc) gV_X9_X9_answer hd_X9_answer ⟨Nat.le_of_ble_eq_true rfl, Nat.le_of_ble_eq_true rfl⟩ ⟨Nat.le_refl _, Nat.le_refl _⟩ (va_recv hK hP (ci := 5) (q0 := 0) rfl rfl) hP hD hS (w2 := wSR ht (ht_reader 0) (ht_rows 0) (ht_evidence 0) (ht_history 0) cy q11.2 ++ (wRows ht_rows cy St_rows)) [0] [1, 2, 3, 4, 5, 6, 7, 8] [8, 0, 1, 2, 3, 4, 5, 6, 7] rfl rfl rfl rfl rfl rfl (by decide) hl.1 (Nat.le_of_ble_eq_true rfl) dX9_writer_110 (fun H locs hP hD hS => ?_)
            obtain rfl := Option.some.inj hf
            exact z_iret (v := q11.1) C hP hD hS dX9_writer_113
          ·
            rcases zsw hf with ⟨hq4, hf⟩ | ⟨hq4, hf⟩
            · rw [hq4]
              refine lv_tableIn (tgt := 114) hx hb dX9_writer_18 (by decide) (by decide) rfl (by decide) ?_
              refine lv_aload_n hx hb dX9_writer_114 rfl (lv_at hl 0 rfl) ?_
              refine lv_aload_n hx hb dX9_writer_115 rfl (lv_at hl 0 rfl) ?_
              refine va_get (D := D) (ci := 5) (v := .ref (ht_rows 0)) (C := RX9) (T := TX9) (N := 7) hx hb hts in_X9 hown hK hP 0 rfl rfl 1 (by decide) (hts _ q2_20) (fun _ h9 => h9) rfl dX9_writer_116 ?_
              refine lv_aload_n hx hb dX9_writer_119 rfl (lv_at hl 0 rfl) ?_
              refine va_get (D := D) (ci := 5) (v := .ref (ht_rows 0)) (C := RX9) (T := TX9) (N := 7) hx hb hts in_X9 hown hK hP 0 rfl rfl 1 (by decide) (hts _ q2_20) (fun _ h9 => h9) rfl dX9_writer_120 ?_
              refine lv_iload_n hx hb dX9_writer_123 rfl (lv_at hl 1 rfl) ?_
              obtain ⟨q12, hc, hf⟩ := zbd hf
              refine z_cVi (As := [.int x1]) (rest := [.ref (ht_rows 0), .ref (ht 0)]) C (c_X6_stampOf l D cy ht_rows St_rows x1 q12 hc) gV_X9_X6_stampOf hd_X6_stampOf ⟨Nat.le_of_ble_eq_true rfl, Nat.le_of_ble_eq_true rfl⟩ ⟨Nat.le_refl _, Nat.le_refl _⟩ (va_recv hK hP (ci := 3) (q0 := 1) rfl rfl) hP hD hS (w2 := wSR ht (ht_reader 0) (ht_rows 0) (ht_evidence 0) (ht_history 0) cy St ++ (wRows ht_rows cy St_rows)) [1, 2, 3, 4, 5, 6, 7, 8] [0] [0, 1, 2, 3, 4, 5, 6, 7, 8] rfl rfl rfl rfl rfl rfl (by decide) hl.1 (Nat.le_of_ble_eq_true rfl) dX9_writer_124 (fun H locs hP hD hS => ?_)
              obtain ⟨q13, hc, hf⟩ := zbd hf
              refine z_cVi (As := [.int q12]) (rest := [.ref (ht 0)]) C (c_X6_endedBy l D cy ht_rows St_rows q12 q13 hc) gV_X9_X6_endedBy hd_X6_endedBy ⟨Nat.le_of_ble_eq_true rfl, Nat.le_of_ble_eq_true rfl⟩ ⟨Nat.le_refl _, Nat.le_refl _⟩ (va_recv hK hP (ci := 3) (q0 := 1) rfl rfl) hP hD hS (w2 := wSR ht (ht_reader 0) (ht_rows 0) (ht_evidence 0) (ht_history 0) cy St ++ (wRows ht_rows cy St_rows)) [1, 2, 3, 4, 5, 6, 7, 8] [0] [0, 1, 2, 3, 4, 5, 6, 7, 8] rfl rfl rfl rfl rfl rfl (by decide) hl.1 (Nat.le_of_ble_eq_true rfl) dX9_writer_127 (fun H locs hP hD hS => ?_)
              obtain ⟨q14, hc, hf⟩ := zbd hf
              refine z_cVi (As := [.int q13]) (rest := []) C (c_X9_answer l D cy ht ht_reader ht_rows ht_evidence ht_history St q13 q14 hc) gV_X9_X9_answer hd_X9_answer ⟨Nat.le_of_ble_eq_true rfl, Nat.le_of_ble_eq_true rfl⟩ ⟨Nat.le_refl _, Nat.le_refl _⟩ (va_recv hK hP (ci := 5) (q0 := 0) rfl rfl) hP hD hS (w2 := wSR ht (ht_reader 0) (ht_rows 0) (ht_evidence 0) (ht_history 0) cy q14.2 ++ (wRows ht_rows cy St_rows)) [0] [1, 2, 3, 4, 5, 6, 7, 8] [8, 0, 1, 2, 3, 4, 5, 6, 7] rfl rfl rfl rfl rfl rfl (by decide) hl.1 (Nat.le_of_ble_eq_true rfl) dX9_writer_130 (fun H locs hP hD hS => ?_)
              obtain rfl := Option.some.inj hf
              exact z_iret (v := q14.1) C hP hD hS dX9_writer_133
            · refine lv_tableOut (tgt := 134) hx hb dX9_writer_18 (zsw_out5 hq0 hq1 hq2 hq3 hq4) (by decide) ?_
              refine lv_aload_n hx hb dX9_writer_134 rfl (lv_at hl 0 rfl) ?_
              refine lv_iconst (v := (1 : Int32)) hx hb dX9_writer_135 (by decide) ?_
              obtain ⟨q15, hc, hf⟩ := zbd hf
              refine z_cVi (As := [.int (1 : Int32)]) (rest := []) C (c_X9_refuse l D cy ht ht_reader ht_rows ht_evidence ht_history St (1 : Int32) q15 hc) gV_X9_X9_refuse hd_X9_refuse ⟨Nat.le_of_ble_eq_true rfl, Nat.le_of_ble_eq_true rfl⟩ ⟨Nat.le_refl _, Nat.le_refl _⟩ (va_recv hK hP (ci := 5) (q0 := 0) rfl rfl) hP hD hS (w2 := wSR ht (ht_reader 0) (ht_rows 0) (ht_evidence 0) (ht_history 0) cy q15.2 ++ (wRows ht_rows cy St_rows)) [0] [1, 2, 3, 4, 5, 6, 7, 8] [8, 0, 1, 2, 3, 4, 5, 6, 7] rfl rfl rfl rfl rfl rfl (by decide) hl.1 (Nat.le_of_ble_eq_true rfl) dX9_writer_136 (fun H locs hP hD hS => ?_)
              obtain rfl := Option.some.inj hf
              exact z_iret (v := q15.1) C hP hD hS dX9_writer_139
  · refine lv_aload_n hx hb dX9_writer_11 rfl (lv_at hl 0 rfl) ?_
    refine lv_iconst (v := (1 : Int32)) hx hb dX9_writer_12 (by decide) ?_
    obtain ⟨q16, hc, hf⟩ := zbd hf
    refine z_cVi (As := [.int (1 : Int32)]) (rest := []) C (c_X9_refuse l D cy ht ht_reader ht_rows ht_evidence ht_history St (1 : Int32) q16 hc) gV_X9_X9_refuse hd_X9_refuse ⟨Nat.le_of_ble_eq_true rfl, Nat.le_of_ble_eq_true rfl⟩ ⟨Nat.le_refl _, Nat.le_refl _⟩ (va_recv hK hP (ci := 5) (q0 := 0) rfl rfl) hP hD hS (w2 := wSR ht (ht_reader 0) (ht_rows 0) (ht_evidence 0) (ht_history 0) cy q16.2 ++ (wRows ht_rows cy St_rows)) [0] [1, 2, 3, 4, 5, 6, 7, 8] [8, 0, 1, 2, 3, 4, 5, 6, 7] rfl rfl rfl rfl rfl rfl (by decide) hl.1 (Nat.le_of_ble_eq_true rfl) dX9_writer_13 (fun H locs hP hD hS => ?_)
    obtain rfl := Option.some.inj hf
    exact z_iret (v := q16.1) C hP hD hS dX9_writer_16
def f_X9_running (St : SSR) (St_rows : SRows) : Option (Int32 × SSR) :=
  (f_X9_hasStore St St_rows).bind (fun q1 =>
    (if q1 = 0 then
      (f_X9_refuse St (1 : Int32)).bind (fun q2 =>
        some (q2.1, q2.2))
      else
      (f_X6_runningSlots St_rows).bind (fun q3 =>
        (f_X9_answer St q3).bind (fun q4 =>
          some (q4.1, q4.2)))))
set_option maxHeartbeats 4000000 in
set_option maxRecDepth 100000 in
theorem c_X9_running (l : Launch) (D : va_G) (cy : Nat → ClassId) (ht : Nat → Nat) (ht_reader : Nat → Nat) (ht_rows : Nat → Nat) (ht_evidence : Nat → Nat) (ht_history : Nat → Nat) (St : SSR) (St_rows : SRows) (r : Int32 × SSR) (hf : f_X9_running St St_rows = some r) : zCI l yX9_running cX9_running 1 (some FieldType.int) 2 43 D (zty cy) [.ref (ht 0)] (wSR ht (ht_reader 0) (ht_rows 0) (ht_evidence 0) (ht_history 0) cy St ++ (wRows ht_rows cy St_rows)) (wSR ht (ht_reader 0) (ht_rows 0) (ht_evidence 0) (ht_history 0) cy r.2 ++ (wRows ht_rows cy St_rows)) r.1 := by
  refine zCI_of (by decide +kernel) (Nat.le_of_ble_eq_true rfl) ?_
  intro p e s m below meth c A ls C hP hD hS hl
  generalize hargs : ([.ref (ht 0)] : List Value).toArray = args at C ⊢
  have C : zX p s m meth c cX9_running 1 args RX9 (some FieldType.int) A D (zty cy) := C
  obtain ⟨hx, hb, hr, hts, hown, hlocks, hml, hA, hK⟩ := id C
  have hl : lv_has ls 1 [(0, .ref (ht 0))] := hl
  generalize hH : s.heap = H at hP ⊢
  have hS : va_S A s.heap H [] := by rw [← hH]; exact hS
  generalize ([] : List Loc) = locs at hS ⊢
  refine lv_aload_n hx hb dX9_running_0 rfl (lv_at hl 0 rfl) ?_
  obtain ⟨q1, hc, hf⟩ := zbd hf
  refine z_cVi0 (As := []) (rest := []) C (c_X9_hasStore l D cy ht ht_reader ht_rows ht_evidence ht_history St St_rows q1 hc) gV_X9_X9_hasStore hd_X9_hasStore ⟨Nat.le_of_ble_eq_true rfl, Nat.le_of_ble_eq_true rfl⟩ ⟨Nat.le_refl _, Nat.le_refl _⟩ (va_recv hK hP (ci := 5) (q0 := 0) rfl rfl) hP hD hS hl.1 (Nat.le_of_ble_eq_true rfl) dX9_running_1 (fun H locs hP hD hS => ?_)
  have hP : va_P D vwCl (wSR ht (ht_reader 0) (ht_rows 0) (ht_evidence 0) (ht_history 0) cy St ++ (wRows ht_rows cy St_rows)) H := hP
  have hD : va_D A (wSR ht (ht_reader 0) (ht_rows 0) (ht_evidence 0) (ht_history 0) cy St ++ (wRows ht_rows cy St_rows)) := hD
  refine z_if_eq (tgt := 21) hx hb dX9_running_4 (by decide) hf (fun hf => ?_) (fun hf => ?_)
  · refine lv_aload_n hx hb dX9_running_21 rfl (lv_at hl 0 rfl) ?_
    refine lv_iconst (v := (1 : Int32)) hx hb dX9_running_22 (by decide) ?_
    obtain ⟨q2, hc, hf⟩ := zbd hf
    refine z_cVi (As := [.int (1 : Int32)]) (rest := []) C (c_X9_refuse l D cy ht ht_reader ht_rows ht_evidence ht_history St (1 : Int32) q2 hc) gV_X9_X9_refuse hd_X9_refuse ⟨Nat.le_of_ble_eq_true rfl, Nat.le_of_ble_eq_true rfl⟩ ⟨Nat.le_refl _, Nat.le_refl _⟩ (va_recv hK hP (ci := 5) (q0 := 0) rfl rfl) hP hD hS (w2 := wSR ht (ht_reader 0) (ht_rows 0) (ht_evidence 0) (ht_history 0) cy q2.2 ++ (wRows ht_rows cy St_rows)) [0] [1, 2, 3, 4, 5, 6, 7, 8] [8, 0, 1, 2, 3, 4, 5, 6, 7] rfl rfl rfl rfl rfl rfl (by decide) hl.1 (Nat.le_of_ble_eq_true rfl) dX9_running_23 (fun H locs hP hD hS => ?_)
    obtain rfl := Option.some.inj hf
    exact z_iret (v := q2.1) C hP hD hS dX9_running_26
  · refine lv_aload_n hx hb dX9_running_7 rfl (lv_at hl 0 rfl) ?_
    refine lv_aload_n hx hb dX9_running_8 rfl (lv_at hl 0 rfl) ?_
    refine va_get (D := D) (ci := 5) (v := .ref (ht_rows 0)) (C := RX9) (T := TX9) (N := 7) hx hb hts in_X9 hown hK hP 0 rfl rfl 1 (by decide) (hts _ q2_20) (fun _ h9 => h9) rfl dX9_running_9 ?_
    obtain ⟨q3, hc, hf⟩ := zbd hf
    refine z_cVi (As := []) (rest := [.ref (ht 0)]) C (c_X6_runningSlots l D cy ht_rows St_rows q3 hc) gV_X9_X6_runningSlots hd_X6_runningSlots ⟨Nat.le_of_ble_eq_true rfl, Nat.le_of_ble_eq_true rfl⟩ ⟨Nat.le_refl _, Nat.le_refl _⟩ (va_recv hK hP (ci := 3) (q0 := 1) rfl rfl) hP hD hS (w2 := wSR ht (ht_reader 0) (ht_rows 0) (ht_evidence 0) (ht_history 0) cy St ++ (wRows ht_rows cy St_rows)) [1, 2, 3, 4, 5, 6, 7, 8] [0] [0, 1, 2, 3, 4, 5, 6, 7, 8] rfl rfl rfl rfl rfl rfl (by decide) hl.1 (Nat.le_of_ble_eq_true rfl) dX9_running_12 (fun H locs hP hD hS => ?_)
    obtain ⟨q4, hc, hf⟩ := zbd hf
    refine z_cVi (As := [.int q3]) (rest := []) C (c_X9_answer l D cy ht ht_reader ht_rows ht_evidence ht_history St q3 q4 hc) gV_X9_X9_answer hd_X9_answer ⟨Nat.le_of_ble_eq_true rfl, Nat.le_of_ble_eq_true rfl⟩ ⟨Nat.le_refl _, Nat.le_refl _⟩ (va_recv hK hP (ci := 5) (q0 := 0) rfl rfl) hP hD hS (w2 := wSR ht (ht_reader 0) (ht_rows 0) (ht_evidence 0) (ht_history 0) cy q4.2 ++ (wRows ht_rows cy St_rows)) [0] [1, 2, 3, 4, 5, 6, 7, 8] [8, 0, 1, 2, 3, 4, 5, 6, 7] rfl rfl rfl rfl rfl rfl (by decide) hl.1 (Nat.le_of_ble_eq_true rfl) dX9_running_15 (fun H locs hP hD hS => ?_)
    refine lv_goto (tgt := 26) hx hb dX9_running_18 (by decide) ?_
    obtain rfl := Option.some.inj hf
    exact z_iret (v := q4.1) C hP hD hS dX9_running_26
def f_X9_counts (St : SSR) (St_rows : SRows) (x1 : Int32) (x2 : Int32) : Option (Int32 × SSR) :=
  (f_X6_runs St_rows x1).bind (fun q1 =>
    (if q1 = 0 then
      (f_X9_refuse St (1 : Int32)).bind (fun q8 =>
        some (q8.1, q8.2))
      else
      (f_X6_isStamp St_rows x2).bind (fun q2 =>
        (if q2 = 0 then
          (f_X9_refuse St (2 : Int32)).bind (fun q7 =>
            some (q7.1, q7.2))
          else
          (f_X6_countingFor St_rows x1).bind (fun q3 =>
            (f_X6_holds q3 x2).bind (fun q4 =>
              (f_X9_oneIf q4).bind (fun q5 =>
                (f_X9_answer St q5).bind (fun q6 =>
                  some (q6.1, q6.2)))))))))
set_option maxHeartbeats 4000000 in
set_option maxRecDepth 100000 in
theorem c_X9_counts (l : Launch) (D : va_G) (cy : Nat → ClassId) (ht : Nat → Nat) (ht_reader : Nat → Nat) (ht_rows : Nat → Nat) (ht_evidence : Nat → Nat) (ht_history : Nat → Nat) (St : SSR) (St_rows : SRows) (x1 : Int32) (x2 : Int32) (r : Int32 × SSR) (hf : f_X9_counts St St_rows x1 x2 = some r) : zCI l yX9_counts cX9_counts 3 (some FieldType.int) 2 46 D (zty cy) [.ref (ht 0), .int x1, .int x2] (wSR ht (ht_reader 0) (ht_rows 0) (ht_evidence 0) (ht_history 0) cy St ++ (wRows ht_rows cy St_rows)) (wSR ht (ht_reader 0) (ht_rows 0) (ht_evidence 0) (ht_history 0) cy r.2 ++ (wRows ht_rows cy St_rows)) r.1 := by
  refine zCI_of (by decide +kernel) (Nat.le_of_ble_eq_true rfl) ?_
  intro p e s m below meth c A ls C hP hD hS hl
  generalize hargs : ([.ref (ht 0), .int x1, .int x2] : List Value).toArray = args at C ⊢
  have C : zX p s m meth c cX9_counts 3 args RX9 (some FieldType.int) A D (zty cy) := C
  obtain ⟨hx, hb, hr, hts, hown, hlocks, hml, hA, hK⟩ := id C
  have hl : lv_has ls 3 [(0, .ref (ht 0)), (1, .int x1), (2, .int x2)] := hl
  generalize hH : s.heap = H at hP ⊢
  have hS : va_S A s.heap H [] := by rw [← hH]; exact hS
  generalize ([] : List Loc) = locs at hS ⊢
  refine lv_aload_n hx hb dX9_counts_0 rfl (lv_at hl 0 rfl) ?_
  refine va_get (D := D) (ci := 5) (v := .ref (ht_rows 0)) (C := RX9) (T := TX9) (N := 7) hx hb hts in_X9 hown hK hP 0 rfl rfl 1 (by decide) (hts _ q2_20) (fun _ h9 => h9) rfl dX9_counts_1 ?_
  refine lv_iload_n hx hb dX9_counts_4 rfl (lv_at hl 1 rfl) ?_
  obtain ⟨q1, hc, hf⟩ := zbd hf
  refine z_cVi (As := [.int x1]) (rest := []) C (c_X6_runs l D cy ht_rows St_rows x1 q1 hc) gV_X9_X6_runs hd_X6_runs ⟨Nat.le_of_ble_eq_true rfl, Nat.le_of_ble_eq_true rfl⟩ ⟨Nat.le_refl _, Nat.le_refl _⟩ (va_recv hK hP (ci := 3) (q0 := 1) rfl rfl) hP hD hS (w2 := wSR ht (ht_reader 0) (ht_rows 0) (ht_evidence 0) (ht_history 0) cy St ++ (wRows ht_rows cy St_rows)) [1, 2, 3, 4, 5, 6, 7, 8] [0] [0, 1, 2, 3, 4, 5, 6, 7, 8] rfl rfl rfl rfl rfl rfl (by decide) hl.1 (Nat.le_of_ble_eq_true rfl) dX9_counts_5 (fun H locs hP hD hS => ?_)
  refine z_if_ne (tgt := 17) hx hb dX9_counts_8 (by decide) hf (fun hf => ?_) (fun hf => ?_)
  · refine lv_aload_n hx hb dX9_counts_17 rfl (lv_at hl 0 rfl) ?_
    refine va_get (D := D) (ci := 5) (v := .ref (ht_rows 0)) (C := RX9) (T := TX9) (N := 7) hx hb hts in_X9 hown hK hP 0 rfl rfl 1 (by decide) (hts _ q2_20) (fun _ h9 => h9) rfl dX9_counts_18 ?_
    refine lv_iload_n hx hb dX9_counts_21 rfl (lv_at hl 2 rfl) ?_
    obtain ⟨q2, hc, hf⟩ := zbd hf
    refine z_cVi (As := [.int x2]) (rest := []) C (c_X6_isStamp l D cy ht_rows St_rows x2 q2 hc) gV_X9_X6_isStamp hd_X6_isStamp ⟨Nat.le_of_ble_eq_true rfl, Nat.le_of_ble_eq_true rfl⟩ ⟨Nat.le_refl _, Nat.le_refl _⟩ (va_recv hK hP (ci := 3) (q0 := 1) rfl rfl) hP hD hS (w2 := wSR ht (ht_reader 0) (ht_rows 0) (ht_evidence 0) (ht_history 0) cy St ++ (wRows ht_rows cy St_rows)) [1, 2, 3, 4, 5, 6, 7, 8] [0] [0, 1, 2, 3, 4, 5, 6, 7, 8] rfl rfl rfl rfl rfl rfl (by decide) hl.1 (Nat.le_of_ble_eq_true rfl) dX9_counts_22 (fun H locs hP hD hS => ?_)
    refine z_if_ne (tgt := 34) hx hb dX9_counts_25 (by decide) hf (fun hf => ?_) (fun hf => ?_)
    · refine lv_aload_n hx hb dX9_counts_34 rfl (lv_at hl 0 rfl) ?_
      refine lv_aload_n hx hb dX9_counts_35 rfl (lv_at hl 0 rfl) ?_
      refine va_get (D := D) (ci := 5) (v := .ref (ht_rows 0)) (C := RX9) (T := TX9) (N := 7) hx hb hts in_X9 hown hK hP 0 rfl rfl 1 (by decide) (hts _ q2_20) (fun _ h9 => h9) rfl dX9_counts_36 ?_
      refine lv_iload_n hx hb dX9_counts_39 rfl (lv_at hl 1 rfl) ?_
      obtain ⟨q3, hc, hf⟩ := zbd hf
      refine z_cVl (As := [.int x1]) (rest := [.ref (ht 0)]) C (c_X6_countingFor l D cy ht_rows St_rows x1 q3 hc) gV_X9_X6_countingFor hd_X6_countingFor ⟨Nat.le_of_ble_eq_true rfl, Nat.le_of_ble_eq_true rfl⟩ ⟨Nat.le_refl _, Nat.le_refl _⟩ (va_recv hK hP (ci := 3) (q0 := 1) rfl rfl) hP hD hS (w2 := wSR ht (ht_reader 0) (ht_rows 0) (ht_evidence 0) (ht_history 0) cy St ++ (wRows ht_rows cy St_rows)) [1, 2, 3, 4, 5, 6, 7, 8] [0] [0, 1, 2, 3, 4, 5, 6, 7, 8] rfl rfl rfl rfl rfl rfl (by decide) hl.1 (Nat.le_of_ble_eq_true rfl) dX9_counts_40 (fun H locs hP hD hS => ?_)
      refine lv_iload_n hx hb dX9_counts_43 rfl (lv_at hl 2 rfl) ?_
      obtain ⟨q4, hc, hf⟩ := zbd hf
      refine z_cSiE (As := [.long q3, .int x2]) (rest := [.ref (ht 0)]) C (c_X6_holds l D cy q3 x2 q4 hc) gS_X9_X6_holds hd_X6_holds ⟨Nat.le_of_ble_eq_true rfl, Nat.le_of_ble_eq_true rfl⟩ ⟨Nat.le_refl _, Nat.le_refl _⟩ hP hD hS hl.1 (Nat.le_of_ble_eq_true rfl) dX9_counts_44 (fun H locs hP hD hS => ?_)
      obtain ⟨q5, hc, hf⟩ := zbd hf
      refine z_cSiE (As := [.int q4]) (rest := [.ref (ht 0)]) C (c_X9_oneIf l D cy q4 q5 hc) gS_X9_X9_oneIf hd_X9_oneIf ⟨Nat.le_of_ble_eq_true rfl, Nat.le_of_ble_eq_true rfl⟩ ⟨Nat.le_refl _, Nat.le_refl _⟩ hP hD hS hl.1 (Nat.le_of_ble_eq_true rfl) dX9_counts_47 (fun H locs hP hD hS => ?_)
      obtain ⟨q6, hc, hf⟩ := zbd hf
      refine z_cVi (As := [.int q5]) (rest := []) C (c_X9_answer l D cy ht ht_reader ht_rows ht_evidence ht_history St q5 q6 hc) gV_X9_X9_answer hd_X9_answer ⟨Nat.le_of_ble_eq_true rfl, Nat.le_of_ble_eq_true rfl⟩ ⟨Nat.le_refl _, Nat.le_refl _⟩ (va_recv hK hP (ci := 5) (q0 := 0) rfl rfl) hP hD hS (w2 := wSR ht (ht_reader 0) (ht_rows 0) (ht_evidence 0) (ht_history 0) cy q6.2 ++ (wRows ht_rows cy St_rows)) [0] [1, 2, 3, 4, 5, 6, 7, 8] [8, 0, 1, 2, 3, 4, 5, 6, 7] rfl rfl rfl rfl rfl rfl (by decide) hl.1 (Nat.le_of_ble_eq_true rfl) dX9_counts_50 (fun H locs hP hD hS => ?_)
      obtain rfl := Option.some.inj hf
      exact z_iret (v := q6.1) C hP hD hS dX9_counts_53
    · refine lv_aload_n hx hb dX9_counts_28 rfl (lv_at hl 0 rfl) ?_
      refine lv_iconst (v := (2 : Int32)) hx hb dX9_counts_29 (by decide) ?_
      obtain ⟨q7, hc, hf⟩ := zbd hf
      refine z_cVi (As := [.int (2 : Int32)]) (rest := []) C (c_X9_refuse l D cy ht ht_reader ht_rows ht_evidence ht_history St (2 : Int32) q7 hc) gV_X9_X9_refuse hd_X9_refuse ⟨Nat.le_of_ble_eq_true rfl, Nat.le_of_ble_eq_true rfl⟩ ⟨Nat.le_refl _, Nat.le_refl _⟩ (va_recv hK hP (ci := 5) (q0 := 0) rfl rfl) hP hD hS (w2 := wSR ht (ht_reader 0) (ht_rows 0) (ht_evidence 0) (ht_history 0) cy q7.2 ++ (wRows ht_rows cy St_rows)) [0] [1, 2, 3, 4, 5, 6, 7, 8] [8, 0, 1, 2, 3, 4, 5, 6, 7] rfl rfl rfl rfl rfl rfl (by decide) hl.1 (Nat.le_of_ble_eq_true rfl) dX9_counts_30 (fun H locs hP hD hS => ?_)
      obtain rfl := Option.some.inj hf
      exact z_iret (v := q7.1) C hP hD hS dX9_counts_33
  · refine lv_aload_n hx hb dX9_counts_11 rfl (lv_at hl 0 rfl) ?_
    refine lv_iconst (v := (1 : Int32)) hx hb dX9_counts_12 (by decide) ?_
    obtain ⟨q8, hc, hf⟩ := zbd hf
    refine z_cVi (As := [.int (1 : Int32)]) (rest := []) C (c_X9_refuse l D cy ht ht_reader ht_rows ht_evidence ht_history St (1 : Int32) q8 hc) gV_X9_X9_refuse hd_X9_refuse ⟨Nat.le_of_ble_eq_true rfl, Nat.le_of_ble_eq_true rfl⟩ ⟨Nat.le_refl _, Nat.le_refl _⟩ (va_recv hK hP (ci := 5) (q0 := 0) rfl rfl) hP hD hS (w2 := wSR ht (ht_reader 0) (ht_rows 0) (ht_evidence 0) (ht_history 0) cy q8.2 ++ (wRows ht_rows cy St_rows)) [0] [1, 2, 3, 4, 5, 6, 7, 8] [8, 0, 1, 2, 3, 4, 5, 6, 7] rfl rfl rfl rfl rfl rfl (by decide) hl.1 (Nat.le_of_ble_eq_true rfl) dX9_counts_13 (fun H locs hP hD hS => ?_)
    obtain rfl := Option.some.inj hf
    exact z_iret (v := q8.1) C hP hD hS dX9_counts_16
def f_X9_holdsBack (St : SSR) (St_rows : SRows) : Option (Int32 × SSR) :=
  (f_X9_hasStore St St_rows).bind (fun q1 =>
    (if q1 = 0 then
      (f_X9_refuse St (1 : Int32)).bind (fun q2 =>
        some (q2.1, q2.2))
      else
      (f_X6_slotHoldingBack St_rows).bind (fun q3 =>
        (f_X9_answer St q3).bind (fun q4 =>
          some (q4.1, q4.2)))))
set_option maxHeartbeats 4000000 in
set_option maxRecDepth 100000 in
theorem c_X9_holdsBack (l : Launch) (D : va_G) (cy : Nat → ClassId) (ht : Nat → Nat) (ht_reader : Nat → Nat) (ht_rows : Nat → Nat) (ht_evidence : Nat → Nat) (ht_history : Nat → Nat) (St : SSR) (St_rows : SRows) (r : Int32 × SSR) (hf : f_X9_holdsBack St St_rows = some r) : zCI l yX9_holdsBack cX9_holdsBack 1 (some FieldType.int) 3 88 D (zty cy) [.ref (ht 0)] (wSR ht (ht_reader 0) (ht_rows 0) (ht_evidence 0) (ht_history 0) cy St ++ (wRows ht_rows cy St_rows)) (wSR ht (ht_reader 0) (ht_rows 0) (ht_evidence 0) (ht_history 0) cy r.2 ++ (wRows ht_rows cy St_rows)) r.1 := by
  refine zCI_of (by decide +kernel) (Nat.le_of_ble_eq_true rfl) ?_
  intro p e s m below meth c A ls C hP hD hS hl
  generalize hargs : ([.ref (ht 0)] : List Value).toArray = args at C ⊢
  have C : zX p s m meth c cX9_holdsBack 1 args RX9 (some FieldType.int) A D (zty cy) := C
  obtain ⟨hx, hb, hr, hts, hown, hlocks, hml, hA, hK⟩ := id C
  have hl : lv_has ls 1 [(0, .ref (ht 0))] := hl
  generalize hH : s.heap = H at hP ⊢
  have hS : va_S A s.heap H [] := by rw [← hH]; exact hS
  generalize ([] : List Loc) = locs at hS ⊢
  refine lv_aload_n hx hb dX9_holdsBack_0 rfl (lv_at hl 0 rfl) ?_
  obtain ⟨q1, hc, hf⟩ := zbd hf
  refine z_cVi0 (As := []) (rest := []) C (c_X9_hasStore l D cy ht ht_reader ht_rows ht_evidence ht_history St St_rows q1 hc) gV_X9_X9_hasStore hd_X9_hasStore ⟨Nat.le_of_ble_eq_true rfl, Nat.le_of_ble_eq_true rfl⟩ ⟨Nat.le_refl _, Nat.le_refl _⟩ (va_recv hK hP (ci := 5) (q0 := 0) rfl rfl) hP hD hS hl.1 (Nat.le_of_ble_eq_true rfl) dX9_holdsBack_1 (fun H locs hP hD hS => ?_)
  have hP : va_P D vwCl (wSR ht (ht_reader 0) (ht_rows 0) (ht_evidence 0) (ht_history 0) cy St ++ (wRows ht_rows cy St_rows)) H := hP
  have hD : va_D A (wSR ht (ht_reader 0) (ht_rows 0) (ht_evidence 0) (ht_history 0) cy St ++ (wRows ht_rows cy St_rows)) := hD
  refine z_if_eq (tgt := 21) hx hb dX9_holdsBack_4 (by decide) hf (fun hf => ?_) (fun hf => ?_)
  · refine lv_aload_n hx hb dX9_holdsBack_21 rfl (lv_at hl 0 rfl) ?_
    refine lv_iconst (v := (1 : Int32)) hx hb dX9_holdsBack_22 (by decide) ?_
    obtain ⟨q2, hc, hf⟩ := zbd hf
    refine z_cVi (As := [.int (1 : Int32)]) (rest := []) C (c_X9_refuse l D cy ht ht_reader ht_rows ht_evidence ht_history St (1 : Int32) q2 hc) gV_X9_X9_refuse hd_X9_refuse ⟨Nat.le_of_ble_eq_true rfl, Nat.le_of_ble_eq_true rfl⟩ ⟨Nat.le_refl _, Nat.le_refl _⟩ (va_recv hK hP (ci := 5) (q0 := 0) rfl rfl) hP hD hS (w2 := wSR ht (ht_reader 0) (ht_rows 0) (ht_evidence 0) (ht_history 0) cy q2.2 ++ (wRows ht_rows cy St_rows)) [0] [1, 2, 3, 4, 5, 6, 7, 8] [8, 0, 1, 2, 3, 4, 5, 6, 7] rfl rfl rfl rfl rfl rfl (by decide) hl.1 (Nat.le_of_ble_eq_true rfl) dX9_holdsBack_23 (fun H locs hP hD hS => ?_)
    obtain rfl := Option.some.inj hf
    exact z_iret (v := q2.1) C hP hD hS dX9_holdsBack_26
  · refine lv_aload_n hx hb dX9_holdsBack_7 rfl (lv_at hl 0 rfl) ?_
    refine lv_aload_n hx hb dX9_holdsBack_8 rfl (lv_at hl 0 rfl) ?_
    refine va_get (D := D) (ci := 5) (v := .ref (ht_rows 0)) (C := RX9) (T := TX9) (N := 7) hx hb hts in_X9 hown hK hP 0 rfl rfl 1 (by decide) (hts _ q2_20) (fun _ h9 => h9) rfl dX9_holdsBack_9 ?_
    obtain ⟨q3, hc, hf⟩ := zbd hf
    refine z_cVi (As := []) (rest := [.ref (ht 0)]) C (c_X6_slotHoldingBack l D cy ht_rows St_rows q3 hc) gV_X9_X6_slotHoldingBack hd_X6_slotHoldingBack ⟨Nat.le_of_ble_eq_true rfl, Nat.le_of_ble_eq_true rfl⟩ ⟨Nat.le_refl _, Nat.le_refl _⟩ (va_recv hK hP (ci := 3) (q0 := 1) rfl rfl) hP hD hS (w2 := wSR ht (ht_reader 0) (ht_rows 0) (ht_evidence 0) (ht_history 0) cy St ++ (wRows ht_rows cy St_rows)) [1, 2, 3, 4, 5, 6, 7, 8] [0] [0, 1, 2, 3, 4, 5, 6, 7, 8] rfl rfl rfl rfl rfl rfl (by decide) hl.1 (Nat.le_of_ble_eq_true rfl) dX9_holdsBack_12 (fun H locs hP hD hS => ?_)
    obtain ⟨q4, hc, hf⟩ := zbd hf
    refine z_cVi (As := [.int q3]) (rest := []) C (c_X9_answer l D cy ht ht_reader ht_rows ht_evidence ht_history St q3 q4 hc) gV_X9_X9_answer hd_X9_answer ⟨Nat.le_of_ble_eq_true rfl, Nat.le_of_ble_eq_true rfl⟩ ⟨Nat.le_refl _, Nat.le_refl _⟩ (va_recv hK hP (ci := 5) (q0 := 0) rfl rfl) hP hD hS (w2 := wSR ht (ht_reader 0) (ht_rows 0) (ht_evidence 0) (ht_history 0) cy q4.2 ++ (wRows ht_rows cy St_rows)) [0] [1, 2, 3, 4, 5, 6, 7, 8] [8, 0, 1, 2, 3, 4, 5, 6, 7] rfl rfl rfl rfl rfl rfl (by decide) hl.1 (Nat.le_of_ble_eq_true rfl) dX9_holdsBack_15 (fun H locs hP hD hS => ?_)
    refine lv_goto (tgt := 26) hx hb dX9_holdsBack_18 (by decide) ?_
    obtain rfl := Option.some.inj hf
    exact z_iret (v := q4.1) C hP hD hS dX9_holdsBack_26
def f_X9_frees (St : SSR) (St_rows : SRows) (x1 : Int32) : Option (Int32 × SSR) :=
  (f_X6_runs St_rows x1).bind (fun q1 =>
    (if q1 = 0 then
      (f_X9_refuse St (1 : Int32)).bind (fun q5 =>
        some (q5.1, q5.2))
      else
      (f_X6_countDeadWithout St_rows x1).bind (fun q2 =>
        (f_X6_countDeadWithout St_rows (-2 : Int32)).bind (fun q3 =>
          (f_X9_answer St (q2 - q3)).bind (fun q4 =>
            some (q4.1, q4.2))))))
set_option maxHeartbeats 4000000 in
set_option maxRecDepth 100000 in
theorem c_X9_frees (l : Launch) (D : va_G) (cy : Nat → ClassId) (ht : Nat → Nat) (ht_reader : Nat → Nat) (ht_rows : Nat → Nat) (ht_evidence : Nat → Nat) (ht_history : Nat → Nat) (St : SSR) (St_rows : SRows) (x1 : Int32) (r : Int32 × SSR) (hf : f_X9_frees St St_rows x1 = some r) : zCI l yX9_frees cX9_frees 2 (some FieldType.int) 4 97 D (zty cy) [.ref (ht 0), .int x1] (wSR ht (ht_reader 0) (ht_rows 0) (ht_evidence 0) (ht_history 0) cy St ++ (wRows ht_rows cy St_rows)) (wSR ht (ht_reader 0) (ht_rows 0) (ht_evidence 0) (ht_history 0) cy r.2 ++ (wRows ht_rows cy St_rows)) r.1 := by
  refine zCI_of (by decide +kernel) (Nat.le_of_ble_eq_true rfl) ?_
  intro p e s m below meth c A ls C hP hD hS hl
  generalize hargs : ([.ref (ht 0), .int x1] : List Value).toArray = args at C ⊢
  have C : zX p s m meth c cX9_frees 2 args RX9 (some FieldType.int) A D (zty cy) := C
  obtain ⟨hx, hb, hr, hts, hown, hlocks, hml, hA, hK⟩ := id C
  have hl : lv_has ls 2 [(0, .ref (ht 0)), (1, .int x1)] := hl
  generalize hH : s.heap = H at hP ⊢
  have hS : va_S A s.heap H [] := by rw [← hH]; exact hS
  generalize ([] : List Loc) = locs at hS ⊢
  refine lv_aload_n hx hb dX9_frees_0 rfl (lv_at hl 0 rfl) ?_
  refine va_get (D := D) (ci := 5) (v := .ref (ht_rows 0)) (C := RX9) (T := TX9) (N := 7) hx hb hts in_X9 hown hK hP 0 rfl rfl 1 (by decide) (hts _ q2_20) (fun _ h9 => h9) rfl dX9_frees_1 ?_
  refine lv_iload_n hx hb dX9_frees_4 rfl (lv_at hl 1 rfl) ?_
  obtain ⟨q1, hc, hf⟩ := zbd hf
  refine z_cVi (As := [.int x1]) (rest := []) C (c_X6_runs l D cy ht_rows St_rows x1 q1 hc) gV_X9_X6_runs hd_X6_runs ⟨Nat.le_of_ble_eq_true rfl, Nat.le_of_ble_eq_true rfl⟩ ⟨Nat.le_refl _, Nat.le_refl _⟩ (va_recv hK hP (ci := 3) (q0 := 1) rfl rfl) hP hD hS (w2 := wSR ht (ht_reader 0) (ht_rows 0) (ht_evidence 0) (ht_history 0) cy St ++ (wRows ht_rows cy St_rows)) [1, 2, 3, 4, 5, 6, 7, 8] [0] [0, 1, 2, 3, 4, 5, 6, 7, 8] rfl rfl rfl rfl rfl rfl (by decide) hl.1 (Nat.le_of_ble_eq_true rfl) dX9_frees_5 (fun H locs hP hD hS => ?_)
  refine z_if_ne (tgt := 17) hx hb dX9_frees_8 (by decide) hf (fun hf => ?_) (fun hf => ?_)
  · refine lv_aload_n hx hb dX9_frees_17 rfl (lv_at hl 0 rfl) ?_
    refine lv_aload_n hx hb dX9_frees_18 rfl (lv_at hl 0 rfl) ?_
    refine va_get (D := D) (ci := 5) (v := .ref (ht_rows 0)) (C := RX9) (T := TX9) (N := 7) hx hb hts in_X9 hown hK hP 0 rfl rfl 1 (by decide) (hts _ q2_20) (fun _ h9 => h9) rfl dX9_frees_19 ?_
    refine lv_iload_n hx hb dX9_frees_22 rfl (lv_at hl 1 rfl) ?_
    obtain ⟨q2, hc, hf⟩ := zbd hf
    refine z_cVi (As := [.int x1]) (rest := [.ref (ht 0)]) C (c_X6_countDeadWithout l D cy ht_rows St_rows x1 q2 hc) gV_X9_X6_countDeadWithout hd_X6_countDeadWithout ⟨Nat.le_of_ble_eq_true rfl, Nat.le_of_ble_eq_true rfl⟩ ⟨Nat.le_refl _, Nat.le_refl _⟩ (va_recv hK hP (ci := 3) (q0 := 1) rfl rfl) hP hD hS (w2 := wSR ht (ht_reader 0) (ht_rows 0) (ht_evidence 0) (ht_history 0) cy St ++ (wRows ht_rows cy St_rows)) [1, 2, 3, 4, 5, 6, 7, 8] [0] [0, 1, 2, 3, 4, 5, 6, 7, 8] rfl rfl rfl rfl rfl rfl (by decide) hl.1 (Nat.le_of_ble_eq_true rfl) dX9_frees_23 (fun H locs hP hD hS => ?_)
    refine lv_aload_n hx hb dX9_frees_26 rfl (lv_at hl 0 rfl) ?_
    refine va_get (D := D) (ci := 5) (v := .ref (ht_rows 0)) (C := RX9) (T := TX9) (N := 7) hx hb hts in_X9 hown hK hP 0 rfl rfl 1 (by decide) (hts _ q2_20) (fun _ h9 => h9) rfl dX9_frees_27 ?_
    refine lv_bipush (v := (-2 : Int32)) hx hb dX9_frees_30 (by decide) ?_
    obtain ⟨q3, hc, hf⟩ := zbd hf
    refine z_cVi (As := [.int (-2 : Int32)]) (rest := [.int q2, .ref (ht 0)]) C (c_X6_countDeadWithout l D cy ht_rows St_rows (-2 : Int32) q3 hc) gV_X9_X6_countDeadWithout hd_X6_countDeadWithout ⟨Nat.le_of_ble_eq_true rfl, Nat.le_of_ble_eq_true rfl⟩ ⟨Nat.le_refl _, Nat.le_refl _⟩ (va_recv hK hP (ci := 3) (q0 := 1) rfl rfl) hP hD hS (w2 := wSR ht (ht_reader 0) (ht_rows 0) (ht_evidence 0) (ht_history 0) cy St ++ (wRows ht_rows cy St_rows)) [1, 2, 3, 4, 5, 6, 7, 8] [0] [0, 1, 2, 3, 4, 5, 6, 7, 8] rfl rfl rfl rfl rfl rfl (by decide) hl.1 (Nat.le_of_ble_eq_true rfl) dX9_frees_32 (fun H locs hP hD hS => ?_)
    refine lv_isub hx hb dX9_frees_35 ?_
    obtain ⟨q4, hc, hf⟩ := zbd hf
    refine z_cVi (As := [.int (q2 - q3)]) (rest := []) C (c_X9_answer l D cy ht ht_reader ht_rows ht_evidence ht_history St (q2 - q3) q4 hc) gV_X9_X9_answer hd_X9_answer ⟨Nat.le_of_ble_eq_true rfl, Nat.le_of_ble_eq_true rfl⟩ ⟨Nat.le_refl _, Nat.le_refl _⟩ (va_recv hK hP (ci := 5) (q0 := 0) rfl rfl) hP hD hS (w2 := wSR ht (ht_reader 0) (ht_rows 0) (ht_evidence 0) (ht_history 0) cy q4.2 ++ (wRows ht_rows cy St_rows)) [0] [1, 2, 3, 4, 5, 6, 7, 8] [8, 0, 1, 2, 3, 4, 5, 6, 7] rfl rfl rfl rfl rfl rfl (by decide) hl.1 (Nat.le_of_ble_eq_true rfl) dX9_frees_36 (fun H locs hP hD hS => ?_)
    obtain rfl := Option.some.inj hf
    exact z_iret (v := q4.1) C hP hD hS dX9_frees_39
  · refine lv_aload_n hx hb dX9_frees_11 rfl (lv_at hl 0 rfl) ?_
    refine lv_iconst (v := (1 : Int32)) hx hb dX9_frees_12 (by decide) ?_
    obtain ⟨q5, hc, hf⟩ := zbd hf
    refine z_cVi (As := [.int (1 : Int32)]) (rest := []) C (c_X9_refuse l D cy ht ht_reader ht_rows ht_evidence ht_history St (1 : Int32) q5 hc) gV_X9_X9_refuse hd_X9_refuse ⟨Nat.le_of_ble_eq_true rfl, Nat.le_of_ble_eq_true rfl⟩ ⟨Nat.le_refl _, Nat.le_refl _⟩ (va_recv hK hP (ci := 5) (q0 := 0) rfl rfl) hP hD hS (w2 := wSR ht (ht_reader 0) (ht_rows 0) (ht_evidence 0) (ht_history 0) cy q5.2 ++ (wRows ht_rows cy St_rows)) [0] [1, 2, 3, 4, 5, 6, 7, 8] [8, 0, 1, 2, 3, 4, 5, 6, 7] rfl rfl rfl rfl rfl rfl (by decide) hl.1 (Nat.le_of_ble_eq_true rfl) dX9_frees_13 (fun H locs hP hD hS => ?_)
    obtain rfl := Option.some.inj hf
    exact z_iret (v := q5.1) C hP hD hS dX9_frees_16
def f_X9_version (St : SSR) (St_rows : SRows) (x1 : Int32) (x2 : Int32) : Option (Int32 × SSR) :=
  (f_X6_isVersion St_rows x1).bind (fun q1 =>
    (if q1 = 0 then
      (f_X9_refuse St (1 : Int32)).bind (fun q17 =>
        some (q17.1, q17.2))
      else
      (if x2 = 0 then
        (f_X6_rowOf St_rows x1).bind (fun q2 =>
          (f_X9_answer St q2).bind (fun q3 =>
            some (q3.1, q3.2)))
        else
        (if x2 = 1 then
          (f_X6_valueOf St_rows x1).bind (fun q4 =>
            (f_X9_answer St q4).bind (fun q5 =>
              some (q5.1, q5.2)))
          else
          (if x2 = 2 then
            (f_X6_fromOf St_rows x1).bind (fun q6 =>
              (f_X9_answer St q6).bind (fun q7 =>
                some (q7.1, q7.2)))
            else
            (if x2 = 3 then
              (f_X6_tillOf St_rows x1).bind (fun q8 =>
                (f_X9_answer St q8).bind (fun q9 =>
                  some (q9.1, q9.2)))
              else
              (if x2 = 4 then
                (f_X6_isDeadNow St_rows x1).bind (fun q10 =>
                  (f_X9_oneIf q10).bind (fun q11 =>
                    (f_X9_answer St q11).bind (fun q12 =>
                      some (q12.1, q12.2))))
                else
                (if x2 = 5 then
                  (f_X6_wouldFreeze St_rows x1).bind (fun q13 =>
                    (f_X9_oneIf q13).bind (fun q14 =>
                      (f_X9_answer St q14).bind (fun q15 =>
                        some (q15.1, q15.2))))
                  else
                  (f_X9_refuse St (1 : Int32)).bind (fun q16 =>
                    some (q16.1, q16.2))))))))))
set_option maxHeartbeats 4000000 in
set_option maxRecDepth 100000 in
theorem c_X9_version (l : Launch) (D : va_G) (cy : Nat → ClassId) (ht : Nat → Nat) (ht_reader : Nat → Nat) (ht_rows : Nat → Nat) (ht_evidence : Nat → Nat) (ht_history : Nat → Nat) (St : SSR) (St_rows : SRows) (x1 : Int32) (x2 : Int32) (r : Int32 × SSR) (hf : f_X9_version St St_rows x1 x2 = some r) : zCI l yX9_version cX9_version 3 (some FieldType.int) 4 91 D (zty cy) [.ref (ht 0), .int x1, .int x2] (wSR ht (ht_reader 0) (ht_rows 0) (ht_evidence 0) (ht_history 0) cy St ++ (wRows ht_rows cy St_rows)) (wSR ht (ht_reader 0) (ht_rows 0) (ht_evidence 0) (ht_history 0) cy r.2 ++ (wRows ht_rows cy St_rows)) r.1 := by
  refine zCI_of (by decide +kernel) (Nat.le_of_ble_eq_true rfl) ?_
  intro p e s m below meth c A ls C hP hD hS hl
  generalize hargs : ([.ref (ht 0), .int x1, .int x2] : List Value).toArray = args at C ⊢
  have C : zX p s m meth c cX9_version 3 args RX9 (some FieldType.int) A D (zty cy) := C
  obtain ⟨hx, hb, hr, hts, hown, hlocks, hml, hA, hK⟩ := id C
  have hl : lv_has ls 3 [(0, .ref (ht 0)), (1, .int x1), (2, .int x2)] := hl
  generalize hH : s.heap = H at hP ⊢
  have hS : va_S A s.heap H [] := by rw [← hH]; exact hS
  generalize ([] : List Loc) = locs at hS ⊢
  refine lv_aload_n hx hb dX9_version_0 rfl (lv_at hl 0 rfl) ?_
  refine va_get (D := D) (ci := 5) (v := .ref (ht_rows 0)) (C := RX9) (T := TX9) (N := 7) hx hb hts in_X9 hown hK hP 0 rfl rfl 1 (by decide) (hts _ q2_20) (fun _ h9 => h9) rfl dX9_version_1 ?_
  refine lv_iload_n hx hb dX9_version_4 rfl (lv_at hl 1 rfl) ?_
  obtain ⟨q1, hc, hf⟩ := zbd hf
  refine z_cVi (As := [.int x1]) (rest := []) C (c_X6_isVersion l D cy ht_rows St_rows x1 q1 hc) gV_X9_X6_isVersion hd_X6_isVersion ⟨Nat.le_of_ble_eq_true rfl, Nat.le_of_ble_eq_true rfl⟩ ⟨Nat.le_refl _, Nat.le_refl _⟩ (va_recv hK hP (ci := 3) (q0 := 1) rfl rfl) hP hD hS (w2 := wSR ht (ht_reader 0) (ht_rows 0) (ht_evidence 0) (ht_history 0) cy St ++ (wRows ht_rows cy St_rows)) [1, 2, 3, 4, 5, 6, 7, 8] [0] [0, 1, 2, 3, 4, 5, 6, 7, 8] rfl rfl rfl rfl rfl rfl (by decide) hl.1 (Nat.le_of_ble_eq_true rfl) dX9_version_5 (fun H locs hP hD hS => ?_)
  refine z_if_ne (tgt := 17) hx hb dX9_version_8 (by decide) hf (fun hf => ?_) (fun hf => ?_)
  · refine lv_iload_n hx hb dX9_version_17 rfl (lv_at hl 2 rfl) ?_
    rcases zsw hf with ⟨hq0, hf⟩ | ⟨hq0, hf⟩
    · rw [hq0]
      refine lv_tableIn (tgt := 56) hx hb dX9_version_18 (by decide) (by decide) rfl (by decide) ?_
      refine lv_aload_n hx hb dX9_version_56 rfl (lv_at hl 0 rfl) ?_
      refine lv_aload_n hx hb dX9_version_57 rfl (lv_at hl 0 rfl) ?_
      refine va_get (D := D) (ci := 5) (v := .ref (ht_rows 0)) (C := RX9) (T := TX9) (N := 7) hx hb hts in_X9 hown hK hP 0 rfl rfl 1 (by decide) (hts _ q2_20) (fun _ h9 => h9) rfl dX9_version_58 ?_
      refine lv_iload_n hx hb dX9_version_61 rfl (lv_at hl 1 rfl) ?_
      obtain ⟨q2, hc, hf⟩ := zbd hf
      refine z_cVi (As := [.int x1]) (rest := [.ref (ht 0)]) C (c_X6_rowOf l D cy ht_rows St_rows x1 q2 hc) gV_X9_X6_rowOf hd_X6_rowOf ⟨Nat.le_of_ble_eq_true rfl, Nat.le_of_ble_eq_true rfl⟩ ⟨Nat.le_refl _, Nat.le_refl _⟩ (va_recv hK hP (ci := 3) (q0 := 1) rfl rfl) hP hD hS (w2 := wSR ht (ht_reader 0) (ht_rows 0) (ht_evidence 0) (ht_history 0) cy St ++ (wRows ht_rows cy St_rows)) [1, 2, 3, 4, 5, 6, 7, 8] [0] [0, 1, 2, 3, 4, 5, 6, 7, 8] rfl rfl rfl rfl rfl rfl (by decide) hl.1 (Nat.le_of_ble_eq_true rfl) dX9_version_62 (fun H locs hP hD hS => ?_)
      obtain ⟨q3, hc, hf⟩ := zbd hf
      refine z_cVi (As := [.int q2]) (rest := []) C (c_X9_answer l D cy ht ht_reader ht_rows ht_evidence ht_history St q2 q3 hc) gV_X9_X9_answer hd_X9_answer ⟨Nat.le_of_ble_eq_true rfl, Nat.le_of_ble_eq_true rfl⟩ ⟨Nat.le_refl _, Nat.le_refl _⟩ (va_recv hK hP (ci := 5) (q0 := 0) rfl rfl) hP hD hS (w2 := wSR ht (ht_reader 0) (ht_rows 0) (ht_evidence 0) (ht_history 0) cy q3.2 ++ (wRows ht_rows cy St_rows)) [0] [1, 2, 3, 4, 5, 6, 7, 8] [8, 0, 1, 2, 3, 4, 5, 6, 7] rfl rfl rfl rfl rfl rfl (by decide) hl.1 (Nat.le_of_ble_eq_true rfl) dX9_version_65 (fun H locs hP hD hS => ?_)
      obtain rfl := Option.some.inj hf
      exact z_iret (v := q3.1) C hP hD hS dX9_version_68
    ·
      rcases zsw hf with ⟨hq1, hf⟩ | ⟨hq1, hf⟩
      · rw [hq1]
        refine lv_tableIn (tgt := 69) hx hb dX9_version_18 (by decide) (by decide) rfl (by decide) ?_
        refine lv_aload_n hx hb dX9_version_69 rfl (lv_at hl 0 rfl) ?_
        refine lv_aload_n hx hb dX9_version_70 rfl (lv_at hl 0 rfl) ?_
        refine va_get (D := D) (ci := 5) (v := .ref (ht_rows 0)) (C := RX9) (T := TX9) (N := 7) hx hb hts in_X9 hown hK hP 0 rfl rfl 1 (by decide) (hts _ q2_20) (fun _ h9 => h9) rfl dX9_version_71 ?_
        refine lv_iload_n hx hb dX9_version_74 rfl (lv_at hl 1 rfl) ?_
        obtain ⟨q4, hc, hf⟩ := zbd hf
        refine z_cVi (As := [.int x1]) (rest := [.ref (ht 0)]) C (c_X6_valueOf l D cy ht_rows St_rows x1 q4 hc) gV_X9_X6_valueOf hd_X6_valueOf ⟨Nat.le_of_ble_eq_true rfl, Nat.le_of_ble_eq_true rfl⟩ ⟨Nat.le_refl _, Nat.le_refl _⟩ (va_recv hK hP (ci := 3) (q0 := 1) rfl rfl) hP hD hS (w2 := wSR ht (ht_reader 0) (ht_rows 0) (ht_evidence 0) (ht_history 0) cy St ++ (wRows ht_rows cy St_rows)) [1, 2, 3, 4, 5, 6, 7, 8] [0] [0, 1, 2, 3, 4, 5, 6, 7, 8] rfl rfl rfl rfl rfl rfl (by decide) hl.1 (Nat.le_of_ble_eq_true rfl) dX9_version_75 (fun H locs hP hD hS => ?_)
        obtain ⟨q5, hc, hf⟩ := zbd hf
        refine z_cVi (As := [.int q4]) (rest := []) C (c_X9_answer l D cy ht ht_reader ht_rows ht_evidence ht_history St q4 q5 hc) gV_X9_X9_answer hd_X9_answer ⟨Nat.le_of_ble_eq_true rfl, Nat.le_of_ble_eq_true rfl⟩ ⟨Nat.le_refl _, Nat.le_refl _⟩ (va_recv hK hP (ci := 5) (q0 := 0) rfl rfl) hP hD hS (w2 := wSR ht (ht_reader 0) (ht_rows 0) (ht_evidence 0) (ht_history 0) cy q5.2 ++ (wRows ht_rows cy St_rows)) [0] [1, 2, 3, 4, 5, 6, 7, 8] [8, 0, 1, 2, 3, 4, 5, 6, 7] rfl rfl rfl rfl rfl rfl (by decide) hl.1 (Nat.le_of_ble_eq_true rfl) dX9_version_78 (fun H locs hP hD hS => ?_)
        obtain rfl := Option.some.inj hf
        exact z_iret (v := q5.1) C hP hD hS dX9_version_81
      ·
        rcases zsw hf with ⟨hq2, hf⟩ | ⟨hq2, hf⟩
        · rw [hq2]
          refine lv_tableIn (tgt := 82) hx hb dX9_version_18 (by decide) (by decide) rfl (by decide) ?_
          refine lv_aload_n hx hb dX9_version_82 rfl (lv_at hl 0 rfl) ?_
          refine lv_aload_n hx hb dX9_version_83 rfl (lv_at hl 0 rfl) ?_
          refine va_get (D := D) (ci := 5) (v := .ref (ht_rows 0)) (C := RX9) (T := TX9) (N := 7) hx hb hts in_X9 hown hK hP 0 rfl rfl 1 (by decide) (hts _ q2_20) (fun _ h9 => h9) rfl dX9_version_84 ?_
          refine lv_iload_n hx hb dX9_version_87 rfl (lv_at hl 1 rfl) ?_
          obtain ⟨q6, hc, hf⟩ := zbd hf
          refine z_cVi (As := [.int x1]) (rest := [.ref (ht 0)]) C (c_X6_fromOf l D cy ht_rows St_rows x1 q6 hc) gV_X9_X6_fromOf hd_X6_fromOf ⟨Nat.le_of_ble_eq_true rfl, Nat.le_of_ble_eq_true rfl⟩ ⟨Nat.le_refl _, Nat.le_refl _⟩ (va_recv hK hP (ci := 3) (q0 := 1) rfl rfl) hP hD hS (w2 := wSR ht (ht_reader 0) (ht_rows 0) (ht_evidence 0) (ht_history 0) cy St ++ (wRows ht_rows cy St_rows)) [1, 2, 3, 4, 5, 6, 7, 8] [0] [0, 1, 2, 3, 4, 5, 6, 7, 8] rfl rfl rfl rfl rfl rfl (by decide) hl.1 (Nat.le_of_ble_eq_true rfl) dX9_version_88 (fun H locs hP hD hS => ?_)
          obtain ⟨q7, hc, hf⟩ := zbd hf
          refine z_cVi (As := [.int q6]) (rest := []) C (c_X9_answer l D cy ht ht_reader ht_rows ht_evidence ht_history St q6 q7 hc) gV_X9_X9_answer hd_X9_answer ⟨Nat.le_of_ble_eq_true rfl, Nat.le_of_ble_eq_true rfl⟩ ⟨Nat.le_refl _, Nat.le_refl _⟩ (va_recv hK hP (ci := 5) (q0 := 0) rfl rfl) hP hD hS (w2 := wSR ht (ht_reader 0) (ht_rows 0) (ht_evidence 0) (ht_history 0) cy q7.2 ++ (wRows ht_rows cy St_rows)) [0] [1, 2, 3, 4, 5, 6, 7, 8] [8, 0, 1, 2, 3, 4, 5, 6, 7] rfl rfl rfl rfl rfl rfl (by decide) hl.1 (Nat.le_of_ble_eq_true rfl) dX9_version_91 (fun H locs hP hD hS => ?_)
          obtain rfl := Option.some.inj hf
          exact z_iret (v := q7.1) C hP hD hS dX9_version_94
        ·
          rcases zsw hf with ⟨hq3, hf⟩ | ⟨hq3, hf⟩
          · rw [hq3]
            refine lv_tableIn (tgt := 95) hx hb dX9_version_18 (by decide) (by decide) rfl (by decide) ?_
            refine lv_aload_n hx hb dX9_version_95 rfl (lv_at hl 0 rfl) ?_
            refine lv_aload_n hx hb dX9_version_96 rfl (lv_at hl 0 rfl) ?_
            refine va_get (D := D) (ci := 5) (v := .ref (ht_rows 0)) (C := RX9) (T := TX9) (N := 7) hx hb hts in_X9 hown hK hP 0 rfl rfl 1 (by decide) (hts _ q2_20) (fun _ h9 => h9) rfl dX9_version_97 ?_
            refine lv_iload_n hx hb dX9_version_100 rfl (lv_at hl 1 rfl) ?_
            obtain ⟨q8, hc, hf⟩ := zbd hf
            refine z_cVi (As := [.int x1]) (rest := [.ref (ht 0)]) C (c_X6_tillOf l D cy ht_rows St_rows x1 q8 hc) gV_X9_X6_tillOf hd_X6_tillOf ⟨Nat.le_of_ble_eq_true rfl, Nat.le_of_ble_eq_true rfl⟩ ⟨Nat.le_refl _, Nat.le_refl _⟩ (va_recv hK hP (ci := 3) (q0 := 1) rfl rfl) hP hD hS (w2 := wSR ht (ht_reader 0) (ht_rows 0) (ht_evidence 0) (ht_history 0) cy St ++ (wRows ht_rows cy St_rows)) [1, 2, 3, 4, 5, 6, 7, 8] [0] [0, 1, 2, 3, 4, 5, 6, 7, 8] rfl rfl rfl rfl rfl rfl (by decide) hl.1 (Nat.le_of_ble_eq_true rfl) dX9_version_101 (fun H locs hP hD hS => ?_)
            obtain ⟨q9, hc, hf⟩ := zbd hf
            refine z_cVi (As := [.int q8]) (rest := []) C (c_X9_answer l D cy ht ht_reader ht_rows ht_evidence ht_history St q8 q9 hc) gV_X9_X9_answer hd_X9_answer ⟨Nat.le_of_ble_eq_true rfl, Nat.le_of_ble_eq_true rfl⟩ ⟨Nat.le_refl _, Nat.le_refl _⟩ (va_recv hK hP (ci := 5) (q0 := 0) rfl rfl) hP hD hS (w2 := wSR ht (ht_reader 0) (ht_rows 0) (ht_evidence 0) (ht_history 0) cy q9.2 ++ (wRows ht_rows cy St_rows)) [0] [1, 2, 3, 4, 5, 6, 7, 8] [8, 0, 1, 2, 3, 4, 5, 6, 7] rfl rfl rfl rfl rfl rfl (by decide) hl.1 (Nat.le_of_ble_eq_true rfl) dX9_version_104 (fun H locs hP hD hS => ?_)
            obtain rfl := Option.some.inj hf
            exact z_iret (v := q9.1) C hP hD hS dX9_version_107
          ·
            rcases zsw hf with ⟨hq4, hf⟩ | ⟨hq4, hf⟩
            · rw [hq4]
              refine lv_tableIn (tgt := 108) hx hb dX9_version_18 (by decide) (by decide) rfl (by decide) ?_
              refine lv_aload_n hx hb dX9_version_108 rfl (lv_at hl 0 rfl) ?_
              refine lv_aload_n hx hb dX9_version_109 rfl (lv_at hl 0 rfl) ?_
              refine va_get (D := D) (ci := 5) (v := .ref (ht_rows 0)) (C := RX9) (T := TX9) (N := 7) hx hb hts in_X9 hown hK hP 0 rfl rfl 1 (by decide) (hts _ q2_20) (fun _ h9 => h9) rfl dX9_version_110 ?_
              refine lv_iload_n hx hb dX9_version_113 rfl (lv_at hl 1 rfl) ?_
              obtain ⟨q10, hc, hf⟩ := zbd hf
              refine z_cVi (As := [.int x1]) (rest := [.ref (ht 0)]) C (c_X6_isDeadNow l D cy ht_rows St_rows x1 q10 hc) gV_X9_X6_isDeadNow hd_X6_isDeadNow ⟨Nat.le_of_ble_eq_true rfl, Nat.le_of_ble_eq_true rfl⟩ ⟨Nat.le_refl _, Nat.le_refl _⟩ (va_recv hK hP (ci := 3) (q0 := 1) rfl rfl) hP hD hS (w2 := wSR ht (ht_reader 0) (ht_rows 0) (ht_evidence 0) (ht_history 0) cy St ++ (wRows ht_rows cy St_rows)) [1, 2, 3, 4, 5, 6, 7, 8] [0] [0, 1, 2, 3, 4, 5, 6, 7, 8] rfl rfl rfl rfl rfl rfl (by decide) hl.1 (Nat.le_of_ble_eq_true rfl) dX9_version_114 (fun H locs hP hD hS => ?_)
              obtain ⟨q11, hc, hf⟩ := zbd hf
              refine z_cSiE (As := [.int q10]) (rest := [.ref (ht 0)]) C (c_X9_oneIf l D cy q10 q11 hc) gS_X9_X9_oneIf hd_X9_oneIf ⟨Nat.le_of_ble_eq_true rfl, Nat.le_of_ble_eq_true rfl⟩ ⟨Nat.le_refl _, Nat.le_refl _⟩ hP hD hS hl.1 (Nat.le_of_ble_eq_true rfl) dX9_version_117 (fun H locs hP hD hS => ?_)
              obtain ⟨q12, hc, hf⟩ := zbd hf
              refine z_cVi (As := [.int q11]) (rest := []) C (c_X9_answer l D cy ht ht_reader ht_rows ht_evidence ht_history St q11 q12 hc) gV_X9_X9_answer hd_X9_answer ⟨Nat.le_of_ble_eq_true rfl, Nat.le_of_ble_eq_true rfl⟩ ⟨Nat.le_refl _, Nat.le_refl _⟩ (va_recv hK hP (ci := 5) (q0 := 0) rfl rfl) hP hD hS (w2 := wSR ht (ht_reader 0) (ht_rows 0) (ht_evidence 0) (ht_history 0) cy q12.2 ++ (wRows ht_rows cy St_rows)) [0] [1, 2, 3, 4, 5, 6, 7, 8] [8, 0, 1, 2, 3, 4, 5, 6, 7] rfl rfl rfl rfl rfl rfl (by decide) hl.1 (Nat.le_of_ble_eq_true rfl) dX9_version_120 (fun H locs hP hD hS => ?_)
              obtain rfl := Option.some.inj hf
              exact z_iret (v := q12.1) C hP hD hS dX9_version_123
            ·
              rcases zsw hf with ⟨hq5, hf⟩ | ⟨hq5, hf⟩
              · rw [hq5]
                refine lv_tableIn (tgt := 124) hx hb dX9_version_18 (by decide) (by decide) rfl (by decide) ?_
                refine lv_aload_n hx hb dX9_version_124 rfl (lv_at hl 0 rfl) ?_
                refine lv_aload_n hx hb dX9_version_125 rfl (lv_at hl 0 rfl) ?_
                refine va_get (D := D) (ci := 5) (v := .ref (ht_rows 0)) (C := RX9) (T := TX9) (N := 7) hx hb hts in_X9 hown hK hP 0 rfl rfl 1 (by decide) (hts _ q2_20) (fun _ h9 => h9) rfl dX9_version_126 ?_
                refine lv_iload_n hx hb dX9_version_129 rfl (lv_at hl 1 rfl) ?_
                obtain ⟨q13, hc, hf⟩ := zbd hf
                refine z_cVi (As := [.int x1]) (rest := [.ref (ht 0)]) C (c_X6_wouldFreeze l D cy ht_rows St_rows x1 q13 hc) gV_X9_X6_wouldFreeze hd_X6_wouldFreeze ⟨Nat.le_of_ble_eq_true rfl, Nat.le_of_ble_eq_true rfl⟩ ⟨Nat.le_refl _, Nat.le_refl _⟩ (va_recv hK hP (ci := 3) (q0 := 1) rfl rfl) hP hD hS (w2 := wSR ht (ht_reader 0) (ht_rows 0) (ht_evidence 0) (ht_history 0) cy St ++ (wRows ht_rows cy St_rows)) [1, 2, 3, 4, 5, 6, 7, 8] [0] [0, 1, 2, 3, 4, 5, 6, 7, 8] rfl rfl rfl rfl rfl rfl (by decide) hl.1 (Nat.le_of_ble_eq_true rfl) dX9_version_130 (fun H locs hP hD hS => ?_)
                obtain ⟨q14, hc, hf⟩ := zbd hf
                refine z_cSiE (As := [.int q13]) (rest := [.ref (ht 0)]) C (c_X9_oneIf l D cy q13 q14 hc) gS_X9_X9_oneIf hd_X9_oneIf ⟨Nat.le_of_ble_eq_true rfl, Nat.le_of_ble_eq_true rfl⟩ ⟨Nat.le_refl _, Nat.le_refl _⟩ hP hD hS hl.1 (Nat.le_of_ble_eq_true rfl) dX9_version_133 (fun H locs hP hD hS => ?_)
                obtain ⟨q15, hc, hf⟩ := zbd hf
                refine z_cVi (As := [.int q14]) (rest := []) C (c_X9_answer l D cy ht ht_reader ht_rows ht_evidence ht_history St q14 q15 hc) gV_X9_X9_answer hd_X9_answer ⟨Nat.le_of_ble_eq_true rfl, Nat.le_of_ble_eq_true rfl⟩ ⟨Nat.le_refl _, Nat.le_refl _⟩ (va_recv hK hP (ci := 5) (q0 := 0) rfl rfl) hP hD hS (w2 := wSR ht (ht_reader 0) (ht_rows 0) (ht_evidence 0) (ht_history 0) cy q15.2 ++ (wRows ht_rows cy St_rows)) [0] [1, 2, 3, 4, 5, 6, 7, 8] [8, 0, 1, 2, 3, 4, 5, 6, 7] rfl rfl rfl rfl rfl rfl (by decide) hl.1 (Nat.le_of_ble_eq_true rfl) dX9_version_136 (fun H locs hP hD hS => ?_)
                obtain rfl := Option.some.inj hf
                exact z_iret (v := q15.1) C hP hD hS dX9_version_139
              · refine lv_tableOut (tgt := 140) hx hb dX9_version_18 (zsw_out6 hq0 hq1 hq2 hq3 hq4 hq5) (by decide) ?_
                refine lv_aload_n hx hb dX9_version_140 rfl (lv_at hl 0 rfl) ?_
                refine lv_iconst (v := (1 : Int32)) hx hb dX9_version_141 (by decide) ?_
                obtain ⟨q16, hc, hf⟩ := zbd hf
                refine z_cVi (As := [.int (1 : Int32)]) (rest := []) C (c_X9_refuse l D cy ht ht_reader ht_rows ht_evidence ht_history St (1 : Int32) q16 hc) gV_X9_X9_refuse hd_X9_refuse ⟨Nat.le_of_ble_eq_true rfl, Nat.le_of_ble_eq_true rfl⟩ ⟨Nat.le_refl _, Nat.le_refl _⟩ (va_recv hK hP (ci := 5) (q0 := 0) rfl rfl) hP hD hS (w2 := wSR ht (ht_reader 0) (ht_rows 0) (ht_evidence 0) (ht_history 0) cy q16.2 ++ (wRows ht_rows cy St_rows)) [0] [1, 2, 3, 4, 5, 6, 7, 8] [8, 0, 1, 2, 3, 4, 5, 6, 7] rfl rfl rfl rfl rfl rfl (by decide) hl.1 (Nat.le_of_ble_eq_true rfl) dX9_version_142 (fun H locs hP hD hS => ?_)
                obtain rfl := Option.some.inj hf
                exact z_iret (v := q16.1) C hP hD hS dX9_version_145
  · refine lv_aload_n hx hb dX9_version_11 rfl (lv_at hl 0 rfl) ?_
    refine lv_iconst (v := (1 : Int32)) hx hb dX9_version_12 (by decide) ?_
    obtain ⟨q17, hc, hf⟩ := zbd hf
    refine z_cVi (As := [.int (1 : Int32)]) (rest := []) C (c_X9_refuse l D cy ht ht_reader ht_rows ht_evidence ht_history St (1 : Int32) q17 hc) gV_X9_X9_refuse hd_X9_refuse ⟨Nat.le_of_ble_eq_true rfl, Nat.le_of_ble_eq_true rfl⟩ ⟨Nat.le_refl _, Nat.le_refl _⟩ (va_recv hK hP (ci := 5) (q0 := 0) rfl rfl) hP hD hS (w2 := wSR ht (ht_reader 0) (ht_rows 0) (ht_evidence 0) (ht_history 0) cy q17.2 ++ (wRows ht_rows cy St_rows)) [0] [1, 2, 3, 4, 5, 6, 7, 8] [8, 0, 1, 2, 3, 4, 5, 6, 7] rfl rfl rfl rfl rfl rfl (by decide) hl.1 (Nat.le_of_ble_eq_true rfl) dX9_version_13 (fun H locs hP hD hS => ?_)
    obtain rfl := Option.some.inj hf
    exact z_iret (v := q17.1) C hP hD hS dX9_version_16
def f_X9_chain (St : SSR) (St_rows : SRows) (x1 : Int32) : Option (Int32 × SSR) :=
  (f_X6_isRow St_rows x1).bind (fun q1 =>
    (if q1 = 0 then
      (f_X9_refuse St (1 : Int32)).bind (fun q2 =>
        some (q2.1, q2.2))
      else
      (f_X6_chainLength St_rows x1).bind (fun q3 =>
        (f_X9_answer St q3).bind (fun q4 =>
          some (q4.1, q4.2)))))
set_option maxHeartbeats 4000000 in
set_option maxRecDepth 100000 in
theorem c_X9_chain (l : Launch) (D : va_G) (cy : Nat → ClassId) (ht : Nat → Nat) (ht_reader : Nat → Nat) (ht_rows : Nat → Nat) (ht_evidence : Nat → Nat) (ht_history : Nat → Nat) (St : SSR) (St_rows : SRows) (x1 : Int32) (r : Int32 × SSR) (hf : f_X9_chain St St_rows x1 = some r) : zCI l yX9_chain cX9_chain 2 (some FieldType.int) 3 65 D (zty cy) [.ref (ht 0), .int x1] (wSR ht (ht_reader 0) (ht_rows 0) (ht_evidence 0) (ht_history 0) cy St ++ (wRows ht_rows cy St_rows)) (wSR ht (ht_reader 0) (ht_rows 0) (ht_evidence 0) (ht_history 0) cy r.2 ++ (wRows ht_rows cy St_rows)) r.1 := by
  refine zCI_of (by decide +kernel) (Nat.le_of_ble_eq_true rfl) ?_
  intro p e s m below meth c A ls C hP hD hS hl
  generalize hargs : ([.ref (ht 0), .int x1] : List Value).toArray = args at C ⊢
  have C : zX p s m meth c cX9_chain 2 args RX9 (some FieldType.int) A D (zty cy) := C
  obtain ⟨hx, hb, hr, hts, hown, hlocks, hml, hA, hK⟩ := id C
  have hl : lv_has ls 2 [(0, .ref (ht 0)), (1, .int x1)] := hl
  generalize hH : s.heap = H at hP ⊢
  have hS : va_S A s.heap H [] := by rw [← hH]; exact hS
  generalize ([] : List Loc) = locs at hS ⊢
  refine lv_aload_n hx hb dX9_chain_0 rfl (lv_at hl 0 rfl) ?_
  refine va_get (D := D) (ci := 5) (v := .ref (ht_rows 0)) (C := RX9) (T := TX9) (N := 7) hx hb hts in_X9 hown hK hP 0 rfl rfl 1 (by decide) (hts _ q2_20) (fun _ h9 => h9) rfl dX9_chain_1 ?_
  refine lv_iload_n hx hb dX9_chain_4 rfl (lv_at hl 1 rfl) ?_
  obtain ⟨q1, hc, hf⟩ := zbd hf
  refine z_cVi (As := [.int x1]) (rest := []) C (c_X6_isRow l D cy ht_rows St_rows x1 q1 hc) gV_X9_X6_isRow hd_X6_isRow ⟨Nat.le_of_ble_eq_true rfl, Nat.le_of_ble_eq_true rfl⟩ ⟨Nat.le_refl _, Nat.le_refl _⟩ (va_recv hK hP (ci := 3) (q0 := 1) rfl rfl) hP hD hS (w2 := wSR ht (ht_reader 0) (ht_rows 0) (ht_evidence 0) (ht_history 0) cy St ++ (wRows ht_rows cy St_rows)) [1, 2, 3, 4, 5, 6, 7, 8] [0] [0, 1, 2, 3, 4, 5, 6, 7, 8] rfl rfl rfl rfl rfl rfl (by decide) hl.1 (Nat.le_of_ble_eq_true rfl) dX9_chain_5 (fun H locs hP hD hS => ?_)
  refine z_if_eq (tgt := 26) hx hb dX9_chain_8 (by decide) hf (fun hf => ?_) (fun hf => ?_)
  · refine lv_aload_n hx hb dX9_chain_26 rfl (lv_at hl 0 rfl) ?_
    refine lv_iconst (v := (1 : Int32)) hx hb dX9_chain_27 (by decide) ?_
    obtain ⟨q2, hc, hf⟩ := zbd hf
    refine z_cVi (As := [.int (1 : Int32)]) (rest := []) C (c_X9_refuse l D cy ht ht_reader ht_rows ht_evidence ht_history St (1 : Int32) q2 hc) gV_X9_X9_refuse hd_X9_refuse ⟨Nat.le_of_ble_eq_true rfl, Nat.le_of_ble_eq_true rfl⟩ ⟨Nat.le_refl _, Nat.le_refl _⟩ (va_recv hK hP (ci := 5) (q0 := 0) rfl rfl) hP hD hS (w2 := wSR ht (ht_reader 0) (ht_rows 0) (ht_evidence 0) (ht_history 0) cy q2.2 ++ (wRows ht_rows cy St_rows)) [0] [1, 2, 3, 4, 5, 6, 7, 8] [8, 0, 1, 2, 3, 4, 5, 6, 7] rfl rfl rfl rfl rfl rfl (by decide) hl.1 (Nat.le_of_ble_eq_true rfl) dX9_chain_28 (fun H locs hP hD hS => ?_)
    obtain rfl := Option.some.inj hf
    exact z_iret (v := q2.1) C hP hD hS dX9_chain_31
  · refine lv_aload_n hx hb dX9_chain_11 rfl (lv_at hl 0 rfl) ?_
    refine lv_aload_n hx hb dX9_chain_12 rfl (lv_at hl 0 rfl) ?_
    refine va_get (D := D) (ci := 5) (v := .ref (ht_rows 0)) (C := RX9) (T := TX9) (N := 7) hx hb hts in_X9 hown hK hP 0 rfl rfl 1 (by decide) (hts _ q2_20) (fun _ h9 => h9) rfl dX9_chain_13 ?_
    refine lv_iload_n hx hb dX9_chain_16 rfl (lv_at hl 1 rfl) ?_
    obtain ⟨q3, hc, hf⟩ := zbd hf
    refine z_cVi (As := [.int x1]) (rest := [.ref (ht 0)]) C (c_X6_chainLength l D cy ht_rows St_rows x1 q3 hc) gV_X9_X6_chainLength hd_X6_chainLength ⟨Nat.le_of_ble_eq_true rfl, Nat.le_of_ble_eq_true rfl⟩ ⟨Nat.le_refl _, Nat.le_refl _⟩ (va_recv hK hP (ci := 3) (q0 := 1) rfl rfl) hP hD hS (w2 := wSR ht (ht_reader 0) (ht_rows 0) (ht_evidence 0) (ht_history 0) cy St ++ (wRows ht_rows cy St_rows)) [1, 2, 3, 4, 5, 6, 7, 8] [0] [0, 1, 2, 3, 4, 5, 6, 7, 8] rfl rfl rfl rfl rfl rfl (by decide) hl.1 (Nat.le_of_ble_eq_true rfl) dX9_chain_17 (fun H locs hP hD hS => ?_)
    obtain ⟨q4, hc, hf⟩ := zbd hf
    refine z_cVi (As := [.int q3]) (rest := []) C (c_X9_answer l D cy ht ht_reader ht_rows ht_evidence ht_history St q3 q4 hc) gV_X9_X9_answer hd_X9_answer ⟨Nat.le_of_ble_eq_true rfl, Nat.le_of_ble_eq_true rfl⟩ ⟨Nat.le_refl _, Nat.le_refl _⟩ (va_recv hK hP (ci := 5) (q0 := 0) rfl rfl) hP hD hS (w2 := wSR ht (ht_reader 0) (ht_rows 0) (ht_evidence 0) (ht_history 0) cy q4.2 ++ (wRows ht_rows cy St_rows)) [0] [1, 2, 3, 4, 5, 6, 7, 8] [8, 0, 1, 2, 3, 4, 5, 6, 7] rfl rfl rfl rfl rfl rfl (by decide) hl.1 (Nat.le_of_ble_eq_true rfl) dX9_chain_20 (fun H locs hP hD hS => ?_)
    refine lv_goto (tgt := 31) hx hb dX9_chain_23 (by decide) ?_
    obtain rfl := Option.some.inj hf
    exact z_iret (v := q4.1) C hP hD hS dX9_chain_31
def f_X9_chainAt (St : SSR) (St_rows : SRows) (x1 : Int32) (x2 : Int32) : Option (Int32 × SSR) :=
  (f_X6_isRow St_rows x1).bind (fun q1 =>
    (if q1 = 0 then
      (f_X9_refuse St (1 : Int32)).bind (fun q5 =>
        some (q5.1, q5.2))
      else
      (f_X6_versionInChain St_rows x1 x2).bind (fun q2 =>
        (if q2 = (-2 : Int32) then
          (f_X9_refuse St (1 : Int32)).bind (fun q4 =>
            some (q4.1, q4.2))
          else
          (f_X9_answer St q2).bind (fun q3 =>
            some (q3.1, q3.2))))))
set_option maxHeartbeats 4000000 in
set_option maxRecDepth 100000 in
theorem c_X9_chainAt (l : Launch) (D : va_G) (cy : Nat → ClassId) (ht : Nat → Nat) (ht_reader : Nat → Nat) (ht_rows : Nat → Nat) (ht_evidence : Nat → Nat) (ht_history : Nat → Nat) (St : SSR) (St_rows : SRows) (x1 : Int32) (x2 : Int32) (r : Int32 × SSR) (hf : f_X9_chainAt St St_rows x1 x2 = some r) : zCI l yX9_chainAt cX9_chainAt 4 (some FieldType.int) 3 67 D (zty cy) [.ref (ht 0), .int x1, .int x2] (wSR ht (ht_reader 0) (ht_rows 0) (ht_evidence 0) (ht_history 0) cy St ++ (wRows ht_rows cy St_rows)) (wSR ht (ht_reader 0) (ht_rows 0) (ht_evidence 0) (ht_history 0) cy r.2 ++ (wRows ht_rows cy St_rows)) r.1 := by
  refine zCI_of (by decide +kernel) (Nat.le_of_ble_eq_true rfl) ?_
  intro p e s m below meth c A ls C hP hD hS hl
  generalize hargs : ([.ref (ht 0), .int x1, .int x2] : List Value).toArray = args at C ⊢
  have C : zX p s m meth c cX9_chainAt 4 args RX9 (some FieldType.int) A D (zty cy) := C
  obtain ⟨hx, hb, hr, hts, hown, hlocks, hml, hA, hK⟩ := id C
  have hl : lv_has ls 4 [(0, .ref (ht 0)), (1, .int x1), (2, .int x2)] := hl
  generalize hH : s.heap = H at hP ⊢
  have hS : va_S A s.heap H [] := by rw [← hH]; exact hS
  generalize ([] : List Loc) = locs at hS ⊢
  refine lv_aload_n hx hb dX9_chainAt_0 rfl (lv_at hl 0 rfl) ?_
  refine va_get (D := D) (ci := 5) (v := .ref (ht_rows 0)) (C := RX9) (T := TX9) (N := 7) hx hb hts in_X9 hown hK hP 0 rfl rfl 1 (by decide) (hts _ q2_20) (fun _ h9 => h9) rfl dX9_chainAt_1 ?_
  refine lv_iload_n hx hb dX9_chainAt_4 rfl (lv_at hl 1 rfl) ?_
  obtain ⟨q1, hc, hf⟩ := zbd hf
  refine z_cVi (As := [.int x1]) (rest := []) C (c_X6_isRow l D cy ht_rows St_rows x1 q1 hc) gV_X9_X6_isRow hd_X6_isRow ⟨Nat.le_of_ble_eq_true rfl, Nat.le_of_ble_eq_true rfl⟩ ⟨Nat.le_refl _, Nat.le_refl _⟩ (va_recv hK hP (ci := 3) (q0 := 1) rfl rfl) hP hD hS (w2 := wSR ht (ht_reader 0) (ht_rows 0) (ht_evidence 0) (ht_history 0) cy St ++ (wRows ht_rows cy St_rows)) [1, 2, 3, 4, 5, 6, 7, 8] [0] [0, 1, 2, 3, 4, 5, 6, 7, 8] rfl rfl rfl rfl rfl rfl (by decide) hl.1 (Nat.le_of_ble_eq_true rfl) dX9_chainAt_5 (fun H locs hP hD hS => ?_)
  refine z_if_ne (tgt := 17) hx hb dX9_chainAt_8 (by decide) hf (fun hf => ?_) (fun hf => ?_)
  · refine lv_aload_n hx hb dX9_chainAt_17 rfl (lv_at hl 0 rfl) ?_
    refine va_get (D := D) (ci := 5) (v := .ref (ht_rows 0)) (C := RX9) (T := TX9) (N := 7) hx hb hts in_X9 hown hK hP 0 rfl rfl 1 (by decide) (hts _ q2_20) (fun _ h9 => h9) rfl dX9_chainAt_18 ?_
    refine lv_iload_n hx hb dX9_chainAt_21 rfl (lv_at hl 1 rfl) ?_
    refine lv_iload_n hx hb dX9_chainAt_22 rfl (lv_at hl 2 rfl) ?_
    obtain ⟨q2, hc, hf⟩ := zbd hf
    refine z_cVi (As := [.int x1, .int x2]) (rest := []) C (c_X6_versionInChain l D cy ht_rows St_rows x1 x2 q2 hc) gV_X9_X6_versionInChain hd_X6_versionInChain ⟨Nat.le_of_ble_eq_true rfl, Nat.le_of_ble_eq_true rfl⟩ ⟨Nat.le_refl _, Nat.le_refl _⟩ (va_recv hK hP (ci := 3) (q0 := 1) rfl rfl) hP hD hS (w2 := wSR ht (ht_reader 0) (ht_rows 0) (ht_evidence 0) (ht_history 0) cy St ++ (wRows ht_rows cy St_rows)) [1, 2, 3, 4, 5, 6, 7, 8] [0] [0, 1, 2, 3, 4, 5, 6, 7, 8] rfl rfl rfl rfl rfl rfl (by decide) hl.1 (Nat.le_of_ble_eq_true rfl) dX9_chainAt_23 (fun H locs hP hD hS => ?_)
    refine lv_istore_n (lv' := [(3, .int q2), (0, .ref (ht 0)), (1, .int x1), (2, .int x2)]) hx hb dX9_chainAt_26 rfl hl (by decide) rfl (fun ls hl => ?_)
    refine lv_iload_n hx hb dX9_chainAt_27 rfl (lv_at hl 0 rfl) ?_
    refine lv_bipush (v := (-2 : Int32)) hx hb dX9_chainAt_28 (by decide) ?_
    refine z_icmp_ne (tgt := 41) hx hb dX9_chainAt_30 (by decide) hf (fun hf => ?_) (fun hf => ?_)
    · refine lv_aload_n hx hb dX9_chainAt_41 rfl (lv_at hl 1 rfl) ?_
      refine lv_iload_n hx hb dX9_chainAt_42 rfl (lv_at hl 0 rfl) ?_
      obtain ⟨q3, hc, hf⟩ := zbd hf
      refine z_cVi (As := [.int q2]) (rest := []) C (c_X9_answer l D cy ht ht_reader ht_rows ht_evidence ht_history St q2 q3 hc) gV_X9_X9_answer hd_X9_answer ⟨Nat.le_of_ble_eq_true rfl, Nat.le_of_ble_eq_true rfl⟩ ⟨Nat.le_refl _, Nat.le_refl _⟩ (va_recv hK hP (ci := 5) (q0 := 0) rfl rfl) hP hD hS (w2 := wSR ht (ht_reader 0) (ht_rows 0) (ht_evidence 0) (ht_history 0) cy q3.2 ++ (wRows ht_rows cy St_rows)) [0] [1, 2, 3, 4, 5, 6, 7, 8] [8, 0, 1, 2, 3, 4, 5, 6, 7] rfl rfl rfl rfl rfl rfl (by decide) hl.1 (Nat.le_of_ble_eq_true rfl) dX9_chainAt_43 (fun H locs hP hD hS => ?_)
      obtain rfl := Option.some.inj hf
      exact z_iret (v := q3.1) C hP hD hS dX9_chainAt_46
    · refine lv_aload_n hx hb dX9_chainAt_33 rfl (lv_at hl 1 rfl) ?_
      refine lv_iconst (v := (1 : Int32)) hx hb dX9_chainAt_34 (by decide) ?_
      obtain ⟨q4, hc, hf⟩ := zbd hf
      refine z_cVi (As := [.int (1 : Int32)]) (rest := []) C (c_X9_refuse l D cy ht ht_reader ht_rows ht_evidence ht_history St (1 : Int32) q4 hc) gV_X9_X9_refuse hd_X9_refuse ⟨Nat.le_of_ble_eq_true rfl, Nat.le_of_ble_eq_true rfl⟩ ⟨Nat.le_refl _, Nat.le_refl _⟩ (va_recv hK hP (ci := 5) (q0 := 0) rfl rfl) hP hD hS (w2 := wSR ht (ht_reader 0) (ht_rows 0) (ht_evidence 0) (ht_history 0) cy q4.2 ++ (wRows ht_rows cy St_rows)) [0] [1, 2, 3, 4, 5, 6, 7, 8] [8, 0, 1, 2, 3, 4, 5, 6, 7] rfl rfl rfl rfl rfl rfl (by decide) hl.1 (Nat.le_of_ble_eq_true rfl) dX9_chainAt_35 (fun H locs hP hD hS => ?_)
      refine lv_goto (tgt := 46) hx hb dX9_chainAt_38 (by decide) ?_
      obtain rfl := Option.some.inj hf
      exact z_iret (v := q4.1) C hP hD hS dX9_chainAt_46
  · refine lv_aload_n hx hb dX9_chainAt_11 rfl (lv_at hl 0 rfl) ?_
    refine lv_iconst (v := (1 : Int32)) hx hb dX9_chainAt_12 (by decide) ?_
    obtain ⟨q5, hc, hf⟩ := zbd hf
    refine z_cVi (As := [.int (1 : Int32)]) (rest := []) C (c_X9_refuse l D cy ht ht_reader ht_rows ht_evidence ht_history St (1 : Int32) q5 hc) gV_X9_X9_refuse hd_X9_refuse ⟨Nat.le_of_ble_eq_true rfl, Nat.le_of_ble_eq_true rfl⟩ ⟨Nat.le_refl _, Nat.le_refl _⟩ (va_recv hK hP (ci := 5) (q0 := 0) rfl rfl) hP hD hS (w2 := wSR ht (ht_reader 0) (ht_rows 0) (ht_evidence 0) (ht_history 0) cy q5.2 ++ (wRows ht_rows cy St_rows)) [0] [1, 2, 3, 4, 5, 6, 7, 8] [8, 0, 1, 2, 3, 4, 5, 6, 7] rfl rfl rfl rfl rfl rfl (by decide) hl.1 (Nat.le_of_ble_eq_true rfl) dX9_chainAt_13 (fun H locs hP hD hS => ?_)
    obtain rfl := Option.some.inj hf
    exact z_iret (v := q5.1) C hP hD hS dX9_chainAt_16
def b_X9_seenBy_21 (St_rows : SRows) (x1 : Int32) (k21 : SSR → Int32 → Int32 → Option (Int32 × SSR)) (St : SSR) (v2 : Int32) (v3 : Int32) : Option (Int32 × SSR) :=
  (if (6 : Int32) ≤ v3 then
    (f_X9_answer St v2).bind (fun q1 =>
      some (q1.1, q1.2))
    else
    (f_X6_runs St_rows v3).bind (fun q2 =>
      (if q2 = 0 then
        (k21 St v2 (v3 + (1 : Int32)))
        else
        (f_X6_countingFor St_rows v3).bind (fun q3 =>
          (f_X6_isSeen St_rows x1 q3).bind (fun q4 =>
            (if q4 = 0 then
              (k21 St v2 (v3 + (1 : Int32)))
              else
              (k21 St (v2 ||| ((1 : Int32) <<< (v3 &&& 31))) (v3 + (1 : Int32)))))))))
set_option maxHeartbeats 4000000 in
set_option maxRecDepth 100000 in
theorem w_X9_seenBy_21 {p : Program} {e : Env} {s : State} {m : MethodId} {below : List Frame} {meth : Method} {c : Code} {A : Nat → Prop} {D : va_G} {cy : Nat → ClassId} {args : Array Value} {r : Int32 × SSR} (l : Launch) (ht : Nat → Nat) (ht_reader : Nat → Nat) (ht_rows : Nat → Nat) (ht_evidence : Nat → Nat) (ht_history : Nat → Nat) (St_rows : SRows) (x1 : Int32) (C : zX p s m meth c cX9_seenBy 4 args RX9 (some FieldType.int) A D (zty cy)) :
    ∀ (n : Nat) (St : SSR) (v2 : Int32) (v3 : Int32) (H : Heap) (locs : List Loc) (ls : Array Slot), zl3 (b_X9_seenBy_21 St_rows x1) n St v2 v3 = some r → va_P D vwCl (wSR ht (ht_reader 0) (ht_rows 0) (ht_evidence 0) (ht_history 0) cy St ++ (wRows ht_rows cy St_rows)) H → va_D A (wSR ht (ht_reader 0) (ht_rows 0) (ht_evidence 0) (ht_history 0) cy St ++ (wRows ht_rows cy St_rows)) → va_S A s.heap H locs → lv_has ls 4 [(0, .ref (ht 0)), (1, .int x1), (2, .int v2), (3, .int v3)] → W p l e (zRm 2 46) s m args below meth c H locs 0 0 (MQ below (zQI D (zty cy) A (wSR ht (ht_reader 0) (ht_rows 0) (ht_evidence 0) (ht_history 0) cy r.2 ++ (wRows ht_rows cy St_rows)) r.1) args s 0 0 A) (F0 m 21 ls []) := by
  obtain ⟨hx, hb, hr, hts, hown, hlocks, hml, hA, hK⟩ := id C
  intro n
  induction n with
  | zero => intro St v2 v3 H locs ls hf; exact zno hf
  | succ n ih =>
    intro St v2 v3 H locs ls hf hP hD hS hl
    have hf : b_X9_seenBy_21 St_rows x1 (zl3 (b_X9_seenBy_21 St_rows x1) n) St v2 v3 = some r := hf
    have K21 := ih
    refine lv_iload_n hx hb dX9_seenBy_21 rfl (lv_at hl 3 rfl) ?_
    refine lv_bipush (v := (6 : Int32)) hx hb dX9_seenBy_22 (by decide) ?_
    refine z_icmp_ge (tgt := 69) hx hb dX9_seenBy_24 (by decide) hf (fun hf => ?_) (fun hf => ?_)
    · refine lv_aload_n hx hb dX9_seenBy_69 rfl (lv_at hl 0 rfl) ?_
      refine lv_iload_n hx hb dX9_seenBy_70 rfl (lv_at hl 2 rfl) ?_
      obtain ⟨q1, hc, hf⟩ := zbd hf
      refine z_cVi (As := [.int v2]) (rest := []) C (c_X9_answer l D cy ht ht_reader ht_rows ht_evidence ht_history St v2 q1 hc) gV_X9_X9_answer hd_X9_answer ⟨Nat.le_of_ble_eq_true rfl, Nat.le_of_ble_eq_true rfl⟩ ⟨Nat.le_refl _, Nat.le_refl _⟩ (va_recv hK hP (ci := 5) (q0 := 0) rfl rfl) hP hD hS (w2 := wSR ht (ht_reader 0) (ht_rows 0) (ht_evidence 0) (ht_history 0) cy q1.2 ++ (wRows ht_rows cy St_rows)) [0] [1, 2, 3, 4, 5, 6, 7, 8] [8, 0, 1, 2, 3, 4, 5, 6, 7] rfl rfl rfl rfl rfl rfl (by decide) hl.1 (Nat.le_of_ble_eq_true rfl) dX9_seenBy_71 (fun H locs hP hD hS => ?_)
      obtain rfl := Option.some.inj hf
      exact z_iret (v := q1.1) C hP hD hS dX9_seenBy_74
    · refine lv_aload_n hx hb dX9_seenBy_27 rfl (lv_at hl 0 rfl) ?_
      refine va_get (D := D) (ci := 5) (v := .ref (ht_rows 0)) (C := RX9) (T := TX9) (N := 7) hx hb hts in_X9 hown hK hP 0 rfl rfl 1 (by decide) (hts _ q2_20) (fun _ h9 => h9) rfl dX9_seenBy_28 ?_
      refine lv_iload_n hx hb dX9_seenBy_31 rfl (lv_at hl 3 rfl) ?_
      obtain ⟨q2, hc, hf⟩ := zbd hf
      refine z_cVi (As := [.int v3]) (rest := []) C (c_X6_runs l D cy ht_rows St_rows v3 q2 hc) gV_X9_X6_runs hd_X6_runs ⟨Nat.le_of_ble_eq_true rfl, Nat.le_of_ble_eq_true rfl⟩ ⟨Nat.le_refl _, Nat.le_refl _⟩ (va_recv hK hP (ci := 3) (q0 := 1) rfl rfl) hP hD hS (w2 := wSR ht (ht_reader 0) (ht_rows 0) (ht_evidence 0) (ht_history 0) cy St ++ (wRows ht_rows cy St_rows)) [1, 2, 3, 4, 5, 6, 7, 8] [0] [0, 1, 2, 3, 4, 5, 6, 7, 8] rfl rfl rfl rfl rfl rfl (by decide) hl.1 (Nat.le_of_ble_eq_true rfl) dX9_seenBy_32 (fun H locs hP hD hS => ?_)
      refine z_if_eq (tgt := 63) hx hb dX9_seenBy_35 (by decide) hf (fun hf => ?_) (fun hf => ?_)
      · refine lv_iinc (v := (v3 + (1 : Int32))) (lv' := [(3, .int (v3 + (1 : Int32))), (0, .ref (ht 0)), (1, .int x1), (2, .int v2)]) hx hb dX9_seenBy_63 hl (k := 3) rfl rfl (by decide) rfl (fun ls hl => ?_)
        refine lv_goto (tgt := 21) hx hb dX9_seenBy_66 (by decide) ?_
        exact K21 St v2 (v3 + (1 : Int32)) H locs ls hf hP hD hS (lv_sub hl [1, 2, 3, 0] rfl)
      · refine lv_aload_n hx hb dX9_seenBy_38 rfl (lv_at hl 0 rfl) ?_
        refine va_get (D := D) (ci := 5) (v := .ref (ht_rows 0)) (C := RX9) (T := TX9) (N := 7) hx hb hts in_X9 hown hK hP 0 rfl rfl 1 (by decide) (hts _ q2_20) (fun _ h9 => h9) rfl dX9_seenBy_39 ?_
        refine lv_iload_n hx hb dX9_seenBy_42 rfl (lv_at hl 1 rfl) ?_
        refine lv_aload_n hx hb dX9_seenBy_43 rfl (lv_at hl 0 rfl) ?_
        refine va_get (D := D) (ci := 5) (v := .ref (ht_rows 0)) (C := RX9) (T := TX9) (N := 7) hx hb hts in_X9 hown hK hP 0 rfl rfl 1 (by decide) (hts _ q2_20) (fun _ h9 => h9) rfl dX9_seenBy_44 ?_
        refine lv_iload_n hx hb dX9_seenBy_47 rfl (lv_at hl 3 rfl) ?_
        obtain ⟨q3, hc, hf⟩ := zbd hf
        refine z_cVl (As := [.int v3]) (rest := [.int x1, .ref (ht_rows 0)]) C (c_X6_countingFor l D cy ht_rows St_rows v3 q3 hc) gV_X9_X6_countingFor hd_X6_countingFor ⟨Nat.le_of_ble_eq_true rfl, Nat.le_of_ble_eq_true rfl⟩ ⟨Nat.le_refl _, Nat.le_refl _⟩ (va_recv hK hP (ci := 3) (q0 := 1) rfl rfl) hP hD hS (w2 := wSR ht (ht_reader 0) (ht_rows 0) (ht_evidence 0) (ht_history 0) cy St ++ (wRows ht_rows cy St_rows)) [1, 2, 3, 4, 5, 6, 7, 8] [0] [0, 1, 2, 3, 4, 5, 6, 7, 8] rfl rfl rfl rfl rfl rfl (by decide) hl.1 (Nat.le_of_ble_eq_true rfl) dX9_seenBy_48 (fun H locs hP hD hS => ?_)
        obtain ⟨q4, hc, hf⟩ := zbd hf
        refine z_cVi (As := [.int x1, .long q3]) (rest := []) C (c_X6_isSeen l D cy ht_rows St_rows x1 q3 q4 hc) gV_X9_X6_isSeen hd_X6_isSeen ⟨Nat.le_of_ble_eq_true rfl, Nat.le_of_ble_eq_true rfl⟩ ⟨Nat.le_refl _, Nat.le_refl _⟩ (va_recv hK hP (ci := 3) (q0 := 1) rfl rfl) hP hD hS (w2 := wSR ht (ht_reader 0) (ht_rows 0) (ht_evidence 0) (ht_history 0) cy St ++ (wRows ht_rows cy St_rows)) [1, 2, 3, 4, 5, 6, 7, 8] [0] [0, 1, 2, 3, 4, 5, 6, 7, 8] rfl rfl rfl rfl rfl rfl (by decide) hl.1 (Nat.le_of_ble_eq_true rfl) dX9_seenBy_51 (fun H locs hP hD hS => ?_)
        refine z_if_eq (tgt := 63) hx hb dX9_seenBy_54 (by decide) hf (fun hf => ?_) (fun hf => ?_)
        · refine lv_iinc (v := (v3 + (1 : Int32))) (lv' := [(3, .int (v3 + (1 : Int32))), (0, .ref (ht 0)), (1, .int x1), (2, .int v2)]) hx hb dX9_seenBy_63 hl (k := 3) rfl rfl (by decide) rfl (fun ls hl => ?_)
          refine lv_goto (tgt := 21) hx hb dX9_seenBy_66 (by decide) ?_
          exact K21 St v2 (v3 + (1 : Int32)) H locs ls hf hP hD hS (lv_sub hl [1, 2, 3, 0] rfl)
        · refine lv_iload_n hx hb dX9_seenBy_57 rfl (lv_at hl 2 rfl) ?_
          refine lv_iconst (v := (1 : Int32)) hx hb dX9_seenBy_58 (by decide) ?_
          refine lv_iload_n hx hb dX9_seenBy_59 rfl (lv_at hl 3 rfl) ?_
          refine lv_ishl hx hb dX9_seenBy_60 ?_
          refine lv_ior hx hb dX9_seenBy_61 ?_
          refine lv_istore_n (lv' := [(2, .int (v2 ||| ((1 : Int32) <<< (v3 &&& 31)))), (0, .ref (ht 0)), (1, .int x1), (3, .int v3)]) hx hb dX9_seenBy_62 rfl hl (by decide) rfl (fun ls hl => ?_)
          refine lv_iinc (v := (v3 + (1 : Int32))) (lv' := [(3, .int (v3 + (1 : Int32))), (2, .int (v2 ||| ((1 : Int32) <<< (v3 &&& 31)))), (0, .ref (ht 0)), (1, .int x1)]) hx hb dX9_seenBy_63 hl (k := 3) rfl rfl (by decide) rfl (fun ls hl => ?_)
          refine lv_goto (tgt := 21) hx hb dX9_seenBy_66 (by decide) ?_
          exact K21 St (v2 ||| ((1 : Int32) <<< (v3 &&& 31))) (v3 + (1 : Int32)) H locs ls hf hP hD hS (lv_sub hl [2, 3, 1, 0] rfl)
def f_X9_seenBy (St : SSR) (St_rows : SRows) (x1 : Int32) : Option (Int32 × SSR) :=
  (f_X6_isVersion St_rows x1).bind (fun q5 =>
    (if q5 = 0 then
      (f_X9_refuse St (1 : Int32)).bind (fun q6 =>
        some (q6.1, q6.2))
      else
      (zl3 (b_X9_seenBy_21 St_rows x1) FU St (0 : Int32) (0 : Int32))))
set_option maxHeartbeats 4000000 in
set_option maxRecDepth 100000 in
theorem c_X9_seenBy (l : Launch) (D : va_G) (cy : Nat → ClassId) (ht : Nat → Nat) (ht_reader : Nat → Nat) (ht_rows : Nat → Nat) (ht_evidence : Nat → Nat) (ht_history : Nat → Nat) (St : SSR) (St_rows : SRows) (x1 : Int32) (r : Int32 × SSR) (hf : f_X9_seenBy St St_rows x1 = some r) : zCI l yX9_seenBy cX9_seenBy 4 (some FieldType.int) 2 46 D (zty cy) [.ref (ht 0), .int x1] (wSR ht (ht_reader 0) (ht_rows 0) (ht_evidence 0) (ht_history 0) cy St ++ (wRows ht_rows cy St_rows)) (wSR ht (ht_reader 0) (ht_rows 0) (ht_evidence 0) (ht_history 0) cy r.2 ++ (wRows ht_rows cy St_rows)) r.1 := by
  refine zCI_of (by decide +kernel) (Nat.le_of_ble_eq_true rfl) ?_
  intro p e s m below meth c A ls C hP hD hS hl
  generalize hargs : ([.ref (ht 0), .int x1] : List Value).toArray = args at C ⊢
  have C : zX p s m meth c cX9_seenBy 4 args RX9 (some FieldType.int) A D (zty cy) := C
  obtain ⟨hx, hb, hr, hts, hown, hlocks, hml, hA, hK⟩ := id C
  have hl : lv_has ls 4 [(0, .ref (ht 0)), (1, .int x1)] := hl
  generalize hH : s.heap = H at hP ⊢
  have hS : va_S A s.heap H [] := by rw [← hH]; exact hS
  generalize ([] : List Loc) = locs at hS ⊢
  refine lv_aload_n hx hb dX9_seenBy_0 rfl (lv_at hl 0 rfl) ?_
  refine va_get (D := D) (ci := 5) (v := .ref (ht_rows 0)) (C := RX9) (T := TX9) (N := 7) hx hb hts in_X9 hown hK hP 0 rfl rfl 1 (by decide) (hts _ q2_20) (fun _ h9 => h9) rfl dX9_seenBy_1 ?_
  refine lv_iload_n hx hb dX9_seenBy_4 rfl (lv_at hl 1 rfl) ?_
  obtain ⟨q5, hc, hf⟩ := zbd hf
  refine z_cVi (As := [.int x1]) (rest := []) C (c_X6_isVersion l D cy ht_rows St_rows x1 q5 hc) gV_X9_X6_isVersion hd_X6_isVersion ⟨Nat.le_of_ble_eq_true rfl, Nat.le_of_ble_eq_true rfl⟩ ⟨Nat.le_refl _, Nat.le_refl _⟩ (va_recv hK hP (ci := 3) (q0 := 1) rfl rfl) hP hD hS (w2 := wSR ht (ht_reader 0) (ht_rows 0) (ht_evidence 0) (ht_history 0) cy St ++ (wRows ht_rows cy St_rows)) [1, 2, 3, 4, 5, 6, 7, 8] [0] [0, 1, 2, 3, 4, 5, 6, 7, 8] rfl rfl rfl rfl rfl rfl (by decide) hl.1 (Nat.le_of_ble_eq_true rfl) dX9_seenBy_5 (fun H locs hP hD hS => ?_)
  refine z_if_ne (tgt := 17) hx hb dX9_seenBy_8 (by decide) hf (fun hf => ?_) (fun hf => ?_)
  · refine lv_iconst (v := (0 : Int32)) hx hb dX9_seenBy_17 (by decide) ?_
    refine lv_istore_n (lv' := [(2, .int (0 : Int32)), (0, .ref (ht 0)), (1, .int x1)]) hx hb dX9_seenBy_18 rfl hl (by decide) rfl (fun ls hl => ?_)
    refine lv_iconst (v := (0 : Int32)) hx hb dX9_seenBy_19 (by decide) ?_
    refine lv_istore_n (lv' := [(3, .int (0 : Int32)), (2, .int (0 : Int32)), (0, .ref (ht 0)), (1, .int x1)]) hx hb dX9_seenBy_20 rfl hl (by decide) rfl (fun ls hl => ?_)
    exact w_X9_seenBy_21 l ht ht_reader ht_rows ht_evidence ht_history St_rows x1 C FU St (0 : Int32) (0 : Int32) H locs ls hf hP hD hS (lv_sub hl [2, 3, 1, 0] rfl)
  · refine lv_aload_n hx hb dX9_seenBy_11 rfl (lv_at hl 0 rfl) ?_
    refine lv_iconst (v := (1 : Int32)) hx hb dX9_seenBy_12 (by decide) ?_
    obtain ⟨q6, hc, hf⟩ := zbd hf
    refine z_cVi (As := [.int (1 : Int32)]) (rest := []) C (c_X9_refuse l D cy ht ht_reader ht_rows ht_evidence ht_history St (1 : Int32) q6 hc) gV_X9_X9_refuse hd_X9_refuse ⟨Nat.le_of_ble_eq_true rfl, Nat.le_of_ble_eq_true rfl⟩ ⟨Nat.le_refl _, Nat.le_refl _⟩ (va_recv hK hP (ci := 5) (q0 := 0) rfl rfl) hP hD hS (w2 := wSR ht (ht_reader 0) (ht_rows 0) (ht_evidence 0) (ht_history 0) cy q6.2 ++ (wRows ht_rows cy St_rows)) [0] [1, 2, 3, 4, 5, 6, 7, 8] [8, 0, 1, 2, 3, 4, 5, 6, 7] rfl rfl rfl rfl rfl rfl (by decide) hl.1 (Nat.le_of_ble_eq_true rfl) dX9_seenBy_13 (fun H locs hP hD hS => ?_)
    obtain rfl := Option.some.inj hf
    exact z_iret (v := q6.1) C hP hD hS dX9_seenBy_16
def f_X9_dead (St : SSR) (St_rows : SRows) : Option (Int32 × SSR) :=
  (f_X9_hasStore St St_rows).bind (fun q1 =>
    (if q1 = 0 then
      (f_X9_refuse St (1 : Int32)).bind (fun q2 =>
        some (q2.1, q2.2))
      else
      (f_X6_countDeadWithout St_rows (-2 : Int32)).bind (fun q3 =>
        (f_X9_answer St q3).bind (fun q4 =>
          some (q4.1, q4.2)))))
set_option maxHeartbeats 4000000 in
set_option maxRecDepth 100000 in
theorem c_X9_dead (l : Launch) (D : va_G) (cy : Nat → ClassId) (ht : Nat → Nat) (ht_reader : Nat → Nat) (ht_rows : Nat → Nat) (ht_evidence : Nat → Nat) (ht_history : Nat → Nat) (St : SSR) (St_rows : SRows) (r : Int32 × SSR) (hf : f_X9_dead St St_rows = some r) : zCI l yX9_dead cX9_dead 1 (some FieldType.int) 4 97 D (zty cy) [.ref (ht 0)] (wSR ht (ht_reader 0) (ht_rows 0) (ht_evidence 0) (ht_history 0) cy St ++ (wRows ht_rows cy St_rows)) (wSR ht (ht_reader 0) (ht_rows 0) (ht_evidence 0) (ht_history 0) cy r.2 ++ (wRows ht_rows cy St_rows)) r.1 := by
  refine zCI_of (by decide +kernel) (Nat.le_of_ble_eq_true rfl) ?_
  intro p e s m below meth c A ls C hP hD hS hl
  generalize hargs : ([.ref (ht 0)] : List Value).toArray = args at C ⊢
  have C : zX p s m meth c cX9_dead 1 args RX9 (some FieldType.int) A D (zty cy) := C
  obtain ⟨hx, hb, hr, hts, hown, hlocks, hml, hA, hK⟩ := id C
  have hl : lv_has ls 1 [(0, .ref (ht 0))] := hl
  generalize hH : s.heap = H at hP ⊢
  have hS : va_S A s.heap H [] := by rw [← hH]; exact hS
  generalize ([] : List Loc) = locs at hS ⊢
  refine lv_aload_n hx hb dX9_dead_0 rfl (lv_at hl 0 rfl) ?_
  obtain ⟨q1, hc, hf⟩ := zbd hf
  refine z_cVi0 (As := []) (rest := []) C (c_X9_hasStore l D cy ht ht_reader ht_rows ht_evidence ht_history St St_rows q1 hc) gV_X9_X9_hasStore hd_X9_hasStore ⟨Nat.le_of_ble_eq_true rfl, Nat.le_of_ble_eq_true rfl⟩ ⟨Nat.le_refl _, Nat.le_refl _⟩ (va_recv hK hP (ci := 5) (q0 := 0) rfl rfl) hP hD hS hl.1 (Nat.le_of_ble_eq_true rfl) dX9_dead_1 (fun H locs hP hD hS => ?_)
  have hP : va_P D vwCl (wSR ht (ht_reader 0) (ht_rows 0) (ht_evidence 0) (ht_history 0) cy St ++ (wRows ht_rows cy St_rows)) H := hP
  have hD : va_D A (wSR ht (ht_reader 0) (ht_rows 0) (ht_evidence 0) (ht_history 0) cy St ++ (wRows ht_rows cy St_rows)) := hD
  refine z_if_eq (tgt := 23) hx hb dX9_dead_4 (by decide) hf (fun hf => ?_) (fun hf => ?_)
  · refine lv_aload_n hx hb dX9_dead_23 rfl (lv_at hl 0 rfl) ?_
    refine lv_iconst (v := (1 : Int32)) hx hb dX9_dead_24 (by decide) ?_
    obtain ⟨q2, hc, hf⟩ := zbd hf
    refine z_cVi (As := [.int (1 : Int32)]) (rest := []) C (c_X9_refuse l D cy ht ht_reader ht_rows ht_evidence ht_history St (1 : Int32) q2 hc) gV_X9_X9_refuse hd_X9_refuse ⟨Nat.le_of_ble_eq_true rfl, Nat.le_of_ble_eq_true rfl⟩ ⟨Nat.le_refl _, Nat.le_refl _⟩ (va_recv hK hP (ci := 5) (q0 := 0) rfl rfl) hP hD hS (w2 := wSR ht (ht_reader 0) (ht_rows 0) (ht_evidence 0) (ht_history 0) cy q2.2 ++ (wRows ht_rows cy St_rows)) [0] [1, 2, 3, 4, 5, 6, 7, 8] [8, 0, 1, 2, 3, 4, 5, 6, 7] rfl rfl rfl rfl rfl rfl (by decide) hl.1 (Nat.le_of_ble_eq_true rfl) dX9_dead_25 (fun H locs hP hD hS => ?_)
    obtain rfl := Option.some.inj hf
    exact z_iret (v := q2.1) C hP hD hS dX9_dead_28
  · refine lv_aload_n hx hb dX9_dead_7 rfl (lv_at hl 0 rfl) ?_
    refine lv_aload_n hx hb dX9_dead_8 rfl (lv_at hl 0 rfl) ?_
    refine va_get (D := D) (ci := 5) (v := .ref (ht_rows 0)) (C := RX9) (T := TX9) (N := 7) hx hb hts in_X9 hown hK hP 0 rfl rfl 1 (by decide) (hts _ q2_20) (fun _ h9 => h9) rfl dX9_dead_9 ?_
    refine lv_bipush (v := (-2 : Int32)) hx hb dX9_dead_12 (by decide) ?_
    obtain ⟨q3, hc, hf⟩ := zbd hf
    refine z_cVi (As := [.int (-2 : Int32)]) (rest := [.ref (ht 0)]) C (c_X6_countDeadWithout l D cy ht_rows St_rows (-2 : Int32) q3 hc) gV_X9_X6_countDeadWithout hd_X6_countDeadWithout ⟨Nat.le_of_ble_eq_true rfl, Nat.le_of_ble_eq_true rfl⟩ ⟨Nat.le_refl _, Nat.le_refl _⟩ (va_recv hK hP (ci := 3) (q0 := 1) rfl rfl) hP hD hS (w2 := wSR ht (ht_reader 0) (ht_rows 0) (ht_evidence 0) (ht_history 0) cy St ++ (wRows ht_rows cy St_rows)) [1, 2, 3, 4, 5, 6, 7, 8] [0] [0, 1, 2, 3, 4, 5, 6, 7, 8] rfl rfl rfl rfl rfl rfl (by decide) hl.1 (Nat.le_of_ble_eq_true rfl) dX9_dead_14 (fun H locs hP hD hS => ?_)
    obtain ⟨q4, hc, hf⟩ := zbd hf
    refine z_cVi (As := [.int q3]) (rest := []) C (c_X9_answer l D cy ht ht_reader ht_rows ht_evidence ht_history St q3 q4 hc) gV_X9_X9_answer hd_X9_answer ⟨Nat.le_of_ble_eq_true rfl, Nat.le_of_ble_eq_true rfl⟩ ⟨Nat.le_refl _, Nat.le_refl _⟩ (va_recv hK hP (ci := 5) (q0 := 0) rfl rfl) hP hD hS (w2 := wSR ht (ht_reader 0) (ht_rows 0) (ht_evidence 0) (ht_history 0) cy q4.2 ++ (wRows ht_rows cy St_rows)) [0] [1, 2, 3, 4, 5, 6, 7, 8] [8, 0, 1, 2, 3, 4, 5, 6, 7] rfl rfl rfl rfl rfl rfl (by decide) hl.1 (Nat.le_of_ble_eq_true rfl) dX9_dead_17 (fun H locs hP hD hS => ?_)
    refine lv_goto (tgt := 28) hx hb dX9_dead_20 (by decide) ?_
    obtain rfl := Option.some.inj hf
    exact z_iret (v := q4.1) C hP hD hS dX9_dead_28
def f_X9_freezes (St : SSR) (St_rows : SRows) : Option (Int32 × SSR) :=
  (f_X9_hasStore St St_rows).bind (fun q1 =>
    (if q1 = 0 then
      (f_X9_refuse St (1 : Int32)).bind (fun q2 =>
        some (q2.1, q2.2))
      else
      (f_X6_countFreezing St_rows).bind (fun q3 =>
        (f_X9_answer St q3).bind (fun q4 =>
          some (q4.1, q4.2)))))
set_option maxHeartbeats 4000000 in
set_option maxRecDepth 100000 in
theorem c_X9_freezes (l : Launch) (D : va_G) (cy : Nat → ClassId) (ht : Nat → Nat) (ht_reader : Nat → Nat) (ht_rows : Nat → Nat) (ht_evidence : Nat → Nat) (ht_history : Nat → Nat) (St : SSR) (St_rows : SRows) (r : Int32 × SSR) (hf : f_X9_freezes St St_rows = some r) : zCI l yX9_freezes cX9_freezes 1 (some FieldType.int) 4 94 D (zty cy) [.ref (ht 0)] (wSR ht (ht_reader 0) (ht_rows 0) (ht_evidence 0) (ht_history 0) cy St ++ (wRows ht_rows cy St_rows)) (wSR ht (ht_reader 0) (ht_rows 0) (ht_evidence 0) (ht_history 0) cy r.2 ++ (wRows ht_rows cy St_rows)) r.1 := by
  refine zCI_of (by decide +kernel) (Nat.le_of_ble_eq_true rfl) ?_
  intro p e s m below meth c A ls C hP hD hS hl
  generalize hargs : ([.ref (ht 0)] : List Value).toArray = args at C ⊢
  have C : zX p s m meth c cX9_freezes 1 args RX9 (some FieldType.int) A D (zty cy) := C
  obtain ⟨hx, hb, hr, hts, hown, hlocks, hml, hA, hK⟩ := id C
  have hl : lv_has ls 1 [(0, .ref (ht 0))] := hl
  generalize hH : s.heap = H at hP ⊢
  have hS : va_S A s.heap H [] := by rw [← hH]; exact hS
  generalize ([] : List Loc) = locs at hS ⊢
  refine lv_aload_n hx hb dX9_freezes_0 rfl (lv_at hl 0 rfl) ?_
  obtain ⟨q1, hc, hf⟩ := zbd hf
  refine z_cVi0 (As := []) (rest := []) C (c_X9_hasStore l D cy ht ht_reader ht_rows ht_evidence ht_history St St_rows q1 hc) gV_X9_X9_hasStore hd_X9_hasStore ⟨Nat.le_of_ble_eq_true rfl, Nat.le_of_ble_eq_true rfl⟩ ⟨Nat.le_refl _, Nat.le_refl _⟩ (va_recv hK hP (ci := 5) (q0 := 0) rfl rfl) hP hD hS hl.1 (Nat.le_of_ble_eq_true rfl) dX9_freezes_1 (fun H locs hP hD hS => ?_)
  have hP : va_P D vwCl (wSR ht (ht_reader 0) (ht_rows 0) (ht_evidence 0) (ht_history 0) cy St ++ (wRows ht_rows cy St_rows)) H := hP
  have hD : va_D A (wSR ht (ht_reader 0) (ht_rows 0) (ht_evidence 0) (ht_history 0) cy St ++ (wRows ht_rows cy St_rows)) := hD
  refine z_if_eq (tgt := 21) hx hb dX9_freezes_4 (by decide) hf (fun hf => ?_) (fun hf => ?_)
  · refine lv_aload_n hx hb dX9_freezes_21 rfl (lv_at hl 0 rfl) ?_
    refine lv_iconst (v := (1 : Int32)) hx hb dX9_freezes_22 (by decide) ?_
    obtain ⟨q2, hc, hf⟩ := zbd hf
    refine z_cVi (As := [.int (1 : Int32)]) (rest := []) C (c_X9_refuse l D cy ht ht_reader ht_rows ht_evidence ht_history St (1 : Int32) q2 hc) gV_X9_X9_refuse hd_X9_refuse ⟨Nat.le_of_ble_eq_true rfl, Nat.le_of_ble_eq_true rfl⟩ ⟨Nat.le_refl _, Nat.le_refl _⟩ (va_recv hK hP (ci := 5) (q0 := 0) rfl rfl) hP hD hS (w2 := wSR ht (ht_reader 0) (ht_rows 0) (ht_evidence 0) (ht_history 0) cy q2.2 ++ (wRows ht_rows cy St_rows)) [0] [1, 2, 3, 4, 5, 6, 7, 8] [8, 0, 1, 2, 3, 4, 5, 6, 7] rfl rfl rfl rfl rfl rfl (by decide) hl.1 (Nat.le_of_ble_eq_true rfl) dX9_freezes_23 (fun H locs hP hD hS => ?_)
    obtain rfl := Option.some.inj hf
    exact z_iret (v := q2.1) C hP hD hS dX9_freezes_26
  · refine lv_aload_n hx hb dX9_freezes_7 rfl (lv_at hl 0 rfl) ?_
    refine lv_aload_n hx hb dX9_freezes_8 rfl (lv_at hl 0 rfl) ?_
    refine va_get (D := D) (ci := 5) (v := .ref (ht_rows 0)) (C := RX9) (T := TX9) (N := 7) hx hb hts in_X9 hown hK hP 0 rfl rfl 1 (by decide) (hts _ q2_20) (fun _ h9 => h9) rfl dX9_freezes_9 ?_
    obtain ⟨q3, hc, hf⟩ := zbd hf
    refine z_cVi (As := []) (rest := [.ref (ht 0)]) C (c_X6_countFreezing l D cy ht_rows St_rows q3 hc) gV_X9_X6_countFreezing hd_X6_countFreezing ⟨Nat.le_of_ble_eq_true rfl, Nat.le_of_ble_eq_true rfl⟩ ⟨Nat.le_refl _, Nat.le_refl _⟩ (va_recv hK hP (ci := 3) (q0 := 1) rfl rfl) hP hD hS (w2 := wSR ht (ht_reader 0) (ht_rows 0) (ht_evidence 0) (ht_history 0) cy St ++ (wRows ht_rows cy St_rows)) [1, 2, 3, 4, 5, 6, 7, 8] [0] [0, 1, 2, 3, 4, 5, 6, 7, 8] rfl rfl rfl rfl rfl rfl (by decide) hl.1 (Nat.le_of_ble_eq_true rfl) dX9_freezes_12 (fun H locs hP hD hS => ?_)
    obtain ⟨q4, hc, hf⟩ := zbd hf
    refine z_cVi (As := [.int q3]) (rest := []) C (c_X9_answer l D cy ht ht_reader ht_rows ht_evidence ht_history St q3 q4 hc) gV_X9_X9_answer hd_X9_answer ⟨Nat.le_of_ble_eq_true rfl, Nat.le_of_ble_eq_true rfl⟩ ⟨Nat.le_refl _, Nat.le_refl _⟩ (va_recv hK hP (ci := 5) (q0 := 0) rfl rfl) hP hD hS (w2 := wSR ht (ht_reader 0) (ht_rows 0) (ht_evidence 0) (ht_history 0) cy q4.2 ++ (wRows ht_rows cy St_rows)) [0] [1, 2, 3, 4, 5, 6, 7, 8] [8, 0, 1, 2, 3, 4, 5, 6, 7] rfl rfl rfl rfl rfl rfl (by decide) hl.1 (Nat.le_of_ble_eq_true rfl) dX9_freezes_15 (fun H locs hP hD hS => ?_)
    refine lv_goto (tgt := 26) hx hb dX9_freezes_18 (by decide) ?_
    obtain rfl := Option.some.inj hf
    exact z_iret (v := q4.1) C hP hD hS dX9_freezes_26
def f_X9_sees (St : SSR) (St_rows : SRows) (x1 : Int32) (x2 : Int32) : Option (Int32 × SSR) :=
  (f_X6_runs St_rows x1).bind (fun q1 =>
    (if q1 = 0 then
      (f_X9_refuse St (1 : Int32)).bind (fun q2 =>
        some (q2.1, q2.2))
      else
      (f_X6_isRow St_rows x2).bind (fun q3 =>
        (if q3 = 0 then
          (f_X9_refuse St (1 : Int32)).bind (fun q7 =>
            some (q7.1, q7.2))
          else
          (f_X6_countingFor St_rows x1).bind (fun q4 =>
            (f_X6_versionSeen St_rows x2 q4).bind (fun q5 =>
              (f_X9_answer St q5).bind (fun q6 =>
                some (q6.1, q6.2))))))))
set_option maxHeartbeats 4000000 in
set_option maxRecDepth 100000 in
theorem c_X9_sees (l : Launch) (D : va_G) (cy : Nat → ClassId) (ht : Nat → Nat) (ht_reader : Nat → Nat) (ht_rows : Nat → Nat) (ht_evidence : Nat → Nat) (ht_history : Nat → Nat) (St : SSR) (St_rows : SRows) (x1 : Int32) (x2 : Int32) (r : Int32 × SSR) (hf : f_X9_sees St St_rows x1 x2 = some r) : zCI l yX9_sees cX9_sees 3 (some FieldType.int) 3 71 D (zty cy) [.ref (ht 0), .int x1, .int x2] (wSR ht (ht_reader 0) (ht_rows 0) (ht_evidence 0) (ht_history 0) cy St ++ (wRows ht_rows cy St_rows)) (wSR ht (ht_reader 0) (ht_rows 0) (ht_evidence 0) (ht_history 0) cy r.2 ++ (wRows ht_rows cy St_rows)) r.1 := by
  refine zCI_of (by decide +kernel) (Nat.le_of_ble_eq_true rfl) ?_
  intro p e s m below meth c A ls C hP hD hS hl
  generalize hargs : ([.ref (ht 0), .int x1, .int x2] : List Value).toArray = args at C ⊢
  have C : zX p s m meth c cX9_sees 3 args RX9 (some FieldType.int) A D (zty cy) := C
  obtain ⟨hx, hb, hr, hts, hown, hlocks, hml, hA, hK⟩ := id C
  have hl : lv_has ls 3 [(0, .ref (ht 0)), (1, .int x1), (2, .int x2)] := hl
  generalize hH : s.heap = H at hP ⊢
  have hS : va_S A s.heap H [] := by rw [← hH]; exact hS
  generalize ([] : List Loc) = locs at hS ⊢
  refine lv_aload_n hx hb dX9_sees_0 rfl (lv_at hl 0 rfl) ?_
  refine va_get (D := D) (ci := 5) (v := .ref (ht_rows 0)) (C := RX9) (T := TX9) (N := 7) hx hb hts in_X9 hown hK hP 0 rfl rfl 1 (by decide) (hts _ q2_20) (fun _ h9 => h9) rfl dX9_sees_1 ?_
  refine lv_iload_n hx hb dX9_sees_4 rfl (lv_at hl 1 rfl) ?_
  obtain ⟨q1, hc, hf⟩ := zbd hf
  refine z_cVi (As := [.int x1]) (rest := []) C (c_X6_runs l D cy ht_rows St_rows x1 q1 hc) gV_X9_X6_runs hd_X6_runs ⟨Nat.le_of_ble_eq_true rfl, Nat.le_of_ble_eq_true rfl⟩ ⟨Nat.le_refl _, Nat.le_refl _⟩ (va_recv hK hP (ci := 3) (q0 := 1) rfl rfl) hP hD hS (w2 := wSR ht (ht_reader 0) (ht_rows 0) (ht_evidence 0) (ht_history 0) cy St ++ (wRows ht_rows cy St_rows)) [1, 2, 3, 4, 5, 6, 7, 8] [0] [0, 1, 2, 3, 4, 5, 6, 7, 8] rfl rfl rfl rfl rfl rfl (by decide) hl.1 (Nat.le_of_ble_eq_true rfl) dX9_sees_5 (fun H locs hP hD hS => ?_)
  refine z_if_eq (tgt := 22) hx hb dX9_sees_8 (by decide) hf (fun hf => ?_) (fun hf => ?_)
  · refine lv_aload_n hx hb dX9_sees_22 rfl (lv_at hl 0 rfl) ?_
    refine lv_iconst (v := (1 : Int32)) hx hb dX9_sees_23 (by decide) ?_
    obtain ⟨q2, hc, hf⟩ := zbd hf
    refine z_cVi (As := [.int (1 : Int32)]) (rest := []) C (c_X9_refuse l D cy ht ht_reader ht_rows ht_evidence ht_history St (1 : Int32) q2 hc) gV_X9_X9_refuse hd_X9_refuse ⟨Nat.le_of_ble_eq_true rfl, Nat.le_of_ble_eq_true rfl⟩ ⟨Nat.le_refl _, Nat.le_refl _⟩ (va_recv hK hP (ci := 5) (q0 := 0) rfl rfl) hP hD hS (w2 := wSR ht (ht_reader 0) (ht_rows 0) (ht_evidence 0) (ht_history 0) cy q2.2 ++ (wRows ht_rows cy St_rows)) [0] [1, 2, 3, 4, 5, 6, 7, 8] [8, 0, 1, 2, 3, 4, 5, 6, 7] rfl rfl rfl rfl rfl rfl (by decide) hl.1 (Nat.le_of_ble_eq_true rfl) dX9_sees_24 (fun H locs hP hD hS => ?_)
    obtain rfl := Option.some.inj hf
    exact z_iret (v := q2.1) C hP hD hS dX9_sees_27
  · refine lv_aload_n hx hb dX9_sees_11 rfl (lv_at hl 0 rfl) ?_
    refine va_get (D := D) (ci := 5) (v := .ref (ht_rows 0)) (C := RX9) (T := TX9) (N := 7) hx hb hts in_X9 hown hK hP 0 rfl rfl 1 (by decide) (hts _ q2_20) (fun _ h9 => h9) rfl dX9_sees_12 ?_
    refine lv_iload_n hx hb dX9_sees_15 rfl (lv_at hl 2 rfl) ?_
    obtain ⟨q3, hc, hf⟩ := zbd hf
    refine z_cVi (As := [.int x2]) (rest := []) C (c_X6_isRow l D cy ht_rows St_rows x2 q3 hc) gV_X9_X6_isRow hd_X6_isRow ⟨Nat.le_of_ble_eq_true rfl, Nat.le_of_ble_eq_true rfl⟩ ⟨Nat.le_refl _, Nat.le_refl _⟩ (va_recv hK hP (ci := 3) (q0 := 1) rfl rfl) hP hD hS (w2 := wSR ht (ht_reader 0) (ht_rows 0) (ht_evidence 0) (ht_history 0) cy St ++ (wRows ht_rows cy St_rows)) [1, 2, 3, 4, 5, 6, 7, 8] [0] [0, 1, 2, 3, 4, 5, 6, 7, 8] rfl rfl rfl rfl rfl rfl (by decide) hl.1 (Nat.le_of_ble_eq_true rfl) dX9_sees_16 (fun H locs hP hD hS => ?_)
    refine z_if_ne (tgt := 28) hx hb dX9_sees_19 (by decide) hf (fun hf => ?_) (fun hf => ?_)
    · refine lv_aload_n hx hb dX9_sees_28 rfl (lv_at hl 0 rfl) ?_
      refine lv_aload_n hx hb dX9_sees_29 rfl (lv_at hl 0 rfl) ?_
      refine va_get (D := D) (ci := 5) (v := .ref (ht_rows 0)) (C := RX9) (T := TX9) (N := 7) hx hb hts in_X9 hown hK hP 0 rfl rfl 1 (by decide) (hts _ q2_20) (fun _ h9 => h9) rfl dX9_sees_30 ?_
      refine lv_iload_n hx hb dX9_sees_33 rfl (lv_at hl 2 rfl) ?_
      refine lv_aload_n hx hb dX9_sees_34 rfl (lv_at hl 0 rfl) ?_
      refine va_get (D := D) (ci := 5) (v := .ref (ht_rows 0)) (C := RX9) (T := TX9) (N := 7) hx hb hts in_X9 hown hK hP 0 rfl rfl 1 (by decide) (hts _ q2_20) (fun _ h9 => h9) rfl dX9_sees_35 ?_
      refine lv_iload_n hx hb dX9_sees_38 rfl (lv_at hl 1 rfl) ?_
      obtain ⟨q4, hc, hf⟩ := zbd hf
      refine z_cVl (As := [.int x1]) (rest := [.int x2, .ref (ht_rows 0), .ref (ht 0)]) C (c_X6_countingFor l D cy ht_rows St_rows x1 q4 hc) gV_X9_X6_countingFor hd_X6_countingFor ⟨Nat.le_of_ble_eq_true rfl, Nat.le_of_ble_eq_true rfl⟩ ⟨Nat.le_refl _, Nat.le_refl _⟩ (va_recv hK hP (ci := 3) (q0 := 1) rfl rfl) hP hD hS (w2 := wSR ht (ht_reader 0) (ht_rows 0) (ht_evidence 0) (ht_history 0) cy St ++ (wRows ht_rows cy St_rows)) [1, 2, 3, 4, 5, 6, 7, 8] [0] [0, 1, 2, 3, 4, 5, 6, 7, 8] rfl rfl rfl rfl rfl rfl (by decide) hl.1 (Nat.le_of_ble_eq_true rfl) dX9_sees_39 (fun H locs hP hD hS => ?_)
      obtain ⟨q5, hc, hf⟩ := zbd hf
      refine z_cVi (As := [.int x2, .long q4]) (rest := [.ref (ht 0)]) C (c_X6_versionSeen l D cy ht_rows St_rows x2 q4 q5 hc) gV_X9_X6_versionSeen hd_X6_versionSeen ⟨Nat.le_of_ble_eq_true rfl, Nat.le_of_ble_eq_true rfl⟩ ⟨Nat.le_refl _, Nat.le_refl _⟩ (va_recv hK hP (ci := 3) (q0 := 1) rfl rfl) hP hD hS (w2 := wSR ht (ht_reader 0) (ht_rows 0) (ht_evidence 0) (ht_history 0) cy St ++ (wRows ht_rows cy St_rows)) [1, 2, 3, 4, 5, 6, 7, 8] [0] [0, 1, 2, 3, 4, 5, 6, 7, 8] rfl rfl rfl rfl rfl rfl (by decide) hl.1 (Nat.le_of_ble_eq_true rfl) dX9_sees_42 (fun H locs hP hD hS => ?_)
      obtain ⟨q6, hc, hf⟩ := zbd hf
      refine z_cVi (As := [.int q5]) (rest := []) C (c_X9_answer l D cy ht ht_reader ht_rows ht_evidence ht_history St q5 q6 hc) gV_X9_X9_answer hd_X9_answer ⟨Nat.le_of_ble_eq_true rfl, Nat.le_of_ble_eq_true rfl⟩ ⟨Nat.le_refl _, Nat.le_refl _⟩ (va_recv hK hP (ci := 5) (q0 := 0) rfl rfl) hP hD hS (w2 := wSR ht (ht_reader 0) (ht_rows 0) (ht_evidence 0) (ht_history 0) cy q6.2 ++ (wRows ht_rows cy St_rows)) [0] [1, 2, 3, 4, 5, 6, 7, 8] [8, 0, 1, 2, 3, 4, 5, 6, 7] rfl rfl rfl rfl rfl rfl (by decide) hl.1 (Nat.le_of_ble_eq_true rfl) dX9_sees_45 (fun H locs hP hD hS => ?_)
      obtain rfl := Option.some.inj hf
      exact z_iret (v := q6.1) C hP hD hS dX9_sees_48
    · refine lv_aload_n hx hb dX9_sees_22 rfl (lv_at hl 0 rfl) ?_
      refine lv_iconst (v := (1 : Int32)) hx hb dX9_sees_23 (by decide) ?_
      obtain ⟨q7, hc, hf⟩ := zbd hf
      refine z_cVi (As := [.int (1 : Int32)]) (rest := []) C (c_X9_refuse l D cy ht ht_reader ht_rows ht_evidence ht_history St (1 : Int32) q7 hc) gV_X9_X9_refuse hd_X9_refuse ⟨Nat.le_of_ble_eq_true rfl, Nat.le_of_ble_eq_true rfl⟩ ⟨Nat.le_refl _, Nat.le_refl _⟩ (va_recv hK hP (ci := 5) (q0 := 0) rfl rfl) hP hD hS (w2 := wSR ht (ht_reader 0) (ht_rows 0) (ht_evidence 0) (ht_history 0) cy q7.2 ++ (wRows ht_rows cy St_rows)) [0] [1, 2, 3, 4, 5, 6, 7, 8] [8, 0, 1, 2, 3, 4, 5, 6, 7] rfl rfl rfl rfl rfl rfl (by decide) hl.1 (Nat.le_of_ble_eq_true rfl) dX9_sees_24 (fun H locs hP hD hS => ?_)
      obtain rfl := Option.some.inj hf
      exact z_iret (v := q7.1) C hP hD hS dX9_sees_27
def f_X9_read (St : SSR) (St_rows : SRows) (x1 : Int32) (x2 : Int32) : Option (Int32 × SSR) :=
  (f_X6_runs St_rows x1).bind (fun q1 =>
    (if q1 = 0 then
      (f_X9_refuse St (1 : Int32)).bind (fun q2 =>
        some (q2.1, q2.2))
      else
      (f_X6_isRow St_rows x2).bind (fun q3 =>
        (if q3 = 0 then
          (f_X9_refuse St (1 : Int32)).bind (fun q7 =>
            some (q7.1, q7.2))
          else
          (f_X6_countingFor St_rows x1).bind (fun q4 =>
            (f_X6_valueSeen St_rows x2 q4).bind (fun q5 =>
              (f_X9_answer St q5).bind (fun q6 =>
                some (q6.1, q6.2))))))))
set_option maxHeartbeats 4000000 in
set_option maxRecDepth 100000 in
theorem c_X9_read (l : Launch) (D : va_G) (cy : Nat → ClassId) (ht : Nat → Nat) (ht_reader : Nat → Nat) (ht_rows : Nat → Nat) (ht_evidence : Nat → Nat) (ht_history : Nat → Nat) (St : SSR) (St_rows : SRows) (x1 : Int32) (x2 : Int32) (r : Int32 × SSR) (hf : f_X9_read St St_rows x1 x2 = some r) : zCI l yX9_read cX9_read 3 (some FieldType.int) 4 94 D (zty cy) [.ref (ht 0), .int x1, .int x2] (wSR ht (ht_reader 0) (ht_rows 0) (ht_evidence 0) (ht_history 0) cy St ++ (wRows ht_rows cy St_rows)) (wSR ht (ht_reader 0) (ht_rows 0) (ht_evidence 0) (ht_history 0) cy r.2 ++ (wRows ht_rows cy St_rows)) r.1 := by
  refine zCI_of (by decide +kernel) (Nat.le_of_ble_eq_true rfl) ?_
  intro p e s m below meth c A ls C hP hD hS hl
  generalize hargs : ([.ref (ht 0), .int x1, .int x2] : List Value).toArray = args at C ⊢
  have C : zX p s m meth c cX9_read 3 args RX9 (some FieldType.int) A D (zty cy) := C
  obtain ⟨hx, hb, hr, hts, hown, hlocks, hml, hA, hK⟩ := id C
  have hl : lv_has ls 3 [(0, .ref (ht 0)), (1, .int x1), (2, .int x2)] := hl
  generalize hH : s.heap = H at hP ⊢
  have hS : va_S A s.heap H [] := by rw [← hH]; exact hS
  generalize ([] : List Loc) = locs at hS ⊢
  refine lv_aload_n hx hb dX9_read_0 rfl (lv_at hl 0 rfl) ?_
  refine va_get (D := D) (ci := 5) (v := .ref (ht_rows 0)) (C := RX9) (T := TX9) (N := 7) hx hb hts in_X9 hown hK hP 0 rfl rfl 1 (by decide) (hts _ q2_20) (fun _ h9 => h9) rfl dX9_read_1 ?_
  refine lv_iload_n hx hb dX9_read_4 rfl (lv_at hl 1 rfl) ?_
  obtain ⟨q1, hc, hf⟩ := zbd hf
  refine z_cVi (As := [.int x1]) (rest := []) C (c_X6_runs l D cy ht_rows St_rows x1 q1 hc) gV_X9_X6_runs hd_X6_runs ⟨Nat.le_of_ble_eq_true rfl, Nat.le_of_ble_eq_true rfl⟩ ⟨Nat.le_refl _, Nat.le_refl _⟩ (va_recv hK hP (ci := 3) (q0 := 1) rfl rfl) hP hD hS (w2 := wSR ht (ht_reader 0) (ht_rows 0) (ht_evidence 0) (ht_history 0) cy St ++ (wRows ht_rows cy St_rows)) [1, 2, 3, 4, 5, 6, 7, 8] [0] [0, 1, 2, 3, 4, 5, 6, 7, 8] rfl rfl rfl rfl rfl rfl (by decide) hl.1 (Nat.le_of_ble_eq_true rfl) dX9_read_5 (fun H locs hP hD hS => ?_)
  refine z_if_eq (tgt := 22) hx hb dX9_read_8 (by decide) hf (fun hf => ?_) (fun hf => ?_)
  · refine lv_aload_n hx hb dX9_read_22 rfl (lv_at hl 0 rfl) ?_
    refine lv_iconst (v := (1 : Int32)) hx hb dX9_read_23 (by decide) ?_
    obtain ⟨q2, hc, hf⟩ := zbd hf
    refine z_cVi (As := [.int (1 : Int32)]) (rest := []) C (c_X9_refuse l D cy ht ht_reader ht_rows ht_evidence ht_history St (1 : Int32) q2 hc) gV_X9_X9_refuse hd_X9_refuse ⟨Nat.le_of_ble_eq_true rfl, Nat.le_of_ble_eq_true rfl⟩ ⟨Nat.le_refl _, Nat.le_refl _⟩ (va_recv hK hP (ci := 5) (q0 := 0) rfl rfl) hP hD hS (w2 := wSR ht (ht_reader 0) (ht_rows 0) (ht_evidence 0) (ht_history 0) cy q2.2 ++ (wRows ht_rows cy St_rows)) [0] [1, 2, 3, 4, 5, 6, 7, 8] [8, 0, 1, 2, 3, 4, 5, 6, 7] rfl rfl rfl rfl rfl rfl (by decide) hl.1 (Nat.le_of_ble_eq_true rfl) dX9_read_24 (fun H locs hP hD hS => ?_)
    obtain rfl := Option.some.inj hf
    exact z_iret (v := q2.1) C hP hD hS dX9_read_27
  · refine lv_aload_n hx hb dX9_read_11 rfl (lv_at hl 0 rfl) ?_
    refine va_get (D := D) (ci := 5) (v := .ref (ht_rows 0)) (C := RX9) (T := TX9) (N := 7) hx hb hts in_X9 hown hK hP 0 rfl rfl 1 (by decide) (hts _ q2_20) (fun _ h9 => h9) rfl dX9_read_12 ?_
    refine lv_iload_n hx hb dX9_read_15 rfl (lv_at hl 2 rfl) ?_
    obtain ⟨q3, hc, hf⟩ := zbd hf
    refine z_cVi (As := [.int x2]) (rest := []) C (c_X6_isRow l D cy ht_rows St_rows x2 q3 hc) gV_X9_X6_isRow hd_X6_isRow ⟨Nat.le_of_ble_eq_true rfl, Nat.le_of_ble_eq_true rfl⟩ ⟨Nat.le_refl _, Nat.le_refl _⟩ (va_recv hK hP (ci := 3) (q0 := 1) rfl rfl) hP hD hS (w2 := wSR ht (ht_reader 0) (ht_rows 0) (ht_evidence 0) (ht_history 0) cy St ++ (wRows ht_rows cy St_rows)) [1, 2, 3, 4, 5, 6, 7, 8] [0] [0, 1, 2, 3, 4, 5, 6, 7, 8] rfl rfl rfl rfl rfl rfl (by decide) hl.1 (Nat.le_of_ble_eq_true rfl) dX9_read_16 (fun H locs hP hD hS => ?_)
    refine z_if_ne (tgt := 28) hx hb dX9_read_19 (by decide) hf (fun hf => ?_) (fun hf => ?_)
    · refine lv_aload_n hx hb dX9_read_28 rfl (lv_at hl 0 rfl) ?_
      refine lv_aload_n hx hb dX9_read_29 rfl (lv_at hl 0 rfl) ?_
      refine va_get (D := D) (ci := 5) (v := .ref (ht_rows 0)) (C := RX9) (T := TX9) (N := 7) hx hb hts in_X9 hown hK hP 0 rfl rfl 1 (by decide) (hts _ q2_20) (fun _ h9 => h9) rfl dX9_read_30 ?_
      refine lv_iload_n hx hb dX9_read_33 rfl (lv_at hl 2 rfl) ?_
      refine lv_aload_n hx hb dX9_read_34 rfl (lv_at hl 0 rfl) ?_
      refine va_get (D := D) (ci := 5) (v := .ref (ht_rows 0)) (C := RX9) (T := TX9) (N := 7) hx hb hts in_X9 hown hK hP 0 rfl rfl 1 (by decide) (hts _ q2_20) (fun _ h9 => h9) rfl dX9_read_35 ?_
      refine lv_iload_n hx hb dX9_read_38 rfl (lv_at hl 1 rfl) ?_
      obtain ⟨q4, hc, hf⟩ := zbd hf
      refine z_cVl (As := [.int x1]) (rest := [.int x2, .ref (ht_rows 0), .ref (ht 0)]) C (c_X6_countingFor l D cy ht_rows St_rows x1 q4 hc) gV_X9_X6_countingFor hd_X6_countingFor ⟨Nat.le_of_ble_eq_true rfl, Nat.le_of_ble_eq_true rfl⟩ ⟨Nat.le_refl _, Nat.le_refl _⟩ (va_recv hK hP (ci := 3) (q0 := 1) rfl rfl) hP hD hS (w2 := wSR ht (ht_reader 0) (ht_rows 0) (ht_evidence 0) (ht_history 0) cy St ++ (wRows ht_rows cy St_rows)) [1, 2, 3, 4, 5, 6, 7, 8] [0] [0, 1, 2, 3, 4, 5, 6, 7, 8] rfl rfl rfl rfl rfl rfl (by decide) hl.1 (Nat.le_of_ble_eq_true rfl) dX9_read_39 (fun H locs hP hD hS => ?_)
      obtain ⟨q5, hc, hf⟩ := zbd hf
      refine z_cVi (As := [.int x2, .long q4]) (rest := [.ref (ht 0)]) C (c_X6_valueSeen l D cy ht_rows St_rows x2 q4 q5 hc) gV_X9_X6_valueSeen hd_X6_valueSeen ⟨Nat.le_of_ble_eq_true rfl, Nat.le_of_ble_eq_true rfl⟩ ⟨Nat.le_refl _, Nat.le_refl _⟩ (va_recv hK hP (ci := 3) (q0 := 1) rfl rfl) hP hD hS (w2 := wSR ht (ht_reader 0) (ht_rows 0) (ht_evidence 0) (ht_history 0) cy St ++ (wRows ht_rows cy St_rows)) [1, 2, 3, 4, 5, 6, 7, 8] [0] [0, 1, 2, 3, 4, 5, 6, 7, 8] rfl rfl rfl rfl rfl rfl (by decide) hl.1 (Nat.le_of_ble_eq_true rfl) dX9_read_42 (fun H locs hP hD hS => ?_)
      obtain ⟨q6, hc, hf⟩ := zbd hf
      refine z_cVi (As := [.int q5]) (rest := []) C (c_X9_answer l D cy ht ht_reader ht_rows ht_evidence ht_history St q5 q6 hc) gV_X9_X9_answer hd_X9_answer ⟨Nat.le_of_ble_eq_true rfl, Nat.le_of_ble_eq_true rfl⟩ ⟨Nat.le_refl _, Nat.le_refl _⟩ (va_recv hK hP (ci := 5) (q0 := 0) rfl rfl) hP hD hS (w2 := wSR ht (ht_reader 0) (ht_rows 0) (ht_evidence 0) (ht_history 0) cy q6.2 ++ (wRows ht_rows cy St_rows)) [0] [1, 2, 3, 4, 5, 6, 7, 8] [8, 0, 1, 2, 3, 4, 5, 6, 7] rfl rfl rfl rfl rfl rfl (by decide) hl.1 (Nat.le_of_ble_eq_true rfl) dX9_read_45 (fun H locs hP hD hS => ?_)
      obtain rfl := Option.some.inj hf
      exact z_iret (v := q6.1) C hP hD hS dX9_read_48
    · refine lv_aload_n hx hb dX9_read_22 rfl (lv_at hl 0 rfl) ?_
      refine lv_iconst (v := (1 : Int32)) hx hb dX9_read_23 (by decide) ?_
      obtain ⟨q7, hc, hf⟩ := zbd hf
      refine z_cVi (As := [.int (1 : Int32)]) (rest := []) C (c_X9_refuse l D cy ht ht_reader ht_rows ht_evidence ht_history St (1 : Int32) q7 hc) gV_X9_X9_refuse hd_X9_refuse ⟨Nat.le_of_ble_eq_true rfl, Nat.le_of_ble_eq_true rfl⟩ ⟨Nat.le_refl _, Nat.le_refl _⟩ (va_recv hK hP (ci := 5) (q0 := 0) rfl rfl) hP hD hS (w2 := wSR ht (ht_reader 0) (ht_rows 0) (ht_evidence 0) (ht_history 0) cy q7.2 ++ (wRows ht_rows cy St_rows)) [0] [1, 2, 3, 4, 5, 6, 7, 8] [8, 0, 1, 2, 3, 4, 5, 6, 7] rfl rfl rfl rfl rfl rfl (by decide) hl.1 (Nat.le_of_ble_eq_true rfl) dX9_read_24 (fun H locs hP hD hS => ?_)
      obtain rfl := Option.some.inj hf
      exact z_iret (v := q7.1) C hP hD hS dX9_read_27
def f_X9_sum (St : SSR) (St_rows : SRows) (x1 : Int32) : Option (Int32 × SSR) :=
  (f_X6_runs St_rows x1).bind (fun q1 =>
    (if q1 = 0 then
      (f_X9_refuse St (1 : Int32)).bind (fun q2 =>
        some (q2.1, q2.2))
      else
      (f_X6_countingFor St_rows x1).bind (fun q3 =>
        (f_X6_sumSeen St_rows q3).bind (fun q4 =>
          (f_X9_answer St q4).bind (fun q5 =>
            some (q5.1, q5.2))))))
set_option maxHeartbeats 4000000 in
set_option maxRecDepth 100000 in
theorem c_X9_sum (l : Launch) (D : va_G) (cy : Nat → ClassId) (ht : Nat → Nat) (ht_reader : Nat → Nat) (ht_rows : Nat → Nat) (ht_evidence : Nat → Nat) (ht_history : Nat → Nat) (St : SSR) (St_rows : SRows) (x1 : Int32) (r : Int32 × SSR) (hf : f_X9_sum St St_rows x1 = some r) : zCI l yX9_sum cX9_sum 2 (some FieldType.int) 3 72 D (zty cy) [.ref (ht 0), .int x1] (wSR ht (ht_reader 0) (ht_rows 0) (ht_evidence 0) (ht_history 0) cy St ++ (wRows ht_rows cy St_rows)) (wSR ht (ht_reader 0) (ht_rows 0) (ht_evidence 0) (ht_history 0) cy r.2 ++ (wRows ht_rows cy St_rows)) r.1 := by
  refine zCI_of (by decide +kernel) (Nat.le_of_ble_eq_true rfl) ?_
  intro p e s m below meth c A ls C hP hD hS hl
  generalize hargs : ([.ref (ht 0), .int x1] : List Value).toArray = args at C ⊢
  have C : zX p s m meth c cX9_sum 2 args RX9 (some FieldType.int) A D (zty cy) := C
  obtain ⟨hx, hb, hr, hts, hown, hlocks, hml, hA, hK⟩ := id C
  have hl : lv_has ls 2 [(0, .ref (ht 0)), (1, .int x1)] := hl
  generalize hH : s.heap = H at hP ⊢
  have hS : va_S A s.heap H [] := by rw [← hH]; exact hS
  generalize ([] : List Loc) = locs at hS ⊢
  refine lv_aload_n hx hb dX9_sum_0 rfl (lv_at hl 0 rfl) ?_
  refine va_get (D := D) (ci := 5) (v := .ref (ht_rows 0)) (C := RX9) (T := TX9) (N := 7) hx hb hts in_X9 hown hK hP 0 rfl rfl 1 (by decide) (hts _ q2_20) (fun _ h9 => h9) rfl dX9_sum_1 ?_
  refine lv_iload_n hx hb dX9_sum_4 rfl (lv_at hl 1 rfl) ?_
  obtain ⟨q1, hc, hf⟩ := zbd hf
  refine z_cVi (As := [.int x1]) (rest := []) C (c_X6_runs l D cy ht_rows St_rows x1 q1 hc) gV_X9_X6_runs hd_X6_runs ⟨Nat.le_of_ble_eq_true rfl, Nat.le_of_ble_eq_true rfl⟩ ⟨Nat.le_refl _, Nat.le_refl _⟩ (va_recv hK hP (ci := 3) (q0 := 1) rfl rfl) hP hD hS (w2 := wSR ht (ht_reader 0) (ht_rows 0) (ht_evidence 0) (ht_history 0) cy St ++ (wRows ht_rows cy St_rows)) [1, 2, 3, 4, 5, 6, 7, 8] [0] [0, 1, 2, 3, 4, 5, 6, 7, 8] rfl rfl rfl rfl rfl rfl (by decide) hl.1 (Nat.le_of_ble_eq_true rfl) dX9_sum_5 (fun H locs hP hD hS => ?_)
  refine z_if_eq (tgt := 33) hx hb dX9_sum_8 (by decide) hf (fun hf => ?_) (fun hf => ?_)
  · refine lv_aload_n hx hb dX9_sum_33 rfl (lv_at hl 0 rfl) ?_
    refine lv_iconst (v := (1 : Int32)) hx hb dX9_sum_34 (by decide) ?_
    obtain ⟨q2, hc, hf⟩ := zbd hf
    refine z_cVi (As := [.int (1 : Int32)]) (rest := []) C (c_X9_refuse l D cy ht ht_reader ht_rows ht_evidence ht_history St (1 : Int32) q2 hc) gV_X9_X9_refuse hd_X9_refuse ⟨Nat.le_of_ble_eq_true rfl, Nat.le_of_ble_eq_true rfl⟩ ⟨Nat.le_refl _, Nat.le_refl _⟩ (va_recv hK hP (ci := 5) (q0 := 0) rfl rfl) hP hD hS (w2 := wSR ht (ht_reader 0) (ht_rows 0) (ht_evidence 0) (ht_history 0) cy q2.2 ++ (wRows ht_rows cy St_rows)) [0] [1, 2, 3, 4, 5, 6, 7, 8] [8, 0, 1, 2, 3, 4, 5, 6, 7] rfl rfl rfl rfl rfl rfl (by decide) hl.1 (Nat.le_of_ble_eq_true rfl) dX9_sum_35 (fun H locs hP hD hS => ?_)
    obtain rfl := Option.some.inj hf
    exact z_iret (v := q2.1) C hP hD hS dX9_sum_38
  · refine lv_aload_n hx hb dX9_sum_11 rfl (lv_at hl 0 rfl) ?_
    refine lv_aload_n hx hb dX9_sum_12 rfl (lv_at hl 0 rfl) ?_
    refine va_get (D := D) (ci := 5) (v := .ref (ht_rows 0)) (C := RX9) (T := TX9) (N := 7) hx hb hts in_X9 hown hK hP 0 rfl rfl 1 (by decide) (hts _ q2_20) (fun _ h9 => h9) rfl dX9_sum_13 ?_
    refine lv_aload_n hx hb dX9_sum_16 rfl (lv_at hl 0 rfl) ?_
    refine va_get (D := D) (ci := 5) (v := .ref (ht_rows 0)) (C := RX9) (T := TX9) (N := 7) hx hb hts in_X9 hown hK hP 0 rfl rfl 1 (by decide) (hts _ q2_20) (fun _ h9 => h9) rfl dX9_sum_17 ?_
    refine lv_iload_n hx hb dX9_sum_20 rfl (lv_at hl 1 rfl) ?_
    obtain ⟨q3, hc, hf⟩ := zbd hf
    refine z_cVl (As := [.int x1]) (rest := [.ref (ht_rows 0), .ref (ht 0)]) C (c_X6_countingFor l D cy ht_rows St_rows x1 q3 hc) gV_X9_X6_countingFor hd_X6_countingFor ⟨Nat.le_of_ble_eq_true rfl, Nat.le_of_ble_eq_true rfl⟩ ⟨Nat.le_refl _, Nat.le_refl _⟩ (va_recv hK hP (ci := 3) (q0 := 1) rfl rfl) hP hD hS (w2 := wSR ht (ht_reader 0) (ht_rows 0) (ht_evidence 0) (ht_history 0) cy St ++ (wRows ht_rows cy St_rows)) [1, 2, 3, 4, 5, 6, 7, 8] [0] [0, 1, 2, 3, 4, 5, 6, 7, 8] rfl rfl rfl rfl rfl rfl (by decide) hl.1 (Nat.le_of_ble_eq_true rfl) dX9_sum_21 (fun H locs hP hD hS => ?_)
    obtain ⟨q4, hc, hf⟩ := zbd hf
    refine z_cVi (As := [.long q3]) (rest := [.ref (ht 0)]) C (c_X6_sumSeen l D cy ht_rows St_rows q3 q4 hc) gV_X9_X6_sumSeen hd_X6_sumSeen ⟨Nat.le_of_ble_eq_true rfl, Nat.le_of_ble_eq_true rfl⟩ ⟨Nat.le_refl _, Nat.le_refl _⟩ (va_recv hK hP (ci := 3) (q0 := 1) rfl rfl) hP hD hS (w2 := wSR ht (ht_reader 0) (ht_rows 0) (ht_evidence 0) (ht_history 0) cy St ++ (wRows ht_rows cy St_rows)) [1, 2, 3, 4, 5, 6, 7, 8] [0] [0, 1, 2, 3, 4, 5, 6, 7, 8] rfl rfl rfl rfl rfl rfl (by decide) hl.1 (Nat.le_of_ble_eq_true rfl) dX9_sum_24 (fun H locs hP hD hS => ?_)
    obtain ⟨q5, hc, hf⟩ := zbd hf
    refine z_cVi (As := [.int q4]) (rest := []) C (c_X9_answer l D cy ht ht_reader ht_rows ht_evidence ht_history St q4 q5 hc) gV_X9_X9_answer hd_X9_answer ⟨Nat.le_of_ble_eq_true rfl, Nat.le_of_ble_eq_true rfl⟩ ⟨Nat.le_refl _, Nat.le_refl _⟩ (va_recv hK hP (ci := 5) (q0 := 0) rfl rfl) hP hD hS (w2 := wSR ht (ht_reader 0) (ht_rows 0) (ht_evidence 0) (ht_history 0) cy q5.2 ++ (wRows ht_rows cy St_rows)) [0] [1, 2, 3, 4, 5, 6, 7, 8] [8, 0, 1, 2, 3, 4, 5, 6, 7] rfl rfl rfl rfl rfl rfl (by decide) hl.1 (Nat.le_of_ble_eq_true rfl) dX9_sum_27 (fun H locs hP hD hS => ?_)
    refine lv_goto (tgt := 38) hx hb dX9_sum_30 (by decide) ?_
    obtain rfl := Option.some.inj hf
    exact z_iret (v := q5.1) C hP hD hS dX9_sum_38
def b_X9_differ_53 (St_rows : SRows) (x1 : Int32) (x2 : Int32) (k53 : SSR → Int64 → Int64 → Int32 → Int32 → Option (Int32 × SSR)) (St : SSR) (v3 : Int64) (v5 : Int64) (v7 : Int32) (v8 : Int32) : Option (Int32 × SSR) :=
  (if (Rows_rowCount St_rows) ≤ v8 then
    (f_X9_answer St v7).bind (fun q1 =>
      some (q1.1, q1.2))
    else
    (f_X6_versionSeen St_rows v8 v3).bind (fun q2 =>
      (f_X6_versionSeen St_rows v8 v5).bind (fun q3 =>
        (if q2 = q3 then
          (k53 St v3 v5 v7 (v8 + (1 : Int32)))
          else
          (k53 St v3 v5 (v7 ||| ((1 : Int32) <<< (v8 &&& 31))) (v8 + (1 : Int32)))))))
set_option maxHeartbeats 4000000 in
set_option maxRecDepth 100000 in
theorem w_X9_differ_53 {p : Program} {e : Env} {s : State} {m : MethodId} {below : List Frame} {meth : Method} {c : Code} {A : Nat → Prop} {D : va_G} {cy : Nat → ClassId} {args : Array Value} {r : Int32 × SSR} (l : Launch) (ht : Nat → Nat) (ht_reader : Nat → Nat) (ht_rows : Nat → Nat) (ht_evidence : Nat → Nat) (ht_history : Nat → Nat) (St_rows : SRows) (x1 : Int32) (x2 : Int32) (C : zX p s m meth c cX9_differ 9 args RX9 (some FieldType.int) A D (zty cy)) :
    ∀ (n : Nat) (St : SSR) (v3 : Int64) (v5 : Int64) (v7 : Int32) (v8 : Int32) (H : Heap) (locs : List Loc) (ls : Array Slot), zl5 (b_X9_differ_53 St_rows x1 x2) n St v3 v5 v7 v8 = some r → va_P D vwCl (wSR ht (ht_reader 0) (ht_rows 0) (ht_evidence 0) (ht_history 0) cy St ++ (wRows ht_rows cy St_rows)) H → va_D A (wSR ht (ht_reader 0) (ht_rows 0) (ht_evidence 0) (ht_history 0) cy St ++ (wRows ht_rows cy St_rows)) → va_S A s.heap H locs → lv_has ls 9 [(0, .ref (ht 0)), (3, .long v3), (5, .long v5), (7, .int v7), (8, .int v8)] → W p l e (zRm 3 71) s m args below meth c H locs 0 0 (MQ below (zQI D (zty cy) A (wSR ht (ht_reader 0) (ht_rows 0) (ht_evidence 0) (ht_history 0) cy r.2 ++ (wRows ht_rows cy St_rows)) r.1) args s 0 0 A) (F0 m 53 ls []) := by
  obtain ⟨hx, hb, hr, hts, hown, hlocks, hml, hA, hK⟩ := id C
  intro n
  induction n with
  | zero => intro St v3 v5 v7 v8 H locs ls hf; exact zno hf
  | succ n ih =>
    intro St v3 v5 v7 v8 H locs ls hf hP hD hS hl
    have hf : b_X9_differ_53 St_rows x1 x2 (zl5 (b_X9_differ_53 St_rows x1 x2) n) St v3 v5 v7 v8 = some r := hf
    have K53 := ih
    refine lv_iload hx hb dX9_differ_53 (lv_at hl 4 rfl) ?_
    refine lv_aload_n hx hb dX9_differ_55 rfl (lv_at hl 0 rfl) ?_
    refine va_get (D := D) (ci := 5) (v := .ref (ht_rows 0)) (C := RX9) (T := TX9) (N := 7) hx hb hts in_X9 hown hK hP 0 rfl rfl 1 (by decide) (hts _ q2_20) (fun _ h9 => h9) rfl dX9_differ_56 ?_
    refine va_get (D := D) (ci := 3) (v := .int (Rows_rowCount St_rows)) (C := RX6) (T := TX6) (N := 16) hx hb hts in_X6 hown hK hP 1 rfl rfl 1 (by decide) (hts _ q1_54) (fun _ h9 => h9) rfl dX9_differ_59 ?_
    refine z_icmp_ge (tgt := 104) hx hb dX9_differ_62 (by decide) hf (fun hf => ?_) (fun hf => ?_)
    · refine lv_aload_n hx hb dX9_differ_104 rfl (lv_at hl 0 rfl) ?_
      refine lv_iload hx hb dX9_differ_105 (lv_at hl 3 rfl) ?_
      obtain ⟨q1, hc, hf⟩ := zbd hf
      refine z_cVi (As := [.int v7]) (rest := []) C (c_X9_answer l D cy ht ht_reader ht_rows ht_evidence ht_history St v7 q1 hc) gV_X9_X9_answer hd_X9_answer ⟨Nat.le_of_ble_eq_true rfl, Nat.le_of_ble_eq_true rfl⟩ ⟨Nat.le_refl _, Nat.le_refl _⟩ (va_recv hK hP (ci := 5) (q0 := 0) rfl rfl) hP hD hS (w2 := wSR ht (ht_reader 0) (ht_rows 0) (ht_evidence 0) (ht_history 0) cy q1.2 ++ (wRows ht_rows cy St_rows)) [0] [1, 2, 3, 4, 5, 6, 7, 8] [8, 0, 1, 2, 3, 4, 5, 6, 7] rfl rfl rfl rfl rfl rfl (by decide) hl.1 (Nat.le_of_ble_eq_true rfl) dX9_differ_107 (fun H locs hP hD hS => ?_)
      obtain rfl := Option.some.inj hf
      exact z_iret (v := q1.1) C hP hD hS dX9_differ_110
    · refine lv_aload_n hx hb dX9_differ_65 rfl (lv_at hl 0 rfl) ?_
      refine va_get (D := D) (ci := 5) (v := .ref (ht_rows 0)) (C := RX9) (T := TX9) (N := 7) hx hb hts in_X9 hown hK hP 0 rfl rfl 1 (by decide) (hts _ q2_20) (fun _ h9 => h9) rfl dX9_differ_66 ?_
      refine lv_iload hx hb dX9_differ_69 (lv_at hl 4 rfl) ?_
      refine lv_lload_n hx hb dX9_differ_71 rfl (lv_at hl 1 rfl) ?_
      obtain ⟨q2, hc, hf⟩ := zbd hf
      refine z_cVi (As := [.int v8, .long v3]) (rest := []) C (c_X6_versionSeen l D cy ht_rows St_rows v8 v3 q2 hc) gV_X9_X6_versionSeen hd_X6_versionSeen ⟨Nat.le_of_ble_eq_true rfl, Nat.le_of_ble_eq_true rfl⟩ ⟨Nat.le_refl _, Nat.le_refl _⟩ (va_recv hK hP (ci := 3) (q0 := 1) rfl rfl) hP hD hS (w2 := wSR ht (ht_reader 0) (ht_rows 0) (ht_evidence 0) (ht_history 0) cy St ++ (wRows ht_rows cy St_rows)) [1, 2, 3, 4, 5, 6, 7, 8] [0] [0, 1, 2, 3, 4, 5, 6, 7, 8] rfl rfl rfl rfl rfl rfl (by decide) hl.1 (Nat.le_of_ble_eq_true rfl) dX9_differ_72 (fun H locs hP hD hS => ?_)
      refine lv_aload_n hx hb dX9_differ_75 rfl (lv_at hl 0 rfl) ?_
      refine va_get (D := D) (ci := 5) (v := .ref (ht_rows 0)) (C := RX9) (T := TX9) (N := 7) hx hb hts in_X9 hown hK hP 0 rfl rfl 1 (by decide) (hts _ q2_20) (fun _ h9 => h9) rfl dX9_differ_76 ?_
      refine lv_iload hx hb dX9_differ_79 (lv_at hl 4 rfl) ?_
      refine lv_lload hx hb dX9_differ_81 (lv_at hl 2 rfl) ?_
      obtain ⟨q3, hc, hf⟩ := zbd hf
      refine z_cVi (As := [.int v8, .long v5]) (rest := [.int q2]) C (c_X6_versionSeen l D cy ht_rows St_rows v8 v5 q3 hc) gV_X9_X6_versionSeen hd_X6_versionSeen ⟨Nat.le_of_ble_eq_true rfl, Nat.le_of_ble_eq_true rfl⟩ ⟨Nat.le_refl _, Nat.le_refl _⟩ (va_recv hK hP (ci := 3) (q0 := 1) rfl rfl) hP hD hS (w2 := wSR ht (ht_reader 0) (ht_rows 0) (ht_evidence 0) (ht_history 0) cy St ++ (wRows ht_rows cy St_rows)) [1, 2, 3, 4, 5, 6, 7, 8] [0] [0, 1, 2, 3, 4, 5, 6, 7, 8] rfl rfl rfl rfl rfl rfl (by decide) hl.1 (Nat.le_of_ble_eq_true rfl) dX9_differ_83 (fun H locs hP hD hS => ?_)
      refine z_icmp_eq (tgt := 98) hx hb dX9_differ_86 (by decide) hf (fun hf => ?_) (fun hf => ?_)
      · refine lv_iinc (v := (v8 + (1 : Int32))) (lv' := [(8, .int (v8 + (1 : Int32))), (0, .ref (ht 0)), (3, .long v3), (5, .long v5), (7, .int v7)]) hx hb dX9_differ_98 hl (k := 4) rfl rfl (by decide) rfl (fun ls hl => ?_)
        refine lv_goto (tgt := 53) hx hb dX9_differ_101 (by decide) ?_
        exact K53 St v3 v5 v7 (v8 + (1 : Int32)) H locs ls hf hP hD hS (lv_sub hl [1, 2, 3, 4, 0] rfl)
      · refine lv_iload hx hb dX9_differ_89 (lv_at hl 3 rfl) ?_
        refine lv_iconst (v := (1 : Int32)) hx hb dX9_differ_91 (by decide) ?_
        refine lv_iload hx hb dX9_differ_92 (lv_at hl 4 rfl) ?_
        refine lv_ishl hx hb dX9_differ_94 ?_
        refine lv_ior hx hb dX9_differ_95 ?_
        refine lv_istore (lv' := [(7, .int (v7 ||| ((1 : Int32) <<< (v8 &&& 31)))), (0, .ref (ht 0)), (3, .long v3), (5, .long v5), (8, .int v8)]) hx hb dX9_differ_96 hl (by decide) rfl (fun ls hl => ?_)
        refine lv_iinc (v := (v8 + (1 : Int32))) (lv' := [(8, .int (v8 + (1 : Int32))), (7, .int (v7 ||| ((1 : Int32) <<< (v8 &&& 31)))), (0, .ref (ht 0)), (3, .long v3), (5, .long v5)]) hx hb dX9_differ_98 hl (k := 4) rfl rfl (by decide) rfl (fun ls hl => ?_)
        refine lv_goto (tgt := 53) hx hb dX9_differ_101 (by decide) ?_
        exact K53 St v3 v5 (v7 ||| ((1 : Int32) <<< (v8 &&& 31))) (v8 + (1 : Int32)) H locs ls hf hP hD hS (lv_sub hl [2, 3, 4, 1, 0] rfl)
def f_X9_differ (St : SSR) (St_rows : SRows) (x1 : Int32) (x2 : Int32) : Option (Int32 × SSR) :=
  (f_X6_runs St_rows x1).bind (fun q4 =>
    (if q4 = 0 then
      (f_X9_refuse St (1 : Int32)).bind (fun q5 =>
        some (q5.1, q5.2))
      else
      (f_X6_runs St_rows x2).bind (fun q6 =>
        (if q6 = 0 then
          (f_X9_refuse St (1 : Int32)).bind (fun q9 =>
            some (q9.1, q9.2))
          else
          (f_X6_countingFor St_rows x1).bind (fun q7 =>
            (f_X6_countingFor St_rows x2).bind (fun q8 =>
              (zl5 (b_X9_differ_53 St_rows x1 x2) FU St q7 q8 (0 : Int32) (0 : Int32))))))))
set_option maxHeartbeats 4000000 in
set_option maxRecDepth 100000 in
theorem c_X9_differ (l : Launch) (D : va_G) (cy : Nat → ClassId) (ht : Nat → Nat) (ht_reader : Nat → Nat) (ht_rows : Nat → Nat) (ht_evidence : Nat → Nat) (ht_history : Nat → Nat) (St : SSR) (St_rows : SRows) (x1 : Int32) (x2 : Int32) (r : Int32 × SSR) (hf : f_X9_differ St St_rows x1 x2 = some r) : zCI l yX9_differ cX9_differ 9 (some FieldType.int) 3 71 D (zty cy) [.ref (ht 0), .int x1, .int x2] (wSR ht (ht_reader 0) (ht_rows 0) (ht_evidence 0) (ht_history 0) cy St ++ (wRows ht_rows cy St_rows)) (wSR ht (ht_reader 0) (ht_rows 0) (ht_evidence 0) (ht_history 0) cy r.2 ++ (wRows ht_rows cy St_rows)) r.1 := by
  refine zCI_of (by decide +kernel) (Nat.le_of_ble_eq_true rfl) ?_
  intro p e s m below meth c A ls C hP hD hS hl
  generalize hargs : ([.ref (ht 0), .int x1, .int x2] : List Value).toArray = args at C ⊢
  have C : zX p s m meth c cX9_differ 9 args RX9 (some FieldType.int) A D (zty cy) := C
  obtain ⟨hx, hb, hr, hts, hown, hlocks, hml, hA, hK⟩ := id C
  have hl : lv_has ls 9 [(0, .ref (ht 0)), (1, .int x1), (2, .int x2)] := hl
  generalize hH : s.heap = H at hP ⊢
  have hS : va_S A s.heap H [] := by rw [← hH]; exact hS
  generalize ([] : List Loc) = locs at hS ⊢
  refine lv_aload_n hx hb dX9_differ_0 rfl (lv_at hl 0 rfl) ?_
  refine va_get (D := D) (ci := 5) (v := .ref (ht_rows 0)) (C := RX9) (T := TX9) (N := 7) hx hb hts in_X9 hown hK hP 0 rfl rfl 1 (by decide) (hts _ q2_20) (fun _ h9 => h9) rfl dX9_differ_1 ?_
  refine lv_iload_n hx hb dX9_differ_4 rfl (lv_at hl 1 rfl) ?_
  obtain ⟨q4, hc, hf⟩ := zbd hf
  refine z_cVi (As := [.int x1]) (rest := []) C (c_X6_runs l D cy ht_rows St_rows x1 q4 hc) gV_X9_X6_runs hd_X6_runs ⟨Nat.le_of_ble_eq_true rfl, Nat.le_of_ble_eq_true rfl⟩ ⟨Nat.le_refl _, Nat.le_refl _⟩ (va_recv hK hP (ci := 3) (q0 := 1) rfl rfl) hP hD hS (w2 := wSR ht (ht_reader 0) (ht_rows 0) (ht_evidence 0) (ht_history 0) cy St ++ (wRows ht_rows cy St_rows)) [1, 2, 3, 4, 5, 6, 7, 8] [0] [0, 1, 2, 3, 4, 5, 6, 7, 8] rfl rfl rfl rfl rfl rfl (by decide) hl.1 (Nat.le_of_ble_eq_true rfl) dX9_differ_5 (fun H locs hP hD hS => ?_)
  refine z_if_eq (tgt := 22) hx hb dX9_differ_8 (by decide) hf (fun hf => ?_) (fun hf => ?_)
  · refine lv_aload_n hx hb dX9_differ_22 rfl (lv_at hl 0 rfl) ?_
    refine lv_iconst (v := (1 : Int32)) hx hb dX9_differ_23 (by decide) ?_
    obtain ⟨q5, hc, hf⟩ := zbd hf
    refine z_cVi (As := [.int (1 : Int32)]) (rest := []) C (c_X9_refuse l D cy ht ht_reader ht_rows ht_evidence ht_history St (1 : Int32) q5 hc) gV_X9_X9_refuse hd_X9_refuse ⟨Nat.le_of_ble_eq_true rfl, Nat.le_of_ble_eq_true rfl⟩ ⟨Nat.le_refl _, Nat.le_refl _⟩ (va_recv hK hP (ci := 5) (q0 := 0) rfl rfl) hP hD hS (w2 := wSR ht (ht_reader 0) (ht_rows 0) (ht_evidence 0) (ht_history 0) cy q5.2 ++ (wRows ht_rows cy St_rows)) [0] [1, 2, 3, 4, 5, 6, 7, 8] [8, 0, 1, 2, 3, 4, 5, 6, 7] rfl rfl rfl rfl rfl rfl (by decide) hl.1 (Nat.le_of_ble_eq_true rfl) dX9_differ_24 (fun H locs hP hD hS => ?_)
    obtain rfl := Option.some.inj hf
    exact z_iret (v := q5.1) C hP hD hS dX9_differ_27
  · refine lv_aload_n hx hb dX9_differ_11 rfl (lv_at hl 0 rfl) ?_
    refine va_get (D := D) (ci := 5) (v := .ref (ht_rows 0)) (C := RX9) (T := TX9) (N := 7) hx hb hts in_X9 hown hK hP 0 rfl rfl 1 (by decide) (hts _ q2_20) (fun _ h9 => h9) rfl dX9_differ_12 ?_
    refine lv_iload_n hx hb dX9_differ_15 rfl (lv_at hl 2 rfl) ?_
    obtain ⟨q6, hc, hf⟩ := zbd hf
    refine z_cVi (As := [.int x2]) (rest := []) C (c_X6_runs l D cy ht_rows St_rows x2 q6 hc) gV_X9_X6_runs hd_X6_runs ⟨Nat.le_of_ble_eq_true rfl, Nat.le_of_ble_eq_true rfl⟩ ⟨Nat.le_refl _, Nat.le_refl _⟩ (va_recv hK hP (ci := 3) (q0 := 1) rfl rfl) hP hD hS (w2 := wSR ht (ht_reader 0) (ht_rows 0) (ht_evidence 0) (ht_history 0) cy St ++ (wRows ht_rows cy St_rows)) [1, 2, 3, 4, 5, 6, 7, 8] [0] [0, 1, 2, 3, 4, 5, 6, 7, 8] rfl rfl rfl rfl rfl rfl (by decide) hl.1 (Nat.le_of_ble_eq_true rfl) dX9_differ_16 (fun H locs hP hD hS => ?_)
    refine z_if_ne (tgt := 28) hx hb dX9_differ_19 (by decide) hf (fun hf => ?_) (fun hf => ?_)
    · refine lv_aload_n hx hb dX9_differ_28 rfl (lv_at hl 0 rfl) ?_
      refine va_get (D := D) (ci := 5) (v := .ref (ht_rows 0)) (C := RX9) (T := TX9) (N := 7) hx hb hts in_X9 hown hK hP 0 rfl rfl 1 (by decide) (hts _ q2_20) (fun _ h9 => h9) rfl dX9_differ_29 ?_
      refine lv_iload_n hx hb dX9_differ_32 rfl (lv_at hl 1 rfl) ?_
      obtain ⟨q7, hc, hf⟩ := zbd hf
      refine z_cVl (As := [.int x1]) (rest := []) C (c_X6_countingFor l D cy ht_rows St_rows x1 q7 hc) gV_X9_X6_countingFor hd_X6_countingFor ⟨Nat.le_of_ble_eq_true rfl, Nat.le_of_ble_eq_true rfl⟩ ⟨Nat.le_refl _, Nat.le_refl _⟩ (va_recv hK hP (ci := 3) (q0 := 1) rfl rfl) hP hD hS (w2 := wSR ht (ht_reader 0) (ht_rows 0) (ht_evidence 0) (ht_history 0) cy St ++ (wRows ht_rows cy St_rows)) [1, 2, 3, 4, 5, 6, 7, 8] [0] [0, 1, 2, 3, 4, 5, 6, 7, 8] rfl rfl rfl rfl rfl rfl (by decide) hl.1 (Nat.le_of_ble_eq_true rfl) dX9_differ_33 (fun H locs hP hD hS => ?_)
      refine lv_lstore_n (lv' := [(3, .long q7), (0, .ref (ht 0)), (1, .int x1), (2, .int x2)]) hx hb dX9_differ_36 rfl hl (by decide) rfl (fun ls hl => ?_)
      refine lv_aload_n hx hb dX9_differ_37 rfl (lv_at hl 1 rfl) ?_
      refine va_get (D := D) (ci := 5) (v := .ref (ht_rows 0)) (C := RX9) (T := TX9) (N := 7) hx hb hts in_X9 hown hK hP 0 rfl rfl 1 (by decide) (hts _ q2_20) (fun _ h9 => h9) rfl dX9_differ_38 ?_
      refine lv_iload_n hx hb dX9_differ_41 rfl (lv_at hl 3 rfl) ?_
      obtain ⟨q8, hc, hf⟩ := zbd hf
      refine z_cVl (As := [.int x2]) (rest := []) C (c_X6_countingFor l D cy ht_rows St_rows x2 q8 hc) gV_X9_X6_countingFor hd_X6_countingFor ⟨Nat.le_of_ble_eq_true rfl, Nat.le_of_ble_eq_true rfl⟩ ⟨Nat.le_refl _, Nat.le_refl _⟩ (va_recv hK hP (ci := 3) (q0 := 1) rfl rfl) hP hD hS (w2 := wSR ht (ht_reader 0) (ht_rows 0) (ht_evidence 0) (ht_history 0) cy St ++ (wRows ht_rows cy St_rows)) [1, 2, 3, 4, 5, 6, 7, 8] [0] [0, 1, 2, 3, 4, 5, 6, 7, 8] rfl rfl rfl rfl rfl rfl (by decide) hl.1 (Nat.le_of_ble_eq_true rfl) dX9_differ_42 (fun H locs hP hD hS => ?_)
      refine lv_lstore (lv' := [(5, .long q8), (3, .long q7), (0, .ref (ht 0)), (1, .int x1), (2, .int x2)]) hx hb dX9_differ_45 hl (by decide) rfl (fun ls hl => ?_)
      refine lv_iconst (v := (0 : Int32)) hx hb dX9_differ_47 (by decide) ?_
      refine lv_istore (lv' := [(7, .int (0 : Int32)), (5, .long q8), (3, .long q7), (0, .ref (ht 0)), (1, .int x1), (2, .int x2)]) hx hb dX9_differ_48 hl (by decide) rfl (fun ls hl => ?_)
      refine lv_iconst (v := (0 : Int32)) hx hb dX9_differ_50 (by decide) ?_
      refine lv_istore (lv' := [(8, .int (0 : Int32)), (7, .int (0 : Int32)), (5, .long q8), (3, .long q7), (0, .ref (ht 0)), (1, .int x1), (2, .int x2)]) hx hb dX9_differ_51 hl (by decide) rfl (fun ls hl => ?_)
      exact w_X9_differ_53 l ht ht_reader ht_rows ht_evidence ht_history St_rows x1 x2 C FU St q7 q8 (0 : Int32) (0 : Int32) H locs ls hf hP hD hS (lv_sub hl [4, 3, 2, 1, 0] rfl)
    · refine lv_aload_n hx hb dX9_differ_22 rfl (lv_at hl 0 rfl) ?_
      refine lv_iconst (v := (1 : Int32)) hx hb dX9_differ_23 (by decide) ?_
      obtain ⟨q9, hc, hf⟩ := zbd hf
      refine z_cVi (As := [.int (1 : Int32)]) (rest := []) C (c_X9_refuse l D cy ht ht_reader ht_rows ht_evidence ht_history St (1 : Int32) q9 hc) gV_X9_X9_refuse hd_X9_refuse ⟨Nat.le_of_ble_eq_true rfl, Nat.le_of_ble_eq_true rfl⟩ ⟨Nat.le_refl _, Nat.le_refl _⟩ (va_recv hK hP (ci := 5) (q0 := 0) rfl rfl) hP hD hS (w2 := wSR ht (ht_reader 0) (ht_rows 0) (ht_evidence 0) (ht_history 0) cy q9.2 ++ (wRows ht_rows cy St_rows)) [0] [1, 2, 3, 4, 5, 6, 7, 8] [8, 0, 1, 2, 3, 4, 5, 6, 7] rfl rfl rfl rfl rfl rfl (by decide) hl.1 (Nat.le_of_ble_eq_true rfl) dX9_differ_24 (fun H locs hP hD hS => ?_)
      obtain rfl := Option.some.inj hf
      exact z_iret (v := q9.1) C hP hD hS dX9_differ_27
def f_X9_fresh (St : SSR) (St_rows : SRows) (x1 : Int32) : Option (Int32 × SSR) :=
  (f_X6_isRow St_rows x1).bind (fun q1 =>
    (if q1 = 0 then
      (f_X9_refuse St (1 : Int32)).bind (fun q2 =>
        some (q2.1, q2.2))
      else
      (f_X6_countingFresh St_rows).bind (fun q3 =>
        (f_X6_valueSeen St_rows x1 q3).bind (fun q4 =>
          (f_X9_answer St q4).bind (fun q5 =>
            some (q5.1, q5.2))))))
set_option maxHeartbeats 4000000 in
set_option maxRecDepth 100000 in
theorem c_X9_fresh (l : Launch) (D : va_G) (cy : Nat → ClassId) (ht : Nat → Nat) (ht_reader : Nat → Nat) (ht_rows : Nat → Nat) (ht_evidence : Nat → Nat) (ht_history : Nat → Nat) (St : SSR) (St_rows : SRows) (x1 : Int32) (r : Int32 × SSR) (hf : f_X9_fresh St St_rows x1 = some r) : zCI l yX9_fresh cX9_fresh 2 (some FieldType.int) 4 94 D (zty cy) [.ref (ht 0), .int x1] (wSR ht (ht_reader 0) (ht_rows 0) (ht_evidence 0) (ht_history 0) cy St ++ (wRows ht_rows cy St_rows)) (wSR ht (ht_reader 0) (ht_rows 0) (ht_evidence 0) (ht_history 0) cy r.2 ++ (wRows ht_rows cy St_rows)) r.1 := by
  refine zCI_of (by decide +kernel) (Nat.le_of_ble_eq_true rfl) ?_
  intro p e s m below meth c A ls C hP hD hS hl
  generalize hargs : ([.ref (ht 0), .int x1] : List Value).toArray = args at C ⊢
  have C : zX p s m meth c cX9_fresh 2 args RX9 (some FieldType.int) A D (zty cy) := C
  obtain ⟨hx, hb, hr, hts, hown, hlocks, hml, hA, hK⟩ := id C
  have hl : lv_has ls 2 [(0, .ref (ht 0)), (1, .int x1)] := hl
  generalize hH : s.heap = H at hP ⊢
  have hS : va_S A s.heap H [] := by rw [← hH]; exact hS
  generalize ([] : List Loc) = locs at hS ⊢
  refine lv_aload_n hx hb dX9_fresh_0 rfl (lv_at hl 0 rfl) ?_
  refine va_get (D := D) (ci := 5) (v := .ref (ht_rows 0)) (C := RX9) (T := TX9) (N := 7) hx hb hts in_X9 hown hK hP 0 rfl rfl 1 (by decide) (hts _ q2_20) (fun _ h9 => h9) rfl dX9_fresh_1 ?_
  refine lv_iload_n hx hb dX9_fresh_4 rfl (lv_at hl 1 rfl) ?_
  obtain ⟨q1, hc, hf⟩ := zbd hf
  refine z_cVi (As := [.int x1]) (rest := []) C (c_X6_isRow l D cy ht_rows St_rows x1 q1 hc) gV_X9_X6_isRow hd_X6_isRow ⟨Nat.le_of_ble_eq_true rfl, Nat.le_of_ble_eq_true rfl⟩ ⟨Nat.le_refl _, Nat.le_refl _⟩ (va_recv hK hP (ci := 3) (q0 := 1) rfl rfl) hP hD hS (w2 := wSR ht (ht_reader 0) (ht_rows 0) (ht_evidence 0) (ht_history 0) cy St ++ (wRows ht_rows cy St_rows)) [1, 2, 3, 4, 5, 6, 7, 8] [0] [0, 1, 2, 3, 4, 5, 6, 7, 8] rfl rfl rfl rfl rfl rfl (by decide) hl.1 (Nat.le_of_ble_eq_true rfl) dX9_fresh_5 (fun H locs hP hD hS => ?_)
  refine z_if_eq (tgt := 33) hx hb dX9_fresh_8 (by decide) hf (fun hf => ?_) (fun hf => ?_)
  · refine lv_aload_n hx hb dX9_fresh_33 rfl (lv_at hl 0 rfl) ?_
    refine lv_iconst (v := (1 : Int32)) hx hb dX9_fresh_34 (by decide) ?_
    obtain ⟨q2, hc, hf⟩ := zbd hf
    refine z_cVi (As := [.int (1 : Int32)]) (rest := []) C (c_X9_refuse l D cy ht ht_reader ht_rows ht_evidence ht_history St (1 : Int32) q2 hc) gV_X9_X9_refuse hd_X9_refuse ⟨Nat.le_of_ble_eq_true rfl, Nat.le_of_ble_eq_true rfl⟩ ⟨Nat.le_refl _, Nat.le_refl _⟩ (va_recv hK hP (ci := 5) (q0 := 0) rfl rfl) hP hD hS (w2 := wSR ht (ht_reader 0) (ht_rows 0) (ht_evidence 0) (ht_history 0) cy q2.2 ++ (wRows ht_rows cy St_rows)) [0] [1, 2, 3, 4, 5, 6, 7, 8] [8, 0, 1, 2, 3, 4, 5, 6, 7] rfl rfl rfl rfl rfl rfl (by decide) hl.1 (Nat.le_of_ble_eq_true rfl) dX9_fresh_35 (fun H locs hP hD hS => ?_)
    obtain rfl := Option.some.inj hf
    exact z_iret (v := q2.1) C hP hD hS dX9_fresh_38
  · refine lv_aload_n hx hb dX9_fresh_11 rfl (lv_at hl 0 rfl) ?_
    refine lv_aload_n hx hb dX9_fresh_12 rfl (lv_at hl 0 rfl) ?_
    refine va_get (D := D) (ci := 5) (v := .ref (ht_rows 0)) (C := RX9) (T := TX9) (N := 7) hx hb hts in_X9 hown hK hP 0 rfl rfl 1 (by decide) (hts _ q2_20) (fun _ h9 => h9) rfl dX9_fresh_13 ?_
    refine lv_iload_n hx hb dX9_fresh_16 rfl (lv_at hl 1 rfl) ?_
    refine lv_aload_n hx hb dX9_fresh_17 rfl (lv_at hl 0 rfl) ?_
    refine va_get (D := D) (ci := 5) (v := .ref (ht_rows 0)) (C := RX9) (T := TX9) (N := 7) hx hb hts in_X9 hown hK hP 0 rfl rfl 1 (by decide) (hts _ q2_20) (fun _ h9 => h9) rfl dX9_fresh_18 ?_
    obtain ⟨q3, hc, hf⟩ := zbd hf
    refine z_cVl (As := []) (rest := [.int x1, .ref (ht_rows 0), .ref (ht 0)]) C (c_X6_countingFresh l D cy ht_rows St_rows q3 hc) gV_X9_X6_countingFresh hd_X6_countingFresh ⟨Nat.le_of_ble_eq_true rfl, Nat.le_of_ble_eq_true rfl⟩ ⟨Nat.le_refl _, Nat.le_refl _⟩ (va_recv hK hP (ci := 3) (q0 := 1) rfl rfl) hP hD hS (w2 := wSR ht (ht_reader 0) (ht_rows 0) (ht_evidence 0) (ht_history 0) cy St ++ (wRows ht_rows cy St_rows)) [1, 2, 3, 4, 5, 6, 7, 8] [0] [0, 1, 2, 3, 4, 5, 6, 7, 8] rfl rfl rfl rfl rfl rfl (by decide) hl.1 (Nat.le_of_ble_eq_true rfl) dX9_fresh_21 (fun H locs hP hD hS => ?_)
    obtain ⟨q4, hc, hf⟩ := zbd hf
    refine z_cVi (As := [.int x1, .long q3]) (rest := [.ref (ht 0)]) C (c_X6_valueSeen l D cy ht_rows St_rows x1 q3 q4 hc) gV_X9_X6_valueSeen hd_X6_valueSeen ⟨Nat.le_of_ble_eq_true rfl, Nat.le_of_ble_eq_true rfl⟩ ⟨Nat.le_refl _, Nat.le_refl _⟩ (va_recv hK hP (ci := 3) (q0 := 1) rfl rfl) hP hD hS (w2 := wSR ht (ht_reader 0) (ht_rows 0) (ht_evidence 0) (ht_history 0) cy St ++ (wRows ht_rows cy St_rows)) [1, 2, 3, 4, 5, 6, 7, 8] [0] [0, 1, 2, 3, 4, 5, 6, 7, 8] rfl rfl rfl rfl rfl rfl (by decide) hl.1 (Nat.le_of_ble_eq_true rfl) dX9_fresh_24 (fun H locs hP hD hS => ?_)
    obtain ⟨q5, hc, hf⟩ := zbd hf
    refine z_cVi (As := [.int q4]) (rest := []) C (c_X9_answer l D cy ht ht_reader ht_rows ht_evidence ht_history St q4 q5 hc) gV_X9_X9_answer hd_X9_answer ⟨Nat.le_of_ble_eq_true rfl, Nat.le_of_ble_eq_true rfl⟩ ⟨Nat.le_refl _, Nat.le_refl _⟩ (va_recv hK hP (ci := 5) (q0 := 0) rfl rfl) hP hD hS (w2 := wSR ht (ht_reader 0) (ht_rows 0) (ht_evidence 0) (ht_history 0) cy q5.2 ++ (wRows ht_rows cy St_rows)) [0] [1, 2, 3, 4, 5, 6, 7, 8] [8, 0, 1, 2, 3, 4, 5, 6, 7] rfl rfl rfl rfl rfl rfl (by decide) hl.1 (Nat.le_of_ble_eq_true rfl) dX9_fresh_27 (fun H locs hP hD hS => ?_)
    refine lv_goto (tgt := 38) hx hb dX9_fresh_30 (by decide) ?_
    obtain rfl := Option.some.inj hf
    exact z_iret (v := q5.1) C hP hD hS dX9_fresh_38
def f_X9_freshSum (St : SSR) (St_rows : SRows) : Option (Int32 × SSR) :=
  (f_X9_hasStore St St_rows).bind (fun q1 =>
    (if q1 = 0 then
      (f_X9_refuse St (1 : Int32)).bind (fun q2 =>
        some (q2.1, q2.2))
      else
      (f_X6_countingFresh St_rows).bind (fun q3 =>
        (f_X6_sumSeen St_rows q3).bind (fun q4 =>
          (f_X9_answer St q4).bind (fun q5 =>
            some (q5.1, q5.2))))))
set_option maxHeartbeats 4000000 in
set_option maxRecDepth 100000 in
theorem c_X9_freshSum (l : Launch) (D : va_G) (cy : Nat → ClassId) (ht : Nat → Nat) (ht_reader : Nat → Nat) (ht_rows : Nat → Nat) (ht_evidence : Nat → Nat) (ht_history : Nat → Nat) (St : SSR) (St_rows : SRows) (r : Int32 × SSR) (hf : f_X9_freshSum St St_rows = some r) : zCI l yX9_freshSum cX9_freshSum 1 (some FieldType.int) 3 72 D (zty cy) [.ref (ht 0)] (wSR ht (ht_reader 0) (ht_rows 0) (ht_evidence 0) (ht_history 0) cy St ++ (wRows ht_rows cy St_rows)) (wSR ht (ht_reader 0) (ht_rows 0) (ht_evidence 0) (ht_history 0) cy r.2 ++ (wRows ht_rows cy St_rows)) r.1 := by
  refine zCI_of (by decide +kernel) (Nat.le_of_ble_eq_true rfl) ?_
  intro p e s m below meth c A ls C hP hD hS hl
  generalize hargs : ([.ref (ht 0)] : List Value).toArray = args at C ⊢
  have C : zX p s m meth c cX9_freshSum 1 args RX9 (some FieldType.int) A D (zty cy) := C
  obtain ⟨hx, hb, hr, hts, hown, hlocks, hml, hA, hK⟩ := id C
  have hl : lv_has ls 1 [(0, .ref (ht 0))] := hl
  generalize hH : s.heap = H at hP ⊢
  have hS : va_S A s.heap H [] := by rw [← hH]; exact hS
  generalize ([] : List Loc) = locs at hS ⊢
  refine lv_aload_n hx hb dX9_freshSum_0 rfl (lv_at hl 0 rfl) ?_
  obtain ⟨q1, hc, hf⟩ := zbd hf
  refine z_cVi0 (As := []) (rest := []) C (c_X9_hasStore l D cy ht ht_reader ht_rows ht_evidence ht_history St St_rows q1 hc) gV_X9_X9_hasStore hd_X9_hasStore ⟨Nat.le_of_ble_eq_true rfl, Nat.le_of_ble_eq_true rfl⟩ ⟨Nat.le_refl _, Nat.le_refl _⟩ (va_recv hK hP (ci := 5) (q0 := 0) rfl rfl) hP hD hS hl.1 (Nat.le_of_ble_eq_true rfl) dX9_freshSum_1 (fun H locs hP hD hS => ?_)
  have hP : va_P D vwCl (wSR ht (ht_reader 0) (ht_rows 0) (ht_evidence 0) (ht_history 0) cy St ++ (wRows ht_rows cy St_rows)) H := hP
  have hD : va_D A (wSR ht (ht_reader 0) (ht_rows 0) (ht_evidence 0) (ht_history 0) cy St ++ (wRows ht_rows cy St_rows)) := hD
  refine z_if_eq (tgt := 28) hx hb dX9_freshSum_4 (by decide) hf (fun hf => ?_) (fun hf => ?_)
  · refine lv_aload_n hx hb dX9_freshSum_28 rfl (lv_at hl 0 rfl) ?_
    refine lv_iconst (v := (1 : Int32)) hx hb dX9_freshSum_29 (by decide) ?_
    obtain ⟨q2, hc, hf⟩ := zbd hf
    refine z_cVi (As := [.int (1 : Int32)]) (rest := []) C (c_X9_refuse l D cy ht ht_reader ht_rows ht_evidence ht_history St (1 : Int32) q2 hc) gV_X9_X9_refuse hd_X9_refuse ⟨Nat.le_of_ble_eq_true rfl, Nat.le_of_ble_eq_true rfl⟩ ⟨Nat.le_refl _, Nat.le_refl _⟩ (va_recv hK hP (ci := 5) (q0 := 0) rfl rfl) hP hD hS (w2 := wSR ht (ht_reader 0) (ht_rows 0) (ht_evidence 0) (ht_history 0) cy q2.2 ++ (wRows ht_rows cy St_rows)) [0] [1, 2, 3, 4, 5, 6, 7, 8] [8, 0, 1, 2, 3, 4, 5, 6, 7] rfl rfl rfl rfl rfl rfl (by decide) hl.1 (Nat.le_of_ble_eq_true rfl) dX9_freshSum_30 (fun H locs hP hD hS => ?_)
    obtain rfl := Option.some.inj hf
    exact z_iret (v := q2.1) C hP hD hS dX9_freshSum_33
  · refine lv_aload_n hx hb dX9_freshSum_7 rfl (lv_at hl 0 rfl) ?_
    refine lv_aload_n hx hb dX9_freshSum_8 rfl (lv_at hl 0 rfl) ?_
    refine va_get (D := D) (ci := 5) (v := .ref (ht_rows 0)) (C := RX9) (T := TX9) (N := 7) hx hb hts in_X9 hown hK hP 0 rfl rfl 1 (by decide) (hts _ q2_20) (fun _ h9 => h9) rfl dX9_freshSum_9 ?_
    refine lv_aload_n hx hb dX9_freshSum_12 rfl (lv_at hl 0 rfl) ?_
    refine va_get (D := D) (ci := 5) (v := .ref (ht_rows 0)) (C := RX9) (T := TX9) (N := 7) hx hb hts in_X9 hown hK hP 0 rfl rfl 1 (by decide) (hts _ q2_20) (fun _ h9 => h9) rfl dX9_freshSum_13 ?_
    obtain ⟨q3, hc, hf⟩ := zbd hf
    refine z_cVl (As := []) (rest := [.ref (ht_rows 0), .ref (ht 0)]) C (c_X6_countingFresh l D cy ht_rows St_rows q3 hc) gV_X9_X6_countingFresh hd_X6_countingFresh ⟨Nat.le_of_ble_eq_true rfl, Nat.le_of_ble_eq_true rfl⟩ ⟨Nat.le_refl _, Nat.le_refl _⟩ (va_recv hK hP (ci := 3) (q0 := 1) rfl rfl) hP hD hS (w2 := wSR ht (ht_reader 0) (ht_rows 0) (ht_evidence 0) (ht_history 0) cy St ++ (wRows ht_rows cy St_rows)) [1, 2, 3, 4, 5, 6, 7, 8] [0] [0, 1, 2, 3, 4, 5, 6, 7, 8] rfl rfl rfl rfl rfl rfl (by decide) hl.1 (Nat.le_of_ble_eq_true rfl) dX9_freshSum_16 (fun H locs hP hD hS => ?_)
    obtain ⟨q4, hc, hf⟩ := zbd hf
    refine z_cVi (As := [.long q3]) (rest := [.ref (ht 0)]) C (c_X6_sumSeen l D cy ht_rows St_rows q3 q4 hc) gV_X9_X6_sumSeen hd_X6_sumSeen ⟨Nat.le_of_ble_eq_true rfl, Nat.le_of_ble_eq_true rfl⟩ ⟨Nat.le_refl _, Nat.le_refl _⟩ (va_recv hK hP (ci := 3) (q0 := 1) rfl rfl) hP hD hS (w2 := wSR ht (ht_reader 0) (ht_rows 0) (ht_evidence 0) (ht_history 0) cy St ++ (wRows ht_rows cy St_rows)) [1, 2, 3, 4, 5, 6, 7, 8] [0] [0, 1, 2, 3, 4, 5, 6, 7, 8] rfl rfl rfl rfl rfl rfl (by decide) hl.1 (Nat.le_of_ble_eq_true rfl) dX9_freshSum_19 (fun H locs hP hD hS => ?_)
    obtain ⟨q5, hc, hf⟩ := zbd hf
    refine z_cVi (As := [.int q4]) (rest := []) C (c_X9_answer l D cy ht ht_reader ht_rows ht_evidence ht_history St q4 q5 hc) gV_X9_X9_answer hd_X9_answer ⟨Nat.le_of_ble_eq_true rfl, Nat.le_of_ble_eq_true rfl⟩ ⟨Nat.le_refl _, Nat.le_refl _⟩ (va_recv hK hP (ci := 5) (q0 := 0) rfl rfl) hP hD hS (w2 := wSR ht (ht_reader 0) (ht_rows 0) (ht_evidence 0) (ht_history 0) cy q5.2 ++ (wRows ht_rows cy St_rows)) [0] [1, 2, 3, 4, 5, 6, 7, 8] [8, 0, 1, 2, 3, 4, 5, 6, 7] rfl rfl rfl rfl rfl rfl (by decide) hl.1 (Nat.le_of_ble_eq_true rfl) dX9_freshSum_22 (fun H locs hP hD hS => ?_)
    refine lv_goto (tgt := 33) hx hb dX9_freshSum_25 (by decide) ?_
    obtain rfl := Option.some.inj hf
    exact z_iret (v := q5.1) C hP hD hS dX9_freshSum_33
def f_X9_asOf (St : SSR) (St_rows : SRows) (x1 : Int32) (x2 : Int32) : Option (Int32 × SSR) :=
  (f_X6_isRow St_rows x2).bind (fun q1 =>
    (if q1 = 0 then
      (f_X9_refuse St (1 : Int32)).bind (fun q7 =>
        some (q7.1, q7.2))
      else
      (f_X6_isStamp St_rows x1).bind (fun q2 =>
        (if q2 = 0 then
          (f_X9_refuse St (2 : Int32)).bind (fun q6 =>
            some (q6.1, q6.2))
          else
          (f_X6_countingAsOf St_rows x1).bind (fun q3 =>
            (f_X6_valueSeen St_rows x2 q3).bind (fun q4 =>
              (f_X9_answer St q4).bind (fun q5 =>
                some (q5.1, q5.2))))))))
set_option maxHeartbeats 4000000 in
set_option maxRecDepth 100000 in
theorem c_X9_asOf (l : Launch) (D : va_G) (cy : Nat → ClassId) (ht : Nat → Nat) (ht_reader : Nat → Nat) (ht_rows : Nat → Nat) (ht_evidence : Nat → Nat) (ht_history : Nat → Nat) (St : SSR) (St_rows : SRows) (x1 : Int32) (x2 : Int32) (r : Int32 × SSR) (hf : f_X9_asOf St St_rows x1 x2 = some r) : zCI l yX9_asOf cX9_asOf 3 (some FieldType.int) 4 94 D (zty cy) [.ref (ht 0), .int x1, .int x2] (wSR ht (ht_reader 0) (ht_rows 0) (ht_evidence 0) (ht_history 0) cy St ++ (wRows ht_rows cy St_rows)) (wSR ht (ht_reader 0) (ht_rows 0) (ht_evidence 0) (ht_history 0) cy r.2 ++ (wRows ht_rows cy St_rows)) r.1 := by
  refine zCI_of (by decide +kernel) (Nat.le_of_ble_eq_true rfl) ?_
  intro p e s m below meth c A ls C hP hD hS hl
  generalize hargs : ([.ref (ht 0), .int x1, .int x2] : List Value).toArray = args at C ⊢
  have C : zX p s m meth c cX9_asOf 3 args RX9 (some FieldType.int) A D (zty cy) := C
  obtain ⟨hx, hb, hr, hts, hown, hlocks, hml, hA, hK⟩ := id C
  have hl : lv_has ls 3 [(0, .ref (ht 0)), (1, .int x1), (2, .int x2)] := hl
  generalize hH : s.heap = H at hP ⊢
  have hS : va_S A s.heap H [] := by rw [← hH]; exact hS
  generalize ([] : List Loc) = locs at hS ⊢
  refine lv_aload_n hx hb dX9_asOf_0 rfl (lv_at hl 0 rfl) ?_
  refine va_get (D := D) (ci := 5) (v := .ref (ht_rows 0)) (C := RX9) (T := TX9) (N := 7) hx hb hts in_X9 hown hK hP 0 rfl rfl 1 (by decide) (hts _ q2_20) (fun _ h9 => h9) rfl dX9_asOf_1 ?_
  refine lv_iload_n hx hb dX9_asOf_4 rfl (lv_at hl 2 rfl) ?_
  obtain ⟨q1, hc, hf⟩ := zbd hf
  refine z_cVi (As := [.int x2]) (rest := []) C (c_X6_isRow l D cy ht_rows St_rows x2 q1 hc) gV_X9_X6_isRow hd_X6_isRow ⟨Nat.le_of_ble_eq_true rfl, Nat.le_of_ble_eq_true rfl⟩ ⟨Nat.le_refl _, Nat.le_refl _⟩ (va_recv hK hP (ci := 3) (q0 := 1) rfl rfl) hP hD hS (w2 := wSR ht (ht_reader 0) (ht_rows 0) (ht_evidence 0) (ht_history 0) cy St ++ (wRows ht_rows cy St_rows)) [1, 2, 3, 4, 5, 6, 7, 8] [0] [0, 1, 2, 3, 4, 5, 6, 7, 8] rfl rfl rfl rfl rfl rfl (by decide) hl.1 (Nat.le_of_ble_eq_true rfl) dX9_asOf_5 (fun H locs hP hD hS => ?_)
  refine z_if_ne (tgt := 17) hx hb dX9_asOf_8 (by decide) hf (fun hf => ?_) (fun hf => ?_)
  · refine lv_aload_n hx hb dX9_asOf_17 rfl (lv_at hl 0 rfl) ?_
    refine va_get (D := D) (ci := 5) (v := .ref (ht_rows 0)) (C := RX9) (T := TX9) (N := 7) hx hb hts in_X9 hown hK hP 0 rfl rfl 1 (by decide) (hts _ q2_20) (fun _ h9 => h9) rfl dX9_asOf_18 ?_
    refine lv_iload_n hx hb dX9_asOf_21 rfl (lv_at hl 1 rfl) ?_
    obtain ⟨q2, hc, hf⟩ := zbd hf
    refine z_cVi (As := [.int x1]) (rest := []) C (c_X6_isStamp l D cy ht_rows St_rows x1 q2 hc) gV_X9_X6_isStamp hd_X6_isStamp ⟨Nat.le_of_ble_eq_true rfl, Nat.le_of_ble_eq_true rfl⟩ ⟨Nat.le_refl _, Nat.le_refl _⟩ (va_recv hK hP (ci := 3) (q0 := 1) rfl rfl) hP hD hS (w2 := wSR ht (ht_reader 0) (ht_rows 0) (ht_evidence 0) (ht_history 0) cy St ++ (wRows ht_rows cy St_rows)) [1, 2, 3, 4, 5, 6, 7, 8] [0] [0, 1, 2, 3, 4, 5, 6, 7, 8] rfl rfl rfl rfl rfl rfl (by decide) hl.1 (Nat.le_of_ble_eq_true rfl) dX9_asOf_22 (fun H locs hP hD hS => ?_)
    refine z_if_ne (tgt := 34) hx hb dX9_asOf_25 (by decide) hf (fun hf => ?_) (fun hf => ?_)
    · refine lv_aload_n hx hb dX9_asOf_34 rfl (lv_at hl 0 rfl) ?_
      refine lv_aload_n hx hb dX9_asOf_35 rfl (lv_at hl 0 rfl) ?_
      refine va_get (D := D) (ci := 5) (v := .ref (ht_rows 0)) (C := RX9) (T := TX9) (N := 7) hx hb hts in_X9 hown hK hP 0 rfl rfl 1 (by decide) (hts _ q2_20) (fun _ h9 => h9) rfl dX9_asOf_36 ?_
      refine lv_iload_n hx hb dX9_asOf_39 rfl (lv_at hl 2 rfl) ?_
      refine lv_aload_n hx hb dX9_asOf_40 rfl (lv_at hl 0 rfl) ?_
      refine va_get (D := D) (ci := 5) (v := .ref (ht_rows 0)) (C := RX9) (T := TX9) (N := 7) hx hb hts in_X9 hown hK hP 0 rfl rfl 1 (by decide) (hts _ q2_20) (fun _ h9 => h9) rfl dX9_asOf_41 ?_
      refine lv_iload_n hx hb dX9_asOf_44 rfl (lv_at hl 1 rfl) ?_
      obtain ⟨q3, hc, hf⟩ := zbd hf
      refine z_cVl (As := [.int x1]) (rest := [.int x2, .ref (ht_rows 0), .ref (ht 0)]) C (c_X6_countingAsOf l D cy ht_rows St_rows x1 q3 hc) gV_X9_X6_countingAsOf hd_X6_countingAsOf ⟨Nat.le_of_ble_eq_true rfl, Nat.le_of_ble_eq_true rfl⟩ ⟨Nat.le_refl _, Nat.le_refl _⟩ (va_recv hK hP (ci := 3) (q0 := 1) rfl rfl) hP hD hS (w2 := wSR ht (ht_reader 0) (ht_rows 0) (ht_evidence 0) (ht_history 0) cy St ++ (wRows ht_rows cy St_rows)) [1, 2, 3, 4, 5, 6, 7, 8] [0] [0, 1, 2, 3, 4, 5, 6, 7, 8] rfl rfl rfl rfl rfl rfl (by decide) hl.1 (Nat.le_of_ble_eq_true rfl) dX9_asOf_45 (fun H locs hP hD hS => ?_)
      obtain ⟨q4, hc, hf⟩ := zbd hf
      refine z_cVi (As := [.int x2, .long q3]) (rest := [.ref (ht 0)]) C (c_X6_valueSeen l D cy ht_rows St_rows x2 q3 q4 hc) gV_X9_X6_valueSeen hd_X6_valueSeen ⟨Nat.le_of_ble_eq_true rfl, Nat.le_of_ble_eq_true rfl⟩ ⟨Nat.le_refl _, Nat.le_refl _⟩ (va_recv hK hP (ci := 3) (q0 := 1) rfl rfl) hP hD hS (w2 := wSR ht (ht_reader 0) (ht_rows 0) (ht_evidence 0) (ht_history 0) cy St ++ (wRows ht_rows cy St_rows)) [1, 2, 3, 4, 5, 6, 7, 8] [0] [0, 1, 2, 3, 4, 5, 6, 7, 8] rfl rfl rfl rfl rfl rfl (by decide) hl.1 (Nat.le_of_ble_eq_true rfl) dX9_asOf_48 (fun H locs hP hD hS => ?_)
      obtain ⟨q5, hc, hf⟩ := zbd hf
      refine z_cVi (As := [.int q4]) (rest := []) C (c_X9_answer l D cy ht ht_reader ht_rows ht_evidence ht_history St q4 q5 hc) gV_X9_X9_answer hd_X9_answer ⟨Nat.le_of_ble_eq_true rfl, Nat.le_of_ble_eq_true rfl⟩ ⟨Nat.le_refl _, Nat.le_refl _⟩ (va_recv hK hP (ci := 5) (q0 := 0) rfl rfl) hP hD hS (w2 := wSR ht (ht_reader 0) (ht_rows 0) (ht_evidence 0) (ht_history 0) cy q5.2 ++ (wRows ht_rows cy St_rows)) [0] [1, 2, 3, 4, 5, 6, 7, 8] [8, 0, 1, 2, 3, 4, 5, 6, 7] rfl rfl rfl rfl rfl rfl (by decide) hl.1 (Nat.le_of_ble_eq_true rfl) dX9_asOf_51 (fun H locs hP hD hS => ?_)
      obtain rfl := Option.some.inj hf
      exact z_iret (v := q5.1) C hP hD hS dX9_asOf_54
    · refine lv_aload_n hx hb dX9_asOf_28 rfl (lv_at hl 0 rfl) ?_
      refine lv_iconst (v := (2 : Int32)) hx hb dX9_asOf_29 (by decide) ?_
      obtain ⟨q6, hc, hf⟩ := zbd hf
      refine z_cVi (As := [.int (2 : Int32)]) (rest := []) C (c_X9_refuse l D cy ht ht_reader ht_rows ht_evidence ht_history St (2 : Int32) q6 hc) gV_X9_X9_refuse hd_X9_refuse ⟨Nat.le_of_ble_eq_true rfl, Nat.le_of_ble_eq_true rfl⟩ ⟨Nat.le_refl _, Nat.le_refl _⟩ (va_recv hK hP (ci := 5) (q0 := 0) rfl rfl) hP hD hS (w2 := wSR ht (ht_reader 0) (ht_rows 0) (ht_evidence 0) (ht_history 0) cy q6.2 ++ (wRows ht_rows cy St_rows)) [0] [1, 2, 3, 4, 5, 6, 7, 8] [8, 0, 1, 2, 3, 4, 5, 6, 7] rfl rfl rfl rfl rfl rfl (by decide) hl.1 (Nat.le_of_ble_eq_true rfl) dX9_asOf_30 (fun H locs hP hD hS => ?_)
      obtain rfl := Option.some.inj hf
      exact z_iret (v := q6.1) C hP hD hS dX9_asOf_33
  · refine lv_aload_n hx hb dX9_asOf_11 rfl (lv_at hl 0 rfl) ?_
    refine lv_iconst (v := (1 : Int32)) hx hb dX9_asOf_12 (by decide) ?_
    obtain ⟨q7, hc, hf⟩ := zbd hf
    refine z_cVi (As := [.int (1 : Int32)]) (rest := []) C (c_X9_refuse l D cy ht ht_reader ht_rows ht_evidence ht_history St (1 : Int32) q7 hc) gV_X9_X9_refuse hd_X9_refuse ⟨Nat.le_of_ble_eq_true rfl, Nat.le_of_ble_eq_true rfl⟩ ⟨Nat.le_refl _, Nat.le_refl _⟩ (va_recv hK hP (ci := 5) (q0 := 0) rfl rfl) hP hD hS (w2 := wSR ht (ht_reader 0) (ht_rows 0) (ht_evidence 0) (ht_history 0) cy q7.2 ++ (wRows ht_rows cy St_rows)) [0] [1, 2, 3, 4, 5, 6, 7, 8] [8, 0, 1, 2, 3, 4, 5, 6, 7] rfl rfl rfl rfl rfl rfl (by decide) hl.1 (Nat.le_of_ble_eq_true rfl) dX9_asOf_13 (fun H locs hP hD hS => ?_)
    obtain rfl := Option.some.inj hf
    exact z_iret (v := q7.1) C hP hD hS dX9_asOf_16
def b_X9_changed_43 (St_rows : SRows) (x1 : Int32) (x2 : Int32) (k43 : SSR → Int64 → Int64 → Int32 → Int32 → Option (Int32 × SSR)) (St : SSR) (v4 : Int64) (v6 : Int64) (v8 : Int32) (v9 : Int32) : Option (Int32 × SSR) :=
  (if (Rows_rowCount St_rows) ≤ v9 then
    (f_X9_answer St v8).bind (fun q1 =>
      some (q1.1, q1.2))
    else
    (f_X6_valueSeen St_rows v9 v4).bind (fun q2 =>
      (f_X6_valueSeen St_rows v9 v6).bind (fun q3 =>
        (if q2 = q3 then
          (k43 St v4 v6 v8 (v9 + (1 : Int32)))
          else
          (k43 St v4 v6 (v8 ||| ((1 : Int32) <<< (v9 &&& 31))) (v9 + (1 : Int32)))))))
set_option maxHeartbeats 4000000 in
set_option maxRecDepth 100000 in
theorem w_X9_changed_43 {p : Program} {e : Env} {s : State} {m : MethodId} {below : List Frame} {meth : Method} {c : Code} {A : Nat → Prop} {D : va_G} {cy : Nat → ClassId} {args : Array Value} {r : Int32 × SSR} (l : Launch) (ht : Nat → Nat) (ht_reader : Nat → Nat) (ht_rows : Nat → Nat) (ht_evidence : Nat → Nat) (ht_history : Nat → Nat) (St_rows : SRows) (x1 : Int32) (x2 : Int32) (C : zX p s m meth c cX9_changed 10 args RX9 (some FieldType.int) A D (zty cy)) :
    ∀ (n : Nat) (St : SSR) (v4 : Int64) (v6 : Int64) (v8 : Int32) (v9 : Int32) (H : Heap) (locs : List Loc) (ls : Array Slot), zl5 (b_X9_changed_43 St_rows x1 x2) n St v4 v6 v8 v9 = some r → va_P D vwCl (wSR ht (ht_reader 0) (ht_rows 0) (ht_evidence 0) (ht_history 0) cy St ++ (wRows ht_rows cy St_rows)) H → va_D A (wSR ht (ht_reader 0) (ht_rows 0) (ht_evidence 0) (ht_history 0) cy St ++ (wRows ht_rows cy St_rows)) → va_S A s.heap H locs → lv_has ls 10 [(0, .ref (ht 0)), (4, .long v4), (6, .long v6), (8, .int v8), (9, .int v9)] → W p l e (zRm 4 94) s m args below meth c H locs 0 0 (MQ below (zQI D (zty cy) A (wSR ht (ht_reader 0) (ht_rows 0) (ht_evidence 0) (ht_history 0) cy r.2 ++ (wRows ht_rows cy St_rows)) r.1) args s 0 0 A) (F0 m 43 ls []) := by
  obtain ⟨hx, hb, hr, hts, hown, hlocks, hml, hA, hK⟩ := id C
  intro n
  induction n with
  | zero => intro St v4 v6 v8 v9 H locs ls hf; exact zno hf
  | succ n ih =>
    intro St v4 v6 v8 v9 H locs ls hf hP hD hS hl
    have hf : b_X9_changed_43 St_rows x1 x2 (zl5 (b_X9_changed_43 St_rows x1 x2) n) St v4 v6 v8 v9 = some r := hf
    have K43 := ih
    refine lv_iload hx hb dX9_changed_43 (lv_at hl 4 rfl) ?_
    refine lv_aload_n hx hb dX9_changed_45 rfl (lv_at hl 0 rfl) ?_
    refine va_get (D := D) (ci := 5) (v := .ref (ht_rows 0)) (C := RX9) (T := TX9) (N := 7) hx hb hts in_X9 hown hK hP 0 rfl rfl 1 (by decide) (hts _ q2_20) (fun _ h9 => h9) rfl dX9_changed_46 ?_
    refine va_get (D := D) (ci := 3) (v := .int (Rows_rowCount St_rows)) (C := RX6) (T := TX6) (N := 16) hx hb hts in_X6 hown hK hP 1 rfl rfl 1 (by decide) (hts _ q1_54) (fun _ h9 => h9) rfl dX9_changed_49 ?_
    refine z_icmp_ge (tgt := 95) hx hb dX9_changed_52 (by decide) hf (fun hf => ?_) (fun hf => ?_)
    · refine lv_aload_n hx hb dX9_changed_95 rfl (lv_at hl 0 rfl) ?_
      refine lv_iload hx hb dX9_changed_96 (lv_at hl 3 rfl) ?_
      obtain ⟨q1, hc, hf⟩ := zbd hf
      refine z_cVi (As := [.int v8]) (rest := []) C (c_X9_answer l D cy ht ht_reader ht_rows ht_evidence ht_history St v8 q1 hc) gV_X9_X9_answer hd_X9_answer ⟨Nat.le_of_ble_eq_true rfl, Nat.le_of_ble_eq_true rfl⟩ ⟨Nat.le_refl _, Nat.le_refl _⟩ (va_recv hK hP (ci := 5) (q0 := 0) rfl rfl) hP hD hS (w2 := wSR ht (ht_reader 0) (ht_rows 0) (ht_evidence 0) (ht_history 0) cy q1.2 ++ (wRows ht_rows cy St_rows)) [0] [1, 2, 3, 4, 5, 6, 7, 8] [8, 0, 1, 2, 3, 4, 5, 6, 7] rfl rfl rfl rfl rfl rfl (by decide) hl.1 (Nat.le_of_ble_eq_true rfl) dX9_changed_98 (fun H locs hP hD hS => ?_)
      obtain rfl := Option.some.inj hf
      exact z_iret (v := q1.1) C hP hD hS dX9_changed_101
    · refine lv_aload_n hx hb dX9_changed_55 rfl (lv_at hl 0 rfl) ?_
      refine va_get (D := D) (ci := 5) (v := .ref (ht_rows 0)) (C := RX9) (T := TX9) (N := 7) hx hb hts in_X9 hown hK hP 0 rfl rfl 1 (by decide) (hts _ q2_20) (fun _ h9 => h9) rfl dX9_changed_56 ?_
      refine lv_iload hx hb dX9_changed_59 (lv_at hl 4 rfl) ?_
      refine lv_lload hx hb dX9_changed_61 (lv_at hl 1 rfl) ?_
      obtain ⟨q2, hc, hf⟩ := zbd hf
      refine z_cVi (As := [.int v9, .long v4]) (rest := []) C (c_X6_valueSeen l D cy ht_rows St_rows v9 v4 q2 hc) gV_X9_X6_valueSeen hd_X6_valueSeen ⟨Nat.le_of_ble_eq_true rfl, Nat.le_of_ble_eq_true rfl⟩ ⟨Nat.le_refl _, Nat.le_refl _⟩ (va_recv hK hP (ci := 3) (q0 := 1) rfl rfl) hP hD hS (w2 := wSR ht (ht_reader 0) (ht_rows 0) (ht_evidence 0) (ht_history 0) cy St ++ (wRows ht_rows cy St_rows)) [1, 2, 3, 4, 5, 6, 7, 8] [0] [0, 1, 2, 3, 4, 5, 6, 7, 8] rfl rfl rfl rfl rfl rfl (by decide) hl.1 (Nat.le_of_ble_eq_true rfl) dX9_changed_63 (fun H locs hP hD hS => ?_)
      refine lv_aload_n hx hb dX9_changed_66 rfl (lv_at hl 0 rfl) ?_
      refine va_get (D := D) (ci := 5) (v := .ref (ht_rows 0)) (C := RX9) (T := TX9) (N := 7) hx hb hts in_X9 hown hK hP 0 rfl rfl 1 (by decide) (hts _ q2_20) (fun _ h9 => h9) rfl dX9_changed_67 ?_
      refine lv_iload hx hb dX9_changed_70 (lv_at hl 4 rfl) ?_
      refine lv_lload hx hb dX9_changed_72 (lv_at hl 2 rfl) ?_
      obtain ⟨q3, hc, hf⟩ := zbd hf
      refine z_cVi (As := [.int v9, .long v6]) (rest := [.int q2]) C (c_X6_valueSeen l D cy ht_rows St_rows v9 v6 q3 hc) gV_X9_X6_valueSeen hd_X6_valueSeen ⟨Nat.le_of_ble_eq_true rfl, Nat.le_of_ble_eq_true rfl⟩ ⟨Nat.le_refl _, Nat.le_refl _⟩ (va_recv hK hP (ci := 3) (q0 := 1) rfl rfl) hP hD hS (w2 := wSR ht (ht_reader 0) (ht_rows 0) (ht_evidence 0) (ht_history 0) cy St ++ (wRows ht_rows cy St_rows)) [1, 2, 3, 4, 5, 6, 7, 8] [0] [0, 1, 2, 3, 4, 5, 6, 7, 8] rfl rfl rfl rfl rfl rfl (by decide) hl.1 (Nat.le_of_ble_eq_true rfl) dX9_changed_74 (fun H locs hP hD hS => ?_)
      refine z_icmp_eq (tgt := 89) hx hb dX9_changed_77 (by decide) hf (fun hf => ?_) (fun hf => ?_)
      · refine lv_iinc (v := (v9 + (1 : Int32))) (lv' := [(9, .int (v9 + (1 : Int32))), (0, .ref (ht 0)), (4, .long v4), (6, .long v6), (8, .int v8)]) hx hb dX9_changed_89 hl (k := 4) rfl rfl (by decide) rfl (fun ls hl => ?_)
        refine lv_goto (tgt := 43) hx hb dX9_changed_92 (by decide) ?_
        exact K43 St v4 v6 v8 (v9 + (1 : Int32)) H locs ls hf hP hD hS (lv_sub hl [1, 2, 3, 4, 0] rfl)
      · refine lv_iload hx hb dX9_changed_80 (lv_at hl 3 rfl) ?_
        refine lv_iconst (v := (1 : Int32)) hx hb dX9_changed_82 (by decide) ?_
        refine lv_iload hx hb dX9_changed_83 (lv_at hl 4 rfl) ?_
        refine lv_ishl hx hb dX9_changed_85 ?_
        refine lv_ior hx hb dX9_changed_86 ?_
        refine lv_istore (lv' := [(8, .int (v8 ||| ((1 : Int32) <<< (v9 &&& 31)))), (0, .ref (ht 0)), (4, .long v4), (6, .long v6), (9, .int v9)]) hx hb dX9_changed_87 hl (by decide) rfl (fun ls hl => ?_)
        refine lv_iinc (v := (v9 + (1 : Int32))) (lv' := [(9, .int (v9 + (1 : Int32))), (8, .int (v8 ||| ((1 : Int32) <<< (v9 &&& 31)))), (0, .ref (ht 0)), (4, .long v4), (6, .long v6)]) hx hb dX9_changed_89 hl (k := 4) rfl rfl (by decide) rfl (fun ls hl => ?_)
        refine lv_goto (tgt := 43) hx hb dX9_changed_92 (by decide) ?_
        exact K43 St v4 v6 (v8 ||| ((1 : Int32) <<< (v9 &&& 31))) (v9 + (1 : Int32)) H locs ls hf hP hD hS (lv_sub hl [2, 3, 4, 1, 0] rfl)
def f_X9_changed (St : SSR) (St_rows : SRows) (x1 : Int32) (x2 : Int32) : Option (Int32 × SSR) :=
  (f_X9_stampsTrouble St St_rows x1 x2).bind (fun q4 =>
    (if q4 = 0 then
      (f_X6_countingAsOf St_rows x1).bind (fun q5 =>
        (f_X6_countingAsOf St_rows x2).bind (fun q6 =>
          (zl5 (b_X9_changed_43 St_rows x1 x2) FU St q5 q6 (0 : Int32) (0 : Int32))))
      else
      (f_X9_refuse St q4).bind (fun q7 =>
        some (q7.1, q7.2))))
set_option maxHeartbeats 4000000 in
set_option maxRecDepth 100000 in
theorem c_X9_changed (l : Launch) (D : va_G) (cy : Nat → ClassId) (ht : Nat → Nat) (ht_reader : Nat → Nat) (ht_rows : Nat → Nat) (ht_evidence : Nat → Nat) (ht_history : Nat → Nat) (St : SSR) (St_rows : SRows) (x1 : Int32) (x2 : Int32) (r : Int32 × SSR) (hf : f_X9_changed St St_rows x1 x2 = some r) : zCI l yX9_changed cX9_changed 10 (some FieldType.int) 4 94 D (zty cy) [.ref (ht 0), .int x1, .int x2] (wSR ht (ht_reader 0) (ht_rows 0) (ht_evidence 0) (ht_history 0) cy St ++ (wRows ht_rows cy St_rows)) (wSR ht (ht_reader 0) (ht_rows 0) (ht_evidence 0) (ht_history 0) cy r.2 ++ (wRows ht_rows cy St_rows)) r.1 := by
  refine zCI_of (by decide +kernel) (Nat.le_of_ble_eq_true rfl) ?_
  intro p e s m below meth c A ls C hP hD hS hl
  generalize hargs : ([.ref (ht 0), .int x1, .int x2] : List Value).toArray = args at C ⊢
  have C : zX p s m meth c cX9_changed 10 args RX9 (some FieldType.int) A D (zty cy) := C
  obtain ⟨hx, hb, hr, hts, hown, hlocks, hml, hA, hK⟩ := id C
  have hl : lv_has ls 10 [(0, .ref (ht 0)), (1, .int x1), (2, .int x2)] := hl
  generalize hH : s.heap = H at hP ⊢
  have hS : va_S A s.heap H [] := by rw [← hH]; exact hS
  generalize ([] : List Loc) = locs at hS ⊢
  refine lv_aload_n hx hb dX9_changed_0 rfl (lv_at hl 0 rfl) ?_
  refine lv_iload_n hx hb dX9_changed_1 rfl (lv_at hl 1 rfl) ?_
  refine lv_iload_n hx hb dX9_changed_2 rfl (lv_at hl 2 rfl) ?_
  obtain ⟨q4, hc, hf⟩ := zbd hf
  refine z_cVi0 (As := [.int x1, .int x2]) (rest := []) C (c_X9_stampsTrouble l D cy ht ht_reader ht_rows ht_evidence ht_history St St_rows x1 x2 q4 hc) gV_X9_X9_stampsTrouble hd_X9_stampsTrouble ⟨Nat.le_of_ble_eq_true rfl, Nat.le_of_ble_eq_true rfl⟩ ⟨Nat.le_refl _, Nat.le_refl _⟩ (va_recv hK hP (ci := 5) (q0 := 0) rfl rfl) hP hD hS hl.1 (Nat.le_of_ble_eq_true rfl) dX9_changed_3 (fun H locs hP hD hS => ?_)
  have hP : va_P D vwCl (wSR ht (ht_reader 0) (ht_rows 0) (ht_evidence 0) (ht_history 0) cy St ++ (wRows ht_rows cy St_rows)) H := hP
  have hD : va_D A (wSR ht (ht_reader 0) (ht_rows 0) (ht_evidence 0) (ht_history 0) cy St ++ (wRows ht_rows cy St_rows)) := hD
  refine lv_istore_n (lv' := [(3, .int q4), (0, .ref (ht 0)), (1, .int x1), (2, .int x2)]) hx hb dX9_changed_6 rfl hl (by decide) rfl (fun ls hl => ?_)
  refine lv_iload_n hx hb dX9_changed_7 rfl (lv_at hl 0 rfl) ?_
  refine z_if_eq (tgt := 17) hx hb dX9_changed_8 (by decide) hf (fun hf => ?_) (fun hf => ?_)
  · refine lv_aload_n hx hb dX9_changed_17 rfl (lv_at hl 1 rfl) ?_
    refine va_get (D := D) (ci := 5) (v := .ref (ht_rows 0)) (C := RX9) (T := TX9) (N := 7) hx hb hts in_X9 hown hK hP 0 rfl rfl 1 (by decide) (hts _ q2_20) (fun _ h9 => h9) rfl dX9_changed_18 ?_
    refine lv_iload_n hx hb dX9_changed_21 rfl (lv_at hl 2 rfl) ?_
    obtain ⟨q5, hc, hf⟩ := zbd hf
    refine z_cVl (As := [.int x1]) (rest := []) C (c_X6_countingAsOf l D cy ht_rows St_rows x1 q5 hc) gV_X9_X6_countingAsOf hd_X6_countingAsOf ⟨Nat.le_of_ble_eq_true rfl, Nat.le_of_ble_eq_true rfl⟩ ⟨Nat.le_refl _, Nat.le_refl _⟩ (va_recv hK hP (ci := 3) (q0 := 1) rfl rfl) hP hD hS (w2 := wSR ht (ht_reader 0) (ht_rows 0) (ht_evidence 0) (ht_history 0) cy St ++ (wRows ht_rows cy St_rows)) [1, 2, 3, 4, 5, 6, 7, 8] [0] [0, 1, 2, 3, 4, 5, 6, 7, 8] rfl rfl rfl rfl rfl rfl (by decide) hl.1 (Nat.le_of_ble_eq_true rfl) dX9_changed_22 (fun H locs hP hD hS => ?_)
    refine lv_lstore (lv' := [(4, .long q5), (3, .int q4), (0, .ref (ht 0)), (1, .int x1), (2, .int x2)]) hx hb dX9_changed_25 hl (by decide) rfl (fun ls hl => ?_)
    refine lv_aload_n hx hb dX9_changed_27 rfl (lv_at hl 2 rfl) ?_
    refine va_get (D := D) (ci := 5) (v := .ref (ht_rows 0)) (C := RX9) (T := TX9) (N := 7) hx hb hts in_X9 hown hK hP 0 rfl rfl 1 (by decide) (hts _ q2_20) (fun _ h9 => h9) rfl dX9_changed_28 ?_
    refine lv_iload_n hx hb dX9_changed_31 rfl (lv_at hl 4 rfl) ?_
    obtain ⟨q6, hc, hf⟩ := zbd hf
    refine z_cVl (As := [.int x2]) (rest := []) C (c_X6_countingAsOf l D cy ht_rows St_rows x2 q6 hc) gV_X9_X6_countingAsOf hd_X6_countingAsOf ⟨Nat.le_of_ble_eq_true rfl, Nat.le_of_ble_eq_true rfl⟩ ⟨Nat.le_refl _, Nat.le_refl _⟩ (va_recv hK hP (ci := 3) (q0 := 1) rfl rfl) hP hD hS (w2 := wSR ht (ht_reader 0) (ht_rows 0) (ht_evidence 0) (ht_history 0) cy St ++ (wRows ht_rows cy St_rows)) [1, 2, 3, 4, 5, 6, 7, 8] [0] [0, 1, 2, 3, 4, 5, 6, 7, 8] rfl rfl rfl rfl rfl rfl (by decide) hl.1 (Nat.le_of_ble_eq_true rfl) dX9_changed_32 (fun H locs hP hD hS => ?_)
    refine lv_lstore (lv' := [(6, .long q6), (4, .long q5), (3, .int q4), (0, .ref (ht 0)), (1, .int x1), (2, .int x2)]) hx hb dX9_changed_35 hl (by decide) rfl (fun ls hl => ?_)
    refine lv_iconst (v := (0 : Int32)) hx hb dX9_changed_37 (by decide) ?_
    refine lv_istore (lv' := [(8, .int (0 : Int32)), (6, .long q6), (4, .long q5), (3, .int q4), (0, .ref (ht 0)), (1, .int x1), (2, .int x2)]) hx hb dX9_changed_38 hl (by decide) rfl (fun ls hl => ?_)
    refine lv_iconst (v := (0 : Int32)) hx hb dX9_changed_40 (by decide) ?_
    refine lv_istore (lv' := [(9, .int (0 : Int32)), (8, .int (0 : Int32)), (6, .long q6), (4, .long q5), (3, .int q4), (0, .ref (ht 0)), (1, .int x1), (2, .int x2)]) hx hb dX9_changed_41 hl (by decide) rfl (fun ls hl => ?_)
    exact w_X9_changed_43 l ht ht_reader ht_rows ht_evidence ht_history St_rows x1 x2 C FU St q5 q6 (0 : Int32) (0 : Int32) H locs ls hf hP hD hS (lv_sub hl [5, 3, 2, 1, 0] rfl)
  · refine lv_aload_n hx hb dX9_changed_11 rfl (lv_at hl 1 rfl) ?_
    refine lv_iload_n hx hb dX9_changed_12 rfl (lv_at hl 0 rfl) ?_
    obtain ⟨q7, hc, hf⟩ := zbd hf
    refine z_cVi (As := [.int q4]) (rest := []) C (c_X9_refuse l D cy ht ht_reader ht_rows ht_evidence ht_history St q4 q7 hc) gV_X9_X9_refuse hd_X9_refuse ⟨Nat.le_of_ble_eq_true rfl, Nat.le_of_ble_eq_true rfl⟩ ⟨Nat.le_refl _, Nat.le_refl _⟩ (va_recv hK hP (ci := 5) (q0 := 0) rfl rfl) hP hD hS (w2 := wSR ht (ht_reader 0) (ht_rows 0) (ht_evidence 0) (ht_history 0) cy q7.2 ++ (wRows ht_rows cy St_rows)) [0] [1, 2, 3, 4, 5, 6, 7, 8] [8, 0, 1, 2, 3, 4, 5, 6, 7] rfl rfl rfl rfl rfl rfl (by decide) hl.1 (Nat.le_of_ble_eq_true rfl) dX9_changed_13 (fun H locs hP hD hS => ?_)
    obtain rfl := Option.some.inj hf
    exact z_iret (v := q7.1) C hP hD hS dX9_changed_16
def f_X9_may (St : SSR) (St_rows : SRows) (x1 : Int32) (x2 : Int32) : Option (Int32 × SSR) :=
  (f_X6_runs St_rows x1).bind (fun q1 =>
    (if q1 = 0 then
      (f_X9_refuse St (1 : Int32)).bind (fun q2 =>
        some (q2.1, q2.2))
      else
      (f_X6_isRow St_rows x2).bind (fun q3 =>
        (if q3 = 0 then
          (f_X9_refuse St (1 : Int32)).bind (fun q6 =>
            some (q6.1, q6.2))
          else
          (f_X6_verdict St_rows x1 x2).bind (fun q4 =>
            (f_X9_answer St q4).bind (fun q5 =>
              some (q5.1, q5.2)))))))
set_option maxHeartbeats 4000000 in
set_option maxRecDepth 100000 in
theorem c_X9_may (l : Launch) (D : va_G) (cy : Nat → ClassId) (ht : Nat → Nat) (ht_reader : Nat → Nat) (ht_rows : Nat → Nat) (ht_evidence : Nat → Nat) (ht_history : Nat → Nat) (St : SSR) (St_rows : SRows) (x1 : Int32) (x2 : Int32) (r : Int32 × SSR) (hf : f_X9_may St St_rows x1 x2 = some r) : zCI l yX9_may cX9_may 3 (some FieldType.int) 4 97 D (zty cy) [.ref (ht 0), .int x1, .int x2] (wSR ht (ht_reader 0) (ht_rows 0) (ht_evidence 0) (ht_history 0) cy St ++ (wRows ht_rows cy St_rows)) (wSR ht (ht_reader 0) (ht_rows 0) (ht_evidence 0) (ht_history 0) cy r.2 ++ (wRows ht_rows cy St_rows)) r.1 := by
  refine zCI_of (by decide +kernel) (Nat.le_of_ble_eq_true rfl) ?_
  intro p e s m below meth c A ls C hP hD hS hl
  generalize hargs : ([.ref (ht 0), .int x1, .int x2] : List Value).toArray = args at C ⊢
  have C : zX p s m meth c cX9_may 3 args RX9 (some FieldType.int) A D (zty cy) := C
  obtain ⟨hx, hb, hr, hts, hown, hlocks, hml, hA, hK⟩ := id C
  have hl : lv_has ls 3 [(0, .ref (ht 0)), (1, .int x1), (2, .int x2)] := hl
  generalize hH : s.heap = H at hP ⊢
  have hS : va_S A s.heap H [] := by rw [← hH]; exact hS
  generalize ([] : List Loc) = locs at hS ⊢
  refine lv_aload_n hx hb dX9_may_0 rfl (lv_at hl 0 rfl) ?_
  refine va_get (D := D) (ci := 5) (v := .ref (ht_rows 0)) (C := RX9) (T := TX9) (N := 7) hx hb hts in_X9 hown hK hP 0 rfl rfl 1 (by decide) (hts _ q2_20) (fun _ h9 => h9) rfl dX9_may_1 ?_
  refine lv_iload_n hx hb dX9_may_4 rfl (lv_at hl 1 rfl) ?_
  obtain ⟨q1, hc, hf⟩ := zbd hf
  refine z_cVi (As := [.int x1]) (rest := []) C (c_X6_runs l D cy ht_rows St_rows x1 q1 hc) gV_X9_X6_runs hd_X6_runs ⟨Nat.le_of_ble_eq_true rfl, Nat.le_of_ble_eq_true rfl⟩ ⟨Nat.le_refl _, Nat.le_refl _⟩ (va_recv hK hP (ci := 3) (q0 := 1) rfl rfl) hP hD hS (w2 := wSR ht (ht_reader 0) (ht_rows 0) (ht_evidence 0) (ht_history 0) cy St ++ (wRows ht_rows cy St_rows)) [1, 2, 3, 4, 5, 6, 7, 8] [0] [0, 1, 2, 3, 4, 5, 6, 7, 8] rfl rfl rfl rfl rfl rfl (by decide) hl.1 (Nat.le_of_ble_eq_true rfl) dX9_may_5 (fun H locs hP hD hS => ?_)
  refine z_if_eq (tgt := 22) hx hb dX9_may_8 (by decide) hf (fun hf => ?_) (fun hf => ?_)
  · refine lv_aload_n hx hb dX9_may_22 rfl (lv_at hl 0 rfl) ?_
    refine lv_iconst (v := (1 : Int32)) hx hb dX9_may_23 (by decide) ?_
    obtain ⟨q2, hc, hf⟩ := zbd hf
    refine z_cVi (As := [.int (1 : Int32)]) (rest := []) C (c_X9_refuse l D cy ht ht_reader ht_rows ht_evidence ht_history St (1 : Int32) q2 hc) gV_X9_X9_refuse hd_X9_refuse ⟨Nat.le_of_ble_eq_true rfl, Nat.le_of_ble_eq_true rfl⟩ ⟨Nat.le_refl _, Nat.le_refl _⟩ (va_recv hK hP (ci := 5) (q0 := 0) rfl rfl) hP hD hS (w2 := wSR ht (ht_reader 0) (ht_rows 0) (ht_evidence 0) (ht_history 0) cy q2.2 ++ (wRows ht_rows cy St_rows)) [0] [1, 2, 3, 4, 5, 6, 7, 8] [8, 0, 1, 2, 3, 4, 5, 6, 7] rfl rfl rfl rfl rfl rfl (by decide) hl.1 (Nat.le_of_ble_eq_true rfl) dX9_may_24 (fun H locs hP hD hS => ?_)
    obtain rfl := Option.some.inj hf
    exact z_iret (v := q2.1) C hP hD hS dX9_may_27
  · refine lv_aload_n hx hb dX9_may_11 rfl (lv_at hl 0 rfl) ?_
    refine va_get (D := D) (ci := 5) (v := .ref (ht_rows 0)) (C := RX9) (T := TX9) (N := 7) hx hb hts in_X9 hown hK hP 0 rfl rfl 1 (by decide) (hts _ q2_20) (fun _ h9 => h9) rfl dX9_may_12 ?_
    refine lv_iload_n hx hb dX9_may_15 rfl (lv_at hl 2 rfl) ?_
    obtain ⟨q3, hc, hf⟩ := zbd hf
    refine z_cVi (As := [.int x2]) (rest := []) C (c_X6_isRow l D cy ht_rows St_rows x2 q3 hc) gV_X9_X6_isRow hd_X6_isRow ⟨Nat.le_of_ble_eq_true rfl, Nat.le_of_ble_eq_true rfl⟩ ⟨Nat.le_refl _, Nat.le_refl _⟩ (va_recv hK hP (ci := 3) (q0 := 1) rfl rfl) hP hD hS (w2 := wSR ht (ht_reader 0) (ht_rows 0) (ht_evidence 0) (ht_history 0) cy St ++ (wRows ht_rows cy St_rows)) [1, 2, 3, 4, 5, 6, 7, 8] [0] [0, 1, 2, 3, 4, 5, 6, 7, 8] rfl rfl rfl rfl rfl rfl (by decide) hl.1 (Nat.le_of_ble_eq_true rfl) dX9_may_16 (fun H locs hP hD hS => ?_)
    refine z_if_ne (tgt := 28) hx hb dX9_may_19 (by decide) hf (fun hf => ?_) (fun hf => ?_)
    · refine lv_aload_n hx hb dX9_may_28 rfl (lv_at hl 0 rfl) ?_
      refine lv_aload_n hx hb dX9_may_29 rfl (lv_at hl 0 rfl) ?_
      refine va_get (D := D) (ci := 5) (v := .ref (ht_rows 0)) (C := RX9) (T := TX9) (N := 7) hx hb hts in_X9 hown hK hP 0 rfl rfl 1 (by decide) (hts _ q2_20) (fun _ h9 => h9) rfl dX9_may_30 ?_
      refine lv_iload_n hx hb dX9_may_33 rfl (lv_at hl 1 rfl) ?_
      refine lv_iload_n hx hb dX9_may_34 rfl (lv_at hl 2 rfl) ?_
      obtain ⟨q4, hc, hf⟩ := zbd hf
      refine z_cVi (As := [.int x1, .int x2]) (rest := [.ref (ht 0)]) C (c_X6_verdict l D cy ht_rows St_rows x1 x2 q4 hc) gV_X9_X6_verdict hd_X6_verdict ⟨Nat.le_of_ble_eq_true rfl, Nat.le_of_ble_eq_true rfl⟩ ⟨Nat.le_refl _, Nat.le_refl _⟩ (va_recv hK hP (ci := 3) (q0 := 1) rfl rfl) hP hD hS (w2 := wSR ht (ht_reader 0) (ht_rows 0) (ht_evidence 0) (ht_history 0) cy St ++ (wRows ht_rows cy St_rows)) [1, 2, 3, 4, 5, 6, 7, 8] [0] [0, 1, 2, 3, 4, 5, 6, 7, 8] rfl rfl rfl rfl rfl rfl (by decide) hl.1 (Nat.le_of_ble_eq_true rfl) dX9_may_35 (fun H locs hP hD hS => ?_)
      obtain ⟨q5, hc, hf⟩ := zbd hf
      refine z_cVi (As := [.int q4]) (rest := []) C (c_X9_answer l D cy ht ht_reader ht_rows ht_evidence ht_history St q4 q5 hc) gV_X9_X9_answer hd_X9_answer ⟨Nat.le_of_ble_eq_true rfl, Nat.le_of_ble_eq_true rfl⟩ ⟨Nat.le_refl _, Nat.le_refl _⟩ (va_recv hK hP (ci := 5) (q0 := 0) rfl rfl) hP hD hS (w2 := wSR ht (ht_reader 0) (ht_rows 0) (ht_evidence 0) (ht_history 0) cy q5.2 ++ (wRows ht_rows cy St_rows)) [0] [1, 2, 3, 4, 5, 6, 7, 8] [8, 0, 1, 2, 3, 4, 5, 6, 7] rfl rfl rfl rfl rfl rfl (by decide) hl.1 (Nat.le_of_ble_eq_true rfl) dX9_may_38 (fun H locs hP hD hS => ?_)
      obtain rfl := Option.some.inj hf
      exact z_iret (v := q5.1) C hP hD hS dX9_may_41
    · refine lv_aload_n hx hb dX9_may_22 rfl (lv_at hl 0 rfl) ?_
      refine lv_iconst (v := (1 : Int32)) hx hb dX9_may_23 (by decide) ?_
      obtain ⟨q6, hc, hf⟩ := zbd hf
      refine z_cVi (As := [.int (1 : Int32)]) (rest := []) C (c_X9_refuse l D cy ht ht_reader ht_rows ht_evidence ht_history St (1 : Int32) q6 hc) gV_X9_X9_refuse hd_X9_refuse ⟨Nat.le_of_ble_eq_true rfl, Nat.le_of_ble_eq_true rfl⟩ ⟨Nat.le_refl _, Nat.le_refl _⟩ (va_recv hK hP (ci := 5) (q0 := 0) rfl rfl) hP hD hS (w2 := wSR ht (ht_reader 0) (ht_rows 0) (ht_evidence 0) (ht_history 0) cy q6.2 ++ (wRows ht_rows cy St_rows)) [0] [1, 2, 3, 4, 5, 6, 7, 8] [8, 0, 1, 2, 3, 4, 5, 6, 7] rfl rfl rfl rfl rfl rfl (by decide) hl.1 (Nat.le_of_ble_eq_true rfl) dX9_may_24 (fun H locs hP hD hS => ?_)
      obtain rfl := Option.some.inj hf
      exact z_iret (v := q6.1) C hP hD hS dX9_may_27
def f_X9_waitsFor (St : SSR) (St_rows : SRows) (x1 : Int32) (x2 : Int32) : Option (Int32 × SSR) :=
  (f_X6_runs St_rows x1).bind (fun q1 =>
    (if q1 = 0 then
      (f_X9_refuse St (1 : Int32)).bind (fun q2 =>
        some (q2.1, q2.2))
      else
      (f_X6_isRow St_rows x2).bind (fun q3 =>
        (if q3 = 0 then
          (f_X9_refuse St (1 : Int32)).bind (fun q6 =>
            some (q6.1, q6.2))
          else
          (f_X6_holder St_rows x1 x2).bind (fun q4 =>
            (f_X9_answer St q4).bind (fun q5 =>
              some (q5.1, q5.2)))))))
set_option maxHeartbeats 4000000 in
set_option maxRecDepth 100000 in
theorem c_X9_waitsFor (l : Launch) (D : va_G) (cy : Nat → ClassId) (ht : Nat → Nat) (ht_reader : Nat → Nat) (ht_rows : Nat → Nat) (ht_evidence : Nat → Nat) (ht_history : Nat → Nat) (St : SSR) (St_rows : SRows) (x1 : Int32) (x2 : Int32) (r : Int32 × SSR) (hf : f_X9_waitsFor St St_rows x1 x2 = some r) : zCI l yX9_waitsFor cX9_waitsFor 3 (some FieldType.int) 5 120 D (zty cy) [.ref (ht 0), .int x1, .int x2] (wSR ht (ht_reader 0) (ht_rows 0) (ht_evidence 0) (ht_history 0) cy St ++ (wRows ht_rows cy St_rows)) (wSR ht (ht_reader 0) (ht_rows 0) (ht_evidence 0) (ht_history 0) cy r.2 ++ (wRows ht_rows cy St_rows)) r.1 := by
  refine zCI_of (by decide +kernel) (Nat.le_of_ble_eq_true rfl) ?_
  intro p e s m below meth c A ls C hP hD hS hl
  generalize hargs : ([.ref (ht 0), .int x1, .int x2] : List Value).toArray = args at C ⊢
  have C : zX p s m meth c cX9_waitsFor 3 args RX9 (some FieldType.int) A D (zty cy) := C
  obtain ⟨hx, hb, hr, hts, hown, hlocks, hml, hA, hK⟩ := id C
  have hl : lv_has ls 3 [(0, .ref (ht 0)), (1, .int x1), (2, .int x2)] := hl
  generalize hH : s.heap = H at hP ⊢
  have hS : va_S A s.heap H [] := by rw [← hH]; exact hS
  generalize ([] : List Loc) = locs at hS ⊢
  refine lv_aload_n hx hb dX9_waitsFor_0 rfl (lv_at hl 0 rfl) ?_
  refine va_get (D := D) (ci := 5) (v := .ref (ht_rows 0)) (C := RX9) (T := TX9) (N := 7) hx hb hts in_X9 hown hK hP 0 rfl rfl 1 (by decide) (hts _ q2_20) (fun _ h9 => h9) rfl dX9_waitsFor_1 ?_
  refine lv_iload_n hx hb dX9_waitsFor_4 rfl (lv_at hl 1 rfl) ?_
  obtain ⟨q1, hc, hf⟩ := zbd hf
  refine z_cVi (As := [.int x1]) (rest := []) C (c_X6_runs l D cy ht_rows St_rows x1 q1 hc) gV_X9_X6_runs hd_X6_runs ⟨Nat.le_of_ble_eq_true rfl, Nat.le_of_ble_eq_true rfl⟩ ⟨Nat.le_refl _, Nat.le_refl _⟩ (va_recv hK hP (ci := 3) (q0 := 1) rfl rfl) hP hD hS (w2 := wSR ht (ht_reader 0) (ht_rows 0) (ht_evidence 0) (ht_history 0) cy St ++ (wRows ht_rows cy St_rows)) [1, 2, 3, 4, 5, 6, 7, 8] [0] [0, 1, 2, 3, 4, 5, 6, 7, 8] rfl rfl rfl rfl rfl rfl (by decide) hl.1 (Nat.le_of_ble_eq_true rfl) dX9_waitsFor_5 (fun H locs hP hD hS => ?_)
  refine z_if_eq (tgt := 22) hx hb dX9_waitsFor_8 (by decide) hf (fun hf => ?_) (fun hf => ?_)
  · refine lv_aload_n hx hb dX9_waitsFor_22 rfl (lv_at hl 0 rfl) ?_
    refine lv_iconst (v := (1 : Int32)) hx hb dX9_waitsFor_23 (by decide) ?_
    obtain ⟨q2, hc, hf⟩ := zbd hf
    refine z_cVi (As := [.int (1 : Int32)]) (rest := []) C (c_X9_refuse l D cy ht ht_reader ht_rows ht_evidence ht_history St (1 : Int32) q2 hc) gV_X9_X9_refuse hd_X9_refuse ⟨Nat.le_of_ble_eq_true rfl, Nat.le_of_ble_eq_true rfl⟩ ⟨Nat.le_refl _, Nat.le_refl _⟩ (va_recv hK hP (ci := 5) (q0 := 0) rfl rfl) hP hD hS (w2 := wSR ht (ht_reader 0) (ht_rows 0) (ht_evidence 0) (ht_history 0) cy q2.2 ++ (wRows ht_rows cy St_rows)) [0] [1, 2, 3, 4, 5, 6, 7, 8] [8, 0, 1, 2, 3, 4, 5, 6, 7] rfl rfl rfl rfl rfl rfl (by decide) hl.1 (Nat.le_of_ble_eq_true rfl) dX9_waitsFor_24 (fun H locs hP hD hS => ?_)
    obtain rfl := Option.some.inj hf
    exact z_iret (v := q2.1) C hP hD hS dX9_waitsFor_27
  · refine lv_aload_n hx hb dX9_waitsFor_11 rfl (lv_at hl 0 rfl) ?_
    refine va_get (D := D) (ci := 5) (v := .ref (ht_rows 0)) (C := RX9) (T := TX9) (N := 7) hx hb hts in_X9 hown hK hP 0 rfl rfl 1 (by decide) (hts _ q2_20) (fun _ h9 => h9) rfl dX9_waitsFor_12 ?_
    refine lv_iload_n hx hb dX9_waitsFor_15 rfl (lv_at hl 2 rfl) ?_
    obtain ⟨q3, hc, hf⟩ := zbd hf
    refine z_cVi (As := [.int x2]) (rest := []) C (c_X6_isRow l D cy ht_rows St_rows x2 q3 hc) gV_X9_X6_isRow hd_X6_isRow ⟨Nat.le_of_ble_eq_true rfl, Nat.le_of_ble_eq_true rfl⟩ ⟨Nat.le_refl _, Nat.le_refl _⟩ (va_recv hK hP (ci := 3) (q0 := 1) rfl rfl) hP hD hS (w2 := wSR ht (ht_reader 0) (ht_rows 0) (ht_evidence 0) (ht_history 0) cy St ++ (wRows ht_rows cy St_rows)) [1, 2, 3, 4, 5, 6, 7, 8] [0] [0, 1, 2, 3, 4, 5, 6, 7, 8] rfl rfl rfl rfl rfl rfl (by decide) hl.1 (Nat.le_of_ble_eq_true rfl) dX9_waitsFor_16 (fun H locs hP hD hS => ?_)
    refine z_if_ne (tgt := 28) hx hb dX9_waitsFor_19 (by decide) hf (fun hf => ?_) (fun hf => ?_)
    · refine lv_aload_n hx hb dX9_waitsFor_28 rfl (lv_at hl 0 rfl) ?_
      refine lv_aload_n hx hb dX9_waitsFor_29 rfl (lv_at hl 0 rfl) ?_
      refine va_get (D := D) (ci := 5) (v := .ref (ht_rows 0)) (C := RX9) (T := TX9) (N := 7) hx hb hts in_X9 hown hK hP 0 rfl rfl 1 (by decide) (hts _ q2_20) (fun _ h9 => h9) rfl dX9_waitsFor_30 ?_
      refine lv_iload_n hx hb dX9_waitsFor_33 rfl (lv_at hl 1 rfl) ?_
      refine lv_iload_n hx hb dX9_waitsFor_34 rfl (lv_at hl 2 rfl) ?_
      obtain ⟨q4, hc, hf⟩ := zbd hf
      refine z_cVi (As := [.int x1, .int x2]) (rest := [.ref (ht 0)]) C (c_X6_holder l D cy ht_rows St_rows x1 x2 q4 hc) gV_X9_X6_holder hd_X6_holder ⟨Nat.le_of_ble_eq_true rfl, Nat.le_of_ble_eq_true rfl⟩ ⟨Nat.le_refl _, Nat.le_refl _⟩ (va_recv hK hP (ci := 3) (q0 := 1) rfl rfl) hP hD hS (w2 := wSR ht (ht_reader 0) (ht_rows 0) (ht_evidence 0) (ht_history 0) cy St ++ (wRows ht_rows cy St_rows)) [1, 2, 3, 4, 5, 6, 7, 8] [0] [0, 1, 2, 3, 4, 5, 6, 7, 8] rfl rfl rfl rfl rfl rfl (by decide) hl.1 (Nat.le_of_ble_eq_true rfl) dX9_waitsFor_35 (fun H locs hP hD hS => ?_)
      obtain ⟨q5, hc, hf⟩ := zbd hf
      refine z_cVi (As := [.int q4]) (rest := []) C (c_X9_answer l D cy ht ht_reader ht_rows ht_evidence ht_history St q4 q5 hc) gV_X9_X9_answer hd_X9_answer ⟨Nat.le_of_ble_eq_true rfl, Nat.le_of_ble_eq_true rfl⟩ ⟨Nat.le_refl _, Nat.le_refl _⟩ (va_recv hK hP (ci := 5) (q0 := 0) rfl rfl) hP hD hS (w2 := wSR ht (ht_reader 0) (ht_rows 0) (ht_evidence 0) (ht_history 0) cy q5.2 ++ (wRows ht_rows cy St_rows)) [0] [1, 2, 3, 4, 5, 6, 7, 8] [8, 0, 1, 2, 3, 4, 5, 6, 7] rfl rfl rfl rfl rfl rfl (by decide) hl.1 (Nat.le_of_ble_eq_true rfl) dX9_waitsFor_38 (fun H locs hP hD hS => ?_)
      obtain rfl := Option.some.inj hf
      exact z_iret (v := q5.1) C hP hD hS dX9_waitsFor_41
    · refine lv_aload_n hx hb dX9_waitsFor_22 rfl (lv_at hl 0 rfl) ?_
      refine lv_iconst (v := (1 : Int32)) hx hb dX9_waitsFor_23 (by decide) ?_
      obtain ⟨q6, hc, hf⟩ := zbd hf
      refine z_cVi (As := [.int (1 : Int32)]) (rest := []) C (c_X9_refuse l D cy ht ht_reader ht_rows ht_evidence ht_history St (1 : Int32) q6 hc) gV_X9_X9_refuse hd_X9_refuse ⟨Nat.le_of_ble_eq_true rfl, Nat.le_of_ble_eq_true rfl⟩ ⟨Nat.le_refl _, Nat.le_refl _⟩ (va_recv hK hP (ci := 5) (q0 := 0) rfl rfl) hP hD hS (w2 := wSR ht (ht_reader 0) (ht_rows 0) (ht_evidence 0) (ht_history 0) cy q6.2 ++ (wRows ht_rows cy St_rows)) [0] [1, 2, 3, 4, 5, 6, 7, 8] [8, 0, 1, 2, 3, 4, 5, 6, 7] rfl rfl rfl rfl rfl rfl (by decide) hl.1 (Nat.le_of_ble_eq_true rfl) dX9_waitsFor_24 (fun H locs hP hD hS => ?_)
      obtain rfl := Option.some.inj hf
      exact z_iret (v := q6.1) C hP hD hS dX9_waitsFor_27
def f_X9_open (St : SSR) (St_rows : SRows) (x1 : Int32) : Option (Int32 × SSR) :=
  (f_X6_runs St_rows x1).bind (fun q1 =>
    (if q1 = 0 then
      (f_X9_refuse St (1 : Int32)).bind (fun q2 =>
        some (q2.1, q2.2))
      else
      (f_X6_rowsWithVerdict St_rows x1 (0 : Int32)).bind (fun q3 =>
        (f_X9_answer St q3).bind (fun q4 =>
          some (q4.1, q4.2)))))
set_option maxHeartbeats 4000000 in
set_option maxRecDepth 100000 in
theorem c_X9_open (l : Launch) (D : va_G) (cy : Nat → ClassId) (ht : Nat → Nat) (ht_reader : Nat → Nat) (ht_rows : Nat → Nat) (ht_evidence : Nat → Nat) (ht_history : Nat → Nat) (St : SSR) (St_rows : SRows) (x1 : Int32) (r : Int32 × SSR) (hf : f_X9_open St St_rows x1 = some r) : zCI l yX9_open cX9_open 2 (some FieldType.int) 5 121 D (zty cy) [.ref (ht 0), .int x1] (wSR ht (ht_reader 0) (ht_rows 0) (ht_evidence 0) (ht_history 0) cy St ++ (wRows ht_rows cy St_rows)) (wSR ht (ht_reader 0) (ht_rows 0) (ht_evidence 0) (ht_history 0) cy r.2 ++ (wRows ht_rows cy St_rows)) r.1 := by
  refine zCI_of (by decide +kernel) (Nat.le_of_ble_eq_true rfl) ?_
  intro p e s m below meth c A ls C hP hD hS hl
  generalize hargs : ([.ref (ht 0), .int x1] : List Value).toArray = args at C ⊢
  have C : zX p s m meth c cX9_open 2 args RX9 (some FieldType.int) A D (zty cy) := C
  obtain ⟨hx, hb, hr, hts, hown, hlocks, hml, hA, hK⟩ := id C
  have hl : lv_has ls 2 [(0, .ref (ht 0)), (1, .int x1)] := hl
  generalize hH : s.heap = H at hP ⊢
  have hS : va_S A s.heap H [] := by rw [← hH]; exact hS
  generalize ([] : List Loc) = locs at hS ⊢
  refine lv_aload_n hx hb dX9_open_0 rfl (lv_at hl 0 rfl) ?_
  refine va_get (D := D) (ci := 5) (v := .ref (ht_rows 0)) (C := RX9) (T := TX9) (N := 7) hx hb hts in_X9 hown hK hP 0 rfl rfl 1 (by decide) (hts _ q2_20) (fun _ h9 => h9) rfl dX9_open_1 ?_
  refine lv_iload_n hx hb dX9_open_4 rfl (lv_at hl 1 rfl) ?_
  obtain ⟨q1, hc, hf⟩ := zbd hf
  refine z_cVi (As := [.int x1]) (rest := []) C (c_X6_runs l D cy ht_rows St_rows x1 q1 hc) gV_X9_X6_runs hd_X6_runs ⟨Nat.le_of_ble_eq_true rfl, Nat.le_of_ble_eq_true rfl⟩ ⟨Nat.le_refl _, Nat.le_refl _⟩ (va_recv hK hP (ci := 3) (q0 := 1) rfl rfl) hP hD hS (w2 := wSR ht (ht_reader 0) (ht_rows 0) (ht_evidence 0) (ht_history 0) cy St ++ (wRows ht_rows cy St_rows)) [1, 2, 3, 4, 5, 6, 7, 8] [0] [0, 1, 2, 3, 4, 5, 6, 7, 8] rfl rfl rfl rfl rfl rfl (by decide) hl.1 (Nat.le_of_ble_eq_true rfl) dX9_open_5 (fun H locs hP hD hS => ?_)
  refine z_if_eq (tgt := 27) hx hb dX9_open_8 (by decide) hf (fun hf => ?_) (fun hf => ?_)
  · refine lv_aload_n hx hb dX9_open_27 rfl (lv_at hl 0 rfl) ?_
    refine lv_iconst (v := (1 : Int32)) hx hb dX9_open_28 (by decide) ?_
    obtain ⟨q2, hc, hf⟩ := zbd hf
    refine z_cVi (As := [.int (1 : Int32)]) (rest := []) C (c_X9_refuse l D cy ht ht_reader ht_rows ht_evidence ht_history St (1 : Int32) q2 hc) gV_X9_X9_refuse hd_X9_refuse ⟨Nat.le_of_ble_eq_true rfl, Nat.le_of_ble_eq_true rfl⟩ ⟨Nat.le_refl _, Nat.le_refl _⟩ (va_recv hK hP (ci := 5) (q0 := 0) rfl rfl) hP hD hS (w2 := wSR ht (ht_reader 0) (ht_rows 0) (ht_evidence 0) (ht_history 0) cy q2.2 ++ (wRows ht_rows cy St_rows)) [0] [1, 2, 3, 4, 5, 6, 7, 8] [8, 0, 1, 2, 3, 4, 5, 6, 7] rfl rfl rfl rfl rfl rfl (by decide) hl.1 (Nat.le_of_ble_eq_true rfl) dX9_open_29 (fun H locs hP hD hS => ?_)
    obtain rfl := Option.some.inj hf
    exact z_iret (v := q2.1) C hP hD hS dX9_open_32
  · refine lv_aload_n hx hb dX9_open_11 rfl (lv_at hl 0 rfl) ?_
    refine lv_aload_n hx hb dX9_open_12 rfl (lv_at hl 0 rfl) ?_
    refine va_get (D := D) (ci := 5) (v := .ref (ht_rows 0)) (C := RX9) (T := TX9) (N := 7) hx hb hts in_X9 hown hK hP 0 rfl rfl 1 (by decide) (hts _ q2_20) (fun _ h9 => h9) rfl dX9_open_13 ?_
    refine lv_iload_n hx hb dX9_open_16 rfl (lv_at hl 1 rfl) ?_
    refine lv_iconst (v := (0 : Int32)) hx hb dX9_open_17 (by decide) ?_
    obtain ⟨q3, hc, hf⟩ := zbd hf
    refine z_cVi (As := [.int x1, .int (0 : Int32)]) (rest := [.ref (ht 0)]) C (c_X6_rowsWithVerdict l D cy ht_rows St_rows x1 (0 : Int32) q3 hc) gV_X9_X6_rowsWithVerdict hd_X6_rowsWithVerdict ⟨Nat.le_of_ble_eq_true rfl, Nat.le_of_ble_eq_true rfl⟩ ⟨Nat.le_refl _, Nat.le_refl _⟩ (va_recv hK hP (ci := 3) (q0 := 1) rfl rfl) hP hD hS (w2 := wSR ht (ht_reader 0) (ht_rows 0) (ht_evidence 0) (ht_history 0) cy St ++ (wRows ht_rows cy St_rows)) [1, 2, 3, 4, 5, 6, 7, 8] [0] [0, 1, 2, 3, 4, 5, 6, 7, 8] rfl rfl rfl rfl rfl rfl (by decide) hl.1 (Nat.le_of_ble_eq_true rfl) dX9_open_18 (fun H locs hP hD hS => ?_)
    obtain ⟨q4, hc, hf⟩ := zbd hf
    refine z_cVi (As := [.int q3]) (rest := []) C (c_X9_answer l D cy ht ht_reader ht_rows ht_evidence ht_history St q3 q4 hc) gV_X9_X9_answer hd_X9_answer ⟨Nat.le_of_ble_eq_true rfl, Nat.le_of_ble_eq_true rfl⟩ ⟨Nat.le_refl _, Nat.le_refl _⟩ (va_recv hK hP (ci := 5) (q0 := 0) rfl rfl) hP hD hS (w2 := wSR ht (ht_reader 0) (ht_rows 0) (ht_evidence 0) (ht_history 0) cy q4.2 ++ (wRows ht_rows cy St_rows)) [0] [1, 2, 3, 4, 5, 6, 7, 8] [8, 0, 1, 2, 3, 4, 5, 6, 7] rfl rfl rfl rfl rfl rfl (by decide) hl.1 (Nat.le_of_ble_eq_true rfl) dX9_open_21 (fun H locs hP hD hS => ?_)
    refine lv_goto (tgt := 32) hx hb dX9_open_24 (by decide) ?_
    obtain rfl := Option.some.inj hf
    exact z_iret (v := q4.1) C hP hD hS dX9_open_32
def f_X9_loses (St : SSR) (St_rows : SRows) (x1 : Int32) : Option (Int32 × SSR) :=
  (f_X6_runs St_rows x1).bind (fun q1 =>
    (if q1 = 0 then
      (f_X9_refuse St (1 : Int32)).bind (fun q2 =>
        some (q2.1, q2.2))
      else
      (f_X6_rowsWithVerdict St_rows x1 (2 : Int32)).bind (fun q3 =>
        (f_X9_answer St q3).bind (fun q4 =>
          some (q4.1, q4.2)))))
set_option maxHeartbeats 4000000 in
set_option maxRecDepth 100000 in
theorem c_X9_loses (l : Launch) (D : va_G) (cy : Nat → ClassId) (ht : Nat → Nat) (ht_reader : Nat → Nat) (ht_rows : Nat → Nat) (ht_evidence : Nat → Nat) (ht_history : Nat → Nat) (St : SSR) (St_rows : SRows) (x1 : Int32) (r : Int32 × SSR) (hf : f_X9_loses St St_rows x1 = some r) : zCI l yX9_loses cX9_loses 2 (some FieldType.int) 5 121 D (zty cy) [.ref (ht 0), .int x1] (wSR ht (ht_reader 0) (ht_rows 0) (ht_evidence 0) (ht_history 0) cy St ++ (wRows ht_rows cy St_rows)) (wSR ht (ht_reader 0) (ht_rows 0) (ht_evidence 0) (ht_history 0) cy r.2 ++ (wRows ht_rows cy St_rows)) r.1 := by
  refine zCI_of (by decide +kernel) (Nat.le_of_ble_eq_true rfl) ?_
  intro p e s m below meth c A ls C hP hD hS hl
  generalize hargs : ([.ref (ht 0), .int x1] : List Value).toArray = args at C ⊢
  have C : zX p s m meth c cX9_loses 2 args RX9 (some FieldType.int) A D (zty cy) := C
  obtain ⟨hx, hb, hr, hts, hown, hlocks, hml, hA, hK⟩ := id C
  have hl : lv_has ls 2 [(0, .ref (ht 0)), (1, .int x1)] := hl
  generalize hH : s.heap = H at hP ⊢
  have hS : va_S A s.heap H [] := by rw [← hH]; exact hS
  generalize ([] : List Loc) = locs at hS ⊢
  refine lv_aload_n hx hb dX9_loses_0 rfl (lv_at hl 0 rfl) ?_
  refine va_get (D := D) (ci := 5) (v := .ref (ht_rows 0)) (C := RX9) (T := TX9) (N := 7) hx hb hts in_X9 hown hK hP 0 rfl rfl 1 (by decide) (hts _ q2_20) (fun _ h9 => h9) rfl dX9_loses_1 ?_
  refine lv_iload_n hx hb dX9_loses_4 rfl (lv_at hl 1 rfl) ?_
  obtain ⟨q1, hc, hf⟩ := zbd hf
  refine z_cVi (As := [.int x1]) (rest := []) C (c_X6_runs l D cy ht_rows St_rows x1 q1 hc) gV_X9_X6_runs hd_X6_runs ⟨Nat.le_of_ble_eq_true rfl, Nat.le_of_ble_eq_true rfl⟩ ⟨Nat.le_refl _, Nat.le_refl _⟩ (va_recv hK hP (ci := 3) (q0 := 1) rfl rfl) hP hD hS (w2 := wSR ht (ht_reader 0) (ht_rows 0) (ht_evidence 0) (ht_history 0) cy St ++ (wRows ht_rows cy St_rows)) [1, 2, 3, 4, 5, 6, 7, 8] [0] [0, 1, 2, 3, 4, 5, 6, 7, 8] rfl rfl rfl rfl rfl rfl (by decide) hl.1 (Nat.le_of_ble_eq_true rfl) dX9_loses_5 (fun H locs hP hD hS => ?_)
  refine z_if_eq (tgt := 27) hx hb dX9_loses_8 (by decide) hf (fun hf => ?_) (fun hf => ?_)
  · refine lv_aload_n hx hb dX9_loses_27 rfl (lv_at hl 0 rfl) ?_
    refine lv_iconst (v := (1 : Int32)) hx hb dX9_loses_28 (by decide) ?_
    obtain ⟨q2, hc, hf⟩ := zbd hf
    refine z_cVi (As := [.int (1 : Int32)]) (rest := []) C (c_X9_refuse l D cy ht ht_reader ht_rows ht_evidence ht_history St (1 : Int32) q2 hc) gV_X9_X9_refuse hd_X9_refuse ⟨Nat.le_of_ble_eq_true rfl, Nat.le_of_ble_eq_true rfl⟩ ⟨Nat.le_refl _, Nat.le_refl _⟩ (va_recv hK hP (ci := 5) (q0 := 0) rfl rfl) hP hD hS (w2 := wSR ht (ht_reader 0) (ht_rows 0) (ht_evidence 0) (ht_history 0) cy q2.2 ++ (wRows ht_rows cy St_rows)) [0] [1, 2, 3, 4, 5, 6, 7, 8] [8, 0, 1, 2, 3, 4, 5, 6, 7] rfl rfl rfl rfl rfl rfl (by decide) hl.1 (Nat.le_of_ble_eq_true rfl) dX9_loses_29 (fun H locs hP hD hS => ?_)
    obtain rfl := Option.some.inj hf
    exact z_iret (v := q2.1) C hP hD hS dX9_loses_32
  · refine lv_aload_n hx hb dX9_loses_11 rfl (lv_at hl 0 rfl) ?_
    refine lv_aload_n hx hb dX9_loses_12 rfl (lv_at hl 0 rfl) ?_
    refine va_get (D := D) (ci := 5) (v := .ref (ht_rows 0)) (C := RX9) (T := TX9) (N := 7) hx hb hts in_X9 hown hK hP 0 rfl rfl 1 (by decide) (hts _ q2_20) (fun _ h9 => h9) rfl dX9_loses_13 ?_
    refine lv_iload_n hx hb dX9_loses_16 rfl (lv_at hl 1 rfl) ?_
    refine lv_iconst (v := (2 : Int32)) hx hb dX9_loses_17 (by decide) ?_
    obtain ⟨q3, hc, hf⟩ := zbd hf
    refine z_cVi (As := [.int x1, .int (2 : Int32)]) (rest := [.ref (ht 0)]) C (c_X6_rowsWithVerdict l D cy ht_rows St_rows x1 (2 : Int32) q3 hc) gV_X9_X6_rowsWithVerdict hd_X6_rowsWithVerdict ⟨Nat.le_of_ble_eq_true rfl, Nat.le_of_ble_eq_true rfl⟩ ⟨Nat.le_refl _, Nat.le_refl _⟩ (va_recv hK hP (ci := 3) (q0 := 1) rfl rfl) hP hD hS (w2 := wSR ht (ht_reader 0) (ht_rows 0) (ht_evidence 0) (ht_history 0) cy St ++ (wRows ht_rows cy St_rows)) [1, 2, 3, 4, 5, 6, 7, 8] [0] [0, 1, 2, 3, 4, 5, 6, 7, 8] rfl rfl rfl rfl rfl rfl (by decide) hl.1 (Nat.le_of_ble_eq_true rfl) dX9_loses_18 (fun H locs hP hD hS => ?_)
    obtain ⟨q4, hc, hf⟩ := zbd hf
    refine z_cVi (As := [.int q3]) (rest := []) C (c_X9_answer l D cy ht ht_reader ht_rows ht_evidence ht_history St q3 q4 hc) gV_X9_X9_answer hd_X9_answer ⟨Nat.le_of_ble_eq_true rfl, Nat.le_of_ble_eq_true rfl⟩ ⟨Nat.le_refl _, Nat.le_refl _⟩ (va_recv hK hP (ci := 5) (q0 := 0) rfl rfl) hP hD hS (w2 := wSR ht (ht_reader 0) (ht_rows 0) (ht_evidence 0) (ht_history 0) cy q4.2 ++ (wRows ht_rows cy St_rows)) [0] [1, 2, 3, 4, 5, 6, 7, 8] [8, 0, 1, 2, 3, 4, 5, 6, 7] rfl rfl rfl rfl rfl rfl (by decide) hl.1 (Nat.le_of_ble_eq_true rfl) dX9_loses_21 (fun H locs hP hD hS => ?_)
    refine lv_goto (tgt := 32) hx hb dX9_loses_24 (by decide) ?_
    obtain rfl := Option.some.inj hf
    exact z_iret (v := q4.1) C hP hD hS dX9_loses_32
def f_X9_fits (St : SSR) (St_evidence : SEv) (St_rows : SRows) : Option (Int32 × SSR) :=
  (f_X9_hasStore St St_rows).bind (fun q1 =>
    (if q1 = 0 then
      (f_X9_refuse St (1 : Int32)).bind (fun q2 =>
        some (q2.1, q2.2))
      else
      (f_X9_answer St (Ev_fitCount St_evidence)).bind (fun q3 =>
        some (q3.1, q3.2))))
set_option maxHeartbeats 4000000 in
set_option maxRecDepth 100000 in
theorem c_X9_fits (l : Launch) (D : va_G) (cy : Nat → ClassId) (ht : Nat → Nat) (ht_reader : Nat → Nat) (ht_rows : Nat → Nat) (ht_evidence : Nat → Nat) (ht_history : Nat → Nat) (St : SSR) (St_evidence : SEv) (St_rows : SRows) (r : Int32 × SSR) (hf : f_X9_fits St St_evidence St_rows = some r) : zCI l yX9_fits cX9_fits 1 (some FieldType.int) 1 21 D (zty cy) [.ref (ht 0)] (wSR ht (ht_reader 0) (ht_rows 0) (ht_evidence 0) (ht_history 0) cy St ++ (wEv ht_evidence cy St_evidence ++ (wRows ht_rows cy St_rows))) (wSR ht (ht_reader 0) (ht_rows 0) (ht_evidence 0) (ht_history 0) cy r.2 ++ (wEv ht_evidence cy St_evidence ++ (wRows ht_rows cy St_rows))) r.1 := by
  refine zCI_of (by decide +kernel) (Nat.le_of_ble_eq_true rfl) ?_
  intro p e s m below meth c A ls C hP hD hS hl
  generalize hargs : ([.ref (ht 0)] : List Value).toArray = args at C ⊢
  have C : zX p s m meth c cX9_fits 1 args RX9 (some FieldType.int) A D (zty cy) := C
  obtain ⟨hx, hb, hr, hts, hown, hlocks, hml, hA, hK⟩ := id C
  have hl : lv_has ls 1 [(0, .ref (ht 0))] := hl
  generalize hH : s.heap = H at hP ⊢
  have hS : va_S A s.heap H [] := by rw [← hH]; exact hS
  generalize ([] : List Loc) = locs at hS ⊢
  refine lv_aload_n hx hb dX9_fits_0 rfl (lv_at hl 0 rfl) ?_
  obtain ⟨q1, hc, hf⟩ := zbd hf
  refine z_cVi (As := []) (rest := []) C (c_X9_hasStore l D cy ht ht_reader ht_rows ht_evidence ht_history St St_rows q1 hc) gV_X9_X9_hasStore hd_X9_hasStore ⟨Nat.le_of_ble_eq_true rfl, Nat.le_of_ble_eq_true rfl⟩ ⟨Nat.le_refl _, Nat.le_refl _⟩ (va_recv hK hP (ci := 5) (q0 := 0) rfl rfl) hP hD hS (w2 := wSR ht (ht_reader 0) (ht_rows 0) (ht_evidence 0) (ht_history 0) cy St ++ (wEv ht_evidence cy St_evidence ++ (wRows ht_rows cy St_rows))) [0, 6, 7, 8, 9, 10, 11, 12, 13] [1, 2, 3, 4, 5] [5, 0, 1, 2, 3, 4, 6, 7, 8, 9, 10, 11, 12, 13] rfl rfl rfl rfl rfl rfl (by decide) hl.1 (Nat.le_of_ble_eq_true rfl) dX9_fits_1 (fun H locs hP hD hS => ?_)
  refine z_if_eq (tgt := 21) hx hb dX9_fits_4 (by decide) hf (fun hf => ?_) (fun hf => ?_)
  · refine lv_aload_n hx hb dX9_fits_21 rfl (lv_at hl 0 rfl) ?_
    refine lv_iconst (v := (1 : Int32)) hx hb dX9_fits_22 (by decide) ?_
    obtain ⟨q2, hc, hf⟩ := zbd hf
    refine z_cVi (As := [.int (1 : Int32)]) (rest := []) C (c_X9_refuse l D cy ht ht_reader ht_rows ht_evidence ht_history St (1 : Int32) q2 hc) gV_X9_X9_refuse hd_X9_refuse ⟨Nat.le_of_ble_eq_true rfl, Nat.le_of_ble_eq_true rfl⟩ ⟨Nat.le_refl _, Nat.le_refl _⟩ (va_recv hK hP (ci := 5) (q0 := 0) rfl rfl) hP hD hS (w2 := wSR ht (ht_reader 0) (ht_rows 0) (ht_evidence 0) (ht_history 0) cy q2.2 ++ (wEv ht_evidence cy St_evidence ++ (wRows ht_rows cy St_rows))) [0] [1, 2, 3, 4, 5, 6, 7, 8, 9, 10, 11, 12, 13] [13, 0, 1, 2, 3, 4, 5, 6, 7, 8, 9, 10, 11, 12] rfl rfl rfl rfl rfl rfl (by decide) hl.1 (Nat.le_of_ble_eq_true rfl) dX9_fits_23 (fun H locs hP hD hS => ?_)
    obtain rfl := Option.some.inj hf
    exact z_iret (v := q2.1) C hP hD hS dX9_fits_26
  · refine lv_aload_n hx hb dX9_fits_7 rfl (lv_at hl 0 rfl) ?_
    refine lv_aload_n hx hb dX9_fits_8 rfl (lv_at hl 0 rfl) ?_
    refine va_get (D := D) (ci := 5) (v := .ref (ht_evidence 0)) (C := RX9) (T := TX9) (N := 7) hx hb hts in_X9 hown hK hP 0 rfl rfl 2 (by decide) (hts _ q2_21) (fun _ h9 => h9) rfl dX9_fits_9 ?_
    refine va_get (D := D) (ci := 0) (v := .int (Ev_fitCount St_evidence)) (C := RX2) (T := TX2) (N := 8) hx hb hts in_X2 hown hK hP 1 rfl rfl 2 (by decide) (hts _ q1_120) (fun _ h9 => h9) rfl dX9_fits_12 ?_
    obtain ⟨q3, hc, hf⟩ := zbd hf
    refine z_cVi (As := [.int (Ev_fitCount St_evidence)]) (rest := []) C (c_X9_answer l D cy ht ht_reader ht_rows ht_evidence ht_history St (Ev_fitCount St_evidence) q3 hc) gV_X9_X9_answer hd_X9_answer ⟨Nat.le_of_ble_eq_true rfl, Nat.le_of_ble_eq_true rfl⟩ ⟨Nat.le_refl _, Nat.le_refl _⟩ (va_recv hK hP (ci := 5) (q0 := 0) rfl rfl) hP hD hS (w2 := wSR ht (ht_reader 0) (ht_rows 0) (ht_evidence 0) (ht_history 0) cy q3.2 ++ (wEv ht_evidence cy St_evidence ++ (wRows ht_rows cy St_rows))) [0] [1, 2, 3, 4, 5, 6, 7, 8, 9, 10, 11, 12, 13] [13, 0, 1, 2, 3, 4, 5, 6, 7, 8, 9, 10, 11, 12] rfl rfl rfl rfl rfl rfl (by decide) hl.1 (Nat.le_of_ble_eq_true rfl) dX9_fits_15 (fun H locs hP hD hS => ?_)
    refine lv_goto (tgt := 26) hx hb dX9_fits_18 (by decide) ?_
    obtain rfl := Option.some.inj hf
    exact z_iret (v := q3.1) C hP hD hS dX9_fits_26
def f_X9_fitAt (St : SSR) (St_evidence : SEv) (x1 : Int32) : Option (Int32 × SSR) :=
  (f_X2_fitNumber St_evidence x1).bind (fun q1 =>
    (if q1 = (-2 : Int32) then
      (f_X9_refuse St (1 : Int32)).bind (fun q3 =>
        some (q3.1, q3.2))
      else
      (f_X9_answer St q1).bind (fun q2 =>
        some (q2.1, q2.2))))
set_option maxHeartbeats 4000000 in
set_option maxRecDepth 100000 in
theorem c_X9_fitAt (l : Launch) (D : va_G) (cy : Nat → ClassId) (ht : Nat → Nat) (ht_reader : Nat → Nat) (ht_rows : Nat → Nat) (ht_evidence : Nat → Nat) (ht_history : Nat → Nat) (St : SSR) (St_evidence : SEv) (x1 : Int32) (r : Int32 × SSR) (hf : f_X9_fitAt St St_evidence x1 = some r) : zCI l yX9_fitAt cX9_fitAt 3 (some FieldType.int) 1 21 D (zty cy) [.ref (ht 0), .int x1] (wSR ht (ht_reader 0) (ht_rows 0) (ht_evidence 0) (ht_history 0) cy St ++ (wEv ht_evidence cy St_evidence)) (wSR ht (ht_reader 0) (ht_rows 0) (ht_evidence 0) (ht_history 0) cy r.2 ++ (wEv ht_evidence cy St_evidence)) r.1 := by
  refine zCI_of (by decide +kernel) (Nat.le_of_ble_eq_true rfl) ?_
  intro p e s m below meth c A ls C hP hD hS hl
  generalize hargs : ([.ref (ht 0), .int x1] : List Value).toArray = args at C ⊢
  have C : zX p s m meth c cX9_fitAt 3 args RX9 (some FieldType.int) A D (zty cy) := C
  obtain ⟨hx, hb, hr, hts, hown, hlocks, hml, hA, hK⟩ := id C
  have hl : lv_has ls 3 [(0, .ref (ht 0)), (1, .int x1)] := hl
  generalize hH : s.heap = H at hP ⊢
  have hS : va_S A s.heap H [] := by rw [← hH]; exact hS
  generalize ([] : List Loc) = locs at hS ⊢
  refine lv_aload_n hx hb dX9_fitAt_0 rfl (lv_at hl 0 rfl) ?_
  refine va_get (D := D) (ci := 5) (v := .ref (ht_evidence 0)) (C := RX9) (T := TX9) (N := 7) hx hb hts in_X9 hown hK hP 0 rfl rfl 2 (by decide) (hts _ q2_21) (fun _ h9 => h9) rfl dX9_fitAt_1 ?_
  refine lv_iload_n hx hb dX9_fitAt_4 rfl (lv_at hl 1 rfl) ?_
  obtain ⟨q1, hc, hf⟩ := zbd hf
  refine z_cVi (As := [.int x1]) (rest := []) C (c_X2_fitNumber l D cy ht_evidence St_evidence x1 q1 hc) gV_X9_X2_fitNumber hd_X2_fitNumber ⟨Nat.le_of_ble_eq_true rfl, Nat.le_of_ble_eq_true rfl⟩ ⟨Nat.le_refl _, Nat.le_refl _⟩ (va_recv hK hP (ci := 0) (q0 := 1) rfl rfl) hP hD hS (w2 := wSR ht (ht_reader 0) (ht_rows 0) (ht_evidence 0) (ht_history 0) cy St ++ (wEv ht_evidence cy St_evidence)) [1, 2, 3, 4, 5] [0] [0, 1, 2, 3, 4, 5] rfl rfl rfl rfl rfl rfl (by decide) hl.1 (Nat.le_of_ble_eq_true rfl) dX9_fitAt_5 (fun H locs hP hD hS => ?_)
  refine lv_istore_n (lv' := [(2, .int q1), (0, .ref (ht 0)), (1, .int x1)]) hx hb dX9_fitAt_8 rfl hl (by decide) rfl (fun ls hl => ?_)
  refine lv_iload_n hx hb dX9_fitAt_9 rfl (lv_at hl 0 rfl) ?_
  refine lv_bipush (v := (-2 : Int32)) hx hb dX9_fitAt_10 (by decide) ?_
  refine z_icmp_ne (tgt := 23) hx hb dX9_fitAt_12 (by decide) hf (fun hf => ?_) (fun hf => ?_)
  · refine lv_aload_n hx hb dX9_fitAt_23 rfl (lv_at hl 1 rfl) ?_
    refine lv_iload_n hx hb dX9_fitAt_24 rfl (lv_at hl 0 rfl) ?_
    obtain ⟨q2, hc, hf⟩ := zbd hf
    refine z_cVi (As := [.int q1]) (rest := []) C (c_X9_answer l D cy ht ht_reader ht_rows ht_evidence ht_history St q1 q2 hc) gV_X9_X9_answer hd_X9_answer ⟨Nat.le_of_ble_eq_true rfl, Nat.le_of_ble_eq_true rfl⟩ ⟨Nat.le_refl _, Nat.le_refl _⟩ (va_recv hK hP (ci := 5) (q0 := 0) rfl rfl) hP hD hS (w2 := wSR ht (ht_reader 0) (ht_rows 0) (ht_evidence 0) (ht_history 0) cy q2.2 ++ (wEv ht_evidence cy St_evidence)) [0] [1, 2, 3, 4, 5] [5, 0, 1, 2, 3, 4] rfl rfl rfl rfl rfl rfl (by decide) hl.1 (Nat.le_of_ble_eq_true rfl) dX9_fitAt_25 (fun H locs hP hD hS => ?_)
    obtain rfl := Option.some.inj hf
    exact z_iret (v := q2.1) C hP hD hS dX9_fitAt_28
  · refine lv_aload_n hx hb dX9_fitAt_15 rfl (lv_at hl 1 rfl) ?_
    refine lv_iconst (v := (1 : Int32)) hx hb dX9_fitAt_16 (by decide) ?_
    obtain ⟨q3, hc, hf⟩ := zbd hf
    refine z_cVi (As := [.int (1 : Int32)]) (rest := []) C (c_X9_refuse l D cy ht ht_reader ht_rows ht_evidence ht_history St (1 : Int32) q3 hc) gV_X9_X9_refuse hd_X9_refuse ⟨Nat.le_of_ble_eq_true rfl, Nat.le_of_ble_eq_true rfl⟩ ⟨Nat.le_refl _, Nat.le_refl _⟩ (va_recv hK hP (ci := 5) (q0 := 0) rfl rfl) hP hD hS (w2 := wSR ht (ht_reader 0) (ht_rows 0) (ht_evidence 0) (ht_history 0) cy q3.2 ++ (wEv ht_evidence cy St_evidence)) [0] [1, 2, 3, 4, 5] [5, 0, 1, 2, 3, 4] rfl rfl rfl rfl rfl rfl (by decide) hl.1 (Nat.le_of_ble_eq_true rfl) dX9_fitAt_17 (fun H locs hP hD hS => ?_)
    refine lv_goto (tgt := 28) hx hb dX9_fitAt_20 (by decide) ?_
    obtain rfl := Option.some.inj hf
    exact z_iret (v := q3.1) C hP hD hS dX9_fitAt_28
def f_X9_could (St : SSR) (St_evidence : SEv) (St_rows : SRows) : Option (Int32 × SSR) :=
  (f_X9_hasStore St St_rows).bind (fun q1 =>
    (if q1 = 0 then
      (f_X9_refuse St (1 : Int32)).bind (fun q2 =>
        some (q2.1, q2.2))
      else
      (f_X2_inSomeFit St_evidence).bind (fun q3 =>
        (f_X9_answer St q3).bind (fun q4 =>
          some (q4.1, q4.2)))))
set_option maxHeartbeats 4000000 in
set_option maxRecDepth 100000 in
theorem c_X9_could (l : Launch) (D : va_G) (cy : Nat → ClassId) (ht : Nat → Nat) (ht_reader : Nat → Nat) (ht_rows : Nat → Nat) (ht_evidence : Nat → Nat) (ht_history : Nat → Nat) (St : SSR) (St_evidence : SEv) (St_rows : SRows) (r : Int32 × SSR) (hf : f_X9_could St St_evidence St_rows = some r) : zCI l yX9_could cX9_could 1 (some FieldType.int) 2 43 D (zty cy) [.ref (ht 0)] (wSR ht (ht_reader 0) (ht_rows 0) (ht_evidence 0) (ht_history 0) cy St ++ (wEv ht_evidence cy St_evidence ++ (wRows ht_rows cy St_rows))) (wSR ht (ht_reader 0) (ht_rows 0) (ht_evidence 0) (ht_history 0) cy r.2 ++ (wEv ht_evidence cy St_evidence ++ (wRows ht_rows cy St_rows))) r.1 := by
  refine zCI_of (by decide +kernel) (Nat.le_of_ble_eq_true rfl) ?_
  intro p e s m below meth c A ls C hP hD hS hl
  generalize hargs : ([.ref (ht 0)] : List Value).toArray = args at C ⊢
  have C : zX p s m meth c cX9_could 1 args RX9 (some FieldType.int) A D (zty cy) := C
  obtain ⟨hx, hb, hr, hts, hown, hlocks, hml, hA, hK⟩ := id C
  have hl : lv_has ls 1 [(0, .ref (ht 0))] := hl
  generalize hH : s.heap = H at hP ⊢
  have hS : va_S A s.heap H [] := by rw [← hH]; exact hS
  generalize ([] : List Loc) = locs at hS ⊢
  refine lv_aload_n hx hb dX9_could_0 rfl (lv_at hl 0 rfl) ?_
  obtain ⟨q1, hc, hf⟩ := zbd hf
  refine z_cVi (As := []) (rest := []) C (c_X9_hasStore l D cy ht ht_reader ht_rows ht_evidence ht_history St St_rows q1 hc) gV_X9_X9_hasStore hd_X9_hasStore ⟨Nat.le_of_ble_eq_true rfl, Nat.le_of_ble_eq_true rfl⟩ ⟨Nat.le_refl _, Nat.le_refl _⟩ (va_recv hK hP (ci := 5) (q0 := 0) rfl rfl) hP hD hS (w2 := wSR ht (ht_reader 0) (ht_rows 0) (ht_evidence 0) (ht_history 0) cy St ++ (wEv ht_evidence cy St_evidence ++ (wRows ht_rows cy St_rows))) [0, 6, 7, 8, 9, 10, 11, 12, 13] [1, 2, 3, 4, 5] [5, 0, 1, 2, 3, 4, 6, 7, 8, 9, 10, 11, 12, 13] rfl rfl rfl rfl rfl rfl (by decide) hl.1 (Nat.le_of_ble_eq_true rfl) dX9_could_1 (fun H locs hP hD hS => ?_)
  refine z_if_eq (tgt := 21) hx hb dX9_could_4 (by decide) hf (fun hf => ?_) (fun hf => ?_)
  · refine lv_aload_n hx hb dX9_could_21 rfl (lv_at hl 0 rfl) ?_
    refine lv_iconst (v := (1 : Int32)) hx hb dX9_could_22 (by decide) ?_
    obtain ⟨q2, hc, hf⟩ := zbd hf
    refine z_cVi (As := [.int (1 : Int32)]) (rest := []) C (c_X9_refuse l D cy ht ht_reader ht_rows ht_evidence ht_history St (1 : Int32) q2 hc) gV_X9_X9_refuse hd_X9_refuse ⟨Nat.le_of_ble_eq_true rfl, Nat.le_of_ble_eq_true rfl⟩ ⟨Nat.le_refl _, Nat.le_refl _⟩ (va_recv hK hP (ci := 5) (q0 := 0) rfl rfl) hP hD hS (w2 := wSR ht (ht_reader 0) (ht_rows 0) (ht_evidence 0) (ht_history 0) cy q2.2 ++ (wEv ht_evidence cy St_evidence ++ (wRows ht_rows cy St_rows))) [0] [1, 2, 3, 4, 5, 6, 7, 8, 9, 10, 11, 12, 13] [13, 0, 1, 2, 3, 4, 5, 6, 7, 8, 9, 10, 11, 12] rfl rfl rfl rfl rfl rfl (by decide) hl.1 (Nat.le_of_ble_eq_true rfl) dX9_could_23 (fun H locs hP hD hS => ?_)
    obtain rfl := Option.some.inj hf
    exact z_iret (v := q2.1) C hP hD hS dX9_could_26
  · refine lv_aload_n hx hb dX9_could_7 rfl (lv_at hl 0 rfl) ?_
    refine lv_aload_n hx hb dX9_could_8 rfl (lv_at hl 0 rfl) ?_
    refine va_get (D := D) (ci := 5) (v := .ref (ht_evidence 0)) (C := RX9) (T := TX9) (N := 7) hx hb hts in_X9 hown hK hP 0 rfl rfl 2 (by decide) (hts _ q2_21) (fun _ h9 => h9) rfl dX9_could_9 ?_
    obtain ⟨q3, hc, hf⟩ := zbd hf
    refine z_cVi (As := []) (rest := [.ref (ht 0)]) C (c_X2_inSomeFit l D cy ht_evidence St_evidence q3 hc) gV_X9_X2_inSomeFit hd_X2_inSomeFit ⟨Nat.le_of_ble_eq_true rfl, Nat.le_of_ble_eq_true rfl⟩ ⟨Nat.le_refl _, Nat.le_refl _⟩ (va_recv hK hP (ci := 0) (q0 := 1) rfl rfl) hP hD hS (w2 := wSR ht (ht_reader 0) (ht_rows 0) (ht_evidence 0) (ht_history 0) cy St ++ (wEv ht_evidence cy St_evidence ++ (wRows ht_rows cy St_rows))) [1, 2, 3, 4, 5] [0, 6, 7, 8, 9, 10, 11, 12, 13] [0, 9, 10, 11, 12, 13, 1, 2, 3, 4, 5, 6, 7, 8] rfl rfl rfl rfl rfl rfl (by decide) hl.1 (Nat.le_of_ble_eq_true rfl) dX9_could_12 (fun H locs hP hD hS => ?_)
    obtain ⟨q4, hc, hf⟩ := zbd hf
    refine z_cVi (As := [.int q3]) (rest := []) C (c_X9_answer l D cy ht ht_reader ht_rows ht_evidence ht_history St q3 q4 hc) gV_X9_X9_answer hd_X9_answer ⟨Nat.le_of_ble_eq_true rfl, Nat.le_of_ble_eq_true rfl⟩ ⟨Nat.le_refl _, Nat.le_refl _⟩ (va_recv hK hP (ci := 5) (q0 := 0) rfl rfl) hP hD hS (w2 := wSR ht (ht_reader 0) (ht_rows 0) (ht_evidence 0) (ht_history 0) cy q4.2 ++ (wEv ht_evidence cy St_evidence ++ (wRows ht_rows cy St_rows))) [0] [1, 2, 3, 4, 5, 6, 7, 8, 9, 10, 11, 12, 13] [13, 0, 1, 2, 3, 4, 5, 6, 7, 8, 9, 10, 11, 12] rfl rfl rfl rfl rfl rfl (by decide) hl.1 (Nat.le_of_ble_eq_true rfl) dX9_could_15 (fun H locs hP hD hS => ?_)
    refine lv_goto (tgt := 26) hx hb dX9_could_18 (by decide) ?_
    obtain rfl := Option.some.inj hf
    exact z_iret (v := q4.1) C hP hD hS dX9_could_26
def f_X9_surely (St : SSR) (St_evidence : SEv) (St_rows : SRows) : Option (Int32 × SSR) :=
  (f_X9_hasStore St St_rows).bind (fun q1 =>
    (if q1 = 0 then
      (f_X9_refuse St (1 : Int32)).bind (fun q2 =>
        some (q2.1, q2.2))
      else
      (f_X2_inEveryFit St_evidence).bind (fun q3 =>
        (f_X9_answer St q3).bind (fun q4 =>
          some (q4.1, q4.2)))))
set_option maxHeartbeats 4000000 in
set_option maxRecDepth 100000 in
theorem c_X9_surely (l : Launch) (D : va_G) (cy : Nat → ClassId) (ht : Nat → Nat) (ht_reader : Nat → Nat) (ht_rows : Nat → Nat) (ht_evidence : Nat → Nat) (ht_history : Nat → Nat) (St : SSR) (St_evidence : SEv) (St_rows : SRows) (r : Int32 × SSR) (hf : f_X9_surely St St_evidence St_rows = some r) : zCI l yX9_surely cX9_surely 1 (some FieldType.int) 2 43 D (zty cy) [.ref (ht 0)] (wSR ht (ht_reader 0) (ht_rows 0) (ht_evidence 0) (ht_history 0) cy St ++ (wEv ht_evidence cy St_evidence ++ (wRows ht_rows cy St_rows))) (wSR ht (ht_reader 0) (ht_rows 0) (ht_evidence 0) (ht_history 0) cy r.2 ++ (wEv ht_evidence cy St_evidence ++ (wRows ht_rows cy St_rows))) r.1 := by
  refine zCI_of (by decide +kernel) (Nat.le_of_ble_eq_true rfl) ?_
  intro p e s m below meth c A ls C hP hD hS hl
  generalize hargs : ([.ref (ht 0)] : List Value).toArray = args at C ⊢
  have C : zX p s m meth c cX9_surely 1 args RX9 (some FieldType.int) A D (zty cy) := C
  obtain ⟨hx, hb, hr, hts, hown, hlocks, hml, hA, hK⟩ := id C
  have hl : lv_has ls 1 [(0, .ref (ht 0))] := hl
  generalize hH : s.heap = H at hP ⊢
  have hS : va_S A s.heap H [] := by rw [← hH]; exact hS
  generalize ([] : List Loc) = locs at hS ⊢
  refine lv_aload_n hx hb dX9_surely_0 rfl (lv_at hl 0 rfl) ?_
  obtain ⟨q1, hc, hf⟩ := zbd hf
  refine z_cVi (As := []) (rest := []) C (c_X9_hasStore l D cy ht ht_reader ht_rows ht_evidence ht_history St St_rows q1 hc) gV_X9_X9_hasStore hd_X9_hasStore ⟨Nat.le_of_ble_eq_true rfl, Nat.le_of_ble_eq_true rfl⟩ ⟨Nat.le_refl _, Nat.le_refl _⟩ (va_recv hK hP (ci := 5) (q0 := 0) rfl rfl) hP hD hS (w2 := wSR ht (ht_reader 0) (ht_rows 0) (ht_evidence 0) (ht_history 0) cy St ++ (wEv ht_evidence cy St_evidence ++ (wRows ht_rows cy St_rows))) [0, 6, 7, 8, 9, 10, 11, 12, 13] [1, 2, 3, 4, 5] [5, 0, 1, 2, 3, 4, 6, 7, 8, 9, 10, 11, 12, 13] rfl rfl rfl rfl rfl rfl (by decide) hl.1 (Nat.le_of_ble_eq_true rfl) dX9_surely_1 (fun H locs hP hD hS => ?_)
  refine z_if_eq (tgt := 21) hx hb dX9_surely_4 (by decide) hf (fun hf => ?_) (fun hf => ?_)
  · refine lv_aload_n hx hb dX9_surely_21 rfl (lv_at hl 0 rfl) ?_
    refine lv_iconst (v := (1 : Int32)) hx hb dX9_surely_22 (by decide) ?_
    obtain ⟨q2, hc, hf⟩ := zbd hf
    refine z_cVi (As := [.int (1 : Int32)]) (rest := []) C (c_X9_refuse l D cy ht ht_reader ht_rows ht_evidence ht_history St (1 : Int32) q2 hc) gV_X9_X9_refuse hd_X9_refuse ⟨Nat.le_of_ble_eq_true rfl, Nat.le_of_ble_eq_true rfl⟩ ⟨Nat.le_refl _, Nat.le_refl _⟩ (va_recv hK hP (ci := 5) (q0 := 0) rfl rfl) hP hD hS (w2 := wSR ht (ht_reader 0) (ht_rows 0) (ht_evidence 0) (ht_history 0) cy q2.2 ++ (wEv ht_evidence cy St_evidence ++ (wRows ht_rows cy St_rows))) [0] [1, 2, 3, 4, 5, 6, 7, 8, 9, 10, 11, 12, 13] [13, 0, 1, 2, 3, 4, 5, 6, 7, 8, 9, 10, 11, 12] rfl rfl rfl rfl rfl rfl (by decide) hl.1 (Nat.le_of_ble_eq_true rfl) dX9_surely_23 (fun H locs hP hD hS => ?_)
    obtain rfl := Option.some.inj hf
    exact z_iret (v := q2.1) C hP hD hS dX9_surely_26
  · refine lv_aload_n hx hb dX9_surely_7 rfl (lv_at hl 0 rfl) ?_
    refine lv_aload_n hx hb dX9_surely_8 rfl (lv_at hl 0 rfl) ?_
    refine va_get (D := D) (ci := 5) (v := .ref (ht_evidence 0)) (C := RX9) (T := TX9) (N := 7) hx hb hts in_X9 hown hK hP 0 rfl rfl 2 (by decide) (hts _ q2_21) (fun _ h9 => h9) rfl dX9_surely_9 ?_
    obtain ⟨q3, hc, hf⟩ := zbd hf
    refine z_cVi (As := []) (rest := [.ref (ht 0)]) C (c_X2_inEveryFit l D cy ht_evidence St_evidence q3 hc) gV_X9_X2_inEveryFit hd_X2_inEveryFit ⟨Nat.le_of_ble_eq_true rfl, Nat.le_of_ble_eq_true rfl⟩ ⟨Nat.le_refl _, Nat.le_refl _⟩ (va_recv hK hP (ci := 0) (q0 := 1) rfl rfl) hP hD hS (w2 := wSR ht (ht_reader 0) (ht_rows 0) (ht_evidence 0) (ht_history 0) cy St ++ (wEv ht_evidence cy St_evidence ++ (wRows ht_rows cy St_rows))) [1, 2, 3, 4, 5] [0, 6, 7, 8, 9, 10, 11, 12, 13] [0, 9, 10, 11, 12, 13, 1, 2, 3, 4, 5, 6, 7, 8] rfl rfl rfl rfl rfl rfl (by decide) hl.1 (Nat.le_of_ble_eq_true rfl) dX9_surely_12 (fun H locs hP hD hS => ?_)
    obtain ⟨q4, hc, hf⟩ := zbd hf
    refine z_cVi (As := [.int q3]) (rest := []) C (c_X9_answer l D cy ht ht_reader ht_rows ht_evidence ht_history St q3 q4 hc) gV_X9_X9_answer hd_X9_answer ⟨Nat.le_of_ble_eq_true rfl, Nat.le_of_ble_eq_true rfl⟩ ⟨Nat.le_refl _, Nat.le_refl _⟩ (va_recv hK hP (ci := 5) (q0 := 0) rfl rfl) hP hD hS (w2 := wSR ht (ht_reader 0) (ht_rows 0) (ht_evidence 0) (ht_history 0) cy q4.2 ++ (wEv ht_evidence cy St_evidence ++ (wRows ht_rows cy St_rows))) [0] [1, 2, 3, 4, 5, 6, 7, 8, 9, 10, 11, 12, 13] [13, 0, 1, 2, 3, 4, 5, 6, 7, 8, 9, 10, 11, 12] rfl rfl rfl rfl rfl rfl (by decide) hl.1 (Nat.le_of_ble_eq_true rfl) dX9_surely_15 (fun H locs hP hD hS => ?_)
    refine lv_goto (tgt := 26) hx hb dX9_surely_18 (by decide) ?_
    obtain rfl := Option.some.inj hf
    exact z_iret (v := q4.1) C hP hD hS dX9_surely_26
def f_X9_ask (St : SSR) (St_evidence : SEv) (St_rows : SRows) : Option (Int32 × SSR) :=
  (f_X9_hasStore St St_rows).bind (fun q1 =>
    (if q1 = 0 then
      (f_X9_refuse St (1 : Int32)).bind (fun q2 =>
        some (q2.1, q2.2))
      else
      (f_X2_bestToAsk St_evidence).bind (fun q3 =>
        (f_X9_answer St q3).bind (fun q4 =>
          some (q4.1, q4.2)))))
set_option maxHeartbeats 4000000 in
set_option maxRecDepth 100000 in
theorem c_X9_ask (l : Launch) (D : va_G) (cy : Nat → ClassId) (ht : Nat → Nat) (ht_reader : Nat → Nat) (ht_rows : Nat → Nat) (ht_evidence : Nat → Nat) (ht_history : Nat → Nat) (St : SSR) (St_evidence : SEv) (St_rows : SRows) (r : Int32 × SSR) (hf : f_X9_ask St St_evidence St_rows = some r) : zCI l yX9_ask cX9_ask 1 (some FieldType.int) 3 85 D (zty cy) [.ref (ht 0)] (wSR ht (ht_reader 0) (ht_rows 0) (ht_evidence 0) (ht_history 0) cy St ++ (wEv ht_evidence cy St_evidence ++ (wRows ht_rows cy St_rows))) (wSR ht (ht_reader 0) (ht_rows 0) (ht_evidence 0) (ht_history 0) cy r.2 ++ (wEv ht_evidence cy St_evidence ++ (wRows ht_rows cy St_rows))) r.1 := by
  refine zCI_of (by decide +kernel) (Nat.le_of_ble_eq_true rfl) ?_
  intro p e s m below meth c A ls C hP hD hS hl
  generalize hargs : ([.ref (ht 0)] : List Value).toArray = args at C ⊢
  have C : zX p s m meth c cX9_ask 1 args RX9 (some FieldType.int) A D (zty cy) := C
  obtain ⟨hx, hb, hr, hts, hown, hlocks, hml, hA, hK⟩ := id C
  have hl : lv_has ls 1 [(0, .ref (ht 0))] := hl
  generalize hH : s.heap = H at hP ⊢
  have hS : va_S A s.heap H [] := by rw [← hH]; exact hS
  generalize ([] : List Loc) = locs at hS ⊢
  refine lv_aload_n hx hb dX9_ask_0 rfl (lv_at hl 0 rfl) ?_
  obtain ⟨q1, hc, hf⟩ := zbd hf
  refine z_cVi (As := []) (rest := []) C (c_X9_hasStore l D cy ht ht_reader ht_rows ht_evidence ht_history St St_rows q1 hc) gV_X9_X9_hasStore hd_X9_hasStore ⟨Nat.le_of_ble_eq_true rfl, Nat.le_of_ble_eq_true rfl⟩ ⟨Nat.le_refl _, Nat.le_refl _⟩ (va_recv hK hP (ci := 5) (q0 := 0) rfl rfl) hP hD hS (w2 := wSR ht (ht_reader 0) (ht_rows 0) (ht_evidence 0) (ht_history 0) cy St ++ (wEv ht_evidence cy St_evidence ++ (wRows ht_rows cy St_rows))) [0, 6, 7, 8, 9, 10, 11, 12, 13] [1, 2, 3, 4, 5] [5, 0, 1, 2, 3, 4, 6, 7, 8, 9, 10, 11, 12, 13] rfl rfl rfl rfl rfl rfl (by decide) hl.1 (Nat.le_of_ble_eq_true rfl) dX9_ask_1 (fun H locs hP hD hS => ?_)
  refine z_if_eq (tgt := 21) hx hb dX9_ask_4 (by decide) hf (fun hf => ?_) (fun hf => ?_)
  · refine lv_aload_n hx hb dX9_ask_21 rfl (lv_at hl 0 rfl) ?_
    refine lv_iconst (v := (1 : Int32)) hx hb dX9_ask_22 (by decide) ?_
    obtain ⟨q2, hc, hf⟩ := zbd hf
    refine z_cVi (As := [.int (1 : Int32)]) (rest := []) C (c_X9_refuse l D cy ht ht_reader ht_rows ht_evidence ht_history St (1 : Int32) q2 hc) gV_X9_X9_refuse hd_X9_refuse ⟨Nat.le_of_ble_eq_true rfl, Nat.le_of_ble_eq_true rfl⟩ ⟨Nat.le_refl _, Nat.le_refl _⟩ (va_recv hK hP (ci := 5) (q0 := 0) rfl rfl) hP hD hS (w2 := wSR ht (ht_reader 0) (ht_rows 0) (ht_evidence 0) (ht_history 0) cy q2.2 ++ (wEv ht_evidence cy St_evidence ++ (wRows ht_rows cy St_rows))) [0] [1, 2, 3, 4, 5, 6, 7, 8, 9, 10, 11, 12, 13] [13, 0, 1, 2, 3, 4, 5, 6, 7, 8, 9, 10, 11, 12] rfl rfl rfl rfl rfl rfl (by decide) hl.1 (Nat.le_of_ble_eq_true rfl) dX9_ask_23 (fun H locs hP hD hS => ?_)
    obtain rfl := Option.some.inj hf
    exact z_iret (v := q2.1) C hP hD hS dX9_ask_26
  · refine lv_aload_n hx hb dX9_ask_7 rfl (lv_at hl 0 rfl) ?_
    refine lv_aload_n hx hb dX9_ask_8 rfl (lv_at hl 0 rfl) ?_
    refine va_get (D := D) (ci := 5) (v := .ref (ht_evidence 0)) (C := RX9) (T := TX9) (N := 7) hx hb hts in_X9 hown hK hP 0 rfl rfl 2 (by decide) (hts _ q2_21) (fun _ h9 => h9) rfl dX9_ask_9 ?_
    obtain ⟨q3, hc, hf⟩ := zbd hf
    refine z_cVi (As := []) (rest := [.ref (ht 0)]) C (c_X2_bestToAsk l D cy ht_evidence St_evidence q3 hc) gV_X9_X2_bestToAsk hd_X2_bestToAsk ⟨Nat.le_of_ble_eq_true rfl, Nat.le_of_ble_eq_true rfl⟩ ⟨Nat.le_refl _, Nat.le_refl _⟩ (va_recv hK hP (ci := 0) (q0 := 1) rfl rfl) hP hD hS (w2 := wSR ht (ht_reader 0) (ht_rows 0) (ht_evidence 0) (ht_history 0) cy St ++ (wEv ht_evidence cy St_evidence ++ (wRows ht_rows cy St_rows))) [1, 2, 3, 4, 5] [0, 6, 7, 8, 9, 10, 11, 12, 13] [0, 9, 10, 11, 12, 13, 1, 2, 3, 4, 5, 6, 7, 8] rfl rfl rfl rfl rfl rfl (by decide) hl.1 (Nat.le_of_ble_eq_true rfl) dX9_ask_12 (fun H locs hP hD hS => ?_)
    obtain ⟨q4, hc, hf⟩ := zbd hf
    refine z_cVi (As := [.int q3]) (rest := []) C (c_X9_answer l D cy ht ht_reader ht_rows ht_evidence ht_history St q3 q4 hc) gV_X9_X9_answer hd_X9_answer ⟨Nat.le_of_ble_eq_true rfl, Nat.le_of_ble_eq_true rfl⟩ ⟨Nat.le_refl _, Nat.le_refl _⟩ (va_recv hK hP (ci := 5) (q0 := 0) rfl rfl) hP hD hS (w2 := wSR ht (ht_reader 0) (ht_rows 0) (ht_evidence 0) (ht_history 0) cy q4.2 ++ (wEv ht_evidence cy St_evidence ++ (wRows ht_rows cy St_rows))) [0] [1, 2, 3, 4, 5, 6, 7, 8, 9, 10, 11, 12, 13] [13, 0, 1, 2, 3, 4, 5, 6, 7, 8, 9, 10, 11, 12] rfl rfl rfl rfl rfl rfl (by decide) hl.1 (Nat.le_of_ble_eq_true rfl) dX9_ask_15 (fun H locs hP hD hS => ?_)
    refine lv_goto (tgt := 26) hx hb dX9_ask_18 (by decide) ?_
    obtain rfl := Option.some.inj hf
    exact z_iret (v := q4.1) C hP hD hS dX9_ask_26
def f_X9_askLeaves (St : SSR) (St_evidence : SEv) (St_rows : SRows) : Option (Int32 × SSR) :=
  (f_X9_hasStore St St_rows).bind (fun q1 =>
    (if q1 = 0 then
      (f_X9_refuse St (1 : Int32)).bind (fun q6 =>
        some (q6.1, q6.2))
      else
      (f_X2_bestToAsk St_evidence).bind (fun q2 =>
        (if q2 = (-2 : Int32) then
          (f_X9_answer St (-2 : Int32)).bind (fun q5 =>
            some (q5.1, q5.2))
          else
          (f_X2_leftAtMost St_evidence q2).bind (fun q3 =>
            (f_X9_answer St q3).bind (fun q4 =>
              some (q4.1, q4.2)))))))
set_option maxHeartbeats 4000000 in
set_option maxRecDepth 100000 in
theorem c_X9_askLeaves (l : Launch) (D : va_G) (cy : Nat → ClassId) (ht : Nat → Nat) (ht_reader : Nat → Nat) (ht_rows : Nat → Nat) (ht_evidence : Nat → Nat) (ht_history : Nat → Nat) (St : SSR) (St_evidence : SEv) (St_rows : SRows) (r : Int32 × SSR) (hf : f_X9_askLeaves St St_evidence St_rows = some r) : zCI l yX9_askLeaves cX9_askLeaves 2 (some FieldType.int) 3 85 D (zty cy) [.ref (ht 0)] (wSR ht (ht_reader 0) (ht_rows 0) (ht_evidence 0) (ht_history 0) cy St ++ (wEv ht_evidence cy St_evidence ++ (wRows ht_rows cy St_rows))) (wSR ht (ht_reader 0) (ht_rows 0) (ht_evidence 0) (ht_history 0) cy r.2 ++ (wEv ht_evidence cy St_evidence ++ (wRows ht_rows cy St_rows))) r.1 := by
  refine zCI_of (by decide +kernel) (Nat.le_of_ble_eq_true rfl) ?_
  intro p e s m below meth c A ls C hP hD hS hl
  generalize hargs : ([.ref (ht 0)] : List Value).toArray = args at C ⊢
  have C : zX p s m meth c cX9_askLeaves 2 args RX9 (some FieldType.int) A D (zty cy) := C
  obtain ⟨hx, hb, hr, hts, hown, hlocks, hml, hA, hK⟩ := id C
  have hl : lv_has ls 2 [(0, .ref (ht 0))] := hl
  generalize hH : s.heap = H at hP ⊢
  have hS : va_S A s.heap H [] := by rw [← hH]; exact hS
  generalize ([] : List Loc) = locs at hS ⊢
  refine lv_aload_n hx hb dX9_askLeaves_0 rfl (lv_at hl 0 rfl) ?_
  obtain ⟨q1, hc, hf⟩ := zbd hf
  refine z_cVi (As := []) (rest := []) C (c_X9_hasStore l D cy ht ht_reader ht_rows ht_evidence ht_history St St_rows q1 hc) gV_X9_X9_hasStore hd_X9_hasStore ⟨Nat.le_of_ble_eq_true rfl, Nat.le_of_ble_eq_true rfl⟩ ⟨Nat.le_refl _, Nat.le_refl _⟩ (va_recv hK hP (ci := 5) (q0 := 0) rfl rfl) hP hD hS (w2 := wSR ht (ht_reader 0) (ht_rows 0) (ht_evidence 0) (ht_history 0) cy St ++ (wEv ht_evidence cy St_evidence ++ (wRows ht_rows cy St_rows))) [0, 6, 7, 8, 9, 10, 11, 12, 13] [1, 2, 3, 4, 5] [5, 0, 1, 2, 3, 4, 6, 7, 8, 9, 10, 11, 12, 13] rfl rfl rfl rfl rfl rfl (by decide) hl.1 (Nat.le_of_ble_eq_true rfl) dX9_askLeaves_1 (fun H locs hP hD hS => ?_)
  refine z_if_ne (tgt := 13) hx hb dX9_askLeaves_4 (by decide) hf (fun hf => ?_) (fun hf => ?_)
  · refine lv_aload_n hx hb dX9_askLeaves_13 rfl (lv_at hl 0 rfl) ?_
    refine va_get (D := D) (ci := 5) (v := .ref (ht_evidence 0)) (C := RX9) (T := TX9) (N := 7) hx hb hts in_X9 hown hK hP 0 rfl rfl 2 (by decide) (hts _ q2_21) (fun _ h9 => h9) rfl dX9_askLeaves_14 ?_
    obtain ⟨q2, hc, hf⟩ := zbd hf
    refine z_cVi (As := []) (rest := []) C (c_X2_bestToAsk l D cy ht_evidence St_evidence q2 hc) gV_X9_X2_bestToAsk hd_X2_bestToAsk ⟨Nat.le_of_ble_eq_true rfl, Nat.le_of_ble_eq_true rfl⟩ ⟨Nat.le_refl _, Nat.le_refl _⟩ (va_recv hK hP (ci := 0) (q0 := 1) rfl rfl) hP hD hS (w2 := wSR ht (ht_reader 0) (ht_rows 0) (ht_evidence 0) (ht_history 0) cy St ++ (wEv ht_evidence cy St_evidence ++ (wRows ht_rows cy St_rows))) [1, 2, 3, 4, 5] [0, 6, 7, 8, 9, 10, 11, 12, 13] [0, 9, 10, 11, 12, 13, 1, 2, 3, 4, 5, 6, 7, 8] rfl rfl rfl rfl rfl rfl (by decide) hl.1 (Nat.le_of_ble_eq_true rfl) dX9_askLeaves_17 (fun H locs hP hD hS => ?_)
    refine lv_istore_n (lv' := [(1, .int q2), (0, .ref (ht 0))]) hx hb dX9_askLeaves_20 rfl hl (by decide) rfl (fun ls hl => ?_)
    refine lv_aload_n hx hb dX9_askLeaves_21 rfl (lv_at hl 1 rfl) ?_
    refine lv_iload_n hx hb dX9_askLeaves_22 rfl (lv_at hl 0 rfl) ?_
    refine lv_bipush (v := (-2 : Int32)) hx hb dX9_askLeaves_23 (by decide) ?_
    refine z_icmp_ne (tgt := 33) hx hb dX9_askLeaves_25 (by decide) hf (fun hf => ?_) (fun hf => ?_)
    · refine lv_aload_n hx hb dX9_askLeaves_33 rfl (lv_at hl 1 rfl) ?_
      refine va_get (D := D) (ci := 5) (v := .ref (ht_evidence 0)) (C := RX9) (T := TX9) (N := 7) hx hb hts in_X9 hown hK hP 0 rfl rfl 2 (by decide) (hts _ q2_21) (fun _ h9 => h9) rfl dX9_askLeaves_34 ?_
      refine lv_iload_n hx hb dX9_askLeaves_37 rfl (lv_at hl 0 rfl) ?_
      obtain ⟨q3, hc, hf⟩ := zbd hf
      refine z_cVi (As := [.int q2]) (rest := [.ref (ht 0)]) C (c_X2_leftAtMost l D cy ht_evidence St_evidence q2 q3 hc) gV_X9_X2_leftAtMost hd_X2_leftAtMost ⟨Nat.le_of_ble_eq_true rfl, Nat.le_of_ble_eq_true rfl⟩ ⟨Nat.le_refl _, Nat.le_refl _⟩ (va_recv hK hP (ci := 0) (q0 := 1) rfl rfl) hP hD hS (w2 := wSR ht (ht_reader 0) (ht_rows 0) (ht_evidence 0) (ht_history 0) cy St ++ (wEv ht_evidence cy St_evidence ++ (wRows ht_rows cy St_rows))) [1, 2, 3, 4, 5] [0, 6, 7, 8, 9, 10, 11, 12, 13] [0, 9, 10, 11, 12, 13, 1, 2, 3, 4, 5, 6, 7, 8] rfl rfl rfl rfl rfl rfl (by decide) hl.1 (Nat.le_of_ble_eq_true rfl) dX9_askLeaves_38 (fun H locs hP hD hS => ?_)
      obtain ⟨q4, hc, hf⟩ := zbd hf
      refine z_cVi (As := [.int q3]) (rest := []) C (c_X9_answer l D cy ht ht_reader ht_rows ht_evidence ht_history St q3 q4 hc) gV_X9_X9_answer hd_X9_answer ⟨Nat.le_of_ble_eq_true rfl, Nat.le_of_ble_eq_true rfl⟩ ⟨Nat.le_refl _, Nat.le_refl _⟩ (va_recv hK hP (ci := 5) (q0 := 0) rfl rfl) hP hD hS (w2 := wSR ht (ht_reader 0) (ht_rows 0) (ht_evidence 0) (ht_history 0) cy q4.2 ++ (wEv ht_evidence cy St_evidence ++ (wRows ht_rows cy St_rows))) [0] [1, 2, 3, 4, 5, 6, 7, 8, 9, 10, 11, 12, 13] [13, 0, 1, 2, 3, 4, 5, 6, 7, 8, 9, 10, 11, 12] rfl rfl rfl rfl rfl rfl (by decide) hl.1 (Nat.le_of_ble_eq_true rfl) dX9_askLeaves_41 (fun H locs hP hD hS => ?_)
      obtain rfl := Option.some.inj hf
      exact z_iret (v := q4.1) C hP hD hS dX9_askLeaves_44
    · refine lv_bipush (v := (-2 : Int32)) hx hb dX9_askLeaves_28 (by decide) ?_
      refine lv_goto (tgt := 41) hx hb dX9_askLeaves_30 (by decide) ?_
      obtain ⟨q5, hc, hf⟩ := zbd hf
      refine z_cVi (As := [.int (-2 : Int32)]) (rest := []) C (c_X9_answer l D cy ht ht_reader ht_rows ht_evidence ht_history St (-2 : Int32) q5 hc) gV_X9_X9_answer hd_X9_answer ⟨Nat.le_of_ble_eq_true rfl, Nat.le_of_ble_eq_true rfl⟩ ⟨Nat.le_refl _, Nat.le_refl _⟩ (va_recv hK hP (ci := 5) (q0 := 0) rfl rfl) hP hD hS (w2 := wSR ht (ht_reader 0) (ht_rows 0) (ht_evidence 0) (ht_history 0) cy q5.2 ++ (wEv ht_evidence cy St_evidence ++ (wRows ht_rows cy St_rows))) [0] [1, 2, 3, 4, 5, 6, 7, 8, 9, 10, 11, 12, 13] [13, 0, 1, 2, 3, 4, 5, 6, 7, 8, 9, 10, 11, 12] rfl rfl rfl rfl rfl rfl (by decide) hl.1 (Nat.le_of_ble_eq_true rfl) dX9_askLeaves_41 (fun H locs hP hD hS => ?_)
      obtain rfl := Option.some.inj hf
      exact z_iret (v := q5.1) C hP hD hS dX9_askLeaves_44
  · refine lv_aload_n hx hb dX9_askLeaves_7 rfl (lv_at hl 0 rfl) ?_
    refine lv_iconst (v := (1 : Int32)) hx hb dX9_askLeaves_8 (by decide) ?_
    obtain ⟨q6, hc, hf⟩ := zbd hf
    refine z_cVi (As := [.int (1 : Int32)]) (rest := []) C (c_X9_refuse l D cy ht ht_reader ht_rows ht_evidence ht_history St (1 : Int32) q6 hc) gV_X9_X9_refuse hd_X9_refuse ⟨Nat.le_of_ble_eq_true rfl, Nat.le_of_ble_eq_true rfl⟩ ⟨Nat.le_refl _, Nat.le_refl _⟩ (va_recv hK hP (ci := 5) (q0 := 0) rfl rfl) hP hD hS (w2 := wSR ht (ht_reader 0) (ht_rows 0) (ht_evidence 0) (ht_history 0) cy q6.2 ++ (wEv ht_evidence cy St_evidence ++ (wRows ht_rows cy St_rows))) [0] [1, 2, 3, 4, 5, 6, 7, 8, 9, 10, 11, 12, 13] [13, 0, 1, 2, 3, 4, 5, 6, 7, 8, 9, 10, 11, 12] rfl rfl rfl rfl rfl rfl (by decide) hl.1 (Nat.le_of_ble_eq_true rfl) dX9_askLeaves_9 (fun H locs hP hD hS => ?_)
    obtain rfl := Option.some.inj hf
    exact z_iret (v := q6.1) C hP hD hS dX9_askLeaves_12
def f_X9_judge (St : SSR) (St_evidence : SEv) (St_rows : SRows) : Option (Int32 × SSR) :=
  (f_X9_hasStore St St_rows).bind (fun q1 =>
    (if q1 = 0 then
      (f_X9_refuse St (1 : Int32)).bind (fun q2 =>
        some (q2.1, q2.2))
      else
      (f_X9_answer St (Ev_firstWrong St_evidence)).bind (fun q3 =>
        some (q3.1, q3.2))))
set_option maxHeartbeats 4000000 in
set_option maxRecDepth 100000 in
theorem c_X9_judge (l : Launch) (D : va_G) (cy : Nat → ClassId) (ht : Nat → Nat) (ht_reader : Nat → Nat) (ht_rows : Nat → Nat) (ht_evidence : Nat → Nat) (ht_history : Nat → Nat) (St : SSR) (St_evidence : SEv) (St_rows : SRows) (r : Int32 × SSR) (hf : f_X9_judge St St_evidence St_rows = some r) : zCI l yX9_judge cX9_judge 1 (some FieldType.int) 1 21 D (zty cy) [.ref (ht 0)] (wSR ht (ht_reader 0) (ht_rows 0) (ht_evidence 0) (ht_history 0) cy St ++ (wEv ht_evidence cy St_evidence ++ (wRows ht_rows cy St_rows))) (wSR ht (ht_reader 0) (ht_rows 0) (ht_evidence 0) (ht_history 0) cy r.2 ++ (wEv ht_evidence cy St_evidence ++ (wRows ht_rows cy St_rows))) r.1 := by
  refine zCI_of (by decide +kernel) (Nat.le_of_ble_eq_true rfl) ?_
  intro p e s m below meth c A ls C hP hD hS hl
  generalize hargs : ([.ref (ht 0)] : List Value).toArray = args at C ⊢
  have C : zX p s m meth c cX9_judge 1 args RX9 (some FieldType.int) A D (zty cy) := C
  obtain ⟨hx, hb, hr, hts, hown, hlocks, hml, hA, hK⟩ := id C
  have hl : lv_has ls 1 [(0, .ref (ht 0))] := hl
  generalize hH : s.heap = H at hP ⊢
  have hS : va_S A s.heap H [] := by rw [← hH]; exact hS
  generalize ([] : List Loc) = locs at hS ⊢
  refine lv_aload_n hx hb dX9_judge_0 rfl (lv_at hl 0 rfl) ?_
  obtain ⟨q1, hc, hf⟩ := zbd hf
  refine z_cVi (As := []) (rest := []) C (c_X9_hasStore l D cy ht ht_reader ht_rows ht_evidence ht_history St St_rows q1 hc) gV_X9_X9_hasStore hd_X9_hasStore ⟨Nat.le_of_ble_eq_true rfl, Nat.le_of_ble_eq_true rfl⟩ ⟨Nat.le_refl _, Nat.le_refl _⟩ (va_recv hK hP (ci := 5) (q0 := 0) rfl rfl) hP hD hS (w2 := wSR ht (ht_reader 0) (ht_rows 0) (ht_evidence 0) (ht_history 0) cy St ++ (wEv ht_evidence cy St_evidence ++ (wRows ht_rows cy St_rows))) [0, 6, 7, 8, 9, 10, 11, 12, 13] [1, 2, 3, 4, 5] [5, 0, 1, 2, 3, 4, 6, 7, 8, 9, 10, 11, 12, 13] rfl rfl rfl rfl rfl rfl (by decide) hl.1 (Nat.le_of_ble_eq_true rfl) dX9_judge_1 (fun H locs hP hD hS => ?_)
  refine z_if_eq (tgt := 21) hx hb dX9_judge_4 (by decide) hf (fun hf => ?_) (fun hf => ?_)
  · refine lv_aload_n hx hb dX9_judge_21 rfl (lv_at hl 0 rfl) ?_
    refine lv_iconst (v := (1 : Int32)) hx hb dX9_judge_22 (by decide) ?_
    obtain ⟨q2, hc, hf⟩ := zbd hf
    refine z_cVi (As := [.int (1 : Int32)]) (rest := []) C (c_X9_refuse l D cy ht ht_reader ht_rows ht_evidence ht_history St (1 : Int32) q2 hc) gV_X9_X9_refuse hd_X9_refuse ⟨Nat.le_of_ble_eq_true rfl, Nat.le_of_ble_eq_true rfl⟩ ⟨Nat.le_refl _, Nat.le_refl _⟩ (va_recv hK hP (ci := 5) (q0 := 0) rfl rfl) hP hD hS (w2 := wSR ht (ht_reader 0) (ht_rows 0) (ht_evidence 0) (ht_history 0) cy q2.2 ++ (wEv ht_evidence cy St_evidence ++ (wRows ht_rows cy St_rows))) [0] [1, 2, 3, 4, 5, 6, 7, 8, 9, 10, 11, 12, 13] [13, 0, 1, 2, 3, 4, 5, 6, 7, 8, 9, 10, 11, 12] rfl rfl rfl rfl rfl rfl (by decide) hl.1 (Nat.le_of_ble_eq_true rfl) dX9_judge_23 (fun H locs hP hD hS => ?_)
    obtain rfl := Option.some.inj hf
    exact z_iret (v := q2.1) C hP hD hS dX9_judge_26
  · refine lv_aload_n hx hb dX9_judge_7 rfl (lv_at hl 0 rfl) ?_
    refine lv_aload_n hx hb dX9_judge_8 rfl (lv_at hl 0 rfl) ?_
    refine va_get (D := D) (ci := 5) (v := .ref (ht_evidence 0)) (C := RX9) (T := TX9) (N := 7) hx hb hts in_X9 hown hK hP 0 rfl rfl 2 (by decide) (hts _ q2_21) (fun _ h9 => h9) rfl dX9_judge_9 ?_
    refine va_get (D := D) (ci := 0) (v := .int (Ev_firstWrong St_evidence)) (C := RX2) (T := TX2) (N := 8) hx hb hts in_X2 hown hK hP 1 rfl rfl 3 (by decide) (hts _ q1_122) (fun _ h9 => h9) rfl dX9_judge_12 ?_
    obtain ⟨q3, hc, hf⟩ := zbd hf
    refine z_cVi (As := [.int (Ev_firstWrong St_evidence)]) (rest := []) C (c_X9_answer l D cy ht ht_reader ht_rows ht_evidence ht_history St (Ev_firstWrong St_evidence) q3 hc) gV_X9_X9_answer hd_X9_answer ⟨Nat.le_of_ble_eq_true rfl, Nat.le_of_ble_eq_true rfl⟩ ⟨Nat.le_refl _, Nat.le_refl _⟩ (va_recv hK hP (ci := 5) (q0 := 0) rfl rfl) hP hD hS (w2 := wSR ht (ht_reader 0) (ht_rows 0) (ht_evidence 0) (ht_history 0) cy q3.2 ++ (wEv ht_evidence cy St_evidence ++ (wRows ht_rows cy St_rows))) [0] [1, 2, 3, 4, 5, 6, 7, 8, 9, 10, 11, 12, 13] [13, 0, 1, 2, 3, 4, 5, 6, 7, 8, 9, 10, 11, 12] rfl rfl rfl rfl rfl rfl (by decide) hl.1 (Nat.le_of_ble_eq_true rfl) dX9_judge_15 (fun H locs hP hD hS => ?_)
    refine lv_goto (tgt := 26) hx hb dX9_judge_18 (by decide) ?_
    obtain rfl := Option.some.inj hf
    exact z_iret (v := q3.1) C hP hD hS dX9_judge_26
def f_X9_costTrouble (St : SSR) (St_rows : SRows) (x1 : Int32) : Option (Int32) :=
  (f_X9_hasStore St St_rows).bind (fun q1 =>
    (if q1 = 0 then
      some (1 : Int32)
      else
      (if x1 < 0 then
        some (2 : Int32)
        else
        (if (9 : Int32) < x1 then
          some (2 : Int32)
          else
          some (0 : Int32)))))
set_option maxHeartbeats 4000000 in
set_option maxRecDepth 100000 in
theorem c_X9_costTrouble (l : Launch) (D : va_G) (cy : Nat → ClassId) (ht : Nat → Nat) (ht_reader : Nat → Nat) (ht_rows : Nat → Nat) (ht_evidence : Nat → Nat) (ht_history : Nat → Nat) (St : SSR) (St_rows : SRows) (x1 : Int32) (r : Int32) (hf : f_X9_costTrouble St St_rows x1 = some r) : zCI l yX9_costTrouble cX9_costTrouble 2 (some FieldType.int) 1 20 D (zty cy) [.ref (ht 0), .int x1] (wSR ht (ht_reader 0) (ht_rows 0) (ht_evidence 0) (ht_history 0) cy St ++ (wRows ht_rows cy St_rows)) (wSR ht (ht_reader 0) (ht_rows 0) (ht_evidence 0) (ht_history 0) cy St ++ (wRows ht_rows cy St_rows)) r := by
  refine zCI_of (by decide +kernel) (Nat.le_of_ble_eq_true rfl) ?_
  intro p e s m below meth c A ls C hP hD hS hl
  generalize hargs : ([.ref (ht 0), .int x1] : List Value).toArray = args at C ⊢
  have C : zX p s m meth c cX9_costTrouble 2 args RX9 (some FieldType.int) A D (zty cy) := C
  obtain ⟨hx, hb, hr, hts, hown, hlocks, hml, hA, hK⟩ := id C
  have hl : lv_has ls 2 [(0, .ref (ht 0)), (1, .int x1)] := hl
  generalize hH : s.heap = H at hP ⊢
  have hS : va_S A s.heap H [] := by rw [← hH]; exact hS
  generalize ([] : List Loc) = locs at hS ⊢
  refine lv_aload_n hx hb dX9_costTrouble_0 rfl (lv_at hl 0 rfl) ?_
  obtain ⟨q1, hc, hf⟩ := zbd hf
  refine z_cVi0 (As := []) (rest := []) C (c_X9_hasStore l D cy ht ht_reader ht_rows ht_evidence ht_history St St_rows q1 hc) gV_X9_X9_hasStore hd_X9_hasStore ⟨Nat.le_of_ble_eq_true rfl, Nat.le_of_ble_eq_true rfl⟩ ⟨Nat.le_refl _, Nat.le_refl _⟩ (va_recv hK hP (ci := 5) (q0 := 0) rfl rfl) hP hD hS hl.1 (Nat.le_of_ble_eq_true rfl) dX9_costTrouble_1 (fun H locs hP hD hS => ?_)
  have hP : va_P D vwCl (wSR ht (ht_reader 0) (ht_rows 0) (ht_evidence 0) (ht_history 0) cy St ++ (wRows ht_rows cy St_rows)) H := hP
  have hD : va_D A (wSR ht (ht_reader 0) (ht_rows 0) (ht_evidence 0) (ht_history 0) cy St ++ (wRows ht_rows cy St_rows)) := hD
  refine z_if_ne (tgt := 9) hx hb dX9_costTrouble_4 (by decide) hf (fun hf => ?_) (fun hf => ?_)
  · refine lv_iload_n hx hb dX9_costTrouble_9 rfl (lv_at hl 1 rfl) ?_
    refine z_if_lt (tgt := 23) hx hb dX9_costTrouble_10 (by decide) hf (fun hf => ?_) (fun hf => ?_)
    · refine lv_iconst (v := (2 : Int32)) hx hb dX9_costTrouble_23 (by decide) ?_
      obtain rfl := Option.some.inj hf
      exact z_iret (v := (2 : Int32)) C hP hD hS dX9_costTrouble_24
    · refine lv_iload_n hx hb dX9_costTrouble_13 rfl (lv_at hl 1 rfl) ?_
      refine lv_bipush (v := (9 : Int32)) hx hb dX9_costTrouble_14 (by decide) ?_
      refine z_icmp_gt (tgt := 23) hx hb dX9_costTrouble_16 (by decide) hf (fun hf => ?_) (fun hf => ?_)
      · refine lv_iconst (v := (2 : Int32)) hx hb dX9_costTrouble_23 (by decide) ?_
        obtain rfl := Option.some.inj hf
        exact z_iret (v := (2 : Int32)) C hP hD hS dX9_costTrouble_24
      · refine lv_iconst (v := (0 : Int32)) hx hb dX9_costTrouble_19 (by decide) ?_
        refine lv_goto (tgt := 24) hx hb dX9_costTrouble_20 (by decide) ?_
        obtain rfl := Option.some.inj hf
        exact z_iret (v := (0 : Int32)) C hP hD hS dX9_costTrouble_24
  · refine lv_iconst (v := (1 : Int32)) hx hb dX9_costTrouble_7 (by decide) ?_
    obtain rfl := Option.some.inj hf
    exact z_iret (v := (1 : Int32)) C hP hD hS dX9_costTrouble_8
def f_X9_waits (St : SSR) (St_rows : SRows) (x1 : Int32) (x2 : Int32) (x3 : Int32) (x4 : Int32) : Option (Int32 × SSR) :=
  (f_X9_costTrouble St St_rows x1).bind (fun q1 =>
    (if q1 = 0 then
      (if x4 = 0 then
        (f_X3_payoff x1 x2 x3).bind (fun q2 =>
          (f_X9_answer St q2).bind (fun q3 =>
            some (q3.1, q3.2)))
        else
        (f_X3_payoff x1 x3 x2).bind (fun q4 =>
          (f_X9_answer St q4).bind (fun q5 =>
            some (q5.1, q5.2))))
      else
      (f_X9_refuse St q1).bind (fun q6 =>
        some ((-100 : Int32), q6.2))))
set_option maxHeartbeats 4000000 in
set_option maxRecDepth 100000 in
theorem c_X9_waits (l : Launch) (D : va_G) (cy : Nat → ClassId) (ht : Nat → Nat) (ht_reader : Nat → Nat) (ht_rows : Nat → Nat) (ht_evidence : Nat → Nat) (ht_history : Nat → Nat) (St : SSR) (St_rows : SRows) (x1 : Int32) (x2 : Int32) (x3 : Int32) (x4 : Int32) (r : Int32 × SSR) (hf : f_X9_waits St St_rows x1 x2 x3 x4 = some r) : zCI l yX9_waits cX9_waits 6 (some FieldType.int) 2 41 D (zty cy) [.ref (ht 0), .int x1, .int x2, .int x3, .int x4] (wSR ht (ht_reader 0) (ht_rows 0) (ht_evidence 0) (ht_history 0) cy St ++ (wRows ht_rows cy St_rows)) (wSR ht (ht_reader 0) (ht_rows 0) (ht_evidence 0) (ht_history 0) cy r.2 ++ (wRows ht_rows cy St_rows)) r.1 := by
  refine zCI_of (by decide +kernel) (Nat.le_of_ble_eq_true rfl) ?_
  intro p e s m below meth c A ls C hP hD hS hl
  generalize hargs : ([.ref (ht 0), .int x1, .int x2, .int x3, .int x4] : List Value).toArray = args at C ⊢
  have C : zX p s m meth c cX9_waits 6 args RX9 (some FieldType.int) A D (zty cy) := C
  obtain ⟨hx, hb, hr, hts, hown, hlocks, hml, hA, hK⟩ := id C
  have hl : lv_has ls 6 [(0, .ref (ht 0)), (1, .int x1), (2, .int x2), (3, .int x3), (4, .int x4)] := hl
  generalize hH : s.heap = H at hP ⊢
  have hS : va_S A s.heap H [] := by rw [← hH]; exact hS
  generalize ([] : List Loc) = locs at hS ⊢
  refine lv_aload_n hx hb dX9_waits_0 rfl (lv_at hl 0 rfl) ?_
  refine lv_iload_n hx hb dX9_waits_1 rfl (lv_at hl 1 rfl) ?_
  obtain ⟨q1, hc, hf⟩ := zbd hf
  refine z_cVi0 (As := [.int x1]) (rest := []) C (c_X9_costTrouble l D cy ht ht_reader ht_rows ht_evidence ht_history St St_rows x1 q1 hc) gV_X9_X9_costTrouble hd_X9_costTrouble ⟨Nat.le_of_ble_eq_true rfl, Nat.le_of_ble_eq_true rfl⟩ ⟨Nat.le_refl _, Nat.le_refl _⟩ (va_recv hK hP (ci := 5) (q0 := 0) rfl rfl) hP hD hS hl.1 (Nat.le_of_ble_eq_true rfl) dX9_waits_2 (fun H locs hP hD hS => ?_)
  have hP : va_P D vwCl (wSR ht (ht_reader 0) (ht_rows 0) (ht_evidence 0) (ht_history 0) cy St ++ (wRows ht_rows cy St_rows)) H := hP
  have hD : va_D A (wSR ht (ht_reader 0) (ht_rows 0) (ht_evidence 0) (ht_history 0) cy St ++ (wRows ht_rows cy St_rows)) := hD
  refine lv_istore (lv' := [(5, .int q1), (0, .ref (ht 0)), (1, .int x1), (2, .int x2), (3, .int x3), (4, .int x4)]) hx hb dX9_waits_5 hl (by decide) rfl (fun ls hl => ?_)
  refine lv_iload hx hb dX9_waits_7 (lv_at hl 0 rfl) ?_
  refine z_if_eq (tgt := 22) hx hb dX9_waits_9 (by decide) hf (fun hf => ?_) (fun hf => ?_)
  · refine lv_aload_n hx hb dX9_waits_22 rfl (lv_at hl 1 rfl) ?_
    refine lv_iload hx hb dX9_waits_23 (lv_at hl 5 rfl) ?_
    refine z_if_eq (tgt := 37) hx hb dX9_waits_25 (by decide) hf (fun hf => ?_) (fun hf => ?_)
    · refine lv_iload_n hx hb dX9_waits_37 rfl (lv_at hl 2 rfl) ?_
      refine lv_iload_n hx hb dX9_waits_38 rfl (lv_at hl 3 rfl) ?_
      refine lv_iload_n hx hb dX9_waits_39 rfl (lv_at hl 4 rfl) ?_
      obtain ⟨q2, hc, hf⟩ := zbd hf
      refine z_cSiE (As := [.int x1, .int x2, .int x3]) (rest := [.ref (ht 0)]) C (c_X3_payoff l D cy x1 x2 x3 q2 hc) gS_X9_X3_payoff hd_X3_payoff ⟨Nat.le_of_ble_eq_true rfl, Nat.le_of_ble_eq_true rfl⟩ ⟨Nat.le_refl _, Nat.le_refl _⟩ hP hD hS hl.1 (Nat.le_of_ble_eq_true rfl) dX9_waits_40 (fun H locs hP hD hS => ?_)
      obtain ⟨q3, hc, hf⟩ := zbd hf
      refine z_cVi (As := [.int q2]) (rest := []) C (c_X9_answer l D cy ht ht_reader ht_rows ht_evidence ht_history St q2 q3 hc) gV_X9_X9_answer hd_X9_answer ⟨Nat.le_of_ble_eq_true rfl, Nat.le_of_ble_eq_true rfl⟩ ⟨Nat.le_refl _, Nat.le_refl _⟩ (va_recv hK hP (ci := 5) (q0 := 0) rfl rfl) hP hD hS (w2 := wSR ht (ht_reader 0) (ht_rows 0) (ht_evidence 0) (ht_history 0) cy q3.2 ++ (wRows ht_rows cy St_rows)) [0] [1, 2, 3, 4, 5, 6, 7, 8] [8, 0, 1, 2, 3, 4, 5, 6, 7] rfl rfl rfl rfl rfl rfl (by decide) hl.1 (Nat.le_of_ble_eq_true rfl) dX9_waits_43 (fun H locs hP hD hS => ?_)
      obtain rfl := Option.some.inj hf
      exact z_iret (v := q3.1) C hP hD hS dX9_waits_46
    · refine lv_iload_n hx hb dX9_waits_28 rfl (lv_at hl 2 rfl) ?_
      refine lv_iload_n hx hb dX9_waits_29 rfl (lv_at hl 4 rfl) ?_
      refine lv_iload_n hx hb dX9_waits_30 rfl (lv_at hl 3 rfl) ?_
      obtain ⟨q4, hc, hf⟩ := zbd hf
      refine z_cSiE (As := [.int x1, .int x3, .int x2]) (rest := [.ref (ht 0)]) C (c_X3_payoff l D cy x1 x3 x2 q4 hc) gS_X9_X3_payoff hd_X3_payoff ⟨Nat.le_of_ble_eq_true rfl, Nat.le_of_ble_eq_true rfl⟩ ⟨Nat.le_refl _, Nat.le_refl _⟩ hP hD hS hl.1 (Nat.le_of_ble_eq_true rfl) dX9_waits_31 (fun H locs hP hD hS => ?_)
      refine lv_goto (tgt := 43) hx hb dX9_waits_34 (by decide) ?_
      obtain ⟨q5, hc, hf⟩ := zbd hf
      refine z_cVi (As := [.int q4]) (rest := []) C (c_X9_answer l D cy ht ht_reader ht_rows ht_evidence ht_history St q4 q5 hc) gV_X9_X9_answer hd_X9_answer ⟨Nat.le_of_ble_eq_true rfl, Nat.le_of_ble_eq_true rfl⟩ ⟨Nat.le_refl _, Nat.le_refl _⟩ (va_recv hK hP (ci := 5) (q0 := 0) rfl rfl) hP hD hS (w2 := wSR ht (ht_reader 0) (ht_rows 0) (ht_evidence 0) (ht_history 0) cy q5.2 ++ (wRows ht_rows cy St_rows)) [0] [1, 2, 3, 4, 5, 6, 7, 8] [8, 0, 1, 2, 3, 4, 5, 6, 7] rfl rfl rfl rfl rfl rfl (by decide) hl.1 (Nat.le_of_ble_eq_true rfl) dX9_waits_43 (fun H locs hP hD hS => ?_)
      obtain rfl := Option.some.inj hf
      exact z_iret (v := q5.1) C hP hD hS dX9_waits_46
  · refine lv_aload_n hx hb dX9_waits_12 rfl (lv_at hl 1 rfl) ?_
    refine lv_iload hx hb dX9_waits_13 (lv_at hl 0 rfl) ?_
    obtain ⟨q6, hc, hf⟩ := zbd hf
    refine z_cVi (As := [.int q1]) (rest := []) C (c_X9_refuse l D cy ht ht_reader ht_rows ht_evidence ht_history St q1 q6 hc) gV_X9_X9_refuse hd_X9_refuse ⟨Nat.le_of_ble_eq_true rfl, Nat.le_of_ble_eq_true rfl⟩ ⟨Nat.le_refl _, Nat.le_refl _⟩ (va_recv hK hP (ci := 5) (q0 := 0) rfl rfl) hP hD hS (w2 := wSR ht (ht_reader 0) (ht_rows 0) (ht_evidence 0) (ht_history 0) cy q6.2 ++ (wRows ht_rows cy St_rows)) [0] [1, 2, 3, 4, 5, 6, 7, 8] [8, 0, 1, 2, 3, 4, 5, 6, 7] rfl rfl rfl rfl rfl rfl (by decide) hl.1 (Nat.le_of_ble_eq_true rfl) dX9_waits_15 (fun H locs hP hD hS => ?_)
    refine lv_pop hx hb dX9_waits_18 rfl ?_
    refine lv_bipush (v := (-100 : Int32)) hx hb dX9_waits_19 (by decide) ?_
    obtain rfl := Option.some.inj hf
    exact z_iret (v := (-100 : Int32)) C hP hD hS dX9_waits_21
def f_X9_rests (St : SSR) (St_rows : SRows) (x1 : Int32) : Option (Int32 × SSR) :=
  (f_X9_costTrouble St St_rows x1).bind (fun q1 =>
    (if q1 = 0 then
      (f_X3_countRests x1).bind (fun q2 =>
        (f_X9_answer St q2).bind (fun q3 =>
          some (q3.1, q3.2)))
      else
      (f_X9_refuse St q1).bind (fun q4 =>
        some (q4.1, q4.2))))
set_option maxHeartbeats 4000000 in
set_option maxRecDepth 100000 in
theorem c_X9_rests (l : Launch) (D : va_G) (cy : Nat → ClassId) (ht : Nat → Nat) (ht_reader : Nat → Nat) (ht_rows : Nat → Nat) (ht_evidence : Nat → Nat) (ht_history : Nat → Nat) (St : SSR) (St_rows : SRows) (x1 : Int32) (r : Int32 × SSR) (hf : f_X9_rests St St_rows x1 = some r) : zCI l yX9_rests cX9_rests 3 (some FieldType.int) 3 67 D (zty cy) [.ref (ht 0), .int x1] (wSR ht (ht_reader 0) (ht_rows 0) (ht_evidence 0) (ht_history 0) cy St ++ (wRows ht_rows cy St_rows)) (wSR ht (ht_reader 0) (ht_rows 0) (ht_evidence 0) (ht_history 0) cy r.2 ++ (wRows ht_rows cy St_rows)) r.1 := by
  refine zCI_of (by decide +kernel) (Nat.le_of_ble_eq_true rfl) ?_
  intro p e s m below meth c A ls C hP hD hS hl
  generalize hargs : ([.ref (ht 0), .int x1] : List Value).toArray = args at C ⊢
  have C : zX p s m meth c cX9_rests 3 args RX9 (some FieldType.int) A D (zty cy) := C
  obtain ⟨hx, hb, hr, hts, hown, hlocks, hml, hA, hK⟩ := id C
  have hl : lv_has ls 3 [(0, .ref (ht 0)), (1, .int x1)] := hl
  generalize hH : s.heap = H at hP ⊢
  have hS : va_S A s.heap H [] := by rw [← hH]; exact hS
  generalize ([] : List Loc) = locs at hS ⊢
  refine lv_aload_n hx hb dX9_rests_0 rfl (lv_at hl 0 rfl) ?_
  refine lv_iload_n hx hb dX9_rests_1 rfl (lv_at hl 1 rfl) ?_
  obtain ⟨q1, hc, hf⟩ := zbd hf
  refine z_cVi0 (As := [.int x1]) (rest := []) C (c_X9_costTrouble l D cy ht ht_reader ht_rows ht_evidence ht_history St St_rows x1 q1 hc) gV_X9_X9_costTrouble hd_X9_costTrouble ⟨Nat.le_of_ble_eq_true rfl, Nat.le_of_ble_eq_true rfl⟩ ⟨Nat.le_refl _, Nat.le_refl _⟩ (va_recv hK hP (ci := 5) (q0 := 0) rfl rfl) hP hD hS hl.1 (Nat.le_of_ble_eq_true rfl) dX9_rests_2 (fun H locs hP hD hS => ?_)
  have hP : va_P D vwCl (wSR ht (ht_reader 0) (ht_rows 0) (ht_evidence 0) (ht_history 0) cy St ++ (wRows ht_rows cy St_rows)) H := hP
  have hD : va_D A (wSR ht (ht_reader 0) (ht_rows 0) (ht_evidence 0) (ht_history 0) cy St ++ (wRows ht_rows cy St_rows)) := hD
  refine lv_istore_n (lv' := [(2, .int q1), (0, .ref (ht 0)), (1, .int x1)]) hx hb dX9_rests_5 rfl hl (by decide) rfl (fun ls hl => ?_)
  refine lv_iload_n hx hb dX9_rests_6 rfl (lv_at hl 0 rfl) ?_
  refine z_if_eq (tgt := 18) hx hb dX9_rests_7 (by decide) hf (fun hf => ?_) (fun hf => ?_)
  · refine lv_aload_n hx hb dX9_rests_18 rfl (lv_at hl 1 rfl) ?_
    refine lv_iload_n hx hb dX9_rests_19 rfl (lv_at hl 2 rfl) ?_
    obtain ⟨q2, hc, hf⟩ := zbd hf
    refine z_cSiE (As := [.int x1]) (rest := [.ref (ht 0)]) C (c_X3_countRests l D cy x1 q2 hc) gS_X9_X3_countRests hd_X3_countRests ⟨Nat.le_of_ble_eq_true rfl, Nat.le_of_ble_eq_true rfl⟩ ⟨Nat.le_refl _, Nat.le_refl _⟩ hP hD hS hl.1 (Nat.le_of_ble_eq_true rfl) dX9_rests_20 (fun H locs hP hD hS => ?_)
    obtain ⟨q3, hc, hf⟩ := zbd hf
    refine z_cVi (As := [.int q2]) (rest := []) C (c_X9_answer l D cy ht ht_reader ht_rows ht_evidence ht_history St q2 q3 hc) gV_X9_X9_answer hd_X9_answer ⟨Nat.le_of_ble_eq_true rfl, Nat.le_of_ble_eq_true rfl⟩ ⟨Nat.le_refl _, Nat.le_refl _⟩ (va_recv hK hP (ci := 5) (q0 := 0) rfl rfl) hP hD hS (w2 := wSR ht (ht_reader 0) (ht_rows 0) (ht_evidence 0) (ht_history 0) cy q3.2 ++ (wRows ht_rows cy St_rows)) [0] [1, 2, 3, 4, 5, 6, 7, 8] [8, 0, 1, 2, 3, 4, 5, 6, 7] rfl rfl rfl rfl rfl rfl (by decide) hl.1 (Nat.le_of_ble_eq_true rfl) dX9_rests_23 (fun H locs hP hD hS => ?_)
    obtain rfl := Option.some.inj hf
    exact z_iret (v := q3.1) C hP hD hS dX9_rests_26
  · refine lv_aload_n hx hb dX9_rests_10 rfl (lv_at hl 1 rfl) ?_
    refine lv_iload_n hx hb dX9_rests_11 rfl (lv_at hl 0 rfl) ?_
    obtain ⟨q4, hc, hf⟩ := zbd hf
    refine z_cVi (As := [.int q1]) (rest := []) C (c_X9_refuse l D cy ht ht_reader ht_rows ht_evidence ht_history St q1 q4 hc) gV_X9_X9_refuse hd_X9_refuse ⟨Nat.le_of_ble_eq_true rfl, Nat.le_of_ble_eq_true rfl⟩ ⟨Nat.le_refl _, Nat.le_refl _⟩ (va_recv hK hP (ci := 5) (q0 := 0) rfl rfl) hP hD hS (w2 := wSR ht (ht_reader 0) (ht_rows 0) (ht_evidence 0) (ht_history 0) cy q4.2 ++ (wRows ht_rows cy St_rows)) [0] [1, 2, 3, 4, 5, 6, 7, 8] [8, 0, 1, 2, 3, 4, 5, 6, 7] rfl rfl rfl rfl rfl rfl (by decide) hl.1 (Nat.le_of_ble_eq_true rfl) dX9_rests_12 (fun H locs hP hD hS => ?_)
    refine lv_goto (tgt := 26) hx hb dX9_rests_15 (by decide) ?_
    obtain rfl := Option.some.inj hf
    exact z_iret (v := q4.1) C hP hD hS dX9_rests_26
def f_X9_rest (St : SSR) (St_rows : SRows) (x1 : Int32) : Option (Int32 × SSR) :=
  (f_X9_costTrouble St St_rows x1).bind (fun q1 =>
    (if q1 = 0 then
      (f_X3_firstRest x1).bind (fun q2 =>
        (f_X9_answer St q2).bind (fun q3 =>
          some (q3.1, q3.2)))
      else
      (f_X9_refuse St q1).bind (fun q4 =>
        some (q4.1, q4.2))))
set_option maxHeartbeats 4000000 in
set_option maxRecDepth 100000 in
theorem c_X9_rest (l : Launch) (D : va_G) (cy : Nat → ClassId) (ht : Nat → Nat) (ht_reader : Nat → Nat) (ht_rows : Nat → Nat) (ht_evidence : Nat → Nat) (ht_history : Nat → Nat) (St : SSR) (St_rows : SRows) (x1 : Int32) (r : Int32 × SSR) (hf : f_X9_rest St St_rows x1 = some r) : zCI l yX9_rest cX9_rest 3 (some FieldType.int) 3 66 D (zty cy) [.ref (ht 0), .int x1] (wSR ht (ht_reader 0) (ht_rows 0) (ht_evidence 0) (ht_history 0) cy St ++ (wRows ht_rows cy St_rows)) (wSR ht (ht_reader 0) (ht_rows 0) (ht_evidence 0) (ht_history 0) cy r.2 ++ (wRows ht_rows cy St_rows)) r.1 := by
  refine zCI_of (by decide +kernel) (Nat.le_of_ble_eq_true rfl) ?_
  intro p e s m below meth c A ls C hP hD hS hl
  generalize hargs : ([.ref (ht 0), .int x1] : List Value).toArray = args at C ⊢
  have C : zX p s m meth c cX9_rest 3 args RX9 (some FieldType.int) A D (zty cy) := C
  obtain ⟨hx, hb, hr, hts, hown, hlocks, hml, hA, hK⟩ := id C
  have hl : lv_has ls 3 [(0, .ref (ht 0)), (1, .int x1)] := hl
  generalize hH : s.heap = H at hP ⊢
  have hS : va_S A s.heap H [] := by rw [← hH]; exact hS
  generalize ([] : List Loc) = locs at hS ⊢
  refine lv_aload_n hx hb dX9_rest_0 rfl (lv_at hl 0 rfl) ?_
  refine lv_iload_n hx hb dX9_rest_1 rfl (lv_at hl 1 rfl) ?_
  obtain ⟨q1, hc, hf⟩ := zbd hf
  refine z_cVi0 (As := [.int x1]) (rest := []) C (c_X9_costTrouble l D cy ht ht_reader ht_rows ht_evidence ht_history St St_rows x1 q1 hc) gV_X9_X9_costTrouble hd_X9_costTrouble ⟨Nat.le_of_ble_eq_true rfl, Nat.le_of_ble_eq_true rfl⟩ ⟨Nat.le_refl _, Nat.le_refl _⟩ (va_recv hK hP (ci := 5) (q0 := 0) rfl rfl) hP hD hS hl.1 (Nat.le_of_ble_eq_true rfl) dX9_rest_2 (fun H locs hP hD hS => ?_)
  have hP : va_P D vwCl (wSR ht (ht_reader 0) (ht_rows 0) (ht_evidence 0) (ht_history 0) cy St ++ (wRows ht_rows cy St_rows)) H := hP
  have hD : va_D A (wSR ht (ht_reader 0) (ht_rows 0) (ht_evidence 0) (ht_history 0) cy St ++ (wRows ht_rows cy St_rows)) := hD
  refine lv_istore_n (lv' := [(2, .int q1), (0, .ref (ht 0)), (1, .int x1)]) hx hb dX9_rest_5 rfl hl (by decide) rfl (fun ls hl => ?_)
  refine lv_iload_n hx hb dX9_rest_6 rfl (lv_at hl 0 rfl) ?_
  refine z_if_eq (tgt := 18) hx hb dX9_rest_7 (by decide) hf (fun hf => ?_) (fun hf => ?_)
  · refine lv_aload_n hx hb dX9_rest_18 rfl (lv_at hl 1 rfl) ?_
    refine lv_iload_n hx hb dX9_rest_19 rfl (lv_at hl 2 rfl) ?_
    obtain ⟨q2, hc, hf⟩ := zbd hf
    refine z_cSiE (As := [.int x1]) (rest := [.ref (ht 0)]) C (c_X3_firstRest l D cy x1 q2 hc) gS_X9_X3_firstRest hd_X3_firstRest ⟨Nat.le_of_ble_eq_true rfl, Nat.le_of_ble_eq_true rfl⟩ ⟨Nat.le_refl _, Nat.le_refl _⟩ hP hD hS hl.1 (Nat.le_of_ble_eq_true rfl) dX9_rest_20 (fun H locs hP hD hS => ?_)
    obtain ⟨q3, hc, hf⟩ := zbd hf
    refine z_cVi (As := [.int q2]) (rest := []) C (c_X9_answer l D cy ht ht_reader ht_rows ht_evidence ht_history St q2 q3 hc) gV_X9_X9_answer hd_X9_answer ⟨Nat.le_of_ble_eq_true rfl, Nat.le_of_ble_eq_true rfl⟩ ⟨Nat.le_refl _, Nat.le_refl _⟩ (va_recv hK hP (ci := 5) (q0 := 0) rfl rfl) hP hD hS (w2 := wSR ht (ht_reader 0) (ht_rows 0) (ht_evidence 0) (ht_history 0) cy q3.2 ++ (wRows ht_rows cy St_rows)) [0] [1, 2, 3, 4, 5, 6, 7, 8] [8, 0, 1, 2, 3, 4, 5, 6, 7] rfl rfl rfl rfl rfl rfl (by decide) hl.1 (Nat.le_of_ble_eq_true rfl) dX9_rest_23 (fun H locs hP hD hS => ?_)
    obtain rfl := Option.some.inj hf
    exact z_iret (v := q3.1) C hP hD hS dX9_rest_26
  · refine lv_aload_n hx hb dX9_rest_10 rfl (lv_at hl 1 rfl) ?_
    refine lv_iload_n hx hb dX9_rest_11 rfl (lv_at hl 0 rfl) ?_
    obtain ⟨q4, hc, hf⟩ := zbd hf
    refine z_cVi (As := [.int q1]) (rest := []) C (c_X9_refuse l D cy ht ht_reader ht_rows ht_evidence ht_history St q1 q4 hc) gV_X9_X9_refuse hd_X9_refuse ⟨Nat.le_of_ble_eq_true rfl, Nat.le_of_ble_eq_true rfl⟩ ⟨Nat.le_refl _, Nat.le_refl _⟩ (va_recv hK hP (ci := 5) (q0 := 0) rfl rfl) hP hD hS (w2 := wSR ht (ht_reader 0) (ht_rows 0) (ht_evidence 0) (ht_history 0) cy q4.2 ++ (wRows ht_rows cy St_rows)) [0] [1, 2, 3, 4, 5, 6, 7, 8] [8, 0, 1, 2, 3, 4, 5, 6, 7] rfl rfl rfl rfl rfl rfl (by decide) hl.1 (Nat.le_of_ble_eq_true rfl) dX9_rest_12 (fun H locs hP hD hS => ?_)
    refine lv_goto (tgt := 26) hx hb dX9_rest_15 (by decide) ?_
    obtain rfl := Option.some.inj hf
    exact z_iret (v := q4.1) C hP hD hS dX9_rest_26
def f_X9_isValue (x0 : Int32) : Option (Int32) :=
  (if x0 < 0 then
    some (0 : Int32)
    else
    (if (999 : Int32) < x0 then
      some (0 : Int32)
      else
      some (1 : Int32)))
set_option maxHeartbeats 4000000 in
set_option maxRecDepth 100000 in
theorem c_X9_isValue (l : Launch) (D : va_G) (cy : Nat → ClassId) (x0 : Int32) (r : Int32) (hf : f_X9_isValue x0 = some r) : zCI l yX9_isValue cX9_isValue 1 (some FieldType.boolean) 0 0 D (zty cy) [.int x0] ([]) ([]) r := by
  refine zCI_of (by decide +kernel) (Nat.le_of_ble_eq_true rfl) ?_
  intro p e s m below meth c A ls C hP hD hS hl
  generalize hargs : ([.int x0] : List Value).toArray = args at C ⊢
  have C : zX p s m meth c cX9_isValue 1 args RX9 (some FieldType.boolean) A D (zty cy) := C
  obtain ⟨hx, hb, hr, hts, hown, hlocks, hml, hA, hK⟩ := id C
  have hl : lv_has ls 1 [(0, .int x0)] := hl
  generalize hH : s.heap = H at hP ⊢
  have hS : va_S A s.heap H [] := by rw [← hH]; exact hS
  generalize ([] : List Loc) = locs at hS ⊢
  refine lv_iload_n hx hb dX9_isValue_0 rfl (lv_at hl 0 rfl) ?_
  refine z_if_lt (tgt := 15) hx hb dX9_isValue_1 (by decide) hf (fun hf => ?_) (fun hf => ?_)
  · refine lv_iconst (v := (0 : Int32)) hx hb dX9_isValue_15 (by decide) ?_
    obtain rfl := Option.some.inj hf
    exact z_zret (v := (0 : Int32)) C rfl hP hD hS dX9_isValue_16
  · refine lv_iload_n hx hb dX9_isValue_4 rfl (lv_at hl 0 rfl) ?_
    refine lv_sipush (v := (999 : Int32)) hx hb dX9_isValue_5 (by decide) ?_
    refine z_icmp_gt (tgt := 15) hx hb dX9_isValue_8 (by decide) hf (fun hf => ?_) (fun hf => ?_)
    · refine lv_iconst (v := (0 : Int32)) hx hb dX9_isValue_15 (by decide) ?_
      obtain rfl := Option.some.inj hf
      exact z_zret (v := (0 : Int32)) C rfl hP hD hS dX9_isValue_16
    · refine lv_iconst (v := (1 : Int32)) hx hb dX9_isValue_11 (by decide) ?_
      refine lv_goto (tgt := 16) hx hb dX9_isValue_12 (by decide) ?_
      obtain rfl := Option.some.inj hf
      exact z_zret (v := (1 : Int32)) C rfl hP hD hS dX9_isValue_16
def f_X9_odds (St : SSR) (St_rows : SRows) (x1 : Int32) (x2 : Int32) (x3 : Int32) : Option (Int64 × SSR) :=
  (f_X6_isRow St_rows x1).bind (fun q1 =>
    (if q1 = 0 then
      (f_X9_refuse St (1 : Int32)).bind (fun q7 =>
        some (((q7.1).toInt64), q7.2))
      else
      (f_X9_isValue x2).bind (fun q2 =>
        (if q2 = 0 then
          (f_X9_refuse St (2 : Int32)).bind (fun q6 =>
            some (((q6.1).toInt64), q6.2))
          else
          (f_X1_weightOfValue St_rows x1 x2).bind (fun q3 =>
            (f_X1_wholeWeight St_rows).bind (fun q4 =>
              (f_X1_inLowestTerms q3 q4 x3).bind (fun q5 =>
                some (q5, (mkSR (0 : Int32) (SR_faultNumber St) (SR_faultPlace St))))))))))
set_option maxHeartbeats 4000000 in
set_option maxRecDepth 100000 in
theorem c_X9_odds (l : Launch) (D : va_G) (cy : Nat → ClassId) (ht : Nat → Nat) (ht_reader : Nat → Nat) (ht_rows : Nat → Nat) (ht_evidence : Nat → Nat) (ht_history : Nat → Nat) (St : SSR) (St_rows : SRows) (x1 : Int32) (x2 : Int32) (x3 : Int32) (r : Int64 × SSR) (hf : f_X9_odds St St_rows x1 x2 x3 = some r) : zCL l yX9_odds cX9_odds 4 (some FieldType.long) 5 122 D (zty cy) [.ref (ht 0), .int x1, .int x2, .int x3] (wSR ht (ht_reader 0) (ht_rows 0) (ht_evidence 0) (ht_history 0) cy St ++ (wRows ht_rows cy St_rows)) (wSR ht (ht_reader 0) (ht_rows 0) (ht_evidence 0) (ht_history 0) cy r.2 ++ (wRows ht_rows cy St_rows)) r.1 := by
  refine zCL_of (by decide +kernel) (Nat.le_of_ble_eq_true rfl) ?_
  intro p e s m below meth c A ls C hP hD hS hl
  generalize hargs : ([.ref (ht 0), .int x1, .int x2, .int x3] : List Value).toArray = args at C ⊢
  have C : zX p s m meth c cX9_odds 4 args RX9 (some FieldType.long) A D (zty cy) := C
  obtain ⟨hx, hb, hr, hts, hown, hlocks, hml, hA, hK⟩ := id C
  have hl : lv_has ls 4 [(0, .ref (ht 0)), (1, .int x1), (2, .int x2), (3, .int x3)] := hl
  generalize hH : s.heap = H at hP ⊢
  have hS : va_S A s.heap H [] := by rw [← hH]; exact hS
  generalize ([] : List Loc) = locs at hS ⊢
  refine lv_aload_n hx hb dX9_odds_0 rfl (lv_at hl 0 rfl) ?_
  refine va_get (D := D) (ci := 5) (v := .ref (ht_rows 0)) (C := RX9) (T := TX9) (N := 7) hx hb hts in_X9 hown hK hP 0 rfl rfl 1 (by decide) (hts _ q2_20) (fun _ h9 => h9) rfl dX9_odds_1 ?_
  refine lv_iload_n hx hb dX9_odds_4 rfl (lv_at hl 1 rfl) ?_
  obtain ⟨q1, hc, hf⟩ := zbd hf
  refine z_cVi (As := [.int x1]) (rest := []) C (c_X6_isRow l D cy ht_rows St_rows x1 q1 hc) gV_X9_X6_isRow hd_X6_isRow ⟨Nat.le_of_ble_eq_true rfl, Nat.le_of_ble_eq_true rfl⟩ ⟨Nat.le_refl _, Nat.le_refl _⟩ (va_recv hK hP (ci := 3) (q0 := 1) rfl rfl) hP hD hS (w2 := wSR ht (ht_reader 0) (ht_rows 0) (ht_evidence 0) (ht_history 0) cy St ++ (wRows ht_rows cy St_rows)) [1, 2, 3, 4, 5, 6, 7, 8] [0] [0, 1, 2, 3, 4, 5, 6, 7, 8] rfl rfl rfl rfl rfl rfl (by decide) hl.1 (Nat.le_of_ble_eq_true rfl) dX9_odds_5 (fun H locs hP hD hS => ?_)
  refine z_if_ne (tgt := 18) hx hb dX9_odds_8 (by decide) hf (fun hf => ?_) (fun hf => ?_)
  · refine lv_iload_n hx hb dX9_odds_18 rfl (lv_at hl 2 rfl) ?_
    obtain ⟨q2, hc, hf⟩ := zbd hf
    refine z_cSiE (As := [.int x2]) (rest := []) C (c_X9_isValue l D cy x2 q2 hc) gS_X9_X9_isValue hd_X9_isValue ⟨Nat.le_of_ble_eq_true rfl, Nat.le_of_ble_eq_true rfl⟩ ⟨Nat.le_refl _, Nat.le_refl _⟩ hP hD hS hl.1 (Nat.le_of_ble_eq_true rfl) dX9_odds_19 (fun H locs hP hD hS => ?_)
    refine z_if_ne (tgt := 32) hx hb dX9_odds_22 (by decide) hf (fun hf => ?_) (fun hf => ?_)
    · refine lv_aload_n hx hb dX9_odds_32 rfl (lv_at hl 0 rfl) ?_
      refine lv_iconst (v := (0 : Int32)) hx hb dX9_odds_33 (by decide) ?_
      refine z_put (w2 := vSR ht (ht_reader 0) (ht_rows 0) (ht_evidence 0) (ht_history 0) cy (0 : Int32) (SR_faultNumber St) (SR_faultPlace St) ++ (wRows ht_rows cy St_rows)) hx hb hts in_X9 tyX9 tyX9_ok nmX9 hown hK hP hD hS 0 rfl rfl 4 (by decide) (hts _ q2_23) (fun _ h9 => h9) rfl rfl rfl (Nat.le_of_ble_eq_true rfl) dX9_odds_34 rfl (fun H locs hP hD hS => ?_)
      refine lv_aload_n hx hb dX9_odds_37 rfl (lv_at hl 0 rfl) ?_
      refine va_get (D := D) (ci := 5) (v := .ref (ht_rows 0)) (C := RX9) (T := TX9) (N := 7) hx hb hts in_X9 hown hK hP 0 rfl rfl 1 (by decide) (hts _ q2_20) (fun _ h9 => h9) rfl dX9_odds_38 ?_
      refine lv_iload_n hx hb dX9_odds_41 rfl (lv_at hl 1 rfl) ?_
      refine lv_iload_n hx hb dX9_odds_42 rfl (lv_at hl 2 rfl) ?_
      obtain ⟨q3, hc, hf⟩ := zbd hf
      refine z_cSl (As := [.ref (ht_rows 0), .int x1, .int x2]) (rest := []) C (c_X1_weightOfValue l D cy ht_rows St_rows x1 x2 q3 hc) gS_X9_X1_weightOfValue hd_X1_weightOfValue ⟨Nat.le_of_ble_eq_true rfl, Nat.le_of_ble_eq_true rfl⟩ ⟨Nat.le_refl _, Nat.le_refl _⟩ hP hD hS (w2 := vSR ht (ht_reader 0) (ht_rows 0) (ht_evidence 0) (ht_history 0) cy (0 : Int32) (SR_faultNumber St) (SR_faultPlace St) ++ (wRows ht_rows cy St_rows)) [1, 2, 3, 4, 5, 6, 7, 8] [0] [0, 1, 2, 3, 4, 5, 6, 7, 8] rfl rfl rfl rfl rfl rfl (by decide) hl.1 (Nat.le_of_ble_eq_true rfl) dX9_odds_43 (fun H locs hP hD hS => ?_)
      refine lv_aload_n hx hb dX9_odds_46 rfl (lv_at hl 0 rfl) ?_
      refine va_get (D := D) (ci := 5) (v := .ref (ht_rows 0)) (C := RX9) (T := TX9) (N := 7) hx hb hts in_X9 hown hK hP 0 rfl rfl 1 (by decide) (hts _ q2_20) (fun _ h9 => h9) rfl dX9_odds_47 ?_
      obtain ⟨q4, hc, hf⟩ := zbd hf
      refine z_cSl (As := [.ref (ht_rows 0)]) (rest := [.long q3]) C (c_X1_wholeWeight l D cy ht_rows St_rows q4 hc) gS_X9_X1_wholeWeight hd_X1_wholeWeight ⟨Nat.le_of_ble_eq_true rfl, Nat.le_of_ble_eq_true rfl⟩ ⟨Nat.le_refl _, Nat.le_refl _⟩ hP hD hS (w2 := vSR ht (ht_reader 0) (ht_rows 0) (ht_evidence 0) (ht_history 0) cy (0 : Int32) (SR_faultNumber St) (SR_faultPlace St) ++ (wRows ht_rows cy St_rows)) [1, 2, 3, 4, 5, 6, 7, 8] [0] [0, 1, 2, 3, 4, 5, 6, 7, 8] rfl rfl rfl rfl rfl rfl (by decide) hl.1 (Nat.le_of_ble_eq_true rfl) dX9_odds_50 (fun H locs hP hD hS => ?_)
      refine lv_iload_n hx hb dX9_odds_53 rfl (lv_at hl 3 rfl) ?_
      obtain ⟨q5, hc, hf⟩ := zbd hf
      refine z_cSlE (As := [.long q3, .long q4, .int x3]) (rest := []) C (c_X1_inLowestTerms l D cy q3 q4 x3 q5 hc) gS_X9_X1_inLowestTerms hd_X1_inLowestTerms ⟨Nat.le_of_ble_eq_true rfl, Nat.le_of_ble_eq_true rfl⟩ ⟨Nat.le_refl _, Nat.le_refl _⟩ hP hD hS hl.1 (Nat.le_of_ble_eq_true rfl) dX9_odds_54 (fun H locs hP hD hS => ?_)
      obtain rfl := Option.some.inj hf
      rw [← wSR_mk ht] at hP hD
      exact z_lret (v := q5) C hP hD hS dX9_odds_57
    · refine lv_aload_n hx hb dX9_odds_25 rfl (lv_at hl 0 rfl) ?_
      refine lv_iconst (v := (2 : Int32)) hx hb dX9_odds_26 (by decide) ?_
      obtain ⟨q6, hc, hf⟩ := zbd hf
      refine z_cVi (As := [.int (2 : Int32)]) (rest := []) C (c_X9_refuse l D cy ht ht_reader ht_rows ht_evidence ht_history St (2 : Int32) q6 hc) gV_X9_X9_refuse hd_X9_refuse ⟨Nat.le_of_ble_eq_true rfl, Nat.le_of_ble_eq_true rfl⟩ ⟨Nat.le_refl _, Nat.le_refl _⟩ (va_recv hK hP (ci := 5) (q0 := 0) rfl rfl) hP hD hS (w2 := wSR ht (ht_reader 0) (ht_rows 0) (ht_evidence 0) (ht_history 0) cy q6.2 ++ (wRows ht_rows cy St_rows)) [0] [1, 2, 3, 4, 5, 6, 7, 8] [8, 0, 1, 2, 3, 4, 5, 6, 7] rfl rfl rfl rfl rfl rfl (by decide) hl.1 (Nat.le_of_ble_eq_true rfl) dX9_odds_27 (fun H locs hP hD hS => ?_)
      refine lv_i2l (v := (q6.1).toInt64) hx hb dX9_odds_30 rfl ?_
      obtain rfl := Option.some.inj hf
      exact z_lret (v := ((q6.1).toInt64)) C hP hD hS dX9_odds_31
  · refine lv_aload_n hx hb dX9_odds_11 rfl (lv_at hl 0 rfl) ?_
    refine lv_iconst (v := (1 : Int32)) hx hb dX9_odds_12 (by decide) ?_
    obtain ⟨q7, hc, hf⟩ := zbd hf
    refine z_cVi (As := [.int (1 : Int32)]) (rest := []) C (c_X9_refuse l D cy ht ht_reader ht_rows ht_evidence ht_history St (1 : Int32) q7 hc) gV_X9_X9_refuse hd_X9_refuse ⟨Nat.le_of_ble_eq_true rfl, Nat.le_of_ble_eq_true rfl⟩ ⟨Nat.le_refl _, Nat.le_refl _⟩ (va_recv hK hP (ci := 5) (q0 := 0) rfl rfl) hP hD hS (w2 := wSR ht (ht_reader 0) (ht_rows 0) (ht_evidence 0) (ht_history 0) cy q7.2 ++ (wRows ht_rows cy St_rows)) [0] [1, 2, 3, 4, 5, 6, 7, 8] [8, 0, 1, 2, 3, 4, 5, 6, 7] rfl rfl rfl rfl rfl rfl (by decide) hl.1 (Nat.le_of_ble_eq_true rfl) dX9_odds_13 (fun H locs hP hD hS => ?_)
    refine lv_i2l (v := (q7.1).toInt64) hx hb dX9_odds_16 rfl ?_
    obtain rfl := Option.some.inj hf
    exact z_lret (v := ((q7.1).toInt64)) C hP hD hS dX9_odds_17
def f_X9_mean (St : SSR) (St_rows : SRows) (x1 : Int32) : Option (Int64 × SSR) :=
  (f_X9_hasStore St St_rows).bind (fun q1 =>
    (if q1 = 0 then
      (f_X9_refuse St (1 : Int32)).bind (fun q5 =>
        some (((q5.1).toInt64), q5.2))
      else
      (f_X1_weightedSum St_rows).bind (fun q2 =>
        (f_X1_wholeWeight St_rows).bind (fun q3 =>
          (f_X1_inLowestTerms q2 q3 x1).bind (fun q4 =>
            some (q4, (mkSR (0 : Int32) (SR_faultNumber St) (SR_faultPlace St))))))))
set_option maxHeartbeats 4000000 in
set_option maxRecDepth 100000 in
theorem c_X9_mean (l : Launch) (D : va_G) (cy : Nat → ClassId) (ht : Nat → Nat) (ht_reader : Nat → Nat) (ht_rows : Nat → Nat) (ht_evidence : Nat → Nat) (ht_history : Nat → Nat) (St : SSR) (St_rows : SRows) (x1 : Int32) (r : Int64 × SSR) (hf : f_X9_mean St St_rows x1 = some r) : zCL l yX9_mean cX9_mean 2 (some FieldType.long) 4 98 D (zty cy) [.ref (ht 0), .int x1] (wSR ht (ht_reader 0) (ht_rows 0) (ht_evidence 0) (ht_history 0) cy St ++ (wRows ht_rows cy St_rows)) (wSR ht (ht_reader 0) (ht_rows 0) (ht_evidence 0) (ht_history 0) cy r.2 ++ (wRows ht_rows cy St_rows)) r.1 := by
  refine zCL_of (by decide +kernel) (Nat.le_of_ble_eq_true rfl) ?_
  intro p e s m below meth c A ls C hP hD hS hl
  generalize hargs : ([.ref (ht 0), .int x1] : List Value).toArray = args at C ⊢
  have C : zX p s m meth c cX9_mean 2 args RX9 (some FieldType.long) A D (zty cy) := C
  obtain ⟨hx, hb, hr, hts, hown, hlocks, hml, hA, hK⟩ := id C
  have hl : lv_has ls 2 [(0, .ref (ht 0)), (1, .int x1)] := hl
  generalize hH : s.heap = H at hP ⊢
  have hS : va_S A s.heap H [] := by rw [← hH]; exact hS
  generalize ([] : List Loc) = locs at hS ⊢
  refine lv_aload_n hx hb dX9_mean_0 rfl (lv_at hl 0 rfl) ?_
  obtain ⟨q1, hc, hf⟩ := zbd hf
  refine z_cVi0 (As := []) (rest := []) C (c_X9_hasStore l D cy ht ht_reader ht_rows ht_evidence ht_history St St_rows q1 hc) gV_X9_X9_hasStore hd_X9_hasStore ⟨Nat.le_of_ble_eq_true rfl, Nat.le_of_ble_eq_true rfl⟩ ⟨Nat.le_refl _, Nat.le_refl _⟩ (va_recv hK hP (ci := 5) (q0 := 0) rfl rfl) hP hD hS hl.1 (Nat.le_of_ble_eq_true rfl) dX9_mean_1 (fun H locs hP hD hS => ?_)
  have hP : va_P D vwCl (wSR ht (ht_reader 0) (ht_rows 0) (ht_evidence 0) (ht_history 0) cy St ++ (wRows ht_rows cy St_rows)) H := hP
  have hD : va_D A (wSR ht (ht_reader 0) (ht_rows 0) (ht_evidence 0) (ht_history 0) cy St ++ (wRows ht_rows cy St_rows)) := hD
  refine z_if_ne (tgt := 14) hx hb dX9_mean_4 (by decide) hf (fun hf => ?_) (fun hf => ?_)
  · refine lv_aload_n hx hb dX9_mean_14 rfl (lv_at hl 0 rfl) ?_
    refine lv_iconst (v := (0 : Int32)) hx hb dX9_mean_15 (by decide) ?_
    refine z_put (w2 := vSR ht (ht_reader 0) (ht_rows 0) (ht_evidence 0) (ht_history 0) cy (0 : Int32) (SR_faultNumber St) (SR_faultPlace St) ++ (wRows ht_rows cy St_rows)) hx hb hts in_X9 tyX9 tyX9_ok nmX9 hown hK hP hD hS 0 rfl rfl 4 (by decide) (hts _ q2_23) (fun _ h9 => h9) rfl rfl rfl (Nat.le_of_ble_eq_true rfl) dX9_mean_16 rfl (fun H locs hP hD hS => ?_)
    refine lv_aload_n hx hb dX9_mean_19 rfl (lv_at hl 0 rfl) ?_
    refine va_get (D := D) (ci := 5) (v := .ref (ht_rows 0)) (C := RX9) (T := TX9) (N := 7) hx hb hts in_X9 hown hK hP 0 rfl rfl 1 (by decide) (hts _ q2_20) (fun _ h9 => h9) rfl dX9_mean_20 ?_
    obtain ⟨q2, hc, hf⟩ := zbd hf
    refine z_cSl (As := [.ref (ht_rows 0)]) (rest := []) C (c_X1_weightedSum l D cy ht_rows St_rows q2 hc) gS_X9_X1_weightedSum hd_X1_weightedSum ⟨Nat.le_of_ble_eq_true rfl, Nat.le_of_ble_eq_true rfl⟩ ⟨Nat.le_refl _, Nat.le_refl _⟩ hP hD hS (w2 := vSR ht (ht_reader 0) (ht_rows 0) (ht_evidence 0) (ht_history 0) cy (0 : Int32) (SR_faultNumber St) (SR_faultPlace St) ++ (wRows ht_rows cy St_rows)) [1, 2, 3, 4, 5, 6, 7, 8] [0] [0, 1, 2, 3, 4, 5, 6, 7, 8] rfl rfl rfl rfl rfl rfl (by decide) hl.1 (Nat.le_of_ble_eq_true rfl) dX9_mean_23 (fun H locs hP hD hS => ?_)
    refine lv_aload_n hx hb dX9_mean_26 rfl (lv_at hl 0 rfl) ?_
    refine va_get (D := D) (ci := 5) (v := .ref (ht_rows 0)) (C := RX9) (T := TX9) (N := 7) hx hb hts in_X9 hown hK hP 0 rfl rfl 1 (by decide) (hts _ q2_20) (fun _ h9 => h9) rfl dX9_mean_27 ?_
    obtain ⟨q3, hc, hf⟩ := zbd hf
    refine z_cSl (As := [.ref (ht_rows 0)]) (rest := [.long q2]) C (c_X1_wholeWeight l D cy ht_rows St_rows q3 hc) gS_X9_X1_wholeWeight hd_X1_wholeWeight ⟨Nat.le_of_ble_eq_true rfl, Nat.le_of_ble_eq_true rfl⟩ ⟨Nat.le_refl _, Nat.le_refl _⟩ hP hD hS (w2 := vSR ht (ht_reader 0) (ht_rows 0) (ht_evidence 0) (ht_history 0) cy (0 : Int32) (SR_faultNumber St) (SR_faultPlace St) ++ (wRows ht_rows cy St_rows)) [1, 2, 3, 4, 5, 6, 7, 8] [0] [0, 1, 2, 3, 4, 5, 6, 7, 8] rfl rfl rfl rfl rfl rfl (by decide) hl.1 (Nat.le_of_ble_eq_true rfl) dX9_mean_30 (fun H locs hP hD hS => ?_)
    refine lv_iload_n hx hb dX9_mean_33 rfl (lv_at hl 1 rfl) ?_
    obtain ⟨q4, hc, hf⟩ := zbd hf
    refine z_cSlE (As := [.long q2, .long q3, .int x1]) (rest := []) C (c_X1_inLowestTerms l D cy q2 q3 x1 q4 hc) gS_X9_X1_inLowestTerms hd_X1_inLowestTerms ⟨Nat.le_of_ble_eq_true rfl, Nat.le_of_ble_eq_true rfl⟩ ⟨Nat.le_refl _, Nat.le_refl _⟩ hP hD hS hl.1 (Nat.le_of_ble_eq_true rfl) dX9_mean_34 (fun H locs hP hD hS => ?_)
    obtain rfl := Option.some.inj hf
    rw [← wSR_mk ht] at hP hD
    exact z_lret (v := q4) C hP hD hS dX9_mean_37
  · refine lv_aload_n hx hb dX9_mean_7 rfl (lv_at hl 0 rfl) ?_
    refine lv_iconst (v := (1 : Int32)) hx hb dX9_mean_8 (by decide) ?_
    obtain ⟨q5, hc, hf⟩ := zbd hf
    refine z_cVi (As := [.int (1 : Int32)]) (rest := []) C (c_X9_refuse l D cy ht ht_reader ht_rows ht_evidence ht_history St (1 : Int32) q5 hc) gV_X9_X9_refuse hd_X9_refuse ⟨Nat.le_of_ble_eq_true rfl, Nat.le_of_ble_eq_true rfl⟩ ⟨Nat.le_refl _, Nat.le_refl _⟩ (va_recv hK hP (ci := 5) (q0 := 0) rfl rfl) hP hD hS (w2 := wSR ht (ht_reader 0) (ht_rows 0) (ht_evidence 0) (ht_history 0) cy q5.2 ++ (wRows ht_rows cy St_rows)) [0] [1, 2, 3, 4, 5, 6, 7, 8] [8, 0, 1, 2, 3, 4, 5, 6, 7] rfl rfl rfl rfl rfl rfl (by decide) hl.1 (Nat.le_of_ble_eq_true rfl) dX9_mean_9 (fun H locs hP hD hS => ?_)
    refine lv_i2l (v := (q5.1).toInt64) hx hb dX9_mean_12 rfl ?_
    obtain rfl := Option.some.inj hf
    exact z_lret (v := ((q5.1).toInt64)) C hP hD hS dX9_mean_13
def f_X9_drawn (St : SSR) (St_rows : SRows) (x1 : Int32) : Option (Int32 × SSR) :=
  (f_X9_hasStore St St_rows).bind (fun q1 =>
    (if q1 = 0 then
      (f_X9_refuse St (1 : Int32)).bind (fun q7 =>
        some (q7.1, q7.2))
      else
      (if x1 < 0 then
        (f_X9_refuse St (2 : Int32)).bind (fun q2 =>
          some (q2.1, q2.2))
        else
        (if x1 ≤ (65536 : Int32) then
          (f_X1_countingByDraws St_rows x1).bind (fun q3 =>
            (f_X6_sumSeen St_rows q3).bind (fun q4 =>
              (f_X9_answer St q4).bind (fun q5 =>
                some (q5.1, q5.2))))
          else
          (f_X9_refuse St (2 : Int32)).bind (fun q6 =>
            some (q6.1, q6.2))))))
set_option maxHeartbeats 4000000 in
set_option maxRecDepth 100000 in
theorem c_X9_drawn (l : Launch) (D : va_G) (cy : Nat → ClassId) (ht : Nat → Nat) (ht_reader : Nat → Nat) (ht_rows : Nat → Nat) (ht_evidence : Nat → Nat) (ht_history : Nat → Nat) (St : SSR) (St_rows : SRows) (x1 : Int32) (r : Int32 × SSR) (hf : f_X9_drawn St St_rows x1 = some r) : zCI l yX9_drawn cX9_drawn 2 (some FieldType.int) 3 72 D (zty cy) [.ref (ht 0), .int x1] (wSR ht (ht_reader 0) (ht_rows 0) (ht_evidence 0) (ht_history 0) cy St ++ (wRows ht_rows cy St_rows)) (wSR ht (ht_reader 0) (ht_rows 0) (ht_evidence 0) (ht_history 0) cy r.2 ++ (wRows ht_rows cy St_rows)) r.1 := by
  refine zCI_of (by decide +kernel) (Nat.le_of_ble_eq_true rfl) ?_
  intro p e s m below meth c A ls C hP hD hS hl
  generalize hargs : ([.ref (ht 0), .int x1] : List Value).toArray = args at C ⊢
  have C : zX p s m meth c cX9_drawn 2 args RX9 (some FieldType.int) A D (zty cy) := C
  obtain ⟨hx, hb, hr, hts, hown, hlocks, hml, hA, hK⟩ := id C
  have hl : lv_has ls 2 [(0, .ref (ht 0)), (1, .int x1)] := hl
  generalize hH : s.heap = H at hP ⊢
  have hS : va_S A s.heap H [] := by rw [← hH]; exact hS
  generalize ([] : List Loc) = locs at hS ⊢
  refine lv_aload_n hx hb dX9_drawn_0 rfl (lv_at hl 0 rfl) ?_
  obtain ⟨q1, hc, hf⟩ := zbd hf
  refine z_cVi0 (As := []) (rest := []) C (c_X9_hasStore l D cy ht ht_reader ht_rows ht_evidence ht_history St St_rows q1 hc) gV_X9_X9_hasStore hd_X9_hasStore ⟨Nat.le_of_ble_eq_true rfl, Nat.le_of_ble_eq_true rfl⟩ ⟨Nat.le_refl _, Nat.le_refl _⟩ (va_recv hK hP (ci := 5) (q0 := 0) rfl rfl) hP hD hS hl.1 (Nat.le_of_ble_eq_true rfl) dX9_drawn_1 (fun H locs hP hD hS => ?_)
  have hP : va_P D vwCl (wSR ht (ht_reader 0) (ht_rows 0) (ht_evidence 0) (ht_history 0) cy St ++ (wRows ht_rows cy St_rows)) H := hP
  have hD : va_D A (wSR ht (ht_reader 0) (ht_rows 0) (ht_evidence 0) (ht_history 0) cy St ++ (wRows ht_rows cy St_rows)) := hD
  refine z_if_ne (tgt := 13) hx hb dX9_drawn_4 (by decide) hf (fun hf => ?_) (fun hf => ?_)
  · refine lv_iload_n hx hb dX9_drawn_13 rfl (lv_at hl 1 rfl) ?_
    refine z_if_lt (tgt := 24) hx hb dX9_drawn_14 (by decide) hf (fun hf => ?_) (fun hf => ?_)
    · refine lv_aload_n hx hb dX9_drawn_24 rfl (lv_at hl 0 rfl) ?_
      refine lv_iconst (v := (2 : Int32)) hx hb dX9_drawn_25 (by decide) ?_
      obtain ⟨q2, hc, hf⟩ := zbd hf
      refine z_cVi (As := [.int (2 : Int32)]) (rest := []) C (c_X9_refuse l D cy ht ht_reader ht_rows ht_evidence ht_history St (2 : Int32) q2 hc) gV_X9_X9_refuse hd_X9_refuse ⟨Nat.le_of_ble_eq_true rfl, Nat.le_of_ble_eq_true rfl⟩ ⟨Nat.le_refl _, Nat.le_refl _⟩ (va_recv hK hP (ci := 5) (q0 := 0) rfl rfl) hP hD hS (w2 := wSR ht (ht_reader 0) (ht_rows 0) (ht_evidence 0) (ht_history 0) cy q2.2 ++ (wRows ht_rows cy St_rows)) [0] [1, 2, 3, 4, 5, 6, 7, 8] [8, 0, 1, 2, 3, 4, 5, 6, 7] rfl rfl rfl rfl rfl rfl (by decide) hl.1 (Nat.le_of_ble_eq_true rfl) dX9_drawn_26 (fun H locs hP hD hS => ?_)
      obtain rfl := Option.some.inj hf
      exact z_iret (v := q2.1) C hP hD hS dX9_drawn_29
    · refine lv_iload_n hx hb dX9_drawn_17 rfl (lv_at hl 1 rfl) ?_
      refine lv_ldcw (v := (65536 : Int32)) hx hb hown (hts _ q5_120) dX9_drawn_18 ?_
      refine z_icmp_le (tgt := 30) hx hb dX9_drawn_21 (by decide) hf (fun hf => ?_) (fun hf => ?_)
      · refine lv_aload_n hx hb dX9_drawn_30 rfl (lv_at hl 0 rfl) ?_
        refine lv_aload_n hx hb dX9_drawn_31 rfl (lv_at hl 0 rfl) ?_
        refine va_get (D := D) (ci := 5) (v := .ref (ht_rows 0)) (C := RX9) (T := TX9) (N := 7) hx hb hts in_X9 hown hK hP 0 rfl rfl 1 (by decide) (hts _ q2_20) (fun _ h9 => h9) rfl dX9_drawn_32 ?_
        refine lv_aload_n hx hb dX9_drawn_35 rfl (lv_at hl 0 rfl) ?_
        refine va_get (D := D) (ci := 5) (v := .ref (ht_rows 0)) (C := RX9) (T := TX9) (N := 7) hx hb hts in_X9 hown hK hP 0 rfl rfl 1 (by decide) (hts _ q2_20) (fun _ h9 => h9) rfl dX9_drawn_36 ?_
        refine lv_iload_n hx hb dX9_drawn_39 rfl (lv_at hl 1 rfl) ?_
        obtain ⟨q3, hc, hf⟩ := zbd hf
        refine z_cSl (As := [.ref (ht_rows 0), .int x1]) (rest := [.ref (ht_rows 0), .ref (ht 0)]) C (c_X1_countingByDraws l D cy ht_rows St_rows x1 q3 hc) gS_X9_X1_countingByDraws hd_X1_countingByDraws ⟨Nat.le_of_ble_eq_true rfl, Nat.le_of_ble_eq_true rfl⟩ ⟨Nat.le_refl _, Nat.le_refl _⟩ hP hD hS (w2 := wSR ht (ht_reader 0) (ht_rows 0) (ht_evidence 0) (ht_history 0) cy St ++ (wRows ht_rows cy St_rows)) [1, 2, 3, 4, 5, 6, 7, 8] [0] [0, 1, 2, 3, 4, 5, 6, 7, 8] rfl rfl rfl rfl rfl rfl (by decide) hl.1 (Nat.le_of_ble_eq_true rfl) dX9_drawn_40 (fun H locs hP hD hS => ?_)
        obtain ⟨q4, hc, hf⟩ := zbd hf
        refine z_cVi (As := [.long q3]) (rest := [.ref (ht 0)]) C (c_X6_sumSeen l D cy ht_rows St_rows q3 q4 hc) gV_X9_X6_sumSeen hd_X6_sumSeen ⟨Nat.le_of_ble_eq_true rfl, Nat.le_of_ble_eq_true rfl⟩ ⟨Nat.le_refl _, Nat.le_refl _⟩ (va_recv hK hP (ci := 3) (q0 := 1) rfl rfl) hP hD hS (w2 := wSR ht (ht_reader 0) (ht_rows 0) (ht_evidence 0) (ht_history 0) cy St ++ (wRows ht_rows cy St_rows)) [1, 2, 3, 4, 5, 6, 7, 8] [0] [0, 1, 2, 3, 4, 5, 6, 7, 8] rfl rfl rfl rfl rfl rfl (by decide) hl.1 (Nat.le_of_ble_eq_true rfl) dX9_drawn_43 (fun H locs hP hD hS => ?_)
        obtain ⟨q5, hc, hf⟩ := zbd hf
        refine z_cVi (As := [.int q4]) (rest := []) C (c_X9_answer l D cy ht ht_reader ht_rows ht_evidence ht_history St q4 q5 hc) gV_X9_X9_answer hd_X9_answer ⟨Nat.le_of_ble_eq_true rfl, Nat.le_of_ble_eq_true rfl⟩ ⟨Nat.le_refl _, Nat.le_refl _⟩ (va_recv hK hP (ci := 5) (q0 := 0) rfl rfl) hP hD hS (w2 := wSR ht (ht_reader 0) (ht_rows 0) (ht_evidence 0) (ht_history 0) cy q5.2 ++ (wRows ht_rows cy St_rows)) [0] [1, 2, 3, 4, 5, 6, 7, 8] [8, 0, 1, 2, 3, 4, 5, 6, 7] rfl rfl rfl rfl rfl rfl (by decide) hl.1 (Nat.le_of_ble_eq_true rfl) dX9_drawn_46 (fun H locs hP hD hS => ?_)
        obtain rfl := Option.some.inj hf
        exact z_iret (v := q5.1) C hP hD hS dX9_drawn_49
      · refine lv_aload_n hx hb dX9_drawn_24 rfl (lv_at hl 0 rfl) ?_
        refine lv_iconst (v := (2 : Int32)) hx hb dX9_drawn_25 (by decide) ?_
        obtain ⟨q6, hc, hf⟩ := zbd hf
        refine z_cVi (As := [.int (2 : Int32)]) (rest := []) C (c_X9_refuse l D cy ht ht_reader ht_rows ht_evidence ht_history St (2 : Int32) q6 hc) gV_X9_X9_refuse hd_X9_refuse ⟨Nat.le_of_ble_eq_true rfl, Nat.le_of_ble_eq_true rfl⟩ ⟨Nat.le_refl _, Nat.le_refl _⟩ (va_recv hK hP (ci := 5) (q0 := 0) rfl rfl) hP hD hS (w2 := wSR ht (ht_reader 0) (ht_rows 0) (ht_evidence 0) (ht_history 0) cy q6.2 ++ (wRows ht_rows cy St_rows)) [0] [1, 2, 3, 4, 5, 6, 7, 8] [8, 0, 1, 2, 3, 4, 5, 6, 7] rfl rfl rfl rfl rfl rfl (by decide) hl.1 (Nat.le_of_ble_eq_true rfl) dX9_drawn_26 (fun H locs hP hD hS => ?_)
        obtain rfl := Option.some.inj hf
        exact z_iret (v := q6.1) C hP hD hS dX9_drawn_29
  · refine lv_aload_n hx hb dX9_drawn_7 rfl (lv_at hl 0 rfl) ?_
    refine lv_iconst (v := (1 : Int32)) hx hb dX9_drawn_8 (by decide) ?_
    obtain ⟨q7, hc, hf⟩ := zbd hf
    refine z_cVi (As := [.int (1 : Int32)]) (rest := []) C (c_X9_refuse l D cy ht ht_reader ht_rows ht_evidence ht_history St (1 : Int32) q7 hc) gV_X9_X9_refuse hd_X9_refuse ⟨Nat.le_of_ble_eq_true rfl, Nat.le_of_ble_eq_true rfl⟩ ⟨Nat.le_refl _, Nat.le_refl _⟩ (va_recv hK hP (ci := 5) (q0 := 0) rfl rfl) hP hD hS (w2 := wSR ht (ht_reader 0) (ht_rows 0) (ht_evidence 0) (ht_history 0) cy q7.2 ++ (wRows ht_rows cy St_rows)) [0] [1, 2, 3, 4, 5, 6, 7, 8] [8, 0, 1, 2, 3, 4, 5, 6, 7] rfl rfl rfl rfl rfl rfl (by decide) hl.1 (Nat.le_of_ble_eq_true rfl) dX9_drawn_9 (fun H locs hP hD hS => ?_)
    obtain rfl := Option.some.inj hf
    exact z_iret (v := q7.1) C hP hD hS dX9_drawn_12
def f_J6_bitCount_0f7a4 (x0 : Int32) : Option (Int32) :=
  some ((((((((x0 - ((jiushr x0 (1 : Int32)) &&& (1431655765 : Int32))) &&& (858993459 : Int32)) + ((jiushr (x0 - ((jiushr x0 (1 : Int32)) &&& (1431655765 : Int32))) (2 : Int32)) &&& (858993459 : Int32))) + (jiushr (((x0 - ((jiushr x0 (1 : Int32)) &&& (1431655765 : Int32))) &&& (858993459 : Int32)) + ((jiushr (x0 - ((jiushr x0 (1 : Int32)) &&& (1431655765 : Int32))) (2 : Int32)) &&& (858993459 : Int32))) (4 : Int32))) &&& (252645135 : Int32)) + (jiushr (((((x0 - ((jiushr x0 (1 : Int32)) &&& (1431655765 : Int32))) &&& (858993459 : Int32)) + ((jiushr (x0 - ((jiushr x0 (1 : Int32)) &&& (1431655765 : Int32))) (2 : Int32)) &&& (858993459 : Int32))) + (jiushr (((x0 - ((jiushr x0 (1 : Int32)) &&& (1431655765 : Int32))) &&& (858993459 : Int32)) + ((jiushr (x0 - ((jiushr x0 (1 : Int32)) &&& (1431655765 : Int32))) (2 : Int32)) &&& (858993459 : Int32))) (4 : Int32))) &&& (252645135 : Int32)) (8 : Int32))) + (jiushr ((((((x0 - ((jiushr x0 (1 : Int32)) &&& (1431655765 : Int32))) &&& (858993459 : Int32)) + ((jiushr (x0 - ((jiushr x0 (1 : Int32)) &&& (1431655765 : Int32))) (2 : Int32)) &&& (858993459 : Int32))) + (jiushr (((x0 - ((jiushr x0 (1 : Int32)) &&& (1431655765 : Int32))) &&& (858993459 : Int32)) + ((jiushr (x0 - ((jiushr x0 (1 : Int32)) &&& (1431655765 : Int32))) (2 : Int32)) &&& (858993459 : Int32))) (4 : Int32))) &&& (252645135 : Int32)) + (jiushr (((((x0 - ((jiushr x0 (1 : Int32)) &&& (1431655765 : Int32))) &&& (858993459 : Int32)) + ((jiushr (x0 - ((jiushr x0 (1 : Int32)) &&& (1431655765 : Int32))) (2 : Int32)) &&& (858993459 : Int32))) + (jiushr (((x0 - ((jiushr x0 (1 : Int32)) &&& (1431655765 : Int32))) &&& (858993459 : Int32)) + ((jiushr (x0 - ((jiushr x0 (1 : Int32)) &&& (1431655765 : Int32))) (2 : Int32)) &&& (858993459 : Int32))) (4 : Int32))) &&& (252645135 : Int32)) (8 : Int32))) (16 : Int32))) &&& (63 : Int32))
set_option maxHeartbeats 4000000 in
set_option maxRecDepth 100000 in
theorem c_J6_bitCount_0f7a4 (l : Launch) (D : va_G) (cy : Nat → ClassId) (x0 : Int32) (r : Int32) (hf : f_J6_bitCount_0f7a4 x0 = some r) : zCI l yJ6_bitCount_0f7a4 cJ6_bitCount_0f7a4 1 (some FieldType.int) 0 0 D (zty cy) [.int x0] ([]) ([]) r := by
  refine zCI_of (by decide +kernel) (Nat.le_of_ble_eq_true rfl) ?_
  intro p e s m below meth c A ls C hP hD hS hl
  generalize hargs : ([.int x0] : List Value).toArray = args at C ⊢
  have C : zX p s m meth c cJ6_bitCount_0f7a4 1 args RJ6 (some FieldType.int) A D (zty cy) := C
  obtain ⟨hx, hb, hr, hts, hown, hlocks, hml, hA, hK⟩ := id C
  have hl : lv_has ls 1 [(0, .int x0)] := hl
  generalize hH : s.heap = H at hP ⊢
  have hS : va_S A s.heap H [] := by rw [← hH]; exact hS
  generalize ([] : List Loc) = locs at hS ⊢
  refine lv_iload_n hx hb dJ6_bitCount_0f7a4_0 rfl (lv_at hl 0 rfl) ?_
  refine lv_iload_n hx hb dJ6_bitCount_0f7a4_1 rfl (lv_at hl 0 rfl) ?_
  refine lv_iconst (v := (1 : Int32)) hx hb dJ6_bitCount_0f7a4_2 (by decide) ?_
  refine lv_iushr (v := (jiushr x0 (1 : Int32))) hx hb dJ6_bitCount_0f7a4_3 rfl ?_
  refine lv_ldcw (v := (1431655765 : Int32)) hx hb hown (hts _ q5_199) dJ6_bitCount_0f7a4_4 ?_
  refine lv_iand hx hb dJ6_bitCount_0f7a4_7 ?_
  refine lv_isub hx hb dJ6_bitCount_0f7a4_8 ?_
  refine lv_istore_n (lv' := [(0, .int (x0 - ((jiushr x0 (1 : Int32)) &&& (1431655765 : Int32))))]) hx hb dJ6_bitCount_0f7a4_9 rfl hl (by decide) rfl (fun ls hl => ?_)
  refine lv_iload_n hx hb dJ6_bitCount_0f7a4_10 rfl (lv_at hl 0 rfl) ?_
  refine lv_ldcw (v := (858993459 : Int32)) hx hb hown (hts _ q5_200) dJ6_bitCount_0f7a4_11 ?_
  refine lv_iand hx hb dJ6_bitCount_0f7a4_14 ?_
  refine lv_iload_n hx hb dJ6_bitCount_0f7a4_15 rfl (lv_at hl 0 rfl) ?_
  refine lv_iconst (v := (2 : Int32)) hx hb dJ6_bitCount_0f7a4_16 (by decide) ?_
  refine lv_iushr (v := (jiushr (x0 - ((jiushr x0 (1 : Int32)) &&& (1431655765 : Int32))) (2 : Int32))) hx hb dJ6_bitCount_0f7a4_17 rfl ?_
  refine lv_ldcw (v := (858993459 : Int32)) hx hb hown (hts _ q5_200) dJ6_bitCount_0f7a4_18 ?_
  refine lv_iand hx hb dJ6_bitCount_0f7a4_21 ?_
  refine lv_iadd hx hb dJ6_bitCount_0f7a4_22 ?_
  refine lv_istore_n (lv' := [(0, .int (((x0 - ((jiushr x0 (1 : Int32)) &&& (1431655765 : Int32))) &&& (858993459 : Int32)) + ((jiushr (x0 - ((jiushr x0 (1 : Int32)) &&& (1431655765 : Int32))) (2 : Int32)) &&& (858993459 : Int32))))]) hx hb dJ6_bitCount_0f7a4_23 rfl hl (by decide) rfl (fun ls hl => ?_)
  refine lv_iload_n hx hb dJ6_bitCount_0f7a4_24 rfl (lv_at hl 0 rfl) ?_
  refine lv_iload_n hx hb dJ6_bitCount_0f7a4_25 rfl (lv_at hl 0 rfl) ?_
  refine lv_iconst (v := (4 : Int32)) hx hb dJ6_bitCount_0f7a4_26 (by decide) ?_
  refine lv_iushr (v := (jiushr (((x0 - ((jiushr x0 (1 : Int32)) &&& (1431655765 : Int32))) &&& (858993459 : Int32)) + ((jiushr (x0 - ((jiushr x0 (1 : Int32)) &&& (1431655765 : Int32))) (2 : Int32)) &&& (858993459 : Int32))) (4 : Int32))) hx hb dJ6_bitCount_0f7a4_27 rfl ?_
  refine lv_iadd hx hb dJ6_bitCount_0f7a4_28 ?_
  refine lv_ldcw (v := (252645135 : Int32)) hx hb hown (hts _ q5_201) dJ6_bitCount_0f7a4_29 ?_
  refine lv_iand hx hb dJ6_bitCount_0f7a4_32 ?_
  refine lv_istore_n (lv' := [(0, .int (((((x0 - ((jiushr x0 (1 : Int32)) &&& (1431655765 : Int32))) &&& (858993459 : Int32)) + ((jiushr (x0 - ((jiushr x0 (1 : Int32)) &&& (1431655765 : Int32))) (2 : Int32)) &&& (858993459 : Int32))) + (jiushr (((x0 - ((jiushr x0 (1 : Int32)) &&& (1431655765 : Int32))) &&& (858993459 : Int32)) + ((jiushr (x0 - ((jiushr x0 (1 : Int32)) &&& (1431655765 : Int32))) (2 : Int32)) &&& (858993459 : Int32))) (4 : Int32))) &&& (252645135 : Int32)))]) hx hb dJ6_bitCount_0f7a4_33 rfl hl (by decide) rfl (fun ls hl => ?_)
  refine lv_iload_n hx hb dJ6_bitCount_0f7a4_34 rfl (lv_at hl 0 rfl) ?_
  refine lv_iload_n hx hb dJ6_bitCount_0f7a4_35 rfl (lv_at hl 0 rfl) ?_
  refine lv_bipush (v := (8 : Int32)) hx hb dJ6_bitCount_0f7a4_36 (by decide) ?_
  refine lv_iushr (v := (jiushr (((((x0 - ((jiushr x0 (1 : Int32)) &&& (1431655765 : Int32))) &&& (858993459 : Int32)) + ((jiushr (x0 - ((jiushr x0 (1 : Int32)) &&& (1431655765 : Int32))) (2 : Int32)) &&& (858993459 : Int32))) + (jiushr (((x0 - ((jiushr x0 (1 : Int32)) &&& (1431655765 : Int32))) &&& (858993459 : Int32)) + ((jiushr (x0 - ((jiushr x0 (1 : Int32)) &&& (1431655765 : Int32))) (2 : Int32)) &&& (858993459 : Int32))) (4 : Int32))) &&& (252645135 : Int32)) (8 : Int32))) hx hb dJ6_bitCount_0f7a4_38 rfl ?_
  refine lv_iadd hx hb dJ6_bitCount_0f7a4_39 ?_
  refine lv_istore_n (lv' := [(0, .int ((((((x0 - ((jiushr x0 (1 : Int32)) &&& (1431655765 : Int32))) &&& (858993459 : Int32)) + ((jiushr (x0 - ((jiushr x0 (1 : Int32)) &&& (1431655765 : Int32))) (2 : Int32)) &&& (858993459 : Int32))) + (jiushr (((x0 - ((jiushr x0 (1 : Int32)) &&& (1431655765 : Int32))) &&& (858993459 : Int32)) + ((jiushr (x0 - ((jiushr x0 (1 : Int32)) &&& (1431655765 : Int32))) (2 : Int32)) &&& (858993459 : Int32))) (4 : Int32))) &&& (252645135 : Int32)) + (jiushr (((((x0 - ((jiushr x0 (1 : Int32)) &&& (1431655765 : Int32))) &&& (858993459 : Int32)) + ((jiushr (x0 - ((jiushr x0 (1 : Int32)) &&& (1431655765 : Int32))) (2 : Int32)) &&& (858993459 : Int32))) + (jiushr (((x0 - ((jiushr x0 (1 : Int32)) &&& (1431655765 : Int32))) &&& (858993459 : Int32)) + ((jiushr (x0 - ((jiushr x0 (1 : Int32)) &&& (1431655765 : Int32))) (2 : Int32)) &&& (858993459 : Int32))) (4 : Int32))) &&& (252645135 : Int32)) (8 : Int32))))]) hx hb dJ6_bitCount_0f7a4_40 rfl hl (by decide) rfl (fun ls hl => ?_)
  refine lv_iload_n hx hb dJ6_bitCount_0f7a4_41 rfl (lv_at hl 0 rfl) ?_
  refine lv_iload_n hx hb dJ6_bitCount_0f7a4_42 rfl (lv_at hl 0 rfl) ?_
  refine lv_bipush (v := (16 : Int32)) hx hb dJ6_bitCount_0f7a4_43 (by decide) ?_
  refine lv_iushr (v := (jiushr ((((((x0 - ((jiushr x0 (1 : Int32)) &&& (1431655765 : Int32))) &&& (858993459 : Int32)) + ((jiushr (x0 - ((jiushr x0 (1 : Int32)) &&& (1431655765 : Int32))) (2 : Int32)) &&& (858993459 : Int32))) + (jiushr (((x0 - ((jiushr x0 (1 : Int32)) &&& (1431655765 : Int32))) &&& (858993459 : Int32)) + ((jiushr (x0 - ((jiushr x0 (1 : Int32)) &&& (1431655765 : Int32))) (2 : Int32)) &&& (858993459 : Int32))) (4 : Int32))) &&& (252645135 : Int32)) + (jiushr (((((x0 - ((jiushr x0 (1 : Int32)) &&& (1431655765 : Int32))) &&& (858993459 : Int32)) + ((jiushr (x0 - ((jiushr x0 (1 : Int32)) &&& (1431655765 : Int32))) (2 : Int32)) &&& (858993459 : Int32))) + (jiushr (((x0 - ((jiushr x0 (1 : Int32)) &&& (1431655765 : Int32))) &&& (858993459 : Int32)) + ((jiushr (x0 - ((jiushr x0 (1 : Int32)) &&& (1431655765 : Int32))) (2 : Int32)) &&& (858993459 : Int32))) (4 : Int32))) &&& (252645135 : Int32)) (8 : Int32))) (16 : Int32))) hx hb dJ6_bitCount_0f7a4_45 rfl ?_
  refine lv_iadd hx hb dJ6_bitCount_0f7a4_46 ?_
  refine lv_istore_n (lv' := [(0, .int (((((((x0 - ((jiushr x0 (1 : Int32)) &&& (1431655765 : Int32))) &&& (858993459 : Int32)) + ((jiushr (x0 - ((jiushr x0 (1 : Int32)) &&& (1431655765 : Int32))) (2 : Int32)) &&& (858993459 : Int32))) + (jiushr (((x0 - ((jiushr x0 (1 : Int32)) &&& (1431655765 : Int32))) &&& (858993459 : Int32)) + ((jiushr (x0 - ((jiushr x0 (1 : Int32)) &&& (1431655765 : Int32))) (2 : Int32)) &&& (858993459 : Int32))) (4 : Int32))) &&& (252645135 : Int32)) + (jiushr (((((x0 - ((jiushr x0 (1 : Int32)) &&& (1431655765 : Int32))) &&& (858993459 : Int32)) + ((jiushr (x0 - ((jiushr x0 (1 : Int32)) &&& (1431655765 : Int32))) (2 : Int32)) &&& (858993459 : Int32))) + (jiushr (((x0 - ((jiushr x0 (1 : Int32)) &&& (1431655765 : Int32))) &&& (858993459 : Int32)) + ((jiushr (x0 - ((jiushr x0 (1 : Int32)) &&& (1431655765 : Int32))) (2 : Int32)) &&& (858993459 : Int32))) (4 : Int32))) &&& (252645135 : Int32)) (8 : Int32))) + (jiushr ((((((x0 - ((jiushr x0 (1 : Int32)) &&& (1431655765 : Int32))) &&& (858993459 : Int32)) + ((jiushr (x0 - ((jiushr x0 (1 : Int32)) &&& (1431655765 : Int32))) (2 : Int32)) &&& (858993459 : Int32))) + (jiushr (((x0 - ((jiushr x0 (1 : Int32)) &&& (1431655765 : Int32))) &&& (858993459 : Int32)) + ((jiushr (x0 - ((jiushr x0 (1 : Int32)) &&& (1431655765 : Int32))) (2 : Int32)) &&& (858993459 : Int32))) (4 : Int32))) &&& (252645135 : Int32)) + (jiushr (((((x0 - ((jiushr x0 (1 : Int32)) &&& (1431655765 : Int32))) &&& (858993459 : Int32)) + ((jiushr (x0 - ((jiushr x0 (1 : Int32)) &&& (1431655765 : Int32))) (2 : Int32)) &&& (858993459 : Int32))) + (jiushr (((x0 - ((jiushr x0 (1 : Int32)) &&& (1431655765 : Int32))) &&& (858993459 : Int32)) + ((jiushr (x0 - ((jiushr x0 (1 : Int32)) &&& (1431655765 : Int32))) (2 : Int32)) &&& (858993459 : Int32))) (4 : Int32))) &&& (252645135 : Int32)) (8 : Int32))) (16 : Int32))))]) hx hb dJ6_bitCount_0f7a4_47 rfl hl (by decide) rfl (fun ls hl => ?_)
  refine lv_iload_n hx hb dJ6_bitCount_0f7a4_48 rfl (lv_at hl 0 rfl) ?_
  refine lv_bipush (v := (63 : Int32)) hx hb dJ6_bitCount_0f7a4_49 (by decide) ?_
  refine lv_iand hx hb dJ6_bitCount_0f7a4_51 ?_
  obtain rfl := Option.some.inj hf
  exact z_iret (v := ((((((((x0 - ((jiushr x0 (1 : Int32)) &&& (1431655765 : Int32))) &&& (858993459 : Int32)) + ((jiushr (x0 - ((jiushr x0 (1 : Int32)) &&& (1431655765 : Int32))) (2 : Int32)) &&& (858993459 : Int32))) + (jiushr (((x0 - ((jiushr x0 (1 : Int32)) &&& (1431655765 : Int32))) &&& (858993459 : Int32)) + ((jiushr (x0 - ((jiushr x0 (1 : Int32)) &&& (1431655765 : Int32))) (2 : Int32)) &&& (858993459 : Int32))) (4 : Int32))) &&& (252645135 : Int32)) + (jiushr (((((x0 - ((jiushr x0 (1 : Int32)) &&& (1431655765 : Int32))) &&& (858993459 : Int32)) + ((jiushr (x0 - ((jiushr x0 (1 : Int32)) &&& (1431655765 : Int32))) (2 : Int32)) &&& (858993459 : Int32))) + (jiushr (((x0 - ((jiushr x0 (1 : Int32)) &&& (1431655765 : Int32))) &&& (858993459 : Int32)) + ((jiushr (x0 - ((jiushr x0 (1 : Int32)) &&& (1431655765 : Int32))) (2 : Int32)) &&& (858993459 : Int32))) (4 : Int32))) &&& (252645135 : Int32)) (8 : Int32))) + (jiushr ((((((x0 - ((jiushr x0 (1 : Int32)) &&& (1431655765 : Int32))) &&& (858993459 : Int32)) + ((jiushr (x0 - ((jiushr x0 (1 : Int32)) &&& (1431655765 : Int32))) (2 : Int32)) &&& (858993459 : Int32))) + (jiushr (((x0 - ((jiushr x0 (1 : Int32)) &&& (1431655765 : Int32))) &&& (858993459 : Int32)) + ((jiushr (x0 - ((jiushr x0 (1 : Int32)) &&& (1431655765 : Int32))) (2 : Int32)) &&& (858993459 : Int32))) (4 : Int32))) &&& (252645135 : Int32)) + (jiushr (((((x0 - ((jiushr x0 (1 : Int32)) &&& (1431655765 : Int32))) &&& (858993459 : Int32)) + ((jiushr (x0 - ((jiushr x0 (1 : Int32)) &&& (1431655765 : Int32))) (2 : Int32)) &&& (858993459 : Int32))) + (jiushr (((x0 - ((jiushr x0 (1 : Int32)) &&& (1431655765 : Int32))) &&& (858993459 : Int32)) + ((jiushr (x0 - ((jiushr x0 (1 : Int32)) &&& (1431655765 : Int32))) (2 : Int32)) &&& (858993459 : Int32))) (4 : Int32))) &&& (252645135 : Int32)) (8 : Int32))) (16 : Int32))) &&& (63 : Int32))) C hP hD hS dJ6_bitCount_0f7a4_52
def f_X9_size (St : SSR) (St_evidence : SEv) (St_history : SHi) (St_reader : SRd) (St_rows : SRows) (St_reader_tape : STape) (x1 : Int32) : Option (Int32) :=
  (if x1 = 0 then
    some (Rows_ring St_rows)
    else
    (if x1 = 1 then
      some (Rows_rowCount St_rows)
      else
      (if x1 = 2 then
        some (Rows_crash St_rows)
        else
        (if x1 = 3 then
          some (Rows_count St_rows)
          else
          (if x1 = 4 then
            (f_X6_runningSlots St_rows).bind (fun q1 =>
              (f_J6_bitCount_0f7a4 q1).bind (fun q2 =>
                some q2))
            else
            (if x1 = 5 then
              some (Ev_unsureCount St_evidence)
              else
              (if x1 = 6 then
                some (Ev_seenCount St_evidence)
                else
                (if x1 = 7 then
                  some (Hi_actCount St_history)
                  else
                  (if x1 = 8 then
                    some (Hi_imageCount St_history)
                    else
                    (if x1 = 9 then
                      some (Tape_size St_reader_tape)
                      else
                      some (-1 : Int32)))))))))))
set_option maxHeartbeats 4000000 in
set_option maxRecDepth 100000 in
theorem c_X9_size (l : Launch) (D : va_G) (cy : Nat → ClassId) (ht : Nat → Nat) (ht_reader : Nat → Nat) (ht_rows : Nat → Nat) (ht_evidence : Nat → Nat) (ht_history : Nat → Nat) (ht_history_before : Nat → Nat) (ht_history_images : Nat → Nat) (ht_reader_rows : Nat → Nat) (ht_reader_evidence : Nat → Nat) (ht_reader_tape : Nat → Nat) (ad : Nat → Nat) (St : SSR) (St_evidence : SEv) (St_history : SHi) (St_reader : SRd) (St_rows : SRows) (St_reader_tape : STape) (x1 : Int32) (r : Int32) (hf : f_X9_size St St_evidence St_history St_reader St_rows St_reader_tape x1 = some r) : zCI l yX9_size cX9_size 2 (some FieldType.int) 2 43 D (zty cy) [.ref (ht 0), .int x1] (wSR ht (ht_reader 0) (ht_rows 0) (ht_evidence 0) (ht_history 0) cy St ++ (wEv ht_evidence cy St_evidence ++ (wHi ht_history (ht_history_before 0) (ht_history_images 0) cy St_history ++ (wRd ht_reader (ht_reader_rows 0) (ht_reader_evidence 0) (ht_reader_tape 0) ad cy St_reader ++ (wRows ht_rows cy St_rows ++ (wTape ht_reader_tape cy St_reader_tape)))))) (wSR ht (ht_reader 0) (ht_rows 0) (ht_evidence 0) (ht_history 0) cy St ++ (wEv ht_evidence cy St_evidence ++ (wHi ht_history (ht_history_before 0) (ht_history_images 0) cy St_history ++ (wRd ht_reader (ht_reader_rows 0) (ht_reader_evidence 0) (ht_reader_tape 0) ad cy St_reader ++ (wRows ht_rows cy St_rows ++ (wTape ht_reader_tape cy St_reader_tape)))))) r := by
  refine zCI_of (by decide +kernel) (Nat.le_of_ble_eq_true rfl) ?_
  intro p e s m below meth c A ls C hP hD hS hl
  generalize hargs : ([.ref (ht 0), .int x1] : List Value).toArray = args at C ⊢
  have C : zX p s m meth c cX9_size 2 args RX9 (some FieldType.int) A D (zty cy) := C
  obtain ⟨hx, hb, hr, hts, hown, hlocks, hml, hA, hK⟩ := id C
  have hl : lv_has ls 2 [(0, .ref (ht 0)), (1, .int x1)] := hl
  generalize hH : s.heap = H at hP ⊢
  have hS : va_S A s.heap H [] := by rw [← hH]; exact hS
  generalize ([] : List Loc) = locs at hS ⊢
  refine lv_iload_n hx hb dX9_size_0 rfl (lv_at hl 1 rfl) ?_
  rcases zsw hf with ⟨hq0, hf⟩ | ⟨hq0, hf⟩
  · rw [hq0]
    refine lv_tableIn (tgt := 56) hx hb dX9_size_1 (by decide) (by decide) rfl (by decide) ?_
    refine lv_aload_n hx hb dX9_size_56 rfl (lv_at hl 0 rfl) ?_
    refine va_get (D := D) (ci := 5) (v := .ref (ht_rows 0)) (C := RX9) (T := TX9) (N := 7) hx hb hts in_X9 hown hK hP 0 rfl rfl 1 (by decide) (hts _ q2_20) (fun _ h9 => h9) rfl dX9_size_57 ?_
    refine va_get (D := D) (ci := 3) (v := .int (Rows_ring St_rows)) (C := RX6) (T := TX6) (N := 16) hx hb hts in_X6 hown hK hP 12 rfl rfl 0 (by decide) (hts _ q1_51) (fun _ h9 => h9) rfl dX9_size_60 ?_
    obtain rfl := Option.some.inj hf
    exact z_iret (v := (Rows_ring St_rows)) C hP hD hS dX9_size_63
  ·
    rcases zsw hf with ⟨hq1, hf⟩ | ⟨hq1, hf⟩
    · rw [hq1]
      refine lv_tableIn (tgt := 64) hx hb dX9_size_1 (by decide) (by decide) rfl (by decide) ?_
      refine lv_aload_n hx hb dX9_size_64 rfl (lv_at hl 0 rfl) ?_
      refine va_get (D := D) (ci := 5) (v := .ref (ht_rows 0)) (C := RX9) (T := TX9) (N := 7) hx hb hts in_X9 hown hK hP 0 rfl rfl 1 (by decide) (hts _ q2_20) (fun _ h9 => h9) rfl dX9_size_65 ?_
      refine va_get (D := D) (ci := 3) (v := .int (Rows_rowCount St_rows)) (C := RX6) (T := TX6) (N := 16) hx hb hts in_X6 hown hK hP 12 rfl rfl 1 (by decide) (hts _ q1_54) (fun _ h9 => h9) rfl dX9_size_68 ?_
      obtain rfl := Option.some.inj hf
      exact z_iret (v := (Rows_rowCount St_rows)) C hP hD hS dX9_size_71
    ·
      rcases zsw hf with ⟨hq2, hf⟩ | ⟨hq2, hf⟩
      · rw [hq2]
        refine lv_tableIn (tgt := 72) hx hb dX9_size_1 (by decide) (by decide) rfl (by decide) ?_
        refine lv_aload_n hx hb dX9_size_72 rfl (lv_at hl 0 rfl) ?_
        refine va_get (D := D) (ci := 5) (v := .ref (ht_rows 0)) (C := RX9) (T := TX9) (N := 7) hx hb hts in_X9 hown hK hP 0 rfl rfl 1 (by decide) (hts _ q2_20) (fun _ h9 => h9) rfl dX9_size_73 ?_
        refine va_get (D := D) (ci := 3) (v := .int (Rows_crash St_rows)) (C := RX6) (T := TX6) (N := 16) hx hb hts in_X6 hown hK hP 12 rfl rfl 2 (by decide) (hts _ q1_57) (fun _ h9 => h9) rfl dX9_size_76 ?_
        obtain rfl := Option.some.inj hf
        exact z_iret (v := (Rows_crash St_rows)) C hP hD hS dX9_size_79
      ·
        rcases zsw hf with ⟨hq3, hf⟩ | ⟨hq3, hf⟩
        · rw [hq3]
          refine lv_tableIn (tgt := 80) hx hb dX9_size_1 (by decide) (by decide) rfl (by decide) ?_
          refine lv_aload_n hx hb dX9_size_80 rfl (lv_at hl 0 rfl) ?_
          refine va_get (D := D) (ci := 5) (v := .ref (ht_rows 0)) (C := RX9) (T := TX9) (N := 7) hx hb hts in_X9 hown hK hP 0 rfl rfl 1 (by decide) (hts _ q2_20) (fun _ h9 => h9) rfl dX9_size_81 ?_
          refine va_get (D := D) (ci := 3) (v := .int (Rows_count St_rows)) (C := RX6) (T := TX6) (N := 16) hx hb hts in_X6 hown hK hP 12 rfl rfl 4 (by decide) (hts _ q1_62) (fun _ h9 => h9) rfl dX9_size_84 ?_
          obtain rfl := Option.some.inj hf
          exact z_iret (v := (Rows_count St_rows)) C hP hD hS dX9_size_87
        ·
          rcases zsw hf with ⟨hq4, hf⟩ | ⟨hq4, hf⟩
          · rw [hq4]
            refine lv_tableIn (tgt := 88) hx hb dX9_size_1 (by decide) (by decide) rfl (by decide) ?_
            refine lv_aload_n hx hb dX9_size_88 rfl (lv_at hl 0 rfl) ?_
            refine va_get (D := D) (ci := 5) (v := .ref (ht_rows 0)) (C := RX9) (T := TX9) (N := 7) hx hb hts in_X9 hown hK hP 0 rfl rfl 1 (by decide) (hts _ q2_20) (fun _ h9 => h9) rfl dX9_size_89 ?_
            obtain ⟨q1, hc, hf⟩ := zbd hf
            refine z_cVi (As := []) (rest := []) C (c_X6_runningSlots l D cy ht_rows St_rows q1 hc) gV_X9_X6_runningSlots hd_X6_runningSlots ⟨Nat.le_of_ble_eq_true rfl, Nat.le_of_ble_eq_true rfl⟩ ⟨Nat.le_refl _, Nat.le_refl _⟩ (va_recv hK hP (ci := 3) (q0 := 12) rfl rfl) hP hD hS (w2 := wSR ht (ht_reader 0) (ht_rows 0) (ht_evidence 0) (ht_history 0) cy St ++ (wEv ht_evidence cy St_evidence ++ (wHi ht_history (ht_history_before 0) (ht_history_images 0) cy St_history ++ (wRd ht_reader (ht_reader_rows 0) (ht_reader_evidence 0) (ht_reader_tape 0) ad cy St_reader ++ (wRows ht_rows cy St_rows ++ (wTape ht_reader_tape cy St_reader_tape)))))) [12, 13, 14, 15, 16, 17, 18, 19] [0, 1, 2, 3, 4, 5, 6, 7, 8, 9, 10, 11, 20, 21] [0, 1, 2, 3, 4, 5, 6, 7, 8, 9, 10, 11, 14, 15, 16, 17, 18, 19, 20, 21, 12, 13] rfl rfl rfl rfl rfl rfl (by decide) hl.1 (Nat.le_of_ble_eq_true rfl) dX9_size_92 (fun H locs hP hD hS => ?_)
            obtain ⟨q2, hc, hf⟩ := zbd hf
            refine z_cSiE (As := [.int q1]) (rest := []) C (c_J6_bitCount_0f7a4 l D cy q1 q2 hc) gS_X9_J6_bitCount_0f7a4 hd_J6_bitCount_0f7a4 ⟨Nat.le_of_ble_eq_true rfl, Nat.le_of_ble_eq_true rfl⟩ ⟨Nat.le_refl _, Nat.le_refl _⟩ hP hD hS hl.1 (Nat.le_of_ble_eq_true rfl) dX9_size_95 (fun H locs hP hD hS => ?_)
            obtain rfl := Option.some.inj hf
            exact z_iret (v := q2) C hP hD hS dX9_size_98
          ·
            rcases zsw hf with ⟨hq5, hf⟩ | ⟨hq5, hf⟩
            · rw [hq5]
              refine lv_tableIn (tgt := 99) hx hb dX9_size_1 (by decide) (by decide) rfl (by decide) ?_
              refine lv_aload_n hx hb dX9_size_99 rfl (lv_at hl 0 rfl) ?_
              refine va_get (D := D) (ci := 5) (v := .ref (ht_evidence 0)) (C := RX9) (T := TX9) (N := 7) hx hb hts in_X9 hown hK hP 0 rfl rfl 2 (by decide) (hts _ q2_21) (fun _ h9 => h9) rfl dX9_size_100 ?_
              refine va_get (D := D) (ci := 0) (v := .int (Ev_unsureCount St_evidence)) (C := RX2) (T := TX2) (N := 8) hx hb hts in_X2 hown hK hP 1 rfl rfl 0 (by decide) (hts _ q1_116) (fun _ h9 => h9) rfl dX9_size_103 ?_
              obtain rfl := Option.some.inj hf
              exact z_iret (v := (Ev_unsureCount St_evidence)) C hP hD hS dX9_size_106
            ·
              rcases zsw hf with ⟨hq6, hf⟩ | ⟨hq6, hf⟩
              · rw [hq6]
                refine lv_tableIn (tgt := 107) hx hb dX9_size_1 (by decide) (by decide) rfl (by decide) ?_
                refine lv_aload_n hx hb dX9_size_107 rfl (lv_at hl 0 rfl) ?_
                refine va_get (D := D) (ci := 5) (v := .ref (ht_evidence 0)) (C := RX9) (T := TX9) (N := 7) hx hb hts in_X9 hown hK hP 0 rfl rfl 2 (by decide) (hts _ q2_21) (fun _ h9 => h9) rfl dX9_size_108 ?_
                refine va_get (D := D) (ci := 0) (v := .int (Ev_seenCount St_evidence)) (C := RX2) (T := TX2) (N := 8) hx hb hts in_X2 hown hK hP 1 rfl rfl 1 (by decide) (hts _ q1_118) (fun _ h9 => h9) rfl dX9_size_111 ?_
                obtain rfl := Option.some.inj hf
                exact z_iret (v := (Ev_seenCount St_evidence)) C hP hD hS dX9_size_114
              ·
                rcases zsw hf with ⟨hq7, hf⟩ | ⟨hq7, hf⟩
                · rw [hq7]
                  refine lv_tableIn (tgt := 115) hx hb dX9_size_1 (by decide) (by decide) rfl (by decide) ?_
                  refine lv_aload_n hx hb dX9_size_115 rfl (lv_at hl 0 rfl) ?_
                  refine va_get (D := D) (ci := 5) (v := .ref (ht_history 0)) (C := RX9) (T := TX9) (N := 7) hx hb hts in_X9 hown hK hP 0 rfl rfl 3 (by decide) (hts _ q2_22) (fun _ h9 => h9) rfl dX9_size_116 ?_
                  refine va_get (D := D) (ci := 1) (v := .int (Hi_actCount St_history)) (C := RX4) (T := TX4) (N := 5) hx hb hts in_X4 hown hK hP 6 rfl rfl 0 (by decide) (hts _ q2_2) (fun _ h9 => h9) rfl dX9_size_119 ?_
                  obtain rfl := Option.some.inj hf
                  exact z_iret (v := (Hi_actCount St_history)) C hP hD hS dX9_size_122
                ·
                  rcases zsw hf with ⟨hq8, hf⟩ | ⟨hq8, hf⟩
                  · rw [hq8]
                    refine lv_tableIn (tgt := 123) hx hb dX9_size_1 (by decide) (by decide) rfl (by decide) ?_
                    refine lv_aload_n hx hb dX9_size_123 rfl (lv_at hl 0 rfl) ?_
                    refine va_get (D := D) (ci := 5) (v := .ref (ht_history 0)) (C := RX9) (T := TX9) (N := 7) hx hb hts in_X9 hown hK hP 0 rfl rfl 3 (by decide) (hts _ q2_22) (fun _ h9 => h9) rfl dX9_size_124 ?_
                    refine va_get (D := D) (ci := 1) (v := .int (Hi_imageCount St_history)) (C := RX4) (T := TX4) (N := 5) hx hb hts in_X4 hown hK hP 6 rfl rfl 1 (by decide) (hts _ q2_4) (fun _ h9 => h9) rfl dX9_size_127 ?_
                    obtain rfl := Option.some.inj hf
                    exact z_iret (v := (Hi_imageCount St_history)) C hP hD hS dX9_size_130
                  ·
                    rcases zsw hf with ⟨hq9, hf⟩ | ⟨hq9, hf⟩
                    · rw [hq9]
                      refine lv_tableIn (tgt := 131) hx hb dX9_size_1 (by decide) (by decide) rfl (by decide) ?_
                      refine lv_aload_n hx hb dX9_size_131 rfl (lv_at hl 0 rfl) ?_
                      refine va_get (D := D) (ci := 5) (v := .ref (ht_reader 0)) (C := RX9) (T := TX9) (N := 7) hx hb hts in_X9 hown hK hP 0 rfl rfl 0 (by decide) (hts _ q2_19) (fun _ h9 => h9) rfl dX9_size_132 ?_
                      refine va_get (D := D) (ci := 2) (v := .ref (ht_reader_tape 0)) (C := RX5) (T := TX5) (N := 15) hx hb hts in_X5 hown hK hP 7 rfl rfl 4 (by decide) (hts _ q1_186) (fun _ h9 => h9) rfl dX9_size_135 ?_
                      refine va_get (D := D) (ci := 4) (v := .int (Tape_size St_reader_tape)) (C := RX7) (T := TX7) (N := 7) hx hb hts in_X7 hown hK hP 20 rfl rfl 0 (by decide) (hts _ q1_151) (fun _ h9 => h9) rfl dX9_size_138 ?_
                      obtain rfl := Option.some.inj hf
                      exact z_iret (v := (Tape_size St_reader_tape)) C hP hD hS dX9_size_141
                    · refine lv_tableOut (tgt := 142) hx hb dX9_size_1 (zsw_out10 hq0 hq1 hq2 hq3 hq4 hq5 hq6 hq7 hq8 hq9) (by decide) ?_
                      refine lv_iconst (v := (-1 : Int32)) hx hb dX9_size_142 (by decide) ?_
                      obtain rfl := Option.some.inj hf
                      exact z_iret (v := (-1 : Int32)) C hP hD hS dX9_size_143
def f_X9_trouble (St : SSR) : Option (Int32) :=
  some (SR_troubleNumber St)
set_option maxHeartbeats 4000000 in
set_option maxRecDepth 100000 in
theorem c_X9_trouble (l : Launch) (D : va_G) (cy : Nat → ClassId) (ht : Nat → Nat) (ht_reader : Nat → Nat) (ht_rows : Nat → Nat) (ht_evidence : Nat → Nat) (ht_history : Nat → Nat) (St : SSR) (r : Int32) (hf : f_X9_trouble St = some r) : zCI l yX9_trouble cX9_trouble 1 (some FieldType.int) 0 0 D (zty cy) [.ref (ht 0)] (wSR ht (ht_reader 0) (ht_rows 0) (ht_evidence 0) (ht_history 0) cy St) (wSR ht (ht_reader 0) (ht_rows 0) (ht_evidence 0) (ht_history 0) cy St) r := by
  refine zCI_of (by decide +kernel) (Nat.le_of_ble_eq_true rfl) ?_
  intro p e s m below meth c A ls C hP hD hS hl
  generalize hargs : ([.ref (ht 0)] : List Value).toArray = args at C ⊢
  have C : zX p s m meth c cX9_trouble 1 args RX9 (some FieldType.int) A D (zty cy) := C
  obtain ⟨hx, hb, hr, hts, hown, hlocks, hml, hA, hK⟩ := id C
  have hl : lv_has ls 1 [(0, .ref (ht 0))] := hl
  generalize hH : s.heap = H at hP ⊢
  have hS : va_S A s.heap H [] := by rw [← hH]; exact hS
  generalize ([] : List Loc) = locs at hS ⊢
  refine lv_aload_n hx hb dX9_trouble_0 rfl (lv_at hl 0 rfl) ?_
  refine va_get (D := D) (ci := 5) (v := .int (SR_troubleNumber St)) (C := RX9) (T := TX9) (N := 7) hx hb hts in_X9 hown hK hP 0 rfl rfl 4 (by decide) (hts _ q2_23) (fun _ h9 => h9) rfl dX9_trouble_1 ?_
  obtain rfl := Option.some.inj hf
  exact z_iret (v := (SR_troubleNumber St)) C hP hD hS dX9_trouble_4
