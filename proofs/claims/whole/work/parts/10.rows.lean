theorem hd_J13_bitCount_95d88 : yJ13_bitCount_95d88.cls ≠ "java/lang/invoke/MethodHandle" ∧ yJ13_bitCount_95d88.cls ≠ "java/lang/invoke/VarHandle" ∧ (parseMethodDescriptor yJ13_bitCount_95d88.desc).map (fun d => d.parameters.length) = some 1 := by decide +kernel
theorem gS_X6_J13_bitCount_95d88 : GoodIn WT (va_wsS RX6 129 yJ13_bitCount_95d88 (.code yJ13_bitCount_95d88 cJ13_bitCount_95d88 2 (some FieldType.int) :: WT)) := gzS q4_58 q4_59 q1_18 q4_60
theorem hd_J7_fill_53178 : yJ7_fill_53178.cls ≠ "java/lang/invoke/MethodHandle" ∧ yJ7_fill_53178.cls ≠ "java/lang/invoke/VarHandle" ∧ (parseMethodDescriptor yJ7_fill_53178.desc).map (fun d => d.parameters.length) = some 2 := by decide +kernel
theorem gS_X6_J7_fill_53178 : GoodIn WT (va_wsS RX6 34 yJ7_fill_53178 (.code yJ7_fill_53178 cJ7_fill_53178 4 none :: WT)) := gzS q1_46 q1_47 q1_4 q1_48
theorem hd_J7_fill_d0a16 : yJ7_fill_d0a16.cls ≠ "java/lang/invoke/MethodHandle" ∧ yJ7_fill_d0a16.cls ≠ "java/lang/invoke/VarHandle" ∧ (parseMethodDescriptor yJ7_fill_d0a16.desc).map (fun d => d.parameters.length) = some 2 := by decide +kernel
theorem gS_X6_J7_fill_d0a16 : GoodIn WT (va_wsS RX6 69 yJ7_fill_d0a16 (.code yJ7_fill_d0a16 cJ7_fill_d0a16 5 none :: WT)) := gzS q2_65 q2_66 q1_4 q2_67
theorem hd_X6_bitOf : yX6_bitOf.cls ≠ "java/lang/invoke/MethodHandle" ∧ yX6_bitOf.cls ≠ "java/lang/invoke/VarHandle" ∧ (parseMethodDescriptor yX6_bitOf.desc).map (fun d => d.parameters.length) = some 1 := by decide +kernel
theorem gS_X6_X6_bitOf : GoodIn WT (va_wsS RX6 106 yX6_bitOf (.code yX6_bitOf cX6_bitOf 1 (some FieldType.long) :: WT)) := gzS q3_21 q3_22 q1_3 q3_23
theorem hd_X6_holds : yX6_holds.cls ≠ "java/lang/invoke/MethodHandle" ∧ yX6_holds.cls ≠ "java/lang/invoke/VarHandle" ∧ (parseMethodDescriptor yX6_holds.desc).map (fun d => d.parameters.length) = some 2 := by decide +kernel
theorem gS_X6_X6_holds : GoodIn WT (va_wsS RX6 78 yX6_holds (.code yX6_holds cX6_holds 3 (some FieldType.boolean) :: WT)) := gzS q3_28 q3_29 q1_3 q3_30
theorem hd_X6_ageOf : yX6_ageOf.cls = RX6 ∧ yX6_ageOf.cls ≠ "java/lang/invoke/MethodHandle" ∧ yX6_ageOf.cls ≠ "java/lang/invoke/VarHandle" ∧ (parseMethodDescriptor yX6_ageOf.desc).map (fun d => d.parameters.length) = some 1 := by decide +kernel
theorem gV_X6_X6_ageOf : GoodIn WT (wsV RX6 82 RX6 yX6_ageOf (.code yX6_ageOf cX6_ageOf 2 (some FieldType.int) :: WT)) := gzV q3_31 q3_32 q3_33 q1_3 q3_34
theorem hd_X6_countingFor : yX6_countingFor.cls = RX6 ∧ yX6_countingFor.cls ≠ "java/lang/invoke/MethodHandle" ∧ yX6_countingFor.cls ≠ "java/lang/invoke/VarHandle" ∧ (parseMethodDescriptor yX6_countingFor.desc).map (fun d => d.parameters.length) = some 1 := by decide +kernel
theorem gV_X6_X6_countingFor : GoodIn WT (wsV RX6 163 RX6 yX6_countingFor (.code yX6_countingFor cX6_countingFor 2 (some FieldType.long) :: WT)) := gzV q3_63 q3_64 q3_65 q1_3 q3_66
theorem hd_X6_firstFreeNumber : yX6_firstFreeNumber.cls = RX6 ∧ yX6_firstFreeNumber.cls ≠ "java/lang/invoke/MethodHandle" ∧ yX6_firstFreeNumber.cls ≠ "java/lang/invoke/VarHandle" ∧ (parseMethodDescriptor yX6_firstFreeNumber.desc).map (fun d => d.parameters.length) = some 0 := by decide +kernel
theorem gV_X6_X6_firstFreeNumber : GoodIn WT (wsV RX6 179 RX6 yX6_firstFreeNumber (.code yX6_firstFreeNumber cX6_firstFreeNumber 2 (some FieldType.int) :: WT)) := gzV q3_99 q3_101 s_X6_firstFreeNumber q1_3 q3_102
theorem hd_X6_firstFreeSlot : yX6_firstFreeSlot.cls = RX6 ∧ yX6_firstFreeSlot.cls ≠ "java/lang/invoke/MethodHandle" ∧ yX6_firstFreeSlot.cls ≠ "java/lang/invoke/VarHandle" ∧ (parseMethodDescriptor yX6_firstFreeSlot.desc).map (fun d => d.parameters.length) = some 0 := by decide +kernel
theorem gV_X6_X6_firstFreeSlot : GoodIn WT (wsV RX6 122 RX6 yX6_firstFreeSlot (.code yX6_firstFreeSlot cX6_firstFreeSlot 2 (some FieldType.int) :: WT)) := gzV q3_5 q3_7 s_X6_firstFreeSlot q1_3 q3_8
theorem hd_X6_fromOf : yX6_fromOf.cls = RX6 ∧ yX6_fromOf.cls ≠ "java/lang/invoke/MethodHandle" ∧ yX6_fromOf.cls ≠ "java/lang/invoke/VarHandle" ∧ (parseMethodDescriptor yX6_fromOf.desc).map (fun d => d.parameters.length) = some 1 := by decide +kernel
theorem gV_X6_X6_fromOf : GoodIn WT (wsV RX6 140 RX6 yX6_fromOf (.code yX6_fromOf cX6_fromOf 2 (some FieldType.int) :: WT)) := gzV q3_91 q3_92 q3_93 q1_3 q3_94
theorem hd_X6_greatestAge : yX6_greatestAge.cls = RX6 ∧ yX6_greatestAge.cls ≠ "java/lang/invoke/MethodHandle" ∧ yX6_greatestAge.cls ≠ "java/lang/invoke/VarHandle" ∧ (parseMethodDescriptor yX6_greatestAge.desc).map (fun d => d.parameters.length) = some 1 := by decide +kernel
theorem gV_X6_X6_greatestAge : GoodIn WT (wsV RX6 118 RX6 yX6_greatestAge (.code yX6_greatestAge cX6_greatestAge 5 (some FieldType.int) :: WT)) := gzV q3_24 q3_25 q3_26 q1_3 q3_27
theorem hd_X6_hasLost : yX6_hasLost.cls = RX6 ∧ yX6_hasLost.cls ≠ "java/lang/invoke/MethodHandle" ∧ yX6_hasLost.cls ≠ "java/lang/invoke/VarHandle" ∧ (parseMethodDescriptor yX6_hasLost.desc).map (fun d => d.parameters.length) = some 1 := by decide +kernel
theorem gV_X6_X6_hasLost : GoodIn WT (wsV RX6 160 RX6 yX6_hasLost (.code yX6_hasLost cX6_hasLost 2 (some FieldType.boolean) :: WT)) := gzV q3_55 q3_56 q3_57 q1_3 q3_58
theorem hd_X6_heldWithout : yX6_heldWithout.cls = RX6 ∧ yX6_heldWithout.cls ≠ "java/lang/invoke/MethodHandle" ∧ yX6_heldWithout.cls ≠ "java/lang/invoke/VarHandle" ∧ (parseMethodDescriptor yX6_heldWithout.desc).map (fun d => d.parameters.length) = some 1 := by decide +kernel
theorem gV_X6_X6_heldWithout : GoodIn WT (wsV RX6 92 RX6 yX6_heldWithout (.code yX6_heldWithout cX6_heldWithout 5 (some FieldType.long) :: WT)) := gzV q3_13 q3_15 s_X6_heldWithout q1_3 q3_16
theorem hd_X6_horizonWithout : yX6_horizonWithout.cls = RX6 ∧ yX6_horizonWithout.cls ≠ "java/lang/invoke/MethodHandle" ∧ yX6_horizonWithout.cls ≠ "java/lang/invoke/VarHandle" ∧ (parseMethodDescriptor yX6_horizonWithout.desc).map (fun d => d.parameters.length) = some 1 := by decide +kernel
theorem gV_X6_X6_horizonWithout : GoodIn WT (wsV RX6 96 RX6 yX6_horizonWithout (.code yX6_horizonWithout cX6_horizonWithout 6 (some FieldType.int) :: WT)) := gzV q3_145 q3_146 q3_147 q1_3 q3_148
theorem hd_X6_inUse : yX6_inUse.cls = RX6 ∧ yX6_inUse.cls ≠ "java/lang/invoke/MethodHandle" ∧ yX6_inUse.cls ≠ "java/lang/invoke/VarHandle" ∧ (parseMethodDescriptor yX6_inUse.desc).map (fun d => d.parameters.length) = some 0 := by decide +kernel
theorem gV_X6_X6_inUse : GoodIn WT (wsV RX6 175 RX6 yX6_inUse (.code yX6_inUse cX6_inUse 4 (some FieldType.long) :: WT)) := gzV q3_9 q3_10 q3_11 q1_3 q3_12
theorem hd_X6_isDead : yX6_isDead.cls = RX6 ∧ yX6_isDead.cls ≠ "java/lang/invoke/MethodHandle" ∧ yX6_isDead.cls ≠ "java/lang/invoke/VarHandle" ∧ (parseMethodDescriptor yX6_isDead.desc).map (fun d => d.parameters.length) = some 3 := by decide +kernel
theorem gV_X6_X6_isDead : GoodIn WT (wsV RX6 112 RX6 yX6_isDead (.code yX6_isDead cX6_isDead 6 (some FieldType.boolean) :: WT)) := gzV q3_149 q3_151 s_X6_isDead q1_3 q3_152
theorem hd_X6_isOwn : yX6_isOwn.cls = RX6 ∧ yX6_isOwn.cls ≠ "java/lang/invoke/MethodHandle" ∧ yX6_isOwn.cls ≠ "java/lang/invoke/VarHandle" ∧ (parseMethodDescriptor yX6_isOwn.desc).map (fun d => d.parameters.length) = some 2 := by decide +kernel
theorem gV_X6_X6_isOwn : GoodIn WT (wsV RX6 182 RX6 yX6_isOwn (.code yX6_isOwn cX6_isOwn 3 (some FieldType.boolean) :: WT)) := gzV q3_103 q3_105 s_X6_isOwn q1_3 q3_106
theorem hd_X6_isSeen : yX6_isSeen.cls = RX6 ∧ yX6_isSeen.cls ≠ "java/lang/invoke/MethodHandle" ∧ yX6_isSeen.cls ≠ "java/lang/invoke/VarHandle" ∧ (parseMethodDescriptor yX6_isSeen.desc).map (fun d => d.parameters.length) = some 2 := by decide +kernel
theorem gV_X6_X6_isSeen : GoodIn WT (wsV RX6 149 RX6 yX6_isSeen (.code yX6_isSeen cX6_isSeen 5 (some FieldType.boolean) :: WT)) := gzV q3_83 q3_84 q3_85 q1_3 q3_86
theorem hd_X6_isVersion : yX6_isVersion.cls = RX6 ∧ yX6_isVersion.cls ≠ "java/lang/invoke/MethodHandle" ∧ yX6_isVersion.cls ≠ "java/lang/invoke/VarHandle" ∧ (parseMethodDescriptor yX6_isVersion.desc).map (fun d => d.parameters.length) = some 1 := by decide +kernel
theorem gV_X6_X6_isVersion : GoodIn WT (wsV RX6 102 RX6 yX6_isVersion (.code yX6_isVersion cX6_isVersion 2 (some FieldType.boolean) :: WT)) := gzV q3_17 q3_18 q3_19 q1_3 q3_20
theorem hd_X6_lastNotGone : yX6_lastNotGone.cls = RX6 ∧ yX6_lastNotGone.cls ≠ "java/lang/invoke/MethodHandle" ∧ yX6_lastNotGone.cls ≠ "java/lang/invoke/VarHandle" ∧ (parseMethodDescriptor yX6_lastNotGone.desc).map (fun d => d.parameters.length) = some 1 := by decide +kernel
theorem gV_X6_X6_lastNotGone : GoodIn WT (wsV RX6 166 RX6 yX6_lastNotGone (.code yX6_lastNotGone cX6_lastNotGone 4 (some FieldType.int) :: WT)) := gzV q3_87 q3_89 s_X6_lastNotGone q1_3 q3_90
theorem hd_X6_madeAt : yX6_madeAt.cls = RX6 ∧ yX6_madeAt.cls ≠ "java/lang/invoke/MethodHandle" ∧ yX6_madeAt.cls ≠ "java/lang/invoke/VarHandle" ∧ (parseMethodDescriptor yX6_madeAt.desc).map (fun d => d.parameters.length) = some 1 := by decide +kernel
theorem gV_X6_X6_madeAt : GoodIn WT (wsV RX6 137 RX6 yX6_madeAt (.code yX6_madeAt cX6_madeAt 2 (some FieldType.int) :: WT)) := gzV q3_75 q3_77 s_X6_madeAt q1_3 q3_78
theorem hd_X6_makeVersion : yX6_makeVersion.cls = RX6 ∧ yX6_makeVersion.cls ≠ "java/lang/invoke/MethodHandle" ∧ yX6_makeVersion.cls ≠ "java/lang/invoke/VarHandle" ∧ (parseMethodDescriptor yX6_makeVersion.desc).map (fun d => d.parameters.length) = some 3 := by decide +kernel
theorem gV_X6_X6_makeVersion : GoodIn WT (wsV RX6 186 RX6 yX6_makeVersion (.code yX6_makeVersion cX6_makeVersion 5 (some FieldType.int) :: WT)) := gzV q3_115 q3_117 s_X6_makeVersion q1_3 q3_118
theorem hd_X6_olderThan : yX6_olderThan.cls = RX6 ∧ yX6_olderThan.cls ≠ "java/lang/invoke/MethodHandle" ∧ yX6_olderThan.cls ≠ "java/lang/invoke/VarHandle" ∧ (parseMethodDescriptor yX6_olderThan.desc).map (fun d => d.parameters.length) = some 1 := by decide +kernel
theorem gV_X6_X6_olderThan : GoodIn WT (wsV RX6 99 RX6 yX6_olderThan (.code yX6_olderThan cX6_olderThan 6 (some FieldType.long) :: WT)) := gzV q3_67 q3_68 q3_69 q1_3 q3_70
theorem hd_X6_rowOf : yX6_rowOf.cls = RX6 ∧ yX6_rowOf.cls ≠ "java/lang/invoke/MethodHandle" ∧ yX6_rowOf.cls ≠ "java/lang/invoke/VarHandle" ∧ (parseMethodDescriptor yX6_rowOf.desc).map (fun d => d.parameters.length) = some 1 := by decide +kernel
theorem gV_X6_X6_rowOf : GoodIn WT (wsV RX6 134 RX6 yX6_rowOf (.code yX6_rowOf cX6_rowOf 2 (some FieldType.int) :: WT)) := gzV q3_79 q3_80 q3_81 q1_3 q3_82
theorem hd_X6_runs : yX6_runs.cls = RX6 ∧ yX6_runs.cls ≠ "java/lang/invoke/MethodHandle" ∧ yX6_runs.cls ≠ "java/lang/invoke/VarHandle" ∧ (parseMethodDescriptor yX6_runs.desc).map (fun d => d.parameters.length) = some 1 := by decide +kernel
theorem gV_X6_X6_runs : GoodIn WT (wsV RX6 126 RX6 yX6_runs (.code yX6_runs cX6_runs 2 (some FieldType.boolean) :: WT)) := gzV q3_59 q3_60 q3_61 q1_3 q3_62
theorem hd_X6_settledWithout : yX6_settledWithout.cls = RX6 ∧ yX6_settledWithout.cls ≠ "java/lang/invoke/MethodHandle" ∧ yX6_settledWithout.cls ≠ "java/lang/invoke/VarHandle" ∧ (parseMethodDescriptor yX6_settledWithout.desc).map (fun d => d.parameters.length) = some 1 := by decide +kernel
theorem gV_X6_X6_settledWithout : GoodIn WT (wsV RX6 109 RX6 yX6_settledWithout (.code yX6_settledWithout cX6_settledWithout 2 (some FieldType.long) :: WT)) := gzV q3_141 q3_142 q3_143 q1_3 q3_144
theorem hd_X6_slotOf : yX6_slotOf.cls = RX6 ∧ yX6_slotOf.cls ≠ "java/lang/invoke/MethodHandle" ∧ yX6_slotOf.cls ≠ "java/lang/invoke/VarHandle" ∧ (parseMethodDescriptor yX6_slotOf.desc).map (fun d => d.parameters.length) = some 1 := by decide +kernel
theorem gV_X6_X6_slotOf : GoodIn WT (wsV RX6 172 RX6 yX6_slotOf (.code yX6_slotOf cX6_slotOf 3 (some FieldType.int) :: WT)) := gzV q4_211 q4_213 s_X6_slotOf q1_3 q4_214
theorem hd_X6_stampOf : yX6_stampOf.cls = RX6 ∧ yX6_stampOf.cls ≠ "java/lang/invoke/MethodHandle" ∧ yX6_stampOf.cls ≠ "java/lang/invoke/VarHandle" ∧ (parseMethodDescriptor yX6_stampOf.desc).map (fun d => d.parameters.length) = some 1 := by decide +kernel
theorem gV_X6_X6_stampOf : GoodIn WT (wsV RX6 146 RX6 yX6_stampOf (.code yX6_stampOf cX6_stampOf 2 (some FieldType.int) :: WT)) := gzV q3_107 q3_108 q3_109 q1_3 q3_110
theorem hd_X6_tillOf : yX6_tillOf.cls = RX6 ∧ yX6_tillOf.cls ≠ "java/lang/invoke/MethodHandle" ∧ yX6_tillOf.cls ≠ "java/lang/invoke/VarHandle" ∧ (parseMethodDescriptor yX6_tillOf.desc).map (fun d => d.parameters.length) = some 1 := by decide +kernel
theorem gV_X6_X6_tillOf : GoodIn WT (wsV RX6 143 RX6 yX6_tillOf (.code yX6_tillOf cX6_tillOf 2 (some FieldType.int) :: WT)) := gzV q3_95 q3_96 q3_97 q1_3 q3_98
theorem hd_X6_valueOf : yX6_valueOf.cls = RX6 ∧ yX6_valueOf.cls ≠ "java/lang/invoke/MethodHandle" ∧ yX6_valueOf.cls ≠ "java/lang/invoke/VarHandle" ∧ (parseMethodDescriptor yX6_valueOf.desc).map (fun d => d.parameters.length) = some 1 := by decide +kernel
theorem gV_X6_X6_valueOf : GoodIn WT (wsV RX6 157 RX6 yX6_valueOf (.code yX6_valueOf cX6_valueOf 2 (some FieldType.int) :: WT)) := gzV q3_202 q3_203 q3_204 q1_3 q3_205
theorem hd_X6_verdict : yX6_verdict.cls = RX6 ∧ yX6_verdict.cls ≠ "java/lang/invoke/MethodHandle" ∧ yX6_verdict.cls ≠ "java/lang/invoke/VarHandle" ∧ (parseMethodDescriptor yX6_verdict.desc).map (fun d => d.parameters.length) = some 2 := by decide +kernel
theorem gV_X6_X6_verdict : GoodIn WT (wsV RX6 169 RX6 yX6_verdict (.code yX6_verdict cX6_verdict 7 (some FieldType.int) :: WT)) := gzV q3_51 q3_52 q3_53 q1_3 q3_54
theorem hd_X6_versionSeen : yX6_versionSeen.cls = RX6 ∧ yX6_versionSeen.cls ≠ "java/lang/invoke/MethodHandle" ∧ yX6_versionSeen.cls ≠ "java/lang/invoke/VarHandle" ∧ (parseMethodDescriptor yX6_versionSeen.desc).map (fun d => d.parameters.length) = some 2 := by decide +kernel
theorem gV_X6_X6_versionSeen : GoodIn WT (wsV RX6 153 RX6 yX6_versionSeen (.code yX6_versionSeen cX6_versionSeen 6 (some FieldType.int) :: WT)) := gzV q3_71 q3_72 q3_73 q1_3 q3_74
def b_J7_fill_53178_5 (np1 : Nat) (x1 : Int32) (k5 : (Nat → Int32) → Int32 → Int32 → Option ((Nat → Int32))) (Sp1 : Nat → Int32) (v2 : Int32) (v3 : Int32) : Option ((Nat → Int32)) :=
  (if v3 ≤ v2 then
    some Sp1
    else
    (if zib v2 np1 then (k5 (upd Sp1 v2.toNatClampNeg x1) (v2 + (1 : Int32)) v3) else none))
set_option maxHeartbeats 4000000 in
set_option maxRecDepth 100000 in
theorem w_J7_fill_53178_5 {p : Program} {e : Env} {s : State} {m : MethodId} {below : List Frame} {meth : Method} {c : Code} {A : Nat → Prop} {D : va_G} {cy : Nat → ClassId} {args : Array Value} {r : (Nat → Int32)} (l : Launch) (hp1 : Nat → Nat) (np1 : Nat) (x1 : Int32) (C : zX p s m meth c cJ7_fill_53178 4 args RJ7 none A D (zty cy)) :
    ∀ (n : Nat) (Sp1 : Nat → Int32) (v2 : Int32) (v3 : Int32) (H : Heap) (locs : List Loc) (ls : Array Slot), zl3 (b_J7_fill_53178_5 np1 x1) n Sp1 v2 v3 = some r → va_P D vwCl (wAI hp1 cy np1 Sp1) H → va_D A (wAI hp1 cy np1 Sp1) → va_S A s.heap H locs → lv_has ls 4 [(0, .ref (hp1 0)), (1, .int x1), (2, .int v2), (3, .int v3)] → W p l e (zRm 0 0) s m args below meth c H locs 0 0 (MQ below (zQV D (zty cy) A (wAI hp1 cy np1 r)) args s 0 0 A) (F0 m 5 ls []) := by
  obtain ⟨hx, hb, hr, hts, hown, hlocks, hml, hA, hK⟩ := id C
  intro n
  induction n with
  | zero => intro Sp1 v2 v3 H locs ls hf; exact zno hf
  | succ n ih =>
    intro Sp1 v2 v3 H locs ls hf hP hD hS hl
    have hf : b_J7_fill_53178_5 np1 x1 (zl3 (b_J7_fill_53178_5 np1 x1) n) Sp1 v2 v3 = some r := hf
    have K5 := ih
    refine lv_iload_n hx hb dJ7_fill_53178_5 rfl (lv_at hl 2 rfl) ?_
    refine lv_iload_n hx hb dJ7_fill_53178_6 rfl (lv_at hl 3 rfl) ?_
    refine z_icmp_ge (tgt := 20) hx hb dJ7_fill_53178_7 (by decide) hf (fun hf => ?_) (fun hf => ?_)
    · obtain rfl := Option.some.inj hf
      exact z_vret C hP hD hS dJ7_fill_53178_20
    · refine lv_aload_n hx hb dJ7_fill_53178_10 rfl (lv_at hl 0 rfl) ?_
      refine lv_iload_n hx hb dJ7_fill_53178_11 rfl (lv_at hl 2 rfl) ?_
      refine lv_iload_n hx hb dJ7_fill_53178_12 rfl (lv_at hl 1 rfl) ?_
      refine z_iast (f := Sp1) (w2 := wAI hp1 cy np1 (upd Sp1 v2.toNatClampNeg x1)) hx hb hK hP hD hS 0 0 rfl rfl dJ7_fill_53178_13 hf rfl (fun hf H locs hP hD hS => ?_)
      refine lv_iinc (v := (v2 + (1 : Int32))) (lv' := [(2, .int (v2 + (1 : Int32))), (0, .ref (hp1 0)), (1, .int x1), (3, .int v3)]) hx hb dJ7_fill_53178_14 hl (k := 2) rfl rfl (by decide) rfl (fun ls hl => ?_)
      refine lv_goto (tgt := 5) hx hb dJ7_fill_53178_17 (by decide) ?_
      exact K5 (upd Sp1 v2.toNatClampNeg x1) (v2 + (1 : Int32)) v3 H locs ls hf hP hD hS (lv_sub hl [1, 2, 0, 3] rfl)
def f_J7_fill_53178 (np1 : Nat) (Sp1 : Nat → Int32) (x1 : Int32) : Option ((Nat → Int32)) :=
  (zl3 (b_J7_fill_53178_5 np1 x1) FU Sp1 (0 : Int32) (Int32.ofNat np1))
set_option maxHeartbeats 4000000 in
set_option maxRecDepth 100000 in
theorem c_J7_fill_53178 (l : Launch) (D : va_G) (cy : Nat → ClassId) (hp1 : Nat → Nat) (np1 : Nat) (Sp1 : Nat → Int32) (x1 : Int32) (r : (Nat → Int32)) (hf : f_J7_fill_53178 np1 Sp1 x1 = some r) : zCV l yJ7_fill_53178 cJ7_fill_53178 4 none 0 0 D (zty cy) [.ref (hp1 0), .int x1] (wAI hp1 cy np1 Sp1) (wAI hp1 cy np1 r) := by
  refine zCV_of (by decide +kernel) (Nat.le_of_ble_eq_true rfl) ?_
  intro p e s m below meth c A ls C hP hD hS hl
  generalize hargs : ([.ref (hp1 0), .int x1] : List Value).toArray = args at C ⊢
  have C : zX p s m meth c cJ7_fill_53178 4 args RJ7 none A D (zty cy) := C
  obtain ⟨hx, hb, hr, hts, hown, hlocks, hml, hA, hK⟩ := id C
  have hl : lv_has ls 4 [(0, .ref (hp1 0)), (1, .int x1)] := hl
  generalize hH : s.heap = H at hP ⊢
  have hS : va_S A s.heap H [] := by rw [← hH]; exact hS
  generalize ([] : List Loc) = locs at hS ⊢
  refine lv_iconst (v := (0 : Int32)) hx hb dJ7_fill_53178_0 (by decide) ?_
  refine lv_istore_n (lv' := [(2, .int (0 : Int32)), (0, .ref (hp1 0)), (1, .int x1)]) hx hb dJ7_fill_53178_1 rfl hl (by decide) rfl (fun ls hl => ?_)
  refine lv_aload_n hx hb dJ7_fill_53178_2 rfl (lv_at hl 1 rfl) ?_
  refine va_alen (v := (Int32.ofNat np1)) hx hb hK hP 0 0 rfl rfl rfl dJ7_fill_53178_3 ?_
  refine lv_istore_n (lv' := [(3, .int (Int32.ofNat np1)), (2, .int (0 : Int32)), (0, .ref (hp1 0)), (1, .int x1)]) hx hb dJ7_fill_53178_4 rfl hl (by decide) rfl (fun ls hl => ?_)
  exact w_J7_fill_53178_5 l hp1 np1 x1 C FU Sp1 (0 : Int32) (Int32.ofNat np1) H locs ls hf hP hD hS (lv_sub hl [2, 3, 1, 0] rfl)
def b_J7_fill_d0a16_6 (np1 : Nat) (x1 : Int64) (k6 : (Nat → Int64) → Int32 → Int32 → Option ((Nat → Int64))) (Sp1 : Nat → Int64) (v3 : Int32) (v4 : Int32) : Option ((Nat → Int64)) :=
  (if v4 ≤ v3 then
    some Sp1
    else
    (if zib v3 np1 then (k6 (vp_updL Sp1 v3.toNatClampNeg x1) (v3 + (1 : Int32)) v4) else none))
set_option maxHeartbeats 4000000 in
set_option maxRecDepth 100000 in
theorem w_J7_fill_d0a16_6 {p : Program} {e : Env} {s : State} {m : MethodId} {below : List Frame} {meth : Method} {c : Code} {A : Nat → Prop} {D : va_G} {cy : Nat → ClassId} {args : Array Value} {r : (Nat → Int64)} (l : Launch) (hp1 : Nat → Nat) (np1 : Nat) (x1 : Int64) (C : zX p s m meth c cJ7_fill_d0a16 5 args RJ7 none A D (zty cy)) :
    ∀ (n : Nat) (Sp1 : Nat → Int64) (v3 : Int32) (v4 : Int32) (H : Heap) (locs : List Loc) (ls : Array Slot), zl3 (b_J7_fill_d0a16_6 np1 x1) n Sp1 v3 v4 = some r → va_P D vwCl (wAJ hp1 cy np1 Sp1) H → va_D A (wAJ hp1 cy np1 Sp1) → va_S A s.heap H locs → lv_has ls 5 [(0, .ref (hp1 0)), (1, .long x1), (3, .int v3), (4, .int v4)] → W p l e (zRm 0 0) s m args below meth c H locs 0 0 (MQ below (zQV D (zty cy) A (wAJ hp1 cy np1 r)) args s 0 0 A) (F0 m 6 ls []) := by
  obtain ⟨hx, hb, hr, hts, hown, hlocks, hml, hA, hK⟩ := id C
  intro n
  induction n with
  | zero => intro Sp1 v3 v4 H locs ls hf; exact zno hf
  | succ n ih =>
    intro Sp1 v3 v4 H locs ls hf hP hD hS hl
    have hf : b_J7_fill_d0a16_6 np1 x1 (zl3 (b_J7_fill_d0a16_6 np1 x1) n) Sp1 v3 v4 = some r := hf
    have K6 := ih
    refine lv_iload_n hx hb dJ7_fill_d0a16_6 rfl (lv_at hl 2 rfl) ?_
    refine lv_iload hx hb dJ7_fill_d0a16_7 (lv_at hl 3 rfl) ?_
    refine z_icmp_ge (tgt := 22) hx hb dJ7_fill_d0a16_9 (by decide) hf (fun hf => ?_) (fun hf => ?_)
    · obtain rfl := Option.some.inj hf
      exact z_vret C hP hD hS dJ7_fill_d0a16_22
    · refine lv_aload_n hx hb dJ7_fill_d0a16_12 rfl (lv_at hl 0 rfl) ?_
      refine lv_iload_n hx hb dJ7_fill_d0a16_13 rfl (lv_at hl 2 rfl) ?_
      refine lv_lload_n hx hb dJ7_fill_d0a16_14 rfl (lv_at hl 1 rfl) ?_
      refine z_last (f := Sp1) (w2 := wAJ hp1 cy np1 (vp_updL Sp1 v3.toNatClampNeg x1)) hx hb hK hP hD hS 0 1 rfl rfl dJ7_fill_d0a16_15 hf rfl (fun hf H locs hP hD hS => ?_)
      refine lv_iinc (v := (v3 + (1 : Int32))) (lv' := [(3, .int (v3 + (1 : Int32))), (0, .ref (hp1 0)), (1, .long x1), (4, .int v4)]) hx hb dJ7_fill_d0a16_16 hl (k := 2) rfl rfl (by decide) rfl (fun ls hl => ?_)
      refine lv_goto (tgt := 6) hx hb dJ7_fill_d0a16_19 (by decide) ?_
      exact K6 (vp_updL Sp1 v3.toNatClampNeg x1) (v3 + (1 : Int32)) v4 H locs ls hf hP hD hS (lv_sub hl [1, 2, 0, 3] rfl)
def f_J7_fill_d0a16 (np1 : Nat) (Sp1 : Nat → Int64) (x1 : Int64) : Option ((Nat → Int64)) :=
  (zl3 (b_J7_fill_d0a16_6 np1 x1) FU Sp1 (0 : Int32) (Int32.ofNat np1))
set_option maxHeartbeats 4000000 in
set_option maxRecDepth 100000 in
theorem c_J7_fill_d0a16 (l : Launch) (D : va_G) (cy : Nat → ClassId) (hp1 : Nat → Nat) (np1 : Nat) (Sp1 : Nat → Int64) (x1 : Int64) (r : (Nat → Int64)) (hf : f_J7_fill_d0a16 np1 Sp1 x1 = some r) : zCV l yJ7_fill_d0a16 cJ7_fill_d0a16 5 none 0 0 D (zty cy) [.ref (hp1 0), .long x1] (wAJ hp1 cy np1 Sp1) (wAJ hp1 cy np1 r) := by
  refine zCV_of (by decide +kernel) (Nat.le_of_ble_eq_true rfl) ?_
  intro p e s m below meth c A ls C hP hD hS hl
  generalize hargs : ([.ref (hp1 0), .long x1] : List Value).toArray = args at C ⊢
  have C : zX p s m meth c cJ7_fill_d0a16 5 args RJ7 none A D (zty cy) := C
  obtain ⟨hx, hb, hr, hts, hown, hlocks, hml, hA, hK⟩ := id C
  have hl : lv_has ls 5 [(0, .ref (hp1 0)), (1, .long x1)] := hl
  generalize hH : s.heap = H at hP ⊢
  have hS : va_S A s.heap H [] := by rw [← hH]; exact hS
  generalize ([] : List Loc) = locs at hS ⊢
  refine lv_iconst (v := (0 : Int32)) hx hb dJ7_fill_d0a16_0 (by decide) ?_
  refine lv_istore_n (lv' := [(3, .int (0 : Int32)), (0, .ref (hp1 0)), (1, .long x1)]) hx hb dJ7_fill_d0a16_1 rfl hl (by decide) rfl (fun ls hl => ?_)
  refine lv_aload_n hx hb dJ7_fill_d0a16_2 rfl (lv_at hl 1 rfl) ?_
  refine va_alen (v := (Int32.ofNat np1)) hx hb hK hP 0 1 rfl rfl rfl dJ7_fill_d0a16_3 ?_
  refine lv_istore (lv' := [(4, .int (Int32.ofNat np1)), (3, .int (0 : Int32)), (0, .ref (hp1 0)), (1, .long x1)]) hx hb dJ7_fill_d0a16_4 hl (by decide) rfl (fun ls hl => ?_)
  exact w_J7_fill_d0a16_6 l hp1 np1 x1 C FU Sp1 (0 : Int32) (Int32.ofNat np1) H locs ls hf hP hD hS (lv_sub hl [2, 3, 1, 0] rfl)
def f_X6_startAnew (St : SRows) (x1 : Int32) (x2 : Int32) (x3 : Int32) (x4 : Int32) : Option (SRows) :=
  (f_J7_fill_53178 6 (Rows_stamps St) (-2 : Int32)).bind (fun q1 =>
    (f_J7_fill_d0a16 6 (Rows_held St) (0 : Int64)).bind (fun q2 =>
      (f_J7_fill_53178 48 (Rows_rowsOf St) (-2 : Int32)).bind (fun q3 =>
        some (mkRows x1 x2 x4 x3 (0 : Int32) (0 : Int32) (0 : Int64) (0 : Int64) (0 : Int64) q1 q2 q3 (Rows_values St) (Rows_froms St) (Rows_tills St) (Rows_made St)))))
set_option maxHeartbeats 4000000 in
set_option maxRecDepth 100000 in
theorem c_X6_startAnew (l : Launch) (D : va_G) (cy : Nat → ClassId) (ht : Nat → Nat) (St : SRows) (x1 : Int32) (x2 : Int32) (x3 : Int32) (x4 : Int32) (r : SRows) (hf : f_X6_startAnew St x1 x2 x3 x4 = some r) : zCV l yX6_startAnew cX6_startAnew 5 none 1 24 D (zty cy) [.ref (ht 0), .int x1, .int x2, .int x3, .int x4] (wRows ht cy St) (wRows ht cy r) := by
  refine zCV_of (by decide +kernel) (Nat.le_of_ble_eq_true rfl) ?_
  intro p e s m below meth c A ls C hP hD hS hl
  generalize hargs : ([.ref (ht 0), .int x1, .int x2, .int x3, .int x4] : List Value).toArray = args at C ⊢
  have C : zX p s m meth c cX6_startAnew 5 args RX6 none A D (zty cy) := C
  obtain ⟨hx, hb, hr, hts, hown, hlocks, hml, hA, hK⟩ := id C
  have hl : lv_has ls 5 [(0, .ref (ht 0)), (1, .int x1), (2, .int x2), (3, .int x3), (4, .int x4)] := hl
  generalize hH : s.heap = H at hP ⊢
  have hS : va_S A s.heap H [] := by rw [← hH]; exact hS
  generalize ([] : List Loc) = locs at hS ⊢
  refine lv_aload_n hx hb dX6_startAnew_0 rfl (lv_at hl 0 rfl) ?_
  refine lv_iload_n hx hb dX6_startAnew_1 rfl (lv_at hl 1 rfl) ?_
  refine z_put (w2 := vRows ht cy x1 (Rows_rowCount St) (Rows_crash St) (Rows_nextStamp St) (Rows_count St) (Rows_lostSlots St) (Rows_runningStamps St) (Rows_doneStamps St) (Rows_goneStamps St) (Rows_stamps St) (Rows_held St) (Rows_rowsOf St) (Rows_values St) (Rows_froms St) (Rows_tills St) (Rows_made St)) hx hb hts in_X6 tyX6 tyX6_ok nmX6 hown hK hP hD hS 0 rfl rfl 0 (by decide) (hts _ q1_49) (fun _ h9 => h9) rfl rfl rfl (Nat.le_of_ble_eq_true rfl) dX6_startAnew_2 rfl (fun H locs hP hD hS => ?_)
  refine lv_aload_n hx hb dX6_startAnew_5 rfl (lv_at hl 0 rfl) ?_
  refine lv_iload_n hx hb dX6_startAnew_6 rfl (lv_at hl 2 rfl) ?_
  refine z_put (w2 := vRows ht cy x1 x2 (Rows_crash St) (Rows_nextStamp St) (Rows_count St) (Rows_lostSlots St) (Rows_runningStamps St) (Rows_doneStamps St) (Rows_goneStamps St) (Rows_stamps St) (Rows_held St) (Rows_rowsOf St) (Rows_values St) (Rows_froms St) (Rows_tills St) (Rows_made St)) hx hb hts in_X6 tyX6 tyX6_ok nmX6 hown hK hP hD hS 0 rfl rfl 1 (by decide) (hts _ q1_52) (fun _ h9 => h9) rfl rfl rfl (Nat.le_of_ble_eq_true rfl) dX6_startAnew_7 rfl (fun H locs hP hD hS => ?_)
  refine lv_aload_n hx hb dX6_startAnew_10 rfl (lv_at hl 0 rfl) ?_
  refine lv_iload hx hb dX6_startAnew_11 (lv_at hl 4 rfl) ?_
  refine z_put (w2 := vRows ht cy x1 x2 x4 (Rows_nextStamp St) (Rows_count St) (Rows_lostSlots St) (Rows_runningStamps St) (Rows_doneStamps St) (Rows_goneStamps St) (Rows_stamps St) (Rows_held St) (Rows_rowsOf St) (Rows_values St) (Rows_froms St) (Rows_tills St) (Rows_made St)) hx hb hts in_X6 tyX6 tyX6_ok nmX6 hown hK hP hD hS 0 rfl rfl 2 (by decide) (hts _ q1_55) (fun _ h9 => h9) rfl rfl rfl (Nat.le_of_ble_eq_true rfl) dX6_startAnew_13 rfl (fun H locs hP hD hS => ?_)
  refine lv_aload_n hx hb dX6_startAnew_16 rfl (lv_at hl 0 rfl) ?_
  refine lv_iload_n hx hb dX6_startAnew_17 rfl (lv_at hl 3 rfl) ?_
  refine z_put (w2 := vRows ht cy x1 x2 x4 x3 (Rows_count St) (Rows_lostSlots St) (Rows_runningStamps St) (Rows_doneStamps St) (Rows_goneStamps St) (Rows_stamps St) (Rows_held St) (Rows_rowsOf St) (Rows_values St) (Rows_froms St) (Rows_tills St) (Rows_made St)) hx hb hts in_X6 tyX6 tyX6_ok nmX6 hown hK hP hD hS 0 rfl rfl 3 (by decide) (hts _ q1_58) (fun _ h9 => h9) rfl rfl rfl (Nat.le_of_ble_eq_true rfl) dX6_startAnew_18 rfl (fun H locs hP hD hS => ?_)
  refine lv_aload_n hx hb dX6_startAnew_21 rfl (lv_at hl 0 rfl) ?_
  refine lv_iconst (v := (0 : Int32)) hx hb dX6_startAnew_22 (by decide) ?_
  refine z_put (w2 := vRows ht cy x1 x2 x4 x3 (0 : Int32) (Rows_lostSlots St) (Rows_runningStamps St) (Rows_doneStamps St) (Rows_goneStamps St) (Rows_stamps St) (Rows_held St) (Rows_rowsOf St) (Rows_values St) (Rows_froms St) (Rows_tills St) (Rows_made St)) hx hb hts in_X6 tyX6 tyX6_ok nmX6 hown hK hP hD hS 0 rfl rfl 4 (by decide) (hts _ q1_61) (fun _ h9 => h9) rfl rfl rfl (Nat.le_of_ble_eq_true rfl) dX6_startAnew_23 rfl (fun H locs hP hD hS => ?_)
  refine lv_aload_n hx hb dX6_startAnew_26 rfl (lv_at hl 0 rfl) ?_
  refine lv_iconst (v := (0 : Int32)) hx hb dX6_startAnew_27 (by decide) ?_
  refine z_put (w2 := vRows ht cy x1 x2 x4 x3 (0 : Int32) (0 : Int32) (Rows_runningStamps St) (Rows_doneStamps St) (Rows_goneStamps St) (Rows_stamps St) (Rows_held St) (Rows_rowsOf St) (Rows_values St) (Rows_froms St) (Rows_tills St) (Rows_made St)) hx hb hts in_X6 tyX6 tyX6_ok nmX6 hown hK hP hD hS 0 rfl rfl 5 (by decide) (hts _ q1_63) (fun _ h9 => h9) rfl rfl rfl (Nat.le_of_ble_eq_true rfl) dX6_startAnew_28 rfl (fun H locs hP hD hS => ?_)
  refine lv_aload_n hx hb dX6_startAnew_31 rfl (lv_at hl 0 rfl) ?_
  refine lv_lconst (v := (0 : Int64)) hx hb dX6_startAnew_32 (by decide) ?_
  refine z_put (w2 := vRows ht cy x1 x2 x4 x3 (0 : Int32) (0 : Int32) (0 : Int64) (Rows_doneStamps St) (Rows_goneStamps St) (Rows_stamps St) (Rows_held St) (Rows_rowsOf St) (Rows_values St) (Rows_froms St) (Rows_tills St) (Rows_made St)) hx hb hts in_X6 tyX6 tyX6_ok nmX6 hown hK hP hD hS 0 rfl rfl 6 (by decide) (hts _ q1_64) (fun _ h9 => h9) rfl rfl rfl (Nat.le_of_ble_eq_true rfl) dX6_startAnew_33 rfl (fun H locs hP hD hS => ?_)
  refine lv_aload_n hx hb dX6_startAnew_36 rfl (lv_at hl 0 rfl) ?_
  refine lv_lconst (v := (0 : Int64)) hx hb dX6_startAnew_37 (by decide) ?_
  refine z_put (w2 := vRows ht cy x1 x2 x4 x3 (0 : Int32) (0 : Int32) (0 : Int64) (0 : Int64) (Rows_goneStamps St) (Rows_stamps St) (Rows_held St) (Rows_rowsOf St) (Rows_values St) (Rows_froms St) (Rows_tills St) (Rows_made St)) hx hb hts in_X6 tyX6 tyX6_ok nmX6 hown hK hP hD hS 0 rfl rfl 7 (by decide) (hts _ q1_65) (fun _ h9 => h9) rfl rfl rfl (Nat.le_of_ble_eq_true rfl) dX6_startAnew_38 rfl (fun H locs hP hD hS => ?_)
  refine lv_aload_n hx hb dX6_startAnew_41 rfl (lv_at hl 0 rfl) ?_
  refine lv_lconst (v := (0 : Int64)) hx hb dX6_startAnew_42 (by decide) ?_
  refine z_put (w2 := vRows ht cy x1 x2 x4 x3 (0 : Int32) (0 : Int32) (0 : Int64) (0 : Int64) (0 : Int64) (Rows_stamps St) (Rows_held St) (Rows_rowsOf St) (Rows_values St) (Rows_froms St) (Rows_tills St) (Rows_made St)) hx hb hts in_X6 tyX6 tyX6_ok nmX6 hown hK hP hD hS 0 rfl rfl 8 (by decide) (hts _ q1_66) (fun _ h9 => h9) rfl rfl rfl (Nat.le_of_ble_eq_true rfl) dX6_startAnew_43 rfl (fun H locs hP hD hS => ?_)
  refine lv_aload_n hx hb dX6_startAnew_46 rfl (lv_at hl 0 rfl) ?_
  refine va_get (D := D) (ci := 3) (v := .ref (ht 1)) (C := RX6) (T := TX6) (N := 16) hx hb hts in_X6 hown hK hP 0 rfl rfl 9 (by decide) (hts _ q1_67) (fun _ h9 => h9) rfl dX6_startAnew_47 ?_
  refine lv_bipush (v := (-2 : Int32)) hx hb dX6_startAnew_50 (by decide) ?_
  obtain ⟨q1, hc, hf⟩ := zbd hf
  refine z_cSv (As := [.ref (ht 1), .int (-2 : Int32)]) (rest := []) C (c_J7_fill_53178 l D cy (fun _ => ht 1) 6 (Rows_stamps St) (-2 : Int32) q1 hc) gS_X6_J7_fill_53178 hd_J7_fill_53178 ⟨Nat.le_of_ble_eq_true rfl, Nat.le_of_ble_eq_true rfl⟩ ⟨Nat.le_refl _, Nat.le_refl _⟩ hP hD hS (w2 := vRows ht cy x1 x2 x4 x3 (0 : Int32) (0 : Int32) (0 : Int64) (0 : Int64) (0 : Int64) q1 (Rows_held St) (Rows_rowsOf St) (Rows_values St) (Rows_froms St) (Rows_tills St) (Rows_made St)) [1] [0, 2, 3, 4, 5, 6, 7] [0, 7, 1, 2, 3, 4, 5, 6] rfl rfl rfl rfl rfl rfl (by decide) hl.1 (Nat.le_of_ble_eq_true rfl) dX6_startAnew_52 (fun H locs hP hD hS => ?_)
  refine lv_aload_n hx hb dX6_startAnew_55 rfl (lv_at hl 0 rfl) ?_
  refine va_get (D := D) (ci := 3) (v := .ref (ht 2)) (C := RX6) (T := TX6) (N := 16) hx hb hts in_X6 hown hK hP 0 rfl rfl 10 (by decide) (hts _ q1_68) (fun _ h9 => h9) rfl dX6_startAnew_56 ?_
  refine lv_lconst (v := (0 : Int64)) hx hb dX6_startAnew_59 (by decide) ?_
  obtain ⟨q2, hc, hf⟩ := zbd hf
  refine z_cSv (As := [.ref (ht 2), .long (0 : Int64)]) (rest := []) C (c_J7_fill_d0a16 l D cy (fun _ => ht 2) 6 (Rows_held St) (0 : Int64) q2 hc) gS_X6_J7_fill_d0a16 hd_J7_fill_d0a16 ⟨Nat.le_of_ble_eq_true rfl, Nat.le_of_ble_eq_true rfl⟩ ⟨Nat.le_refl _, Nat.le_refl _⟩ hP hD hS (w2 := vRows ht cy x1 x2 x4 x3 (0 : Int32) (0 : Int32) (0 : Int64) (0 : Int64) (0 : Int64) q1 q2 (Rows_rowsOf St) (Rows_values St) (Rows_froms St) (Rows_tills St) (Rows_made St)) [2] [0, 1, 3, 4, 5, 6, 7] [0, 1, 7, 2, 3, 4, 5, 6] rfl rfl rfl rfl rfl rfl (by decide) hl.1 (Nat.le_of_ble_eq_true rfl) dX6_startAnew_60 (fun H locs hP hD hS => ?_)
  refine lv_aload_n hx hb dX6_startAnew_63 rfl (lv_at hl 0 rfl) ?_
  refine va_get (D := D) (ci := 3) (v := .ref (ht 3)) (C := RX6) (T := TX6) (N := 16) hx hb hts in_X6 hown hK hP 0 rfl rfl 11 (by decide) (hts _ q1_69) (fun _ h9 => h9) rfl dX6_startAnew_64 ?_
  refine lv_bipush (v := (-2 : Int32)) hx hb dX6_startAnew_67 (by decide) ?_
  obtain ⟨q3, hc, hf⟩ := zbd hf
  refine z_cSv (As := [.ref (ht 3), .int (-2 : Int32)]) (rest := []) C (c_J7_fill_53178 l D cy (fun _ => ht 3) 48 (Rows_rowsOf St) (-2 : Int32) q3 hc) gS_X6_J7_fill_53178 hd_J7_fill_53178 ⟨Nat.le_of_ble_eq_true rfl, Nat.le_of_ble_eq_true rfl⟩ ⟨Nat.le_refl _, Nat.le_refl _⟩ hP hD hS (w2 := vRows ht cy x1 x2 x4 x3 (0 : Int32) (0 : Int32) (0 : Int64) (0 : Int64) (0 : Int64) q1 q2 q3 (Rows_values St) (Rows_froms St) (Rows_tills St) (Rows_made St)) [3] [0, 1, 2, 4, 5, 6, 7] [0, 1, 2, 7, 3, 4, 5, 6] rfl rfl rfl rfl rfl rfl (by decide) hl.1 (Nat.le_of_ble_eq_true rfl) dX6_startAnew_69 (fun H locs hP hD hS => ?_)
  obtain rfl := Option.some.inj hf
  rw [← wRows_mk ht] at hP hD
  exact z_vret C hP hD hS dX6_startAnew_72
def f_X6_takeOver (St : SRows) (Sp1 : SRows) : Option (SRows) :=
  some (mkRows (Rows_ring Sp1) (Rows_rowCount Sp1) (Rows_crash Sp1) (Rows_nextStamp Sp1) (Rows_count Sp1) (Rows_lostSlots Sp1) (Rows_runningStamps Sp1) (Rows_doneStamps Sp1) (Rows_goneStamps Sp1) (va_cpy (Rows_stamps Sp1) (Rows_stamps St) (0 : Int32).toNatClampNeg (0 : Int32).toNatClampNeg (6 : Int32).toNatClampNeg) (va_cpy (Rows_held Sp1) (Rows_held St) (0 : Int32).toNatClampNeg (0 : Int32).toNatClampNeg (6 : Int32).toNatClampNeg) (va_cpy (Rows_rowsOf Sp1) (Rows_rowsOf St) (0 : Int32).toNatClampNeg (0 : Int32).toNatClampNeg (48 : Int32).toNatClampNeg) (va_cpy (Rows_values Sp1) (Rows_values St) (0 : Int32).toNatClampNeg (0 : Int32).toNatClampNeg (48 : Int32).toNatClampNeg) (va_cpy (Rows_froms Sp1) (Rows_froms St) (0 : Int32).toNatClampNeg (0 : Int32).toNatClampNeg (48 : Int32).toNatClampNeg) (va_cpy (Rows_tills Sp1) (Rows_tills St) (0 : Int32).toNatClampNeg (0 : Int32).toNatClampNeg (48 : Int32).toNatClampNeg) (va_cpy (Rows_made Sp1) (Rows_made St) (0 : Int32).toNatClampNeg (0 : Int32).toNatClampNeg (48 : Int32).toNatClampNeg))
set_option maxHeartbeats 4000000 in
set_option maxRecDepth 100000 in
theorem c_X6_takeOver (l : Launch) (D : va_G) (cy : Nat → ClassId) (ht : Nat → Nat) (hp1 : Nat → Nat) (St : SRows) (Sp1 : SRows) (r : SRows) (hf : f_X6_takeOver St Sp1 = some r) : zCV l yX6_takeOver cX6_takeOver 2 none 1 40 D (zty cy) [.ref (ht 0), .ref (hp1 0)] (wRows ht cy St ++ (wRows hp1 cy Sp1)) (wRows ht cy r ++ (wRows hp1 cy Sp1)) := by
  refine zCV_of (by decide +kernel) (Nat.le_of_ble_eq_true rfl) ?_
  intro p e s m below meth c A ls C hP hD hS hl
  generalize hargs : ([.ref (ht 0), .ref (hp1 0)] : List Value).toArray = args at C ⊢
  have C : zX p s m meth c cX6_takeOver 2 args RX6 none A D (zty cy) := C
  obtain ⟨hx, hb, hr, hts, hown, hlocks, hml, hA, hK⟩ := id C
  have hl : lv_has ls 2 [(0, .ref (ht 0)), (1, .ref (hp1 0))] := hl
  generalize hH : s.heap = H at hP ⊢
  have hS : va_S A s.heap H [] := by rw [← hH]; exact hS
  generalize ([] : List Loc) = locs at hS ⊢
  refine lv_aload_n hx hb dX6_takeOver_0 rfl (lv_at hl 0 rfl) ?_
  refine lv_aload_n hx hb dX6_takeOver_1 rfl (lv_at hl 1 rfl) ?_
  refine va_get (D := D) (ci := 3) (v := .int (Rows_ring Sp1)) (C := RX6) (T := TX6) (N := 16) hx hb hts in_X6 hown hK hP 8 rfl rfl 0 (by decide) (hts _ q1_49) (fun _ h9 => h9) rfl dX6_takeOver_2 ?_
  refine z_put (w2 := vRows ht cy (Rows_ring Sp1) (Rows_rowCount St) (Rows_crash St) (Rows_nextStamp St) (Rows_count St) (Rows_lostSlots St) (Rows_runningStamps St) (Rows_doneStamps St) (Rows_goneStamps St) (Rows_stamps St) (Rows_held St) (Rows_rowsOf St) (Rows_values St) (Rows_froms St) (Rows_tills St) (Rows_made St) ++ (wRows hp1 cy Sp1)) hx hb hts in_X6 tyX6 tyX6_ok nmX6 hown hK hP hD hS 0 rfl rfl 0 (by decide) (hts _ q1_49) (fun _ h9 => h9) rfl rfl rfl (Nat.le_of_ble_eq_true rfl) dX6_takeOver_5 rfl (fun H locs hP hD hS => ?_)
  refine lv_aload_n hx hb dX6_takeOver_8 rfl (lv_at hl 0 rfl) ?_
  refine lv_aload_n hx hb dX6_takeOver_9 rfl (lv_at hl 1 rfl) ?_
  refine va_get (D := D) (ci := 3) (v := .int (Rows_rowCount Sp1)) (C := RX6) (T := TX6) (N := 16) hx hb hts in_X6 hown hK hP 8 rfl rfl 1 (by decide) (hts _ q1_52) (fun _ h9 => h9) rfl dX6_takeOver_10 ?_
  refine z_put (w2 := vRows ht cy (Rows_ring Sp1) (Rows_rowCount Sp1) (Rows_crash St) (Rows_nextStamp St) (Rows_count St) (Rows_lostSlots St) (Rows_runningStamps St) (Rows_doneStamps St) (Rows_goneStamps St) (Rows_stamps St) (Rows_held St) (Rows_rowsOf St) (Rows_values St) (Rows_froms St) (Rows_tills St) (Rows_made St) ++ (wRows hp1 cy Sp1)) hx hb hts in_X6 tyX6 tyX6_ok nmX6 hown hK hP hD hS 0 rfl rfl 1 (by decide) (hts _ q1_52) (fun _ h9 => h9) rfl rfl rfl (Nat.le_of_ble_eq_true rfl) dX6_takeOver_13 rfl (fun H locs hP hD hS => ?_)
  refine lv_aload_n hx hb dX6_takeOver_16 rfl (lv_at hl 0 rfl) ?_
  refine lv_aload_n hx hb dX6_takeOver_17 rfl (lv_at hl 1 rfl) ?_
  refine va_get (D := D) (ci := 3) (v := .int (Rows_crash Sp1)) (C := RX6) (T := TX6) (N := 16) hx hb hts in_X6 hown hK hP 8 rfl rfl 2 (by decide) (hts _ q1_55) (fun _ h9 => h9) rfl dX6_takeOver_18 ?_
  refine z_put (w2 := vRows ht cy (Rows_ring Sp1) (Rows_rowCount Sp1) (Rows_crash Sp1) (Rows_nextStamp St) (Rows_count St) (Rows_lostSlots St) (Rows_runningStamps St) (Rows_doneStamps St) (Rows_goneStamps St) (Rows_stamps St) (Rows_held St) (Rows_rowsOf St) (Rows_values St) (Rows_froms St) (Rows_tills St) (Rows_made St) ++ (wRows hp1 cy Sp1)) hx hb hts in_X6 tyX6 tyX6_ok nmX6 hown hK hP hD hS 0 rfl rfl 2 (by decide) (hts _ q1_55) (fun _ h9 => h9) rfl rfl rfl (Nat.le_of_ble_eq_true rfl) dX6_takeOver_21 rfl (fun H locs hP hD hS => ?_)
  refine lv_aload_n hx hb dX6_takeOver_24 rfl (lv_at hl 0 rfl) ?_
  refine lv_aload_n hx hb dX6_takeOver_25 rfl (lv_at hl 1 rfl) ?_
  refine va_get (D := D) (ci := 3) (v := .int (Rows_nextStamp Sp1)) (C := RX6) (T := TX6) (N := 16) hx hb hts in_X6 hown hK hP 8 rfl rfl 3 (by decide) (hts _ q1_58) (fun _ h9 => h9) rfl dX6_takeOver_26 ?_
  refine z_put (w2 := vRows ht cy (Rows_ring Sp1) (Rows_rowCount Sp1) (Rows_crash Sp1) (Rows_nextStamp Sp1) (Rows_count St) (Rows_lostSlots St) (Rows_runningStamps St) (Rows_doneStamps St) (Rows_goneStamps St) (Rows_stamps St) (Rows_held St) (Rows_rowsOf St) (Rows_values St) (Rows_froms St) (Rows_tills St) (Rows_made St) ++ (wRows hp1 cy Sp1)) hx hb hts in_X6 tyX6 tyX6_ok nmX6 hown hK hP hD hS 0 rfl rfl 3 (by decide) (hts _ q1_58) (fun _ h9 => h9) rfl rfl rfl (Nat.le_of_ble_eq_true rfl) dX6_takeOver_29 rfl (fun H locs hP hD hS => ?_)
  refine lv_aload_n hx hb dX6_takeOver_32 rfl (lv_at hl 0 rfl) ?_
  refine lv_aload_n hx hb dX6_takeOver_33 rfl (lv_at hl 1 rfl) ?_
  refine va_get (D := D) (ci := 3) (v := .int (Rows_count Sp1)) (C := RX6) (T := TX6) (N := 16) hx hb hts in_X6 hown hK hP 8 rfl rfl 4 (by decide) (hts _ q1_61) (fun _ h9 => h9) rfl dX6_takeOver_34 ?_
  refine z_put (w2 := vRows ht cy (Rows_ring Sp1) (Rows_rowCount Sp1) (Rows_crash Sp1) (Rows_nextStamp Sp1) (Rows_count Sp1) (Rows_lostSlots St) (Rows_runningStamps St) (Rows_doneStamps St) (Rows_goneStamps St) (Rows_stamps St) (Rows_held St) (Rows_rowsOf St) (Rows_values St) (Rows_froms St) (Rows_tills St) (Rows_made St) ++ (wRows hp1 cy Sp1)) hx hb hts in_X6 tyX6 tyX6_ok nmX6 hown hK hP hD hS 0 rfl rfl 4 (by decide) (hts _ q1_61) (fun _ h9 => h9) rfl rfl rfl (Nat.le_of_ble_eq_true rfl) dX6_takeOver_37 rfl (fun H locs hP hD hS => ?_)
  refine lv_aload_n hx hb dX6_takeOver_40 rfl (lv_at hl 0 rfl) ?_
  refine lv_aload_n hx hb dX6_takeOver_41 rfl (lv_at hl 1 rfl) ?_
  refine va_get (D := D) (ci := 3) (v := .int (Rows_lostSlots Sp1)) (C := RX6) (T := TX6) (N := 16) hx hb hts in_X6 hown hK hP 8 rfl rfl 5 (by decide) (hts _ q1_63) (fun _ h9 => h9) rfl dX6_takeOver_42 ?_
  refine z_put (w2 := vRows ht cy (Rows_ring Sp1) (Rows_rowCount Sp1) (Rows_crash Sp1) (Rows_nextStamp Sp1) (Rows_count Sp1) (Rows_lostSlots Sp1) (Rows_runningStamps St) (Rows_doneStamps St) (Rows_goneStamps St) (Rows_stamps St) (Rows_held St) (Rows_rowsOf St) (Rows_values St) (Rows_froms St) (Rows_tills St) (Rows_made St) ++ (wRows hp1 cy Sp1)) hx hb hts in_X6 tyX6 tyX6_ok nmX6 hown hK hP hD hS 0 rfl rfl 5 (by decide) (hts _ q1_63) (fun _ h9 => h9) rfl rfl rfl (Nat.le_of_ble_eq_true rfl) dX6_takeOver_45 rfl (fun H locs hP hD hS => ?_)
  refine lv_aload_n hx hb dX6_takeOver_48 rfl (lv_at hl 0 rfl) ?_
  refine lv_aload_n hx hb dX6_takeOver_49 rfl (lv_at hl 1 rfl) ?_
  refine va_get (D := D) (ci := 3) (v := .long (Rows_runningStamps Sp1)) (C := RX6) (T := TX6) (N := 16) hx hb hts in_X6 hown hK hP 8 rfl rfl 6 (by decide) (hts _ q1_64) (fun _ h9 => h9) rfl dX6_takeOver_50 ?_
  refine z_put (w2 := vRows ht cy (Rows_ring Sp1) (Rows_rowCount Sp1) (Rows_crash Sp1) (Rows_nextStamp Sp1) (Rows_count Sp1) (Rows_lostSlots Sp1) (Rows_runningStamps Sp1) (Rows_doneStamps St) (Rows_goneStamps St) (Rows_stamps St) (Rows_held St) (Rows_rowsOf St) (Rows_values St) (Rows_froms St) (Rows_tills St) (Rows_made St) ++ (wRows hp1 cy Sp1)) hx hb hts in_X6 tyX6 tyX6_ok nmX6 hown hK hP hD hS 0 rfl rfl 6 (by decide) (hts _ q1_64) (fun _ h9 => h9) rfl rfl rfl (Nat.le_of_ble_eq_true rfl) dX6_takeOver_53 rfl (fun H locs hP hD hS => ?_)
  refine lv_aload_n hx hb dX6_takeOver_56 rfl (lv_at hl 0 rfl) ?_
  refine lv_aload_n hx hb dX6_takeOver_57 rfl (lv_at hl 1 rfl) ?_
  refine va_get (D := D) (ci := 3) (v := .long (Rows_doneStamps Sp1)) (C := RX6) (T := TX6) (N := 16) hx hb hts in_X6 hown hK hP 8 rfl rfl 7 (by decide) (hts _ q1_65) (fun _ h9 => h9) rfl dX6_takeOver_58 ?_
  refine z_put (w2 := vRows ht cy (Rows_ring Sp1) (Rows_rowCount Sp1) (Rows_crash Sp1) (Rows_nextStamp Sp1) (Rows_count Sp1) (Rows_lostSlots Sp1) (Rows_runningStamps Sp1) (Rows_doneStamps Sp1) (Rows_goneStamps St) (Rows_stamps St) (Rows_held St) (Rows_rowsOf St) (Rows_values St) (Rows_froms St) (Rows_tills St) (Rows_made St) ++ (wRows hp1 cy Sp1)) hx hb hts in_X6 tyX6 tyX6_ok nmX6 hown hK hP hD hS 0 rfl rfl 7 (by decide) (hts _ q1_65) (fun _ h9 => h9) rfl rfl rfl (Nat.le_of_ble_eq_true rfl) dX6_takeOver_61 rfl (fun H locs hP hD hS => ?_)
  refine lv_aload_n hx hb dX6_takeOver_64 rfl (lv_at hl 0 rfl) ?_
  refine lv_aload_n hx hb dX6_takeOver_65 rfl (lv_at hl 1 rfl) ?_
  refine va_get (D := D) (ci := 3) (v := .long (Rows_goneStamps Sp1)) (C := RX6) (T := TX6) (N := 16) hx hb hts in_X6 hown hK hP 8 rfl rfl 8 (by decide) (hts _ q1_66) (fun _ h9 => h9) rfl dX6_takeOver_66 ?_
  refine z_put (w2 := vRows ht cy (Rows_ring Sp1) (Rows_rowCount Sp1) (Rows_crash Sp1) (Rows_nextStamp Sp1) (Rows_count Sp1) (Rows_lostSlots Sp1) (Rows_runningStamps Sp1) (Rows_doneStamps Sp1) (Rows_goneStamps Sp1) (Rows_stamps St) (Rows_held St) (Rows_rowsOf St) (Rows_values St) (Rows_froms St) (Rows_tills St) (Rows_made St) ++ (wRows hp1 cy Sp1)) hx hb hts in_X6 tyX6 tyX6_ok nmX6 hown hK hP hD hS 0 rfl rfl 8 (by decide) (hts _ q1_66) (fun _ h9 => h9) rfl rfl rfl (Nat.le_of_ble_eq_true rfl) dX6_takeOver_69 rfl (fun H locs hP hD hS => ?_)
  refine lv_aload_n hx hb dX6_takeOver_72 rfl (lv_at hl 1 rfl) ?_
  refine va_get (D := D) (ci := 3) (v := .ref (hp1 1)) (C := RX6) (T := TX6) (N := 16) hx hb hts in_X6 hown hK hP 8 rfl rfl 9 (by decide) (hts _ q1_67) (fun _ h9 => h9) rfl dX6_takeOver_73 ?_
  refine lv_iconst (v := (0 : Int32)) hx hb dX6_takeOver_76 (by decide) ?_
  refine lv_aload_n hx hb dX6_takeOver_77 rfl (lv_at hl 0 rfl) ?_
  refine va_get (D := D) (ci := 3) (v := .ref (ht 1)) (C := RX6) (T := TX6) (N := 16) hx hb hts in_X6 hown hK hP 0 rfl rfl 9 (by decide) (hts _ q1_67) (fun _ h9 => h9) rfl dX6_takeOver_78 ?_
  refine lv_iconst (v := (0 : Int32)) hx hb dX6_takeOver_81 (by decide) ?_
  refine lv_bipush (v := (6 : Int32)) hx hb dX6_takeOver_82 (by decide) ?_
  refine z_copyi (f := (Rows_stamps Sp1)) (g := (Rows_stamps St)) (w2 := vRows ht cy (Rows_ring Sp1) (Rows_rowCount Sp1) (Rows_crash Sp1) (Rows_nextStamp Sp1) (Rows_count Sp1) (Rows_lostSlots Sp1) (Rows_runningStamps Sp1) (Rows_doneStamps Sp1) (Rows_goneStamps Sp1) (va_cpy (Rows_stamps Sp1) (Rows_stamps St) (0 : Int32).toNatClampNeg (0 : Int32).toNatClampNeg (6 : Int32).toNatClampNeg) (Rows_held St) (Rows_rowsOf St) (Rows_values St) (Rows_froms St) (Rows_tills St) (Rows_made St) ++ (wRows hp1 cy Sp1)) hx hb (hml.trans hl.1.symm) hown (hts _ q3_178) (hts _ q3_180) (hts _ q3_179) (hts _ q1_17) hK hP hD hS 9 1 0 0 rfl rfl rfl rfl rfl (by decide) (by decide) (by decide) (by decide) (by decide) (fun _ _ => rfl) (by decide) (Nat.le_of_ble_eq_true rfl) dX6_takeOver_84 rfl (fun H locs hP hD hS => ?_)
  refine lv_aload_n hx hb dX6_takeOver_87 rfl (lv_at hl 1 rfl) ?_
  refine va_get (D := D) (ci := 3) (v := .ref (hp1 2)) (C := RX6) (T := TX6) (N := 16) hx hb hts in_X6 hown hK hP 8 rfl rfl 10 (by decide) (hts _ q1_68) (fun _ h9 => h9) rfl dX6_takeOver_88 ?_
  refine lv_iconst (v := (0 : Int32)) hx hb dX6_takeOver_91 (by decide) ?_
  refine lv_aload_n hx hb dX6_takeOver_92 rfl (lv_at hl 0 rfl) ?_
  refine va_get (D := D) (ci := 3) (v := .ref (ht 2)) (C := RX6) (T := TX6) (N := 16) hx hb hts in_X6 hown hK hP 0 rfl rfl 10 (by decide) (hts _ q1_68) (fun _ h9 => h9) rfl dX6_takeOver_93 ?_
  refine lv_iconst (v := (0 : Int32)) hx hb dX6_takeOver_96 (by decide) ?_
  refine lv_bipush (v := (6 : Int32)) hx hb dX6_takeOver_97 (by decide) ?_
  refine z_copyl (f := (Rows_held Sp1)) (g := (Rows_held St)) (w2 := vRows ht cy (Rows_ring Sp1) (Rows_rowCount Sp1) (Rows_crash Sp1) (Rows_nextStamp Sp1) (Rows_count Sp1) (Rows_lostSlots Sp1) (Rows_runningStamps Sp1) (Rows_doneStamps Sp1) (Rows_goneStamps Sp1) (va_cpy (Rows_stamps Sp1) (Rows_stamps St) (0 : Int32).toNatClampNeg (0 : Int32).toNatClampNeg (6 : Int32).toNatClampNeg) (va_cpy (Rows_held Sp1) (Rows_held St) (0 : Int32).toNatClampNeg (0 : Int32).toNatClampNeg (6 : Int32).toNatClampNeg) (Rows_rowsOf St) (Rows_values St) (Rows_froms St) (Rows_tills St) (Rows_made St) ++ (wRows hp1 cy Sp1)) hx hb (hml.trans hl.1.symm) hown (hts _ q3_178) (hts _ q3_180) (hts _ q3_179) (hts _ q1_17) hK hP hD hS 10 2 1 1 rfl rfl rfl rfl rfl (by decide) (by decide) (by decide) (by decide) (by decide) (fun _ _ => rfl) (by decide) (Nat.le_of_ble_eq_true rfl) dX6_takeOver_99 rfl (fun H locs hP hD hS => ?_)
  refine lv_aload_n hx hb dX6_takeOver_102 rfl (lv_at hl 1 rfl) ?_
  refine va_get (D := D) (ci := 3) (v := .ref (hp1 3)) (C := RX6) (T := TX6) (N := 16) hx hb hts in_X6 hown hK hP 8 rfl rfl 11 (by decide) (hts _ q1_69) (fun _ h9 => h9) rfl dX6_takeOver_103 ?_
  refine lv_iconst (v := (0 : Int32)) hx hb dX6_takeOver_106 (by decide) ?_
  refine lv_aload_n hx hb dX6_takeOver_107 rfl (lv_at hl 0 rfl) ?_
  refine va_get (D := D) (ci := 3) (v := .ref (ht 3)) (C := RX6) (T := TX6) (N := 16) hx hb hts in_X6 hown hK hP 0 rfl rfl 11 (by decide) (hts _ q1_69) (fun _ h9 => h9) rfl dX6_takeOver_108 ?_
  refine lv_iconst (v := (0 : Int32)) hx hb dX6_takeOver_111 (by decide) ?_
  refine lv_bipush (v := (48 : Int32)) hx hb dX6_takeOver_112 (by decide) ?_
  refine z_copyi (f := (Rows_rowsOf Sp1)) (g := (Rows_rowsOf St)) (w2 := vRows ht cy (Rows_ring Sp1) (Rows_rowCount Sp1) (Rows_crash Sp1) (Rows_nextStamp Sp1) (Rows_count Sp1) (Rows_lostSlots Sp1) (Rows_runningStamps Sp1) (Rows_doneStamps Sp1) (Rows_goneStamps Sp1) (va_cpy (Rows_stamps Sp1) (Rows_stamps St) (0 : Int32).toNatClampNeg (0 : Int32).toNatClampNeg (6 : Int32).toNatClampNeg) (va_cpy (Rows_held Sp1) (Rows_held St) (0 : Int32).toNatClampNeg (0 : Int32).toNatClampNeg (6 : Int32).toNatClampNeg) (va_cpy (Rows_rowsOf Sp1) (Rows_rowsOf St) (0 : Int32).toNatClampNeg (0 : Int32).toNatClampNeg (48 : Int32).toNatClampNeg) (Rows_values St) (Rows_froms St) (Rows_tills St) (Rows_made St) ++ (wRows hp1 cy Sp1)) hx hb (hml.trans hl.1.symm) hown (hts _ q3_178) (hts _ q3_180) (hts _ q3_179) (hts _ q1_17) hK hP hD hS 11 3 0 0 rfl rfl rfl rfl rfl (by decide) (by decide) (by decide) (by decide) (by decide) (fun _ _ => rfl) (by decide) (Nat.le_of_ble_eq_true rfl) dX6_takeOver_114 rfl (fun H locs hP hD hS => ?_)
  refine lv_aload_n hx hb dX6_takeOver_117 rfl (lv_at hl 1 rfl) ?_
  refine va_get (D := D) (ci := 3) (v := .ref (hp1 4)) (C := RX6) (T := TX6) (N := 16) hx hb hts in_X6 hown hK hP 8 rfl rfl 12 (by decide) (hts _ q1_70) (fun _ h9 => h9) rfl dX6_takeOver_118 ?_
  refine lv_iconst (v := (0 : Int32)) hx hb dX6_takeOver_121 (by decide) ?_
  refine lv_aload_n hx hb dX6_takeOver_122 rfl (lv_at hl 0 rfl) ?_
  refine va_get (D := D) (ci := 3) (v := .ref (ht 4)) (C := RX6) (T := TX6) (N := 16) hx hb hts in_X6 hown hK hP 0 rfl rfl 12 (by decide) (hts _ q1_70) (fun _ h9 => h9) rfl dX6_takeOver_123 ?_
  refine lv_iconst (v := (0 : Int32)) hx hb dX6_takeOver_126 (by decide) ?_
  refine lv_bipush (v := (48 : Int32)) hx hb dX6_takeOver_127 (by decide) ?_
  refine z_copyi (f := (Rows_values Sp1)) (g := (Rows_values St)) (w2 := vRows ht cy (Rows_ring Sp1) (Rows_rowCount Sp1) (Rows_crash Sp1) (Rows_nextStamp Sp1) (Rows_count Sp1) (Rows_lostSlots Sp1) (Rows_runningStamps Sp1) (Rows_doneStamps Sp1) (Rows_goneStamps Sp1) (va_cpy (Rows_stamps Sp1) (Rows_stamps St) (0 : Int32).toNatClampNeg (0 : Int32).toNatClampNeg (6 : Int32).toNatClampNeg) (va_cpy (Rows_held Sp1) (Rows_held St) (0 : Int32).toNatClampNeg (0 : Int32).toNatClampNeg (6 : Int32).toNatClampNeg) (va_cpy (Rows_rowsOf Sp1) (Rows_rowsOf St) (0 : Int32).toNatClampNeg (0 : Int32).toNatClampNeg (48 : Int32).toNatClampNeg) (va_cpy (Rows_values Sp1) (Rows_values St) (0 : Int32).toNatClampNeg (0 : Int32).toNatClampNeg (48 : Int32).toNatClampNeg) (Rows_froms St) (Rows_tills St) (Rows_made St) ++ (wRows hp1 cy Sp1)) hx hb (hml.trans hl.1.symm) hown (hts _ q3_178) (hts _ q3_180) (hts _ q3_179) (hts _ q1_17) hK hP hD hS 12 4 0 0 rfl rfl rfl rfl rfl (by decide) (by decide) (by decide) (by decide) (by decide) (fun _ _ => rfl) (by decide) (Nat.le_of_ble_eq_true rfl) dX6_takeOver_129 rfl (fun H locs hP hD hS => ?_)
  refine lv_aload_n hx hb dX6_takeOver_132 rfl (lv_at hl 1 rfl) ?_
  refine va_get (D := D) (ci := 3) (v := .ref (hp1 5)) (C := RX6) (T := TX6) (N := 16) hx hb hts in_X6 hown hK hP 8 rfl rfl 13 (by decide) (hts _ q1_71) (fun _ h9 => h9) rfl dX6_takeOver_133 ?_
  refine lv_iconst (v := (0 : Int32)) hx hb dX6_takeOver_136 (by decide) ?_
  refine lv_aload_n hx hb dX6_takeOver_137 rfl (lv_at hl 0 rfl) ?_
  refine va_get (D := D) (ci := 3) (v := .ref (ht 5)) (C := RX6) (T := TX6) (N := 16) hx hb hts in_X6 hown hK hP 0 rfl rfl 13 (by decide) (hts _ q1_71) (fun _ h9 => h9) rfl dX6_takeOver_138 ?_
  refine lv_iconst (v := (0 : Int32)) hx hb dX6_takeOver_141 (by decide) ?_
  refine lv_bipush (v := (48 : Int32)) hx hb dX6_takeOver_142 (by decide) ?_
  refine z_copyi (f := (Rows_froms Sp1)) (g := (Rows_froms St)) (w2 := vRows ht cy (Rows_ring Sp1) (Rows_rowCount Sp1) (Rows_crash Sp1) (Rows_nextStamp Sp1) (Rows_count Sp1) (Rows_lostSlots Sp1) (Rows_runningStamps Sp1) (Rows_doneStamps Sp1) (Rows_goneStamps Sp1) (va_cpy (Rows_stamps Sp1) (Rows_stamps St) (0 : Int32).toNatClampNeg (0 : Int32).toNatClampNeg (6 : Int32).toNatClampNeg) (va_cpy (Rows_held Sp1) (Rows_held St) (0 : Int32).toNatClampNeg (0 : Int32).toNatClampNeg (6 : Int32).toNatClampNeg) (va_cpy (Rows_rowsOf Sp1) (Rows_rowsOf St) (0 : Int32).toNatClampNeg (0 : Int32).toNatClampNeg (48 : Int32).toNatClampNeg) (va_cpy (Rows_values Sp1) (Rows_values St) (0 : Int32).toNatClampNeg (0 : Int32).toNatClampNeg (48 : Int32).toNatClampNeg) (va_cpy (Rows_froms Sp1) (Rows_froms St) (0 : Int32).toNatClampNeg (0 : Int32).toNatClampNeg (48 : Int32).toNatClampNeg) (Rows_tills St) (Rows_made St) ++ (wRows hp1 cy Sp1)) hx hb (hml.trans hl.1.symm) hown (hts _ q3_178) (hts _ q3_180) (hts _ q3_179) (hts _ q1_17) hK hP hD hS 13 5 0 0 rfl rfl rfl rfl rfl (by decide) (by decide) (by decide) (by decide) (by decide) (fun _ _ => rfl) (by decide) (Nat.le_of_ble_eq_true rfl) dX6_takeOver_144 rfl (fun H locs hP hD hS => ?_)
  refine lv_aload_n hx hb dX6_takeOver_147 rfl (lv_at hl 1 rfl) ?_
  refine va_get (D := D) (ci := 3) (v := .ref (hp1 6)) (C := RX6) (T := TX6) (N := 16) hx hb hts in_X6 hown hK hP 8 rfl rfl 14 (by decide) (hts _ q1_72) (fun _ h9 => h9) rfl dX6_takeOver_148 ?_
  refine lv_iconst (v := (0 : Int32)) hx hb dX6_takeOver_151 (by decide) ?_
  refine lv_aload_n hx hb dX6_takeOver_152 rfl (lv_at hl 0 rfl) ?_
  refine va_get (D := D) (ci := 3) (v := .ref (ht 6)) (C := RX6) (T := TX6) (N := 16) hx hb hts in_X6 hown hK hP 0 rfl rfl 14 (by decide) (hts _ q1_72) (fun _ h9 => h9) rfl dX6_takeOver_153 ?_
  refine lv_iconst (v := (0 : Int32)) hx hb dX6_takeOver_156 (by decide) ?_
  refine lv_bipush (v := (48 : Int32)) hx hb dX6_takeOver_157 (by decide) ?_
  refine z_copyi (f := (Rows_tills Sp1)) (g := (Rows_tills St)) (w2 := vRows ht cy (Rows_ring Sp1) (Rows_rowCount Sp1) (Rows_crash Sp1) (Rows_nextStamp Sp1) (Rows_count Sp1) (Rows_lostSlots Sp1) (Rows_runningStamps Sp1) (Rows_doneStamps Sp1) (Rows_goneStamps Sp1) (va_cpy (Rows_stamps Sp1) (Rows_stamps St) (0 : Int32).toNatClampNeg (0 : Int32).toNatClampNeg (6 : Int32).toNatClampNeg) (va_cpy (Rows_held Sp1) (Rows_held St) (0 : Int32).toNatClampNeg (0 : Int32).toNatClampNeg (6 : Int32).toNatClampNeg) (va_cpy (Rows_rowsOf Sp1) (Rows_rowsOf St) (0 : Int32).toNatClampNeg (0 : Int32).toNatClampNeg (48 : Int32).toNatClampNeg) (va_cpy (Rows_values Sp1) (Rows_values St) (0 : Int32).toNatClampNeg (0 : Int32).toNatClampNeg (48 : Int32).toNatClampNeg) (va_cpy (Rows_froms Sp1) (Rows_froms St) (0 : Int32).toNatClampNeg (0 : Int32).toNatClampNeg (48 : Int32).toNatClampNeg) (va_cpy (Rows_tills Sp1) (Rows_tills St) (0 : Int32).toNatClampNeg (0 : Int32).toNatClampNeg (48 : Int32).toNatClampNeg) (Rows_made St) ++ (wRows hp1 cy Sp1)) hx hb (hml.trans hl.1.symm) hown (hts _ q3_178) (hts _ q3_180) (hts _ q3_179) (hts _ q1_17) hK hP hD hS 14 6 0 0 rfl rfl rfl rfl rfl (by decide) (by decide) (by decide) (by decide) (by decide) (fun _ _ => rfl) (by decide) (Nat.le_of_ble_eq_true rfl) dX6_takeOver_159 rfl (fun H locs hP hD hS => ?_)
  refine lv_aload_n hx hb dX6_takeOver_162 rfl (lv_at hl 1 rfl) ?_
  refine va_get (D := D) (ci := 3) (v := .ref (hp1 7)) (C := RX6) (T := TX6) (N := 16) hx hb hts in_X6 hown hK hP 8 rfl rfl 15 (by decide) (hts _ q1_73) (fun _ h9 => h9) rfl dX6_takeOver_163 ?_
  refine lv_iconst (v := (0 : Int32)) hx hb dX6_takeOver_166 (by decide) ?_
  refine lv_aload_n hx hb dX6_takeOver_167 rfl (lv_at hl 0 rfl) ?_
  refine va_get (D := D) (ci := 3) (v := .ref (ht 7)) (C := RX6) (T := TX6) (N := 16) hx hb hts in_X6 hown hK hP 0 rfl rfl 15 (by decide) (hts _ q1_73) (fun _ h9 => h9) rfl dX6_takeOver_168 ?_
  refine lv_iconst (v := (0 : Int32)) hx hb dX6_takeOver_171 (by decide) ?_
  refine lv_bipush (v := (48 : Int32)) hx hb dX6_takeOver_172 (by decide) ?_
  refine z_copyi (f := (Rows_made Sp1)) (g := (Rows_made St)) (w2 := vRows ht cy (Rows_ring Sp1) (Rows_rowCount Sp1) (Rows_crash Sp1) (Rows_nextStamp Sp1) (Rows_count Sp1) (Rows_lostSlots Sp1) (Rows_runningStamps Sp1) (Rows_doneStamps Sp1) (Rows_goneStamps Sp1) (va_cpy (Rows_stamps Sp1) (Rows_stamps St) (0 : Int32).toNatClampNeg (0 : Int32).toNatClampNeg (6 : Int32).toNatClampNeg) (va_cpy (Rows_held Sp1) (Rows_held St) (0 : Int32).toNatClampNeg (0 : Int32).toNatClampNeg (6 : Int32).toNatClampNeg) (va_cpy (Rows_rowsOf Sp1) (Rows_rowsOf St) (0 : Int32).toNatClampNeg (0 : Int32).toNatClampNeg (48 : Int32).toNatClampNeg) (va_cpy (Rows_values Sp1) (Rows_values St) (0 : Int32).toNatClampNeg (0 : Int32).toNatClampNeg (48 : Int32).toNatClampNeg) (va_cpy (Rows_froms Sp1) (Rows_froms St) (0 : Int32).toNatClampNeg (0 : Int32).toNatClampNeg (48 : Int32).toNatClampNeg) (va_cpy (Rows_tills Sp1) (Rows_tills St) (0 : Int32).toNatClampNeg (0 : Int32).toNatClampNeg (48 : Int32).toNatClampNeg) (va_cpy (Rows_made Sp1) (Rows_made St) (0 : Int32).toNatClampNeg (0 : Int32).toNatClampNeg (48 : Int32).toNatClampNeg) ++ (wRows hp1 cy Sp1)) hx hb (hml.trans hl.1.symm) hown (hts _ q3_178) (hts _ q3_180) (hts _ q3_179) (hts _ q1_17) hK hP hD hS 15 7 0 0 rfl rfl rfl rfl rfl (by decide) (by decide) (by decide) (by decide) (by decide) (fun _ _ => rfl) (by decide) (Nat.le_of_ble_eq_true rfl) dX6_takeOver_174 rfl (fun H locs hP hD hS => ?_)
  obtain rfl := Option.some.inj hf
  rw [← wRows_mk ht] at hP hD
  exact z_vret C hP hD hS dX6_takeOver_177
def f_X6_isStamp (St : SRows) (x1 : Int32) : Option (Int32) :=
  (if x1 < 0 then
    some (0 : Int32)
    else
    (if (Rows_ring St) ≤ x1 then
      some (0 : Int32)
      else
      some (1 : Int32)))
set_option maxHeartbeats 4000000 in
set_option maxRecDepth 100000 in
theorem c_X6_isStamp (l : Launch) (D : va_G) (cy : Nat → ClassId) (ht : Nat → Nat) (St : SRows) (x1 : Int32) (r : Int32) (hf : f_X6_isStamp St x1 = some r) : zCI l yX6_isStamp cX6_isStamp 2 (some FieldType.boolean) 0 0 D (zty cy) [.ref (ht 0), .int x1] (wRows ht cy St) (wRows ht cy St) r := by
  refine zCI_of (by decide +kernel) (Nat.le_of_ble_eq_true rfl) ?_
  intro p e s m below meth c A ls C hP hD hS hl
  generalize hargs : ([.ref (ht 0), .int x1] : List Value).toArray = args at C ⊢
  have C : zX p s m meth c cX6_isStamp 2 args RX6 (some FieldType.boolean) A D (zty cy) := C
  obtain ⟨hx, hb, hr, hts, hown, hlocks, hml, hA, hK⟩ := id C
  have hl : lv_has ls 2 [(0, .ref (ht 0)), (1, .int x1)] := hl
  generalize hH : s.heap = H at hP ⊢
  have hS : va_S A s.heap H [] := by rw [← hH]; exact hS
  generalize ([] : List Loc) = locs at hS ⊢
  refine lv_iload_n hx hb dX6_isStamp_0 rfl (lv_at hl 1 rfl) ?_
  refine z_if_lt (tgt := 16) hx hb dX6_isStamp_1 (by decide) hf (fun hf => ?_) (fun hf => ?_)
  · refine lv_iconst (v := (0 : Int32)) hx hb dX6_isStamp_16 (by decide) ?_
    obtain rfl := Option.some.inj hf
    exact z_zret (v := (0 : Int32)) C rfl hP hD hS dX6_isStamp_17
  · refine lv_iload_n hx hb dX6_isStamp_4 rfl (lv_at hl 1 rfl) ?_
    refine lv_aload_n hx hb dX6_isStamp_5 rfl (lv_at hl 0 rfl) ?_
    refine va_get (D := D) (ci := 3) (v := .int (Rows_ring St)) (C := RX6) (T := TX6) (N := 16) hx hb hts in_X6 hown hK hP 0 rfl rfl 0 (by decide) (hts _ q1_49) (fun _ h9 => h9) rfl dX6_isStamp_6 ?_
    refine z_icmp_ge (tgt := 16) hx hb dX6_isStamp_9 (by decide) hf (fun hf => ?_) (fun hf => ?_)
    · refine lv_iconst (v := (0 : Int32)) hx hb dX6_isStamp_16 (by decide) ?_
      obtain rfl := Option.some.inj hf
      exact z_zret (v := (0 : Int32)) C rfl hP hD hS dX6_isStamp_17
    · refine lv_iconst (v := (1 : Int32)) hx hb dX6_isStamp_12 (by decide) ?_
      refine lv_goto (tgt := 17) hx hb dX6_isStamp_13 (by decide) ?_
      obtain rfl := Option.some.inj hf
      exact z_zret (v := (1 : Int32)) C rfl hP hD hS dX6_isStamp_17
def f_X6_isRow (St : SRows) (x1 : Int32) : Option (Int32) :=
  (if x1 < 0 then
    some (0 : Int32)
    else
    (if (Rows_rowCount St) ≤ x1 then
      some (0 : Int32)
      else
      some (1 : Int32)))
set_option maxHeartbeats 4000000 in
set_option maxRecDepth 100000 in
theorem c_X6_isRow (l : Launch) (D : va_G) (cy : Nat → ClassId) (ht : Nat → Nat) (St : SRows) (x1 : Int32) (r : Int32) (hf : f_X6_isRow St x1 = some r) : zCI l yX6_isRow cX6_isRow 2 (some FieldType.boolean) 0 0 D (zty cy) [.ref (ht 0), .int x1] (wRows ht cy St) (wRows ht cy St) r := by
  refine zCI_of (by decide +kernel) (Nat.le_of_ble_eq_true rfl) ?_
  intro p e s m below meth c A ls C hP hD hS hl
  generalize hargs : ([.ref (ht 0), .int x1] : List Value).toArray = args at C ⊢
  have C : zX p s m meth c cX6_isRow 2 args RX6 (some FieldType.boolean) A D (zty cy) := C
  obtain ⟨hx, hb, hr, hts, hown, hlocks, hml, hA, hK⟩ := id C
  have hl : lv_has ls 2 [(0, .ref (ht 0)), (1, .int x1)] := hl
  generalize hH : s.heap = H at hP ⊢
  have hS : va_S A s.heap H [] := by rw [← hH]; exact hS
  generalize ([] : List Loc) = locs at hS ⊢
  refine lv_iload_n hx hb dX6_isRow_0 rfl (lv_at hl 1 rfl) ?_
  refine z_if_lt (tgt := 16) hx hb dX6_isRow_1 (by decide) hf (fun hf => ?_) (fun hf => ?_)
  · refine lv_iconst (v := (0 : Int32)) hx hb dX6_isRow_16 (by decide) ?_
    obtain rfl := Option.some.inj hf
    exact z_zret (v := (0 : Int32)) C rfl hP hD hS dX6_isRow_17
  · refine lv_iload_n hx hb dX6_isRow_4 rfl (lv_at hl 1 rfl) ?_
    refine lv_aload_n hx hb dX6_isRow_5 rfl (lv_at hl 0 rfl) ?_
    refine va_get (D := D) (ci := 3) (v := .int (Rows_rowCount St)) (C := RX6) (T := TX6) (N := 16) hx hb hts in_X6 hown hK hP 0 rfl rfl 1 (by decide) (hts _ q1_52) (fun _ h9 => h9) rfl dX6_isRow_6 ?_
    refine z_icmp_ge (tgt := 16) hx hb dX6_isRow_9 (by decide) hf (fun hf => ?_) (fun hf => ?_)
    · refine lv_iconst (v := (0 : Int32)) hx hb dX6_isRow_16 (by decide) ?_
      obtain rfl := Option.some.inj hf
      exact z_zret (v := (0 : Int32)) C rfl hP hD hS dX6_isRow_17
    · refine lv_iconst (v := (1 : Int32)) hx hb dX6_isRow_12 (by decide) ?_
      refine lv_goto (tgt := 17) hx hb dX6_isRow_13 (by decide) ?_
      obtain rfl := Option.some.inj hf
      exact z_zret (v := (1 : Int32)) C rfl hP hD hS dX6_isRow_17
def f_X6_isVersion (St : SRows) (x1 : Int32) : Option (Int32) :=
  (if x1 < 0 then
    some (0 : Int32)
    else
    (if (48 : Int32) ≤ x1 then
      some (0 : Int32)
      else
      (if zib x1 48 then (if ((Rows_rowsOf St) x1.toNatClampNeg) = (-2 : Int32) then
          some (0 : Int32)
          else
          some (1 : Int32)) else none)))
set_option maxHeartbeats 4000000 in
set_option maxRecDepth 100000 in
theorem c_X6_isVersion (l : Launch) (D : va_G) (cy : Nat → ClassId) (ht : Nat → Nat) (St : SRows) (x1 : Int32) (r : Int32) (hf : f_X6_isVersion St x1 = some r) : zCI l yX6_isVersion cX6_isVersion 2 (some FieldType.boolean) 0 0 D (zty cy) [.ref (ht 0), .int x1] (wRows ht cy St) (wRows ht cy St) r := by
  refine zCI_of (by decide +kernel) (Nat.le_of_ble_eq_true rfl) ?_
  intro p e s m below meth c A ls C hP hD hS hl
  generalize hargs : ([.ref (ht 0), .int x1] : List Value).toArray = args at C ⊢
  have C : zX p s m meth c cX6_isVersion 2 args RX6 (some FieldType.boolean) A D (zty cy) := C
  obtain ⟨hx, hb, hr, hts, hown, hlocks, hml, hA, hK⟩ := id C
  have hl : lv_has ls 2 [(0, .ref (ht 0)), (1, .int x1)] := hl
  generalize hH : s.heap = H at hP ⊢
  have hS : va_S A s.heap H [] := by rw [← hH]; exact hS
  generalize ([] : List Loc) = locs at hS ⊢
  refine lv_iload_n hx hb dX6_isVersion_0 rfl (lv_at hl 1 rfl) ?_
  refine z_if_lt (tgt := 25) hx hb dX6_isVersion_1 (by decide) hf (fun hf => ?_) (fun hf => ?_)
  · refine lv_iconst (v := (0 : Int32)) hx hb dX6_isVersion_25 (by decide) ?_
    obtain rfl := Option.some.inj hf
    exact z_zret (v := (0 : Int32)) C rfl hP hD hS dX6_isVersion_26
  · refine lv_iload_n hx hb dX6_isVersion_4 rfl (lv_at hl 1 rfl) ?_
    refine lv_bipush (v := (48 : Int32)) hx hb dX6_isVersion_5 (by decide) ?_
    refine z_icmp_ge (tgt := 25) hx hb dX6_isVersion_7 (by decide) hf (fun hf => ?_) (fun hf => ?_)
    · refine lv_iconst (v := (0 : Int32)) hx hb dX6_isVersion_25 (by decide) ?_
      obtain rfl := Option.some.inj hf
      exact z_zret (v := (0 : Int32)) C rfl hP hD hS dX6_isVersion_26
    · refine lv_aload_n hx hb dX6_isVersion_10 rfl (lv_at hl 0 rfl) ?_
      refine va_get (D := D) (ci := 3) (v := .ref (ht 3)) (C := RX6) (T := TX6) (N := 16) hx hb hts in_X6 hown hK hP 0 rfl rfl 11 (by decide) (hts _ q1_69) (fun _ h9 => h9) rfl dX6_isVersion_11 ?_
      refine lv_iload_n hx hb dX6_isVersion_14 rfl (lv_at hl 1 rfl) ?_
      refine z_iald (f := (Rows_rowsOf St)) hx hb hK hP 3 0 rfl rfl dX6_isVersion_15 hf (fun hf => ?_)
      refine lv_bipush (v := (-2 : Int32)) hx hb dX6_isVersion_16 (by decide) ?_
      refine z_icmp_eq (tgt := 25) hx hb dX6_isVersion_18 (by decide) hf (fun hf => ?_) (fun hf => ?_)
      · refine lv_iconst (v := (0 : Int32)) hx hb dX6_isVersion_25 (by decide) ?_
        obtain rfl := Option.some.inj hf
        exact z_zret (v := (0 : Int32)) C rfl hP hD hS dX6_isVersion_26
      · refine lv_iconst (v := (1 : Int32)) hx hb dX6_isVersion_21 (by decide) ?_
        refine lv_goto (tgt := 26) hx hb dX6_isVersion_22 (by decide) ?_
        obtain rfl := Option.some.inj hf
        exact z_zret (v := (1 : Int32)) C rfl hP hD hS dX6_isVersion_26
def f_X6_runs (St : SRows) (x1 : Int32) : Option (Int32) :=
  (if x1 < 0 then
    some (0 : Int32)
    else
    (if (6 : Int32) ≤ x1 then
      some (0 : Int32)
      else
      (if zib x1 6 then (if ((Rows_stamps St) x1.toNatClampNeg) = (-2 : Int32) then
          some (0 : Int32)
          else
          some (1 : Int32)) else none)))
set_option maxHeartbeats 4000000 in
set_option maxRecDepth 100000 in
theorem c_X6_runs (l : Launch) (D : va_G) (cy : Nat → ClassId) (ht : Nat → Nat) (St : SRows) (x1 : Int32) (r : Int32) (hf : f_X6_runs St x1 = some r) : zCI l yX6_runs cX6_runs 2 (some FieldType.boolean) 0 0 D (zty cy) [.ref (ht 0), .int x1] (wRows ht cy St) (wRows ht cy St) r := by
  refine zCI_of (by decide +kernel) (Nat.le_of_ble_eq_true rfl) ?_
  intro p e s m below meth c A ls C hP hD hS hl
  generalize hargs : ([.ref (ht 0), .int x1] : List Value).toArray = args at C ⊢
  have C : zX p s m meth c cX6_runs 2 args RX6 (some FieldType.boolean) A D (zty cy) := C
  obtain ⟨hx, hb, hr, hts, hown, hlocks, hml, hA, hK⟩ := id C
  have hl : lv_has ls 2 [(0, .ref (ht 0)), (1, .int x1)] := hl
  generalize hH : s.heap = H at hP ⊢
  have hS : va_S A s.heap H [] := by rw [← hH]; exact hS
  generalize ([] : List Loc) = locs at hS ⊢
  refine lv_iload_n hx hb dX6_runs_0 rfl (lv_at hl 1 rfl) ?_
  refine z_if_lt (tgt := 25) hx hb dX6_runs_1 (by decide) hf (fun hf => ?_) (fun hf => ?_)
  · refine lv_iconst (v := (0 : Int32)) hx hb dX6_runs_25 (by decide) ?_
    obtain rfl := Option.some.inj hf
    exact z_zret (v := (0 : Int32)) C rfl hP hD hS dX6_runs_26
  · refine lv_iload_n hx hb dX6_runs_4 rfl (lv_at hl 1 rfl) ?_
    refine lv_bipush (v := (6 : Int32)) hx hb dX6_runs_5 (by decide) ?_
    refine z_icmp_ge (tgt := 25) hx hb dX6_runs_7 (by decide) hf (fun hf => ?_) (fun hf => ?_)
    · refine lv_iconst (v := (0 : Int32)) hx hb dX6_runs_25 (by decide) ?_
      obtain rfl := Option.some.inj hf
      exact z_zret (v := (0 : Int32)) C rfl hP hD hS dX6_runs_26
    · refine lv_aload_n hx hb dX6_runs_10 rfl (lv_at hl 0 rfl) ?_
      refine va_get (D := D) (ci := 3) (v := .ref (ht 1)) (C := RX6) (T := TX6) (N := 16) hx hb hts in_X6 hown hK hP 0 rfl rfl 9 (by decide) (hts _ q1_67) (fun _ h9 => h9) rfl dX6_runs_11 ?_
      refine lv_iload_n hx hb dX6_runs_14 rfl (lv_at hl 1 rfl) ?_
      refine z_iald (f := (Rows_stamps St)) hx hb hK hP 1 0 rfl rfl dX6_runs_15 hf (fun hf => ?_)
      refine lv_bipush (v := (-2 : Int32)) hx hb dX6_runs_16 (by decide) ?_
      refine z_icmp_eq (tgt := 25) hx hb dX6_runs_18 (by decide) hf (fun hf => ?_) (fun hf => ?_)
      · refine lv_iconst (v := (0 : Int32)) hx hb dX6_runs_25 (by decide) ?_
        obtain rfl := Option.some.inj hf
        exact z_zret (v := (0 : Int32)) C rfl hP hD hS dX6_runs_26
      · refine lv_iconst (v := (1 : Int32)) hx hb dX6_runs_21 (by decide) ?_
        refine lv_goto (tgt := 26) hx hb dX6_runs_22 (by decide) ?_
        obtain rfl := Option.some.inj hf
        exact z_zret (v := (1 : Int32)) C rfl hP hD hS dX6_runs_26
def f_X6_bitOf (x0 : Int32) : Option (Int64) :=
  (if 0 ≤ x0 then
    some (jlshl (1 : Int64) x0)
    else
    some (0 : Int64))
set_option maxHeartbeats 4000000 in
set_option maxRecDepth 100000 in
theorem c_X6_bitOf (l : Launch) (D : va_G) (cy : Nat → ClassId) (x0 : Int32) (r : Int64) (hf : f_X6_bitOf x0 = some r) : zCL l yX6_bitOf cX6_bitOf 1 (some FieldType.long) 0 0 D (zty cy) [.int x0] ([]) ([]) r := by
  refine zCL_of (by decide +kernel) (Nat.le_of_ble_eq_true rfl) ?_
  intro p e s m below meth c A ls C hP hD hS hl
  generalize hargs : ([.int x0] : List Value).toArray = args at C ⊢
  have C : zX p s m meth c cX6_bitOf 1 args RX6 (some FieldType.long) A D (zty cy) := C
  obtain ⟨hx, hb, hr, hts, hown, hlocks, hml, hA, hK⟩ := id C
  have hl : lv_has ls 1 [(0, .int x0)] := hl
  generalize hH : s.heap = H at hP ⊢
  have hS : va_S A s.heap H [] := by rw [← hH]; exact hS
  generalize ([] : List Loc) = locs at hS ⊢
  refine lv_iload_n hx hb dX6_bitOf_0 rfl (lv_at hl 0 rfl) ?_
  refine z_if_ge (tgt := 8) hx hb dX6_bitOf_1 (by decide) hf (fun hf => ?_) (fun hf => ?_)
  · refine lv_lconst (v := (1 : Int64)) hx hb dX6_bitOf_8 (by decide) ?_
    refine lv_iload_n hx hb dX6_bitOf_9 rfl (lv_at hl 0 rfl) ?_
    refine lv_lshl (v := (jlshl (1 : Int64) x0)) hx hb dX6_bitOf_10 rfl ?_
    obtain rfl := Option.some.inj hf
    exact z_lret (v := (jlshl (1 : Int64) x0)) C hP hD hS dX6_bitOf_11
  · refine lv_lconst (v := (0 : Int64)) hx hb dX6_bitOf_4 (by decide) ?_
    refine lv_goto (tgt := 11) hx hb dX6_bitOf_5 (by decide) ?_
    obtain rfl := Option.some.inj hf
    exact z_lret (v := (0 : Int64)) C hP hD hS dX6_bitOf_11
def f_X6_holds (x0 : Int64) (x2 : Int32) : Option (Int32) :=
  (if x2 < 0 then
    some (0 : Int32)
    else
    (if (lg_cmp ((jlushr x0 x2) &&& (1 : Int64)) (0 : Int64)) = 0 then
      some (0 : Int32)
      else
      some (1 : Int32)))
set_option maxHeartbeats 4000000 in
set_option maxRecDepth 100000 in
theorem c_X6_holds (l : Launch) (D : va_G) (cy : Nat → ClassId) (x0 : Int64) (x2 : Int32) (r : Int32) (hf : f_X6_holds x0 x2 = some r) : zCI l yX6_holds cX6_holds 3 (some FieldType.boolean) 0 0 D (zty cy) [.long x0, .int x2] ([]) ([]) r := by
  refine zCI_of (by decide +kernel) (Nat.le_of_ble_eq_true rfl) ?_
  intro p e s m below meth c A ls C hP hD hS hl
  generalize hargs : ([.long x0, .int x2] : List Value).toArray = args at C ⊢
  have C : zX p s m meth c cX6_holds 3 args RX6 (some FieldType.boolean) A D (zty cy) := C
  obtain ⟨hx, hb, hr, hts, hown, hlocks, hml, hA, hK⟩ := id C
  have hl : lv_has ls 3 [(0, .long x0), (2, .int x2)] := hl
  generalize hH : s.heap = H at hP ⊢
  have hS : va_S A s.heap H [] := by rw [← hH]; exact hS
  generalize ([] : List Loc) = locs at hS ⊢
  refine lv_iload_n hx hb dX6_holds_0 rfl (lv_at hl 1 rfl) ?_
  refine z_if_lt (tgt := 18) hx hb dX6_holds_1 (by decide) hf (fun hf => ?_) (fun hf => ?_)
  · refine lv_iconst (v := (0 : Int32)) hx hb dX6_holds_18 (by decide) ?_
    obtain rfl := Option.some.inj hf
    exact z_zret (v := (0 : Int32)) C rfl hP hD hS dX6_holds_19
  · refine lv_lload_n hx hb dX6_holds_4 rfl (lv_at hl 0 rfl) ?_
    refine lv_iload_n hx hb dX6_holds_5 rfl (lv_at hl 1 rfl) ?_
    refine lv_lushr (v := (jlushr x0 x2)) hx hb dX6_holds_6 rfl ?_
    refine lv_lconst (v := (1 : Int64)) hx hb dX6_holds_7 (by decide) ?_
    refine lv_land hx hb dX6_holds_8 ?_
    refine lv_lconst (v := (0 : Int64)) hx hb dX6_holds_9 (by decide) ?_
    refine W.lcmp hx hb dX6_holds_10 ?_
    refine z_if_eq (tgt := 18) hx hb dX6_holds_11 (by decide) hf (fun hf => ?_) (fun hf => ?_)
    · refine lv_iconst (v := (0 : Int32)) hx hb dX6_holds_18 (by decide) ?_
      obtain rfl := Option.some.inj hf
      exact z_zret (v := (0 : Int32)) C rfl hP hD hS dX6_holds_19
    · refine lv_iconst (v := (1 : Int32)) hx hb dX6_holds_14 (by decide) ?_
      refine lv_goto (tgt := 19) hx hb dX6_holds_15 (by decide) ?_
      obtain rfl := Option.some.inj hf
      exact z_zret (v := (1 : Int32)) C rfl hP hD hS dX6_holds_19
def f_X6_ageOf (St : SRows) (x1 : Int32) : Option (Int32) :=
  (if (Rows_nextStamp St) < x1 then
    some (((Rows_nextStamp St) - x1) + (Rows_ring St))
    else
    some ((Rows_nextStamp St) - x1))
set_option maxHeartbeats 4000000 in
set_option maxRecDepth 100000 in
theorem c_X6_ageOf (l : Launch) (D : va_G) (cy : Nat → ClassId) (ht : Nat → Nat) (St : SRows) (x1 : Int32) (r : Int32) (hf : f_X6_ageOf St x1 = some r) : zCI l yX6_ageOf cX6_ageOf 2 (some FieldType.int) 0 0 D (zty cy) [.ref (ht 0), .int x1] (wRows ht cy St) (wRows ht cy St) r := by
  refine zCI_of (by decide +kernel) (Nat.le_of_ble_eq_true rfl) ?_
  intro p e s m below meth c A ls C hP hD hS hl
  generalize hargs : ([.ref (ht 0), .int x1] : List Value).toArray = args at C ⊢
  have C : zX p s m meth c cX6_ageOf 2 args RX6 (some FieldType.int) A D (zty cy) := C
  obtain ⟨hx, hb, hr, hts, hown, hlocks, hml, hA, hK⟩ := id C
  have hl : lv_has ls 2 [(0, .ref (ht 0)), (1, .int x1)] := hl
  generalize hH : s.heap = H at hP ⊢
  have hS : va_S A s.heap H [] := by rw [← hH]; exact hS
  generalize ([] : List Loc) = locs at hS ⊢
  refine lv_iload_n hx hb dX6_ageOf_0 rfl (lv_at hl 1 rfl) ?_
  refine lv_aload_n hx hb dX6_ageOf_1 rfl (lv_at hl 0 rfl) ?_
  refine va_get (D := D) (ci := 3) (v := .int (Rows_nextStamp St)) (C := RX6) (T := TX6) (N := 16) hx hb hts in_X6 hown hK hP 0 rfl rfl 3 (by decide) (hts _ q1_58) (fun _ h9 => h9) rfl dX6_ageOf_2 ?_
  refine z_icmp_gt (tgt := 17) hx hb dX6_ageOf_5 (by decide) hf (fun hf => ?_) (fun hf => ?_)
  · refine lv_aload_n hx hb dX6_ageOf_17 rfl (lv_at hl 0 rfl) ?_
    refine va_get (D := D) (ci := 3) (v := .int (Rows_nextStamp St)) (C := RX6) (T := TX6) (N := 16) hx hb hts in_X6 hown hK hP 0 rfl rfl 3 (by decide) (hts _ q1_58) (fun _ h9 => h9) rfl dX6_ageOf_18 ?_
    refine lv_iload_n hx hb dX6_ageOf_21 rfl (lv_at hl 1 rfl) ?_
    refine lv_isub hx hb dX6_ageOf_22 ?_
    refine lv_aload_n hx hb dX6_ageOf_23 rfl (lv_at hl 0 rfl) ?_
    refine va_get (D := D) (ci := 3) (v := .int (Rows_ring St)) (C := RX6) (T := TX6) (N := 16) hx hb hts in_X6 hown hK hP 0 rfl rfl 0 (by decide) (hts _ q1_49) (fun _ h9 => h9) rfl dX6_ageOf_24 ?_
    refine lv_iadd hx hb dX6_ageOf_27 ?_
    obtain rfl := Option.some.inj hf
    exact z_iret (v := (((Rows_nextStamp St) - x1) + (Rows_ring St))) C hP hD hS dX6_ageOf_28
  · refine lv_aload_n hx hb dX6_ageOf_8 rfl (lv_at hl 0 rfl) ?_
    refine va_get (D := D) (ci := 3) (v := .int (Rows_nextStamp St)) (C := RX6) (T := TX6) (N := 16) hx hb hts in_X6 hown hK hP 0 rfl rfl 3 (by decide) (hts _ q1_58) (fun _ h9 => h9) rfl dX6_ageOf_9 ?_
    refine lv_iload_n hx hb dX6_ageOf_12 rfl (lv_at hl 1 rfl) ?_
    refine lv_isub hx hb dX6_ageOf_13 ?_
    refine lv_goto (tgt := 28) hx hb dX6_ageOf_14 (by decide) ?_
    obtain rfl := Option.some.inj hf
    exact z_iret (v := ((Rows_nextStamp St) - x1)) C hP hD hS dX6_ageOf_28
def b_X6_olderThan_37 (St : SRows) (x1 : Int32) (k8 : Int64 → Int32 → Int32 → Option (Int64)) (v2 : Int64) (v5 : Int32) (u0 : Int32) : Option (Int64) :=
  (k8 (v2 ||| (jlshl (1 : Int64) u0)) u0 (v5 + (1 : Int32)))
set_option maxHeartbeats 4000000 in
set_option maxRecDepth 100000 in
theorem w_X6_olderThan_37 {p : Program} {e : Env} {s : State} {m : MethodId} {below : List Frame} {meth : Method} {c : Code} {A : Nat → Prop} {D : va_G} {cy : Nat → ClassId} {args : Array Value} {r : Int64} (l : Launch) (ht : Nat → Nat) (St : SRows) (x1 : Int32) {k8 : Int64 → Int32 → Int32 → Option (Int64)} (C : zX p s m meth c cX6_olderThan 6 args RX6 (some FieldType.long) A D (zty cy))
    (K8 : ∀ (v2 : Int64) (v4 : Int32) (v5 : Int32) (H : Heap) (locs : List Loc) (ls : Array Slot), k8 v2 v4 v5 = some r → va_P D vwCl (wRows ht cy St) H → va_D A (wRows ht cy St) → va_S A s.heap H locs → lv_has ls 6 [(0, .ref (ht 0)), (2, .long v2), (4, .int v4), (5, .int v5)] → W p l e (zRm 0 0) s m args below meth c H locs 0 0 (MQ below (zQL D (zty cy) A (wRows ht cy St) r) args s 0 0 A) (F0 m 8 ls [])) :
    ∀ (v2 : Int64) (v5 : Int32) (u0 : Int32) (H : Heap) (locs : List Loc) (ls : Array Slot), b_X6_olderThan_37 St x1 k8 v2 v5 u0 = some r → va_P D vwCl (wRows ht cy St) H → va_D A (wRows ht cy St) → va_S A s.heap H locs → lv_has ls 6 [(0, .ref (ht 0)), (2, .long v2), (5, .int v5)] → W p l e (zRm 0 0) s m args below meth c H locs 0 0 (MQ below (zQL D (zty cy) A (wRows ht cy St) r) args s 0 0 A) (F0 m 37 ls [.int u0]) := by
  obtain ⟨hx, hb, hr, hts, hown, hlocks, hml, hA, hK⟩ := id C
  intro v2 v5 u0 H locs ls hf hP hD hS hl
  refine lv_istore (lv' := [(4, .int u0), (0, .ref (ht 0)), (2, .long v2), (5, .int v5)]) hx hb dX6_olderThan_37 hl (by decide) rfl (fun ls hl => ?_)
  refine lv_lload_n hx hb dX6_olderThan_39 rfl (lv_at hl 2 rfl) ?_
  refine lv_lconst (v := (1 : Int64)) hx hb dX6_olderThan_40 (by decide) ?_
  refine lv_iload hx hb dX6_olderThan_41 (lv_at hl 0 rfl) ?_
  refine lv_lshl (v := (jlshl (1 : Int64) u0)) hx hb dX6_olderThan_43 rfl ?_
  refine lv_lor hx hb dX6_olderThan_44 ?_
  refine lv_lstore_n (lv' := [(2, .long (v2 ||| (jlshl (1 : Int64) u0))), (4, .int u0), (0, .ref (ht 0)), (5, .int v5)]) hx hb dX6_olderThan_45 rfl hl (by decide) rfl (fun ls hl => ?_)
  refine lv_iinc (v := (v5 + (1 : Int32))) (lv' := [(5, .int (v5 + (1 : Int32))), (2, .long (v2 ||| (jlshl (1 : Int64) u0))), (4, .int u0), (0, .ref (ht 0))]) hx hb dX6_olderThan_46 hl (k := 3) rfl rfl (by decide) rfl (fun ls hl => ?_)
  refine lv_goto (tgt := 8) hx hb dX6_olderThan_49 (by decide) ?_
  exact K8 (v2 ||| (jlshl (1 : Int64) u0)) u0 (v5 + (1 : Int32)) H locs ls hf hP hD hS (lv_sub hl [3, 1, 2, 0] rfl)
def b_X6_olderThan_8 (St : SRows) (x1 : Int32) (k8 : Int64 → Int32 → Int32 → Option (Int64)) (v2 : Int64) (v4 : Int32) (v5 : Int32) : Option (Int64) :=
  (if ((Rows_ring St) / (2 : Int32)) < v5 then
    some v2
    else
    (if v4 ≤ 0 then
      (b_X6_olderThan_37 St x1 k8 v2 v5 ((Rows_ring St) - (1 : Int32)))
      else
      (b_X6_olderThan_37 St x1 k8 v2 v5 (v4 - (1 : Int32)))))
set_option maxHeartbeats 4000000 in
set_option maxRecDepth 100000 in
theorem w_X6_olderThan_8 {p : Program} {e : Env} {s : State} {m : MethodId} {below : List Frame} {meth : Method} {c : Code} {A : Nat → Prop} {D : va_G} {cy : Nat → ClassId} {args : Array Value} {r : Int64} (l : Launch) (ht : Nat → Nat) (St : SRows) (x1 : Int32) (C : zX p s m meth c cX6_olderThan 6 args RX6 (some FieldType.long) A D (zty cy)) :
    ∀ (n : Nat) (v2 : Int64) (v4 : Int32) (v5 : Int32) (H : Heap) (locs : List Loc) (ls : Array Slot), zl3 (b_X6_olderThan_8 St x1) n v2 v4 v5 = some r → va_P D vwCl (wRows ht cy St) H → va_D A (wRows ht cy St) → va_S A s.heap H locs → lv_has ls 6 [(0, .ref (ht 0)), (2, .long v2), (4, .int v4), (5, .int v5)] → W p l e (zRm 0 0) s m args below meth c H locs 0 0 (MQ below (zQL D (zty cy) A (wRows ht cy St) r) args s 0 0 A) (F0 m 8 ls []) := by
  obtain ⟨hx, hb, hr, hts, hown, hlocks, hml, hA, hK⟩ := id C
  intro n
  induction n with
  | zero => intro v2 v4 v5 H locs ls hf; exact zno hf
  | succ n ih =>
    intro v2 v4 v5 H locs ls hf hP hD hS hl
    have hf : b_X6_olderThan_8 St x1 (zl3 (b_X6_olderThan_8 St x1) n) v2 v4 v5 = some r := hf
    have K8 := ih
    refine lv_iload hx hb dX6_olderThan_8 (lv_at hl 3 rfl) ?_
    refine lv_aload_n hx hb dX6_olderThan_10 rfl (lv_at hl 0 rfl) ?_
    refine va_get (D := D) (ci := 3) (v := .int (Rows_ring St)) (C := RX6) (T := TX6) (N := 16) hx hb hts in_X6 hown hK hP 0 rfl rfl 0 (by decide) (hts _ q1_49) (fun _ h9 => h9) rfl dX6_olderThan_11 ?_
    refine lv_iconst (v := (2 : Int32)) hx hb dX6_olderThan_14 (by decide) ?_
    refine lv_idiv hx hb dX6_olderThan_15 (by decide) ?_
    refine z_icmp_gt (tgt := 52) hx hb dX6_olderThan_16 (by decide) hf (fun hf => ?_) (fun hf => ?_)
    · refine lv_lload_n hx hb dX6_olderThan_52 rfl (lv_at hl 1 rfl) ?_
      obtain rfl := Option.some.inj hf
      exact z_lret (v := v2) C hP hD hS dX6_olderThan_53
    · refine lv_iload hx hb dX6_olderThan_19 (lv_at hl 2 rfl) ?_
      refine z_if_le (tgt := 31) hx hb dX6_olderThan_21 (by decide) hf (fun hf => ?_) (fun hf => ?_)
      · refine lv_aload_n hx hb dX6_olderThan_31 rfl (lv_at hl 0 rfl) ?_
        refine va_get (D := D) (ci := 3) (v := .int (Rows_ring St)) (C := RX6) (T := TX6) (N := 16) hx hb hts in_X6 hown hK hP 0 rfl rfl 0 (by decide) (hts _ q1_49) (fun _ h9 => h9) rfl dX6_olderThan_32 ?_
        refine lv_iconst (v := (1 : Int32)) hx hb dX6_olderThan_35 (by decide) ?_
        refine lv_isub hx hb dX6_olderThan_36 ?_
        exact w_X6_olderThan_37 l ht St x1 C K8 v2 v5 ((Rows_ring St) - (1 : Int32)) H locs ls hf hP hD hS (lv_sub hl [0, 1, 3] rfl)
      · refine lv_iload hx hb dX6_olderThan_24 (lv_at hl 2 rfl) ?_
        refine lv_iconst (v := (1 : Int32)) hx hb dX6_olderThan_26 (by decide) ?_
        refine lv_isub hx hb dX6_olderThan_27 ?_
        refine lv_goto (tgt := 37) hx hb dX6_olderThan_28 (by decide) ?_
        exact w_X6_olderThan_37 l ht St x1 C K8 v2 v5 (v4 - (1 : Int32)) H locs ls hf hP hD hS (lv_sub hl [0, 1, 3] rfl)
def f_X6_olderThan (St : SRows) (x1 : Int32) : Option (Int64) :=
  (zl3 (b_X6_olderThan_8 St x1) FU (0 : Int64) x1 (1 : Int32))
set_option maxHeartbeats 4000000 in
set_option maxRecDepth 100000 in
theorem c_X6_olderThan (l : Launch) (D : va_G) (cy : Nat → ClassId) (ht : Nat → Nat) (St : SRows) (x1 : Int32) (r : Int64) (hf : f_X6_olderThan St x1 = some r) : zCL l yX6_olderThan cX6_olderThan 6 (some FieldType.long) 0 0 D (zty cy) [.ref (ht 0), .int x1] (wRows ht cy St) (wRows ht cy St) r := by
  refine zCL_of (by decide +kernel) (Nat.le_of_ble_eq_true rfl) ?_
  intro p e s m below meth c A ls C hP hD hS hl
  generalize hargs : ([.ref (ht 0), .int x1] : List Value).toArray = args at C ⊢
  have C : zX p s m meth c cX6_olderThan 6 args RX6 (some FieldType.long) A D (zty cy) := C
  obtain ⟨hx, hb, hr, hts, hown, hlocks, hml, hA, hK⟩ := id C
  have hl : lv_has ls 6 [(0, .ref (ht 0)), (1, .int x1)] := hl
  generalize hH : s.heap = H at hP ⊢
  have hS : va_S A s.heap H [] := by rw [← hH]; exact hS
  generalize ([] : List Loc) = locs at hS ⊢
  refine lv_lconst (v := (0 : Int64)) hx hb dX6_olderThan_0 (by decide) ?_
  refine lv_lstore_n (lv' := [(2, .long (0 : Int64)), (0, .ref (ht 0)), (1, .int x1)]) hx hb dX6_olderThan_1 rfl hl (by decide) rfl (fun ls hl => ?_)
  refine lv_iload_n hx hb dX6_olderThan_2 rfl (lv_at hl 2 rfl) ?_
  refine lv_istore (lv' := [(4, .int x1), (2, .long (0 : Int64)), (0, .ref (ht 0)), (1, .int x1)]) hx hb dX6_olderThan_3 hl (by decide) rfl (fun ls hl => ?_)
  refine lv_iconst (v := (1 : Int32)) hx hb dX6_olderThan_5 (by decide) ?_
  refine lv_istore (lv' := [(5, .int (1 : Int32)), (4, .int x1), (2, .long (0 : Int64)), (0, .ref (ht 0)), (1, .int x1)]) hx hb dX6_olderThan_6 hl (by decide) rfl (fun ls hl => ?_)
  exact w_X6_olderThan_8 l ht St x1 C FU (0 : Int64) x1 (1 : Int32) H locs ls hf hP hD hS (lv_sub hl [3, 2, 1, 0] rfl)
def b_X6_greatestAge_6 (St : SRows) (x1 : Int64) (k6 : Int32 → Int32 → Option (Int32)) (v3 : Int32) (v4 : Int32) : Option (Int32) :=
  (if (Rows_ring St) ≤ v4 then
    some v3
    else
    (f_X6_holds x1 v4).bind (fun q1 =>
      (if q1 = 0 then
        (k6 v3 (v4 + (1 : Int32)))
        else
        (f_X6_ageOf St v4).bind (fun q2 =>
          (k6 (if v3 < q2 then q2 else v3) (v4 + (1 : Int32)))))))
set_option maxHeartbeats 4000000 in
set_option maxRecDepth 100000 in
theorem w_X6_greatestAge_6 {p : Program} {e : Env} {s : State} {m : MethodId} {below : List Frame} {meth : Method} {c : Code} {A : Nat → Prop} {D : va_G} {cy : Nat → ClassId} {args : Array Value} {r : Int32} (l : Launch) (ht : Nat → Nat) (St : SRows) (x1 : Int64) (C : zX p s m meth c cX6_greatestAge 5 args RX6 (some FieldType.int) A D (zty cy)) :
    ∀ (n : Nat) (v3 : Int32) (v4 : Int32) (H : Heap) (locs : List Loc) (ls : Array Slot), zl2 (b_X6_greatestAge_6 St x1) n v3 v4 = some r → va_P D vwCl (wRows ht cy St) H → va_D A (wRows ht cy St) → va_S A s.heap H locs → lv_has ls 5 [(0, .ref (ht 0)), (1, .long x1), (3, .int v3), (4, .int v4)] → W p l e (zRm 1 40) s m args below meth c H locs 0 0 (MQ below (zQI D (zty cy) A (wRows ht cy St) r) args s 0 0 A) (F0 m 6 ls []) := by
  obtain ⟨hx, hb, hr, hts, hown, hlocks, hml, hA, hK⟩ := id C
  intro n
  induction n with
  | zero => intro v3 v4 H locs ls hf; exact zno hf
  | succ n ih =>
    intro v3 v4 H locs ls hf hP hD hS hl
    have hf : b_X6_greatestAge_6 St x1 (zl2 (b_X6_greatestAge_6 St x1) n) v3 v4 = some r := hf
    have K6 := ih
    refine lv_iload hx hb dX6_greatestAge_6 (lv_at hl 3 rfl) ?_
    refine lv_aload_n hx hb dX6_greatestAge_8 rfl (lv_at hl 0 rfl) ?_
    refine va_get (D := D) (ci := 3) (v := .int (Rows_ring St)) (C := RX6) (T := TX6) (N := 16) hx hb hts in_X6 hown hK hP 0 rfl rfl 0 (by decide) (hts _ q1_49) (fun _ h9 => h9) rfl dX6_greatestAge_9 ?_
    refine z_icmp_ge (tgt := 41) hx hb dX6_greatestAge_12 (by decide) hf (fun hf => ?_) (fun hf => ?_)
    · refine lv_iload_n hx hb dX6_greatestAge_41 rfl (lv_at hl 2 rfl) ?_
      obtain rfl := Option.some.inj hf
      exact z_iret (v := v3) C hP hD hS dX6_greatestAge_42
    · refine lv_lload_n hx hb dX6_greatestAge_15 rfl (lv_at hl 1 rfl) ?_
      refine lv_iload hx hb dX6_greatestAge_16 (lv_at hl 3 rfl) ?_
      obtain ⟨q1, hc, hf⟩ := zbd hf
      refine z_cSiE (As := [.long x1, .int v4]) (rest := []) C (c_X6_holds l D cy x1 v4 q1 hc) gS_X6_X6_holds hd_X6_holds ⟨Nat.le_of_ble_eq_true rfl, Nat.le_of_ble_eq_true rfl⟩ ⟨Nat.le_refl _, Nat.le_refl _⟩ hP hD hS hl.1 (Nat.le_of_ble_eq_true rfl) dX6_greatestAge_18 (fun H locs hP hD hS => ?_)
      refine z_if_eq (tgt := 35) hx hb dX6_greatestAge_21 (by decide) hf (fun hf => ?_) (fun hf => ?_)
      · refine lv_iinc (v := (v4 + (1 : Int32))) (lv' := [(4, .int (v4 + (1 : Int32))), (0, .ref (ht 0)), (1, .long x1), (3, .int v3)]) hx hb dX6_greatestAge_35 hl (k := 3) rfl rfl (by decide) rfl (fun ls hl => ?_)
        refine lv_goto (tgt := 6) hx hb dX6_greatestAge_38 (by decide) ?_
        exact K6 v3 (v4 + (1 : Int32)) H locs ls hf hP hD hS (lv_sub hl [1, 2, 3, 0] rfl)
      · refine lv_iload_n hx hb dX6_greatestAge_24 rfl (lv_at hl 2 rfl) ?_
        refine lv_aload_n hx hb dX6_greatestAge_25 rfl (lv_at hl 0 rfl) ?_
        refine lv_iload hx hb dX6_greatestAge_26 (lv_at hl 3 rfl) ?_
        obtain ⟨q2, hc, hf⟩ := zbd hf
        refine z_cVi0 (As := [.int v4]) (rest := [.int v3]) C (c_X6_ageOf l D cy ht St v4 q2 hc) gV_X6_X6_ageOf hd_X6_ageOf ⟨Nat.le_of_ble_eq_true rfl, Nat.le_of_ble_eq_true rfl⟩ ⟨Nat.le_refl _, Nat.le_refl _⟩ (va_recv hK hP (ci := 3) (q0 := 0) rfl rfl) hP hD hS hl.1 (Nat.le_of_ble_eq_true rfl) dX6_greatestAge_28 (fun H locs hP hD hS => ?_)
        have hP : va_P D vwCl (wRows ht cy St) H := hP
        have hD : va_D A (wRows ht cy St) := hD
        refine va_mmax hx hb (hml.trans hl.1.symm) hown (hts _ q3_35) (hts _ q3_36) (hts _ q1_9) (hts _ q3_37) (by decide) (Nat.le_of_ble_eq_true rfl) (by decide) (by decide) dX6_greatestAge_31 ?_
        refine lv_istore_n (lv' := [(3, .int (if v3 < q2 then q2 else v3)), (0, .ref (ht 0)), (1, .long x1), (4, .int v4)]) hx hb dX6_greatestAge_34 rfl hl (by decide) rfl (fun ls hl => ?_)
        refine lv_iinc (v := (v4 + (1 : Int32))) (lv' := [(4, .int (v4 + (1 : Int32))), (3, .int (if v3 < q2 then q2 else v3)), (0, .ref (ht 0)), (1, .long x1)]) hx hb dX6_greatestAge_35 hl (k := 3) rfl rfl (by decide) rfl (fun ls hl => ?_)
        refine lv_goto (tgt := 6) hx hb dX6_greatestAge_38 (by decide) ?_
        exact K6 (if v3 < q2 then q2 else v3) (v4 + (1 : Int32)) H locs ls hf hP hD hS (lv_sub hl [2, 3, 1, 0] rfl)
def f_X6_greatestAge (St : SRows) (x1 : Int64) : Option (Int32) :=
  (zl2 (b_X6_greatestAge_6 St x1) FU (-2 : Int32) (0 : Int32))
set_option maxHeartbeats 4000000 in
set_option maxRecDepth 100000 in
theorem c_X6_greatestAge (l : Launch) (D : va_G) (cy : Nat → ClassId) (ht : Nat → Nat) (St : SRows) (x1 : Int64) (r : Int32) (hf : f_X6_greatestAge St x1 = some r) : zCI l yX6_greatestAge cX6_greatestAge 5 (some FieldType.int) 1 40 D (zty cy) [.ref (ht 0), .long x1] (wRows ht cy St) (wRows ht cy St) r := by
  refine zCI_of (by decide +kernel) (Nat.le_of_ble_eq_true rfl) ?_
  intro p e s m below meth c A ls C hP hD hS hl
  generalize hargs : ([.ref (ht 0), .long x1] : List Value).toArray = args at C ⊢
  have C : zX p s m meth c cX6_greatestAge 5 args RX6 (some FieldType.int) A D (zty cy) := C
  obtain ⟨hx, hb, hr, hts, hown, hlocks, hml, hA, hK⟩ := id C
  have hl : lv_has ls 5 [(0, .ref (ht 0)), (1, .long x1)] := hl
  generalize hH : s.heap = H at hP ⊢
  have hS : va_S A s.heap H [] := by rw [← hH]; exact hS
  generalize ([] : List Loc) = locs at hS ⊢
  refine lv_bipush (v := (-2 : Int32)) hx hb dX6_greatestAge_0 (by decide) ?_
  refine lv_istore_n (lv' := [(3, .int (-2 : Int32)), (0, .ref (ht 0)), (1, .long x1)]) hx hb dX6_greatestAge_2 rfl hl (by decide) rfl (fun ls hl => ?_)
  refine lv_iconst (v := (0 : Int32)) hx hb dX6_greatestAge_3 (by decide) ?_
  refine lv_istore (lv' := [(4, .int (0 : Int32)), (3, .int (-2 : Int32)), (0, .ref (ht 0)), (1, .long x1)]) hx hb dX6_greatestAge_4 hl (by decide) rfl (fun ls hl => ?_)
  exact w_X6_greatestAge_6 l ht St x1 C FU (-2 : Int32) (0 : Int32) H locs ls hf hP hD hS (lv_sub hl [2, 3, 1, 0] rfl)
def b_X6_heldWithout_5 (St : SRows) (x1 : Int32) (k5 : Int64 → Int32 → Option (Int64)) (v2 : Int64) (v4 : Int32) : Option (Int64) :=
  (if (6 : Int32) ≤ v4 then
    some v2
    else
    (if v4 = x1 then
      (k5 v2 (v4 + (1 : Int32)))
      else
      (if zib v4 6 then (k5 (v2 ||| ((Rows_held St) v4.toNatClampNeg)) (v4 + (1 : Int32))) else none)))
set_option maxHeartbeats 4000000 in
set_option maxRecDepth 100000 in
theorem w_X6_heldWithout_5 {p : Program} {e : Env} {s : State} {m : MethodId} {below : List Frame} {meth : Method} {c : Code} {A : Nat → Prop} {D : va_G} {cy : Nat → ClassId} {args : Array Value} {r : Int64} (l : Launch) (ht : Nat → Nat) (St : SRows) (x1 : Int32) (C : zX p s m meth c cX6_heldWithout 5 args RX6 (some FieldType.long) A D (zty cy)) :
    ∀ (n : Nat) (v2 : Int64) (v4 : Int32) (H : Heap) (locs : List Loc) (ls : Array Slot), zl2 (b_X6_heldWithout_5 St x1) n v2 v4 = some r → va_P D vwCl (wRows ht cy St) H → va_D A (wRows ht cy St) → va_S A s.heap H locs → lv_has ls 5 [(0, .ref (ht 0)), (1, .int x1), (2, .long v2), (4, .int v4)] → W p l e (zRm 0 0) s m args below meth c H locs 0 0 (MQ below (zQL D (zty cy) A (wRows ht cy St) r) args s 0 0 A) (F0 m 5 ls []) := by
  obtain ⟨hx, hb, hr, hts, hown, hlocks, hml, hA, hK⟩ := id C
  intro n
  induction n with
  | zero => intro v2 v4 H locs ls hf; exact zno hf
  | succ n ih =>
    intro v2 v4 H locs ls hf hP hD hS hl
    have hf : b_X6_heldWithout_5 St x1 (zl2 (b_X6_heldWithout_5 St x1) n) v2 v4 = some r := hf
    have K5 := ih
    refine lv_iload hx hb dX6_heldWithout_5 (lv_at hl 3 rfl) ?_
    refine lv_bipush (v := (6 : Int32)) hx hb dX6_heldWithout_7 (by decide) ?_
    refine z_icmp_ge (tgt := 34) hx hb dX6_heldWithout_9 (by decide) hf (fun hf => ?_) (fun hf => ?_)
    · refine lv_lload_n hx hb dX6_heldWithout_34 rfl (lv_at hl 2 rfl) ?_
      obtain rfl := Option.some.inj hf
      exact z_lret (v := v2) C hP hD hS dX6_heldWithout_35
    · refine lv_iload hx hb dX6_heldWithout_12 (lv_at hl 3 rfl) ?_
      refine lv_iload_n hx hb dX6_heldWithout_14 rfl (lv_at hl 1 rfl) ?_
      refine z_icmp_eq (tgt := 28) hx hb dX6_heldWithout_15 (by decide) hf (fun hf => ?_) (fun hf => ?_)
      · refine lv_iinc (v := (v4 + (1 : Int32))) (lv' := [(4, .int (v4 + (1 : Int32))), (0, .ref (ht 0)), (1, .int x1), (2, .long v2)]) hx hb dX6_heldWithout_28 hl (k := 3) rfl rfl (by decide) rfl (fun ls hl => ?_)
        refine lv_goto (tgt := 5) hx hb dX6_heldWithout_31 (by decide) ?_
        exact K5 v2 (v4 + (1 : Int32)) H locs ls hf hP hD hS (lv_sub hl [1, 2, 3, 0] rfl)
      · refine lv_lload_n hx hb dX6_heldWithout_18 rfl (lv_at hl 2 rfl) ?_
        refine lv_aload_n hx hb dX6_heldWithout_19 rfl (lv_at hl 0 rfl) ?_
        refine va_get (D := D) (ci := 3) (v := .ref (ht 2)) (C := RX6) (T := TX6) (N := 16) hx hb hts in_X6 hown hK hP 0 rfl rfl 10 (by decide) (hts _ q1_68) (fun _ h9 => h9) rfl dX6_heldWithout_20 ?_
        refine lv_iload hx hb dX6_heldWithout_23 (lv_at hl 3 rfl) ?_
        refine z_lald (f := (Rows_held St)) hx hb hK hP 2 1 rfl rfl dX6_heldWithout_25 hf (fun hf => ?_)
        refine lv_lor hx hb dX6_heldWithout_26 ?_
        refine lv_lstore_n (lv' := [(2, .long (v2 ||| ((Rows_held St) v4.toNatClampNeg))), (0, .ref (ht 0)), (1, .int x1), (4, .int v4)]) hx hb dX6_heldWithout_27 rfl hl (by decide) rfl (fun ls hl => ?_)
        refine lv_iinc (v := (v4 + (1 : Int32))) (lv' := [(4, .int (v4 + (1 : Int32))), (2, .long (v2 ||| ((Rows_held St) v4.toNatClampNeg))), (0, .ref (ht 0)), (1, .int x1)]) hx hb dX6_heldWithout_28 hl (k := 3) rfl rfl (by decide) rfl (fun ls hl => ?_)
        refine lv_goto (tgt := 5) hx hb dX6_heldWithout_31 (by decide) ?_
        exact K5 (v2 ||| ((Rows_held St) v4.toNatClampNeg)) (v4 + (1 : Int32)) H locs ls hf hP hD hS (lv_sub hl [2, 3, 1, 0] rfl)
def f_X6_heldWithout (St : SRows) (x1 : Int32) : Option (Int64) :=
  (zl2 (b_X6_heldWithout_5 St x1) FU (0 : Int64) (0 : Int32))
set_option maxHeartbeats 4000000 in
set_option maxRecDepth 100000 in
theorem c_X6_heldWithout (l : Launch) (D : va_G) (cy : Nat → ClassId) (ht : Nat → Nat) (St : SRows) (x1 : Int32) (r : Int64) (hf : f_X6_heldWithout St x1 = some r) : zCL l yX6_heldWithout cX6_heldWithout 5 (some FieldType.long) 0 0 D (zty cy) [.ref (ht 0), .int x1] (wRows ht cy St) (wRows ht cy St) r := by
  refine zCL_of (by decide +kernel) (Nat.le_of_ble_eq_true rfl) ?_
  intro p e s m below meth c A ls C hP hD hS hl
  generalize hargs : ([.ref (ht 0), .int x1] : List Value).toArray = args at C ⊢
  have C : zX p s m meth c cX6_heldWithout 5 args RX6 (some FieldType.long) A D (zty cy) := C
  obtain ⟨hx, hb, hr, hts, hown, hlocks, hml, hA, hK⟩ := id C
  have hl : lv_has ls 5 [(0, .ref (ht 0)), (1, .int x1)] := hl
  generalize hH : s.heap = H at hP ⊢
  have hS : va_S A s.heap H [] := by rw [← hH]; exact hS
  generalize ([] : List Loc) = locs at hS ⊢
  refine lv_lconst (v := (0 : Int64)) hx hb dX6_heldWithout_0 (by decide) ?_
  refine lv_lstore_n (lv' := [(2, .long (0 : Int64)), (0, .ref (ht 0)), (1, .int x1)]) hx hb dX6_heldWithout_1 rfl hl (by decide) rfl (fun ls hl => ?_)
  refine lv_iconst (v := (0 : Int32)) hx hb dX6_heldWithout_2 (by decide) ?_
  refine lv_istore (lv' := [(4, .int (0 : Int32)), (2, .long (0 : Int64)), (0, .ref (ht 0)), (1, .int x1)]) hx hb dX6_heldWithout_3 hl (by decide) rfl (fun ls hl => ?_)
  exact w_X6_heldWithout_5 l ht St x1 C FU (0 : Int64) (0 : Int32) H locs ls hf hP hD hS (lv_sub hl [2, 3, 1, 0] rfl)
def b_X6_horizonWithout_15 (St : SRows) (x1 : Int32) (k15 : Int64 → Int32 → Int32 → Option (Int32)) (v2 : Int64) (v4 : Int32) (v5 : Int32) : Option (Int32) :=
  (if (Rows_ring St) ≤ v5 then
    some v4
    else
    (f_X6_holds v2 v5).bind (fun q1 =>
      (if q1 = 0 then
        (k15 v2 v4 (v5 + (1 : Int32)))
        else
        (f_X6_ageOf St v5).bind (fun q2 =>
          (f_X6_ageOf St v4).bind (fun q3 =>
            (if q2 ≤ q3 then
              (k15 v2 v4 (v5 + (1 : Int32)))
              else
              (k15 v2 v5 (v5 + (1 : Int32)))))))))
set_option maxHeartbeats 4000000 in
set_option maxRecDepth 100000 in
theorem w_X6_horizonWithout_15 {p : Program} {e : Env} {s : State} {m : MethodId} {below : List Frame} {meth : Method} {c : Code} {A : Nat → Prop} {D : va_G} {cy : Nat → ClassId} {args : Array Value} {r : Int32} (l : Launch) (ht : Nat → Nat) (St : SRows) (x1 : Int32) (C : zX p s m meth c cX6_horizonWithout 6 args RX6 (some FieldType.int) A D (zty cy)) :
    ∀ (n : Nat) (v2 : Int64) (v4 : Int32) (v5 : Int32) (H : Heap) (locs : List Loc) (ls : Array Slot), zl3 (b_X6_horizonWithout_15 St x1) n v2 v4 v5 = some r → va_P D vwCl (wRows ht cy St) H → va_D A (wRows ht cy St) → va_S A s.heap H locs → lv_has ls 6 [(0, .ref (ht 0)), (2, .long v2), (4, .int v4), (5, .int v5)] → W p l e (zRm 1 24) s m args below meth c H locs 0 0 (MQ below (zQI D (zty cy) A (wRows ht cy St) r) args s 0 0 A) (F0 m 15 ls []) := by
  obtain ⟨hx, hb, hr, hts, hown, hlocks, hml, hA, hK⟩ := id C
  intro n
  induction n with
  | zero => intro v2 v4 v5 H locs ls hf; exact zno hf
  | succ n ih =>
    intro v2 v4 v5 H locs ls hf hP hD hS hl
    have hf : b_X6_horizonWithout_15 St x1 (zl3 (b_X6_horizonWithout_15 St x1) n) v2 v4 v5 = some r := hf
    have K15 := ih
    refine lv_iload hx hb dX6_horizonWithout_15 (lv_at hl 3 rfl) ?_
    refine lv_aload_n hx hb dX6_horizonWithout_17 rfl (lv_at hl 0 rfl) ?_
    refine va_get (D := D) (ci := 3) (v := .int (Rows_ring St)) (C := RX6) (T := TX6) (N := 16) hx hb hts in_X6 hown hK hP 0 rfl rfl 0 (by decide) (hts _ q1_49) (fun _ h9 => h9) rfl dX6_horizonWithout_18 ?_
    refine z_icmp_ge (tgt := 58) hx hb dX6_horizonWithout_21 (by decide) hf (fun hf => ?_) (fun hf => ?_)
    · refine lv_iload hx hb dX6_horizonWithout_58 (lv_at hl 2 rfl) ?_
      obtain rfl := Option.some.inj hf
      exact z_iret (v := v4) C hP hD hS dX6_horizonWithout_60
    · refine lv_lload_n hx hb dX6_horizonWithout_24 rfl (lv_at hl 1 rfl) ?_
      refine lv_iload hx hb dX6_horizonWithout_25 (lv_at hl 3 rfl) ?_
      obtain ⟨q1, hc, hf⟩ := zbd hf
      refine z_cSiE (As := [.long v2, .int v5]) (rest := []) C (c_X6_holds l D cy v2 v5 q1 hc) gS_X6_X6_holds hd_X6_holds ⟨Nat.le_of_ble_eq_true rfl, Nat.le_of_ble_eq_true rfl⟩ ⟨Nat.le_refl _, Nat.le_refl _⟩ hP hD hS hl.1 (Nat.le_of_ble_eq_true rfl) dX6_horizonWithout_27 (fun H locs hP hD hS => ?_)
      refine z_if_eq (tgt := 52) hx hb dX6_horizonWithout_30 (by decide) hf (fun hf => ?_) (fun hf => ?_)
      · refine lv_iinc (v := (v5 + (1 : Int32))) (lv' := [(5, .int (v5 + (1 : Int32))), (0, .ref (ht 0)), (2, .long v2), (4, .int v4)]) hx hb dX6_horizonWithout_52 hl (k := 3) rfl rfl (by decide) rfl (fun ls hl => ?_)
        refine lv_goto (tgt := 15) hx hb dX6_horizonWithout_55 (by decide) ?_
        exact K15 v2 v4 (v5 + (1 : Int32)) H locs ls hf hP hD hS (lv_sub hl [1, 2, 3, 0] rfl)
      · refine lv_aload_n hx hb dX6_horizonWithout_33 rfl (lv_at hl 0 rfl) ?_
        refine lv_iload hx hb dX6_horizonWithout_34 (lv_at hl 3 rfl) ?_
        obtain ⟨q2, hc, hf⟩ := zbd hf
        refine z_cVi0 (As := [.int v5]) (rest := []) C (c_X6_ageOf l D cy ht St v5 q2 hc) gV_X6_X6_ageOf hd_X6_ageOf ⟨Nat.le_of_ble_eq_true rfl, Nat.le_of_ble_eq_true rfl⟩ ⟨Nat.le_refl _, Nat.le_refl _⟩ (va_recv hK hP (ci := 3) (q0 := 0) rfl rfl) hP hD hS hl.1 (Nat.le_of_ble_eq_true rfl) dX6_horizonWithout_36 (fun H locs hP hD hS => ?_)
        have hP : va_P D vwCl (wRows ht cy St) H := hP
        have hD : va_D A (wRows ht cy St) := hD
        refine lv_aload_n hx hb dX6_horizonWithout_39 rfl (lv_at hl 0 rfl) ?_
        refine lv_iload hx hb dX6_horizonWithout_40 (lv_at hl 2 rfl) ?_
        obtain ⟨q3, hc, hf⟩ := zbd hf
        refine z_cVi0 (As := [.int v4]) (rest := [.int q2]) C (c_X6_ageOf l D cy ht St v4 q3 hc) gV_X6_X6_ageOf hd_X6_ageOf ⟨Nat.le_of_ble_eq_true rfl, Nat.le_of_ble_eq_true rfl⟩ ⟨Nat.le_refl _, Nat.le_refl _⟩ (va_recv hK hP (ci := 3) (q0 := 0) rfl rfl) hP hD hS hl.1 (Nat.le_of_ble_eq_true rfl) dX6_horizonWithout_42 (fun H locs hP hD hS => ?_)
        have hP : va_P D vwCl (wRows ht cy St) H := hP
        have hD : va_D A (wRows ht cy St) := hD
        refine z_icmp_le (tgt := 52) hx hb dX6_horizonWithout_45 (by decide) hf (fun hf => ?_) (fun hf => ?_)
        · refine lv_iinc (v := (v5 + (1 : Int32))) (lv' := [(5, .int (v5 + (1 : Int32))), (0, .ref (ht 0)), (2, .long v2), (4, .int v4)]) hx hb dX6_horizonWithout_52 hl (k := 3) rfl rfl (by decide) rfl (fun ls hl => ?_)
          refine lv_goto (tgt := 15) hx hb dX6_horizonWithout_55 (by decide) ?_
          exact K15 v2 v4 (v5 + (1 : Int32)) H locs ls hf hP hD hS (lv_sub hl [1, 2, 3, 0] rfl)
        · refine lv_iload hx hb dX6_horizonWithout_48 (lv_at hl 3 rfl) ?_
          refine lv_istore (lv' := [(4, .int v5), (0, .ref (ht 0)), (2, .long v2), (5, .int v5)]) hx hb dX6_horizonWithout_50 hl (by decide) rfl (fun ls hl => ?_)
          refine lv_iinc (v := (v5 + (1 : Int32))) (lv' := [(5, .int (v5 + (1 : Int32))), (4, .int v5), (0, .ref (ht 0)), (2, .long v2)]) hx hb dX6_horizonWithout_52 hl (k := 3) rfl rfl (by decide) rfl (fun ls hl => ?_)
          refine lv_goto (tgt := 15) hx hb dX6_horizonWithout_55 (by decide) ?_
          exact K15 v2 v5 (v5 + (1 : Int32)) H locs ls hf hP hD hS (lv_sub hl [2, 3, 1, 0] rfl)
def f_X6_horizonWithout (St : SRows) (x1 : Int32) : Option (Int32) :=
  (f_X6_heldWithout St x1).bind (fun q4 =>
    (zl3 (b_X6_horizonWithout_15 St x1) FU q4 (Rows_nextStamp St) (0 : Int32)))
set_option maxHeartbeats 4000000 in
set_option maxRecDepth 100000 in
theorem c_X6_horizonWithout (l : Launch) (D : va_G) (cy : Nat → ClassId) (ht : Nat → Nat) (St : SRows) (x1 : Int32) (r : Int32) (hf : f_X6_horizonWithout St x1 = some r) : zCI l yX6_horizonWithout cX6_horizonWithout 6 (some FieldType.int) 1 24 D (zty cy) [.ref (ht 0), .int x1] (wRows ht cy St) (wRows ht cy St) r := by
  refine zCI_of (by decide +kernel) (Nat.le_of_ble_eq_true rfl) ?_
  intro p e s m below meth c A ls C hP hD hS hl
  generalize hargs : ([.ref (ht 0), .int x1] : List Value).toArray = args at C ⊢
  have C : zX p s m meth c cX6_horizonWithout 6 args RX6 (some FieldType.int) A D (zty cy) := C
  obtain ⟨hx, hb, hr, hts, hown, hlocks, hml, hA, hK⟩ := id C
  have hl : lv_has ls 6 [(0, .ref (ht 0)), (1, .int x1)] := hl
  generalize hH : s.heap = H at hP ⊢
  have hS : va_S A s.heap H [] := by rw [← hH]; exact hS
  generalize ([] : List Loc) = locs at hS ⊢
  refine lv_aload_n hx hb dX6_horizonWithout_0 rfl (lv_at hl 0 rfl) ?_
  refine lv_iload_n hx hb dX6_horizonWithout_1 rfl (lv_at hl 1 rfl) ?_
  obtain ⟨q4, hc, hf⟩ := zbd hf
  refine z_cVl0 (As := [.int x1]) (rest := []) C (c_X6_heldWithout l D cy ht St x1 q4 hc) gV_X6_X6_heldWithout hd_X6_heldWithout ⟨Nat.le_of_ble_eq_true rfl, Nat.le_of_ble_eq_true rfl⟩ ⟨Nat.le_refl _, Nat.le_refl _⟩ (va_recv hK hP (ci := 3) (q0 := 0) rfl rfl) hP hD hS hl.1 (Nat.le_of_ble_eq_true rfl) dX6_horizonWithout_2 (fun H locs hP hD hS => ?_)
  have hP : va_P D vwCl (wRows ht cy St) H := hP
  have hD : va_D A (wRows ht cy St) := hD
  refine lv_lstore_n (lv' := [(2, .long q4), (0, .ref (ht 0)), (1, .int x1)]) hx hb dX6_horizonWithout_5 rfl hl (by decide) rfl (fun ls hl => ?_)
  refine lv_aload_n hx hb dX6_horizonWithout_6 rfl (lv_at hl 1 rfl) ?_
  refine va_get (D := D) (ci := 3) (v := .int (Rows_nextStamp St)) (C := RX6) (T := TX6) (N := 16) hx hb hts in_X6 hown hK hP 0 rfl rfl 3 (by decide) (hts _ q1_58) (fun _ h9 => h9) rfl dX6_horizonWithout_7 ?_
  refine lv_istore (lv' := [(4, .int (Rows_nextStamp St)), (2, .long q4), (0, .ref (ht 0)), (1, .int x1)]) hx hb dX6_horizonWithout_10 hl (by decide) rfl (fun ls hl => ?_)
  refine lv_iconst (v := (0 : Int32)) hx hb dX6_horizonWithout_12 (by decide) ?_
  refine lv_istore (lv' := [(5, .int (0 : Int32)), (4, .int (Rows_nextStamp St)), (2, .long q4), (0, .ref (ht 0)), (1, .int x1)]) hx hb dX6_horizonWithout_13 hl (by decide) rfl (fun ls hl => ?_)
  exact w_X6_horizonWithout_15 l ht St x1 C FU q4 (Rows_nextStamp St) (0 : Int32) H locs ls hf hP hD hS (lv_sub hl [3, 2, 1, 0] rfl)
def f_X6_settledWithout (St : SRows) (x1 : Int32) : Option (Int64) :=
  (f_X6_horizonWithout St x1).bind (fun q1 =>
    (f_X6_olderThan St q1).bind (fun q2 =>
      some ((Rows_doneStamps St) &&& q2)))
set_option maxHeartbeats 4000000 in
set_option maxRecDepth 100000 in
theorem c_X6_settledWithout (l : Launch) (D : va_G) (cy : Nat → ClassId) (ht : Nat → Nat) (St : SRows) (x1 : Int32) (r : Int64) (hf : f_X6_settledWithout St x1 = some r) : zCL l yX6_settledWithout cX6_settledWithout 2 (some FieldType.long) 2 49 D (zty cy) [.ref (ht 0), .int x1] (wRows ht cy St) (wRows ht cy St) r := by
  refine zCL_of (by decide +kernel) (Nat.le_of_ble_eq_true rfl) ?_
  intro p e s m below meth c A ls C hP hD hS hl
  generalize hargs : ([.ref (ht 0), .int x1] : List Value).toArray = args at C ⊢
  have C : zX p s m meth c cX6_settledWithout 2 args RX6 (some FieldType.long) A D (zty cy) := C
  obtain ⟨hx, hb, hr, hts, hown, hlocks, hml, hA, hK⟩ := id C
  have hl : lv_has ls 2 [(0, .ref (ht 0)), (1, .int x1)] := hl
  generalize hH : s.heap = H at hP ⊢
  have hS : va_S A s.heap H [] := by rw [← hH]; exact hS
  generalize ([] : List Loc) = locs at hS ⊢
  refine lv_aload_n hx hb dX6_settledWithout_0 rfl (lv_at hl 0 rfl) ?_
  refine va_get (D := D) (ci := 3) (v := .long (Rows_doneStamps St)) (C := RX6) (T := TX6) (N := 16) hx hb hts in_X6 hown hK hP 0 rfl rfl 7 (by decide) (hts _ q1_65) (fun _ h9 => h9) rfl dX6_settledWithout_1 ?_
  refine lv_aload_n hx hb dX6_settledWithout_4 rfl (lv_at hl 0 rfl) ?_
  refine lv_aload_n hx hb dX6_settledWithout_5 rfl (lv_at hl 0 rfl) ?_
  refine lv_iload_n hx hb dX6_settledWithout_6 rfl (lv_at hl 1 rfl) ?_
  obtain ⟨q1, hc, hf⟩ := zbd hf
  refine z_cVi0 (As := [.int x1]) (rest := [.ref (ht 0), .long (Rows_doneStamps St)]) C (c_X6_horizonWithout l D cy ht St x1 q1 hc) gV_X6_X6_horizonWithout hd_X6_horizonWithout ⟨Nat.le_of_ble_eq_true rfl, Nat.le_of_ble_eq_true rfl⟩ ⟨Nat.le_refl _, Nat.le_refl _⟩ (va_recv hK hP (ci := 3) (q0 := 0) rfl rfl) hP hD hS hl.1 (Nat.le_of_ble_eq_true rfl) dX6_settledWithout_7 (fun H locs hP hD hS => ?_)
  have hP : va_P D vwCl (wRows ht cy St) H := hP
  have hD : va_D A (wRows ht cy St) := hD
  obtain ⟨q2, hc, hf⟩ := zbd hf
  refine z_cVl0 (As := [.int q1]) (rest := [.long (Rows_doneStamps St)]) C (c_X6_olderThan l D cy ht St q1 q2 hc) gV_X6_X6_olderThan hd_X6_olderThan ⟨Nat.le_of_ble_eq_true rfl, Nat.le_of_ble_eq_true rfl⟩ ⟨Nat.le_refl _, Nat.le_refl _⟩ (va_recv hK hP (ci := 3) (q0 := 0) rfl rfl) hP hD hS hl.1 (Nat.le_of_ble_eq_true rfl) dX6_settledWithout_10 (fun H locs hP hD hS => ?_)
  have hP : va_P D vwCl (wRows ht cy St) H := hP
  have hD : va_D A (wRows ht cy St) := hD
  refine lv_land hx hb dX6_settledWithout_13 ?_
  obtain rfl := Option.some.inj hf
  exact z_lret (v := ((Rows_doneStamps St) &&& q2)) C hP hD hS dX6_settledWithout_14
def b_X6_inUse_9 (St : SRows) (k9 : Int64 → Int32 → Option (Int64)) (v1 : Int64) (v3 : Int32) : Option (Int64) :=
  (if (48 : Int32) ≤ v3 then
    some v1
    else
    (f_X6_isVersion St v3).bind (fun q1 =>
      (if q1 = 0 then
        (k9 v1 (v3 + (1 : Int32)))
        else
        (if zib v3 48 then (f_X6_bitOf ((Rows_froms St) v3.toNatClampNeg)).bind (fun q2 =>
            (if zib v3 48 then (f_X6_bitOf ((Rows_tills St) v3.toNatClampNeg)).bind (fun q3 =>
                (k9 (v1 ||| (q2 ||| q3)) (v3 + (1 : Int32)))) else none)) else none))))
set_option maxHeartbeats 4000000 in
set_option maxRecDepth 100000 in
theorem w_X6_inUse_9 {p : Program} {e : Env} {s : State} {m : MethodId} {below : List Frame} {meth : Method} {c : Code} {A : Nat → Prop} {D : va_G} {cy : Nat → ClassId} {args : Array Value} {r : Int64} (l : Launch) (ht : Nat → Nat) (St : SRows) (C : zX p s m meth c cX6_inUse 4 args RX6 (some FieldType.long) A D (zty cy)) :
    ∀ (n : Nat) (v1 : Int64) (v3 : Int32) (H : Heap) (locs : List Loc) (ls : Array Slot), zl2 (b_X6_inUse_9 St) n v1 v3 = some r → va_P D vwCl (wRows ht cy St) H → va_D A (wRows ht cy St) → va_S A s.heap H locs → lv_has ls 4 [(0, .ref (ht 0)), (1, .long v1), (3, .int v3)] → W p l e (zRm 1 24) s m args below meth c H locs 0 0 (MQ below (zQL D (zty cy) A (wRows ht cy St) r) args s 0 0 A) (F0 m 9 ls []) := by
  obtain ⟨hx, hb, hr, hts, hown, hlocks, hml, hA, hK⟩ := id C
  intro n
  induction n with
  | zero => intro v1 v3 H locs ls hf; exact zno hf
  | succ n ih =>
    intro v1 v3 H locs ls hf hP hD hS hl
    have hf : b_X6_inUse_9 St (zl2 (b_X6_inUse_9 St) n) v1 v3 = some r := hf
    have K9 := ih
    refine lv_iload_n hx hb dX6_inUse_9 rfl (lv_at hl 2 rfl) ?_
    refine lv_bipush (v := (48 : Int32)) hx hb dX6_inUse_10 (by decide) ?_
    refine z_icmp_ge (tgt := 51) hx hb dX6_inUse_12 (by decide) hf (fun hf => ?_) (fun hf => ?_)
    · refine lv_lload_n hx hb dX6_inUse_51 rfl (lv_at hl 1 rfl) ?_
      obtain rfl := Option.some.inj hf
      exact z_lret (v := v1) C hP hD hS dX6_inUse_52
    · refine lv_aload_n hx hb dX6_inUse_15 rfl (lv_at hl 0 rfl) ?_
      refine lv_iload_n hx hb dX6_inUse_16 rfl (lv_at hl 2 rfl) ?_
      obtain ⟨q1, hc, hf⟩ := zbd hf
      refine z_cVi0 (As := [.int v3]) (rest := []) C (c_X6_isVersion l D cy ht St v3 q1 hc) gV_X6_X6_isVersion hd_X6_isVersion ⟨Nat.le_of_ble_eq_true rfl, Nat.le_of_ble_eq_true rfl⟩ ⟨Nat.le_refl _, Nat.le_refl _⟩ (va_recv hK hP (ci := 3) (q0 := 0) rfl rfl) hP hD hS hl.1 (Nat.le_of_ble_eq_true rfl) dX6_inUse_17 (fun H locs hP hD hS => ?_)
      have hP : va_P D vwCl (wRows ht cy St) H := hP
      have hD : va_D A (wRows ht cy St) := hD
      refine z_if_eq (tgt := 45) hx hb dX6_inUse_20 (by decide) hf (fun hf => ?_) (fun hf => ?_)
      · refine lv_iinc (v := (v3 + (1 : Int32))) (lv' := [(3, .int (v3 + (1 : Int32))), (0, .ref (ht 0)), (1, .long v1)]) hx hb dX6_inUse_45 hl (k := 2) rfl rfl (by decide) rfl (fun ls hl => ?_)
        refine lv_goto (tgt := 9) hx hb dX6_inUse_48 (by decide) ?_
        exact K9 v1 (v3 + (1 : Int32)) H locs ls hf hP hD hS (lv_sub hl [1, 2, 0] rfl)
      · refine lv_lload_n hx hb dX6_inUse_23 rfl (lv_at hl 1 rfl) ?_
        refine lv_aload_n hx hb dX6_inUse_24 rfl (lv_at hl 0 rfl) ?_
        refine va_get (D := D) (ci := 3) (v := .ref (ht 5)) (C := RX6) (T := TX6) (N := 16) hx hb hts in_X6 hown hK hP 0 rfl rfl 13 (by decide) (hts _ q1_71) (fun _ h9 => h9) rfl dX6_inUse_25 ?_
        refine lv_iload_n hx hb dX6_inUse_28 rfl (lv_at hl 2 rfl) ?_
        refine z_iald (f := (Rows_froms St)) hx hb hK hP 5 0 rfl rfl dX6_inUse_29 hf (fun hf => ?_)
        obtain ⟨q2, hc, hf⟩ := zbd hf
        refine z_cSlE (As := [.int ((Rows_froms St) v3.toNatClampNeg)]) (rest := [.long v1]) C (c_X6_bitOf l D cy ((Rows_froms St) v3.toNatClampNeg) q2 hc) gS_X6_X6_bitOf hd_X6_bitOf ⟨Nat.le_of_ble_eq_true rfl, Nat.le_of_ble_eq_true rfl⟩ ⟨Nat.le_refl _, Nat.le_refl _⟩ hP hD hS hl.1 (Nat.le_of_ble_eq_true rfl) dX6_inUse_30 (fun H locs hP hD hS => ?_)
        refine lv_aload_n hx hb dX6_inUse_33 rfl (lv_at hl 0 rfl) ?_
        refine va_get (D := D) (ci := 3) (v := .ref (ht 6)) (C := RX6) (T := TX6) (N := 16) hx hb hts in_X6 hown hK hP 0 rfl rfl 14 (by decide) (hts _ q1_72) (fun _ h9 => h9) rfl dX6_inUse_34 ?_
        refine lv_iload_n hx hb dX6_inUse_37 rfl (lv_at hl 2 rfl) ?_
        refine z_iald (f := (Rows_tills St)) hx hb hK hP 6 0 rfl rfl dX6_inUse_38 hf (fun hf => ?_)
        obtain ⟨q3, hc, hf⟩ := zbd hf
        refine z_cSlE (As := [.int ((Rows_tills St) v3.toNatClampNeg)]) (rest := [.long q2, .long v1]) C (c_X6_bitOf l D cy ((Rows_tills St) v3.toNatClampNeg) q3 hc) gS_X6_X6_bitOf hd_X6_bitOf ⟨Nat.le_of_ble_eq_true rfl, Nat.le_of_ble_eq_true rfl⟩ ⟨Nat.le_refl _, Nat.le_refl _⟩ hP hD hS hl.1 (Nat.le_of_ble_eq_true rfl) dX6_inUse_39 (fun H locs hP hD hS => ?_)
        refine lv_lor hx hb dX6_inUse_42 ?_
        refine lv_lor hx hb dX6_inUse_43 ?_
        refine lv_lstore_n (lv' := [(1, .long (v1 ||| (q2 ||| q3))), (0, .ref (ht 0)), (3, .int v3)]) hx hb dX6_inUse_44 rfl hl (by decide) rfl (fun ls hl => ?_)
        refine lv_iinc (v := (v3 + (1 : Int32))) (lv' := [(3, .int (v3 + (1 : Int32))), (1, .long (v1 ||| (q2 ||| q3))), (0, .ref (ht 0))]) hx hb dX6_inUse_45 hl (k := 2) rfl rfl (by decide) rfl (fun ls hl => ?_)
        refine lv_goto (tgt := 9) hx hb dX6_inUse_48 (by decide) ?_
        exact K9 (v1 ||| (q2 ||| q3)) (v3 + (1 : Int32)) H locs ls hf hP hD hS (lv_sub hl [2, 1, 0] rfl)
def f_X6_inUse (St : SRows) : Option (Int64) :=
  (f_X6_heldWithout St (-2 : Int32)).bind (fun q4 =>
    (zl2 (b_X6_inUse_9 St) FU q4 (0 : Int32)))
set_option maxHeartbeats 4000000 in
set_option maxRecDepth 100000 in
theorem c_X6_inUse (l : Launch) (D : va_G) (cy : Nat → ClassId) (ht : Nat → Nat) (St : SRows) (r : Int64) (hf : f_X6_inUse St = some r) : zCL l yX6_inUse cX6_inUse 4 (some FieldType.long) 1 24 D (zty cy) [.ref (ht 0)] (wRows ht cy St) (wRows ht cy St) r := by
  refine zCL_of (by decide +kernel) (Nat.le_of_ble_eq_true rfl) ?_
  intro p e s m below meth c A ls C hP hD hS hl
  generalize hargs : ([.ref (ht 0)] : List Value).toArray = args at C ⊢
  have C : zX p s m meth c cX6_inUse 4 args RX6 (some FieldType.long) A D (zty cy) := C
  obtain ⟨hx, hb, hr, hts, hown, hlocks, hml, hA, hK⟩ := id C
  have hl : lv_has ls 4 [(0, .ref (ht 0))] := hl
  generalize hH : s.heap = H at hP ⊢
  have hS : va_S A s.heap H [] := by rw [← hH]; exact hS
  generalize ([] : List Loc) = locs at hS ⊢
  refine lv_aload_n hx hb dX6_inUse_0 rfl (lv_at hl 0 rfl) ?_
  refine lv_bipush (v := (-2 : Int32)) hx hb dX6_inUse_1 (by decide) ?_
  obtain ⟨q4, hc, hf⟩ := zbd hf
  refine z_cVl0 (As := [.int (-2 : Int32)]) (rest := []) C (c_X6_heldWithout l D cy ht St (-2 : Int32) q4 hc) gV_X6_X6_heldWithout hd_X6_heldWithout ⟨Nat.le_of_ble_eq_true rfl, Nat.le_of_ble_eq_true rfl⟩ ⟨Nat.le_refl _, Nat.le_refl _⟩ (va_recv hK hP (ci := 3) (q0 := 0) rfl rfl) hP hD hS hl.1 (Nat.le_of_ble_eq_true rfl) dX6_inUse_3 (fun H locs hP hD hS => ?_)
  have hP : va_P D vwCl (wRows ht cy St) H := hP
  have hD : va_D A (wRows ht cy St) := hD
  refine lv_lstore_n (lv' := [(1, .long q4), (0, .ref (ht 0))]) hx hb dX6_inUse_6 rfl hl (by decide) rfl (fun ls hl => ?_)
  refine lv_iconst (v := (0 : Int32)) hx hb dX6_inUse_7 (by decide) ?_
  refine lv_istore_n (lv' := [(3, .int (0 : Int32)), (1, .long q4), (0, .ref (ht 0))]) hx hb dX6_inUse_8 rfl hl (by decide) rfl (fun ls hl => ?_)
  exact w_X6_inUse_9 l ht St C FU q4 (0 : Int32) H locs ls hf hP hD hS (lv_sub hl [2, 1, 0] rfl)
def f_X6_fromOf (St : SRows) (x1 : Int32) : Option (Int32) :=
  (f_X6_isVersion St x1).bind (fun q1 =>
    (if q1 = 0 then
      some (-2 : Int32)
      else
      (if zib x1 48 then some ((Rows_froms St) x1.toNatClampNeg) else none)))
set_option maxHeartbeats 4000000 in
set_option maxRecDepth 100000 in
theorem c_X6_fromOf (l : Launch) (D : va_G) (cy : Nat → ClassId) (ht : Nat → Nat) (St : SRows) (x1 : Int32) (r : Int32) (hf : f_X6_fromOf St x1 = some r) : zCI l yX6_fromOf cX6_fromOf 2 (some FieldType.int) 1 21 D (zty cy) [.ref (ht 0), .int x1] (wRows ht cy St) (wRows ht cy St) r := by
  refine zCI_of (by decide +kernel) (Nat.le_of_ble_eq_true rfl) ?_
  intro p e s m below meth c A ls C hP hD hS hl
  generalize hargs : ([.ref (ht 0), .int x1] : List Value).toArray = args at C ⊢
  have C : zX p s m meth c cX6_fromOf 2 args RX6 (some FieldType.int) A D (zty cy) := C
  obtain ⟨hx, hb, hr, hts, hown, hlocks, hml, hA, hK⟩ := id C
  have hl : lv_has ls 2 [(0, .ref (ht 0)), (1, .int x1)] := hl
  generalize hH : s.heap = H at hP ⊢
  have hS : va_S A s.heap H [] := by rw [← hH]; exact hS
  generalize ([] : List Loc) = locs at hS ⊢
  refine lv_aload_n hx hb dX6_fromOf_0 rfl (lv_at hl 0 rfl) ?_
  refine lv_iload_n hx hb dX6_fromOf_1 rfl (lv_at hl 1 rfl) ?_
  obtain ⟨q1, hc, hf⟩ := zbd hf
  refine z_cVi0 (As := [.int x1]) (rest := []) C (c_X6_isVersion l D cy ht St x1 q1 hc) gV_X6_X6_isVersion hd_X6_isVersion ⟨Nat.le_of_ble_eq_true rfl, Nat.le_of_ble_eq_true rfl⟩ ⟨Nat.le_refl _, Nat.le_refl _⟩ (va_recv hK hP (ci := 3) (q0 := 0) rfl rfl) hP hD hS hl.1 (Nat.le_of_ble_eq_true rfl) dX6_fromOf_2 (fun H locs hP hD hS => ?_)
  have hP : va_P D vwCl (wRows ht cy St) H := hP
  have hD : va_D A (wRows ht cy St) := hD
  refine z_if_eq (tgt := 17) hx hb dX6_fromOf_5 (by decide) hf (fun hf => ?_) (fun hf => ?_)
  · refine lv_bipush (v := (-2 : Int32)) hx hb dX6_fromOf_17 (by decide) ?_
    obtain rfl := Option.some.inj hf
    exact z_iret (v := (-2 : Int32)) C hP hD hS dX6_fromOf_19
  · refine lv_aload_n hx hb dX6_fromOf_8 rfl (lv_at hl 0 rfl) ?_
    refine va_get (D := D) (ci := 3) (v := .ref (ht 5)) (C := RX6) (T := TX6) (N := 16) hx hb hts in_X6 hown hK hP 0 rfl rfl 13 (by decide) (hts _ q1_71) (fun _ h9 => h9) rfl dX6_fromOf_9 ?_
    refine lv_iload_n hx hb dX6_fromOf_12 rfl (lv_at hl 1 rfl) ?_
    refine z_iald (f := (Rows_froms St)) hx hb hK hP 5 0 rfl rfl dX6_fromOf_13 hf (fun hf => ?_)
    refine lv_goto (tgt := 19) hx hb dX6_fromOf_14 (by decide) ?_
    obtain rfl := Option.some.inj hf
    exact z_iret (v := ((Rows_froms St) x1.toNatClampNeg)) C hP hD hS dX6_fromOf_19
def f_X6_tillOf (St : SRows) (x1 : Int32) : Option (Int32) :=
  (f_X6_isVersion St x1).bind (fun q1 =>
    (if q1 = 0 then
      some (-2 : Int32)
      else
      (if zib x1 48 then some ((Rows_tills St) x1.toNatClampNeg) else none)))
set_option maxHeartbeats 4000000 in
set_option maxRecDepth 100000 in
theorem c_X6_tillOf (l : Launch) (D : va_G) (cy : Nat → ClassId) (ht : Nat → Nat) (St : SRows) (x1 : Int32) (r : Int32) (hf : f_X6_tillOf St x1 = some r) : zCI l yX6_tillOf cX6_tillOf 2 (some FieldType.int) 1 21 D (zty cy) [.ref (ht 0), .int x1] (wRows ht cy St) (wRows ht cy St) r := by
  refine zCI_of (by decide +kernel) (Nat.le_of_ble_eq_true rfl) ?_
  intro p e s m below meth c A ls C hP hD hS hl
  generalize hargs : ([.ref (ht 0), .int x1] : List Value).toArray = args at C ⊢
  have C : zX p s m meth c cX6_tillOf 2 args RX6 (some FieldType.int) A D (zty cy) := C
  obtain ⟨hx, hb, hr, hts, hown, hlocks, hml, hA, hK⟩ := id C
  have hl : lv_has ls 2 [(0, .ref (ht 0)), (1, .int x1)] := hl
  generalize hH : s.heap = H at hP ⊢
  have hS : va_S A s.heap H [] := by rw [← hH]; exact hS
  generalize ([] : List Loc) = locs at hS ⊢
  refine lv_aload_n hx hb dX6_tillOf_0 rfl (lv_at hl 0 rfl) ?_
  refine lv_iload_n hx hb dX6_tillOf_1 rfl (lv_at hl 1 rfl) ?_
  obtain ⟨q1, hc, hf⟩ := zbd hf
  refine z_cVi0 (As := [.int x1]) (rest := []) C (c_X6_isVersion l D cy ht St x1 q1 hc) gV_X6_X6_isVersion hd_X6_isVersion ⟨Nat.le_of_ble_eq_true rfl, Nat.le_of_ble_eq_true rfl⟩ ⟨Nat.le_refl _, Nat.le_refl _⟩ (va_recv hK hP (ci := 3) (q0 := 0) rfl rfl) hP hD hS hl.1 (Nat.le_of_ble_eq_true rfl) dX6_tillOf_2 (fun H locs hP hD hS => ?_)
  have hP : va_P D vwCl (wRows ht cy St) H := hP
  have hD : va_D A (wRows ht cy St) := hD
  refine z_if_eq (tgt := 17) hx hb dX6_tillOf_5 (by decide) hf (fun hf => ?_) (fun hf => ?_)
  · refine lv_bipush (v := (-2 : Int32)) hx hb dX6_tillOf_17 (by decide) ?_
    obtain rfl := Option.some.inj hf
    exact z_iret (v := (-2 : Int32)) C hP hD hS dX6_tillOf_19
  · refine lv_aload_n hx hb dX6_tillOf_8 rfl (lv_at hl 0 rfl) ?_
    refine va_get (D := D) (ci := 3) (v := .ref (ht 6)) (C := RX6) (T := TX6) (N := 16) hx hb hts in_X6 hown hK hP 0 rfl rfl 14 (by decide) (hts _ q1_72) (fun _ h9 => h9) rfl dX6_tillOf_9 ?_
    refine lv_iload_n hx hb dX6_tillOf_12 rfl (lv_at hl 1 rfl) ?_
    refine z_iald (f := (Rows_tills St)) hx hb hK hP 6 0 rfl rfl dX6_tillOf_13 hf (fun hf => ?_)
    refine lv_goto (tgt := 19) hx hb dX6_tillOf_14 (by decide) ?_
    obtain rfl := Option.some.inj hf
    exact z_iret (v := ((Rows_tills St) x1.toNatClampNeg)) C hP hD hS dX6_tillOf_19
def f_X6_isDead (St : SRows) (x1 : Int32) (x2 : Int64) (x4 : Int64) : Option (Int32) :=
  (f_X6_fromOf St x1).bind (fun q1 =>
    (f_X6_holds x2 q1).bind (fun q2 =>
      (if q2 = 0 then
        (f_X6_tillOf St x1).bind (fun q3 =>
          (f_X6_holds x4 q3).bind (fun q4 =>
            (if q4 = 0 then
              some (0 : Int32)
              else
              some (1 : Int32))))
        else
        some (1 : Int32))))
set_option maxHeartbeats 4000000 in
set_option maxRecDepth 100000 in
theorem c_X6_isDead (l : Launch) (D : va_G) (cy : Nat → ClassId) (ht : Nat → Nat) (St : SRows) (x1 : Int32) (x2 : Int64) (x4 : Int64) (r : Int32) (hf : f_X6_isDead St x1 x2 x4 = some r) : zCI l yX6_isDead cX6_isDead 6 (some FieldType.boolean) 2 42 D (zty cy) [.ref (ht 0), .int x1, .long x2, .long x4] (wRows ht cy St) (wRows ht cy St) r := by
  refine zCI_of (by decide +kernel) (Nat.le_of_ble_eq_true rfl) ?_
  intro p e s m below meth c A ls C hP hD hS hl
  generalize hargs : ([.ref (ht 0), .int x1, .long x2, .long x4] : List Value).toArray = args at C ⊢
  have C : zX p s m meth c cX6_isDead 6 args RX6 (some FieldType.boolean) A D (zty cy) := C
  obtain ⟨hx, hb, hr, hts, hown, hlocks, hml, hA, hK⟩ := id C
  have hl : lv_has ls 6 [(0, .ref (ht 0)), (1, .int x1), (2, .long x2), (4, .long x4)] := hl
  generalize hH : s.heap = H at hP ⊢
  have hS : va_S A s.heap H [] := by rw [← hH]; exact hS
  generalize ([] : List Loc) = locs at hS ⊢
  refine lv_lload_n hx hb dX6_isDead_0 rfl (lv_at hl 2 rfl) ?_
  refine lv_aload_n hx hb dX6_isDead_1 rfl (lv_at hl 0 rfl) ?_
  refine lv_iload_n hx hb dX6_isDead_2 rfl (lv_at hl 1 rfl) ?_
  obtain ⟨q1, hc, hf⟩ := zbd hf
  refine z_cVi0 (As := [.int x1]) (rest := [.long x2]) C (c_X6_fromOf l D cy ht St x1 q1 hc) gV_X6_X6_fromOf hd_X6_fromOf ⟨Nat.le_of_ble_eq_true rfl, Nat.le_of_ble_eq_true rfl⟩ ⟨Nat.le_refl _, Nat.le_refl _⟩ (va_recv hK hP (ci := 3) (q0 := 0) rfl rfl) hP hD hS hl.1 (Nat.le_of_ble_eq_true rfl) dX6_isDead_3 (fun H locs hP hD hS => ?_)
  have hP : va_P D vwCl (wRows ht cy St) H := hP
  have hD : va_D A (wRows ht cy St) := hD
  obtain ⟨q2, hc, hf⟩ := zbd hf
  refine z_cSiE (As := [.long x2, .int q1]) (rest := []) C (c_X6_holds l D cy x2 q1 q2 hc) gS_X6_X6_holds hd_X6_holds ⟨Nat.le_of_ble_eq_true rfl, Nat.le_of_ble_eq_true rfl⟩ ⟨Nat.le_refl _, Nat.le_refl _⟩ hP hD hS hl.1 (Nat.le_of_ble_eq_true rfl) dX6_isDead_6 (fun H locs hP hD hS => ?_)
  refine z_if_ne (tgt := 25) hx hb dX6_isDead_9 (by decide) hf (fun hf => ?_) (fun hf => ?_)
  · refine lv_iconst (v := (1 : Int32)) hx hb dX6_isDead_25 (by decide) ?_
    refine lv_goto (tgt := 30) hx hb dX6_isDead_26 (by decide) ?_
    obtain rfl := Option.some.inj hf
    exact z_zret (v := (1 : Int32)) C rfl hP hD hS dX6_isDead_30
  · refine lv_lload hx hb dX6_isDead_12 (lv_at hl 3 rfl) ?_
    refine lv_aload_n hx hb dX6_isDead_14 rfl (lv_at hl 0 rfl) ?_
    refine lv_iload_n hx hb dX6_isDead_15 rfl (lv_at hl 1 rfl) ?_
    obtain ⟨q3, hc, hf⟩ := zbd hf
    refine z_cVi0 (As := [.int x1]) (rest := [.long x4]) C (c_X6_tillOf l D cy ht St x1 q3 hc) gV_X6_X6_tillOf hd_X6_tillOf ⟨Nat.le_of_ble_eq_true rfl, Nat.le_of_ble_eq_true rfl⟩ ⟨Nat.le_refl _, Nat.le_refl _⟩ (va_recv hK hP (ci := 3) (q0 := 0) rfl rfl) hP hD hS hl.1 (Nat.le_of_ble_eq_true rfl) dX6_isDead_16 (fun H locs hP hD hS => ?_)
    have hP : va_P D vwCl (wRows ht cy St) H := hP
    have hD : va_D A (wRows ht cy St) := hD
    obtain ⟨q4, hc, hf⟩ := zbd hf
    refine z_cSiE (As := [.long x4, .int q3]) (rest := []) C (c_X6_holds l D cy x4 q3 q4 hc) gS_X6_X6_holds hd_X6_holds ⟨Nat.le_of_ble_eq_true rfl, Nat.le_of_ble_eq_true rfl⟩ ⟨Nat.le_refl _, Nat.le_refl _⟩ hP hD hS hl.1 (Nat.le_of_ble_eq_true rfl) dX6_isDead_19 (fun H locs hP hD hS => ?_)
    refine z_if_eq (tgt := 29) hx hb dX6_isDead_22 (by decide) hf (fun hf => ?_) (fun hf => ?_)
    · refine lv_iconst (v := (0 : Int32)) hx hb dX6_isDead_29 (by decide) ?_
      obtain rfl := Option.some.inj hf
      exact z_zret (v := (0 : Int32)) C rfl hP hD hS dX6_isDead_30
    · refine lv_iconst (v := (1 : Int32)) hx hb dX6_isDead_25 (by decide) ?_
      refine lv_goto (tgt := 30) hx hb dX6_isDead_26 (by decide) ?_
      obtain rfl := Option.some.inj hf
      exact z_zret (v := (1 : Int32)) C rfl hP hD hS dX6_isDead_30
def b_X6_inUseWhenFrozen_12 (St : SRows) (k12 : Int64 → Int64 → Int32 → Option (Int64)) (v1 : Int64) (v3 : Int64) (v5 : Int32) : Option (Int64) :=
  (if (48 : Int32) ≤ v5 then
    (f_X6_heldWithout St (-2 : Int32)).bind (fun q1 =>
      some (v3 ||| q1))
    else
    (f_X6_isVersion St v5).bind (fun q2 =>
      (if q2 = 0 then
        (k12 v1 v3 (v5 + (1 : Int32)))
        else
        (f_X6_isDead St v5 (Rows_goneStamps St) v1).bind (fun q3 =>
          (if q3 = 0 then
            (if zib v5 48 then (f_X6_bitOf ((Rows_froms St) v5.toNatClampNeg)).bind (fun q4 =>
                (if zib v5 48 then (f_X6_bitOf ((Rows_tills St) v5.toNatClampNeg)).bind (fun q5 =>
                    (k12 v1 (v3 ||| ((q4 &&& (v1 ^^^ (-1 : Int64))) ||| (q5 &&& ((Rows_goneStamps St) ^^^ (-1 : Int64))))) (v5 + (1 : Int32)))) else none)) else none)
            else
            (k12 v1 v3 (v5 + (1 : Int32))))))))
set_option maxHeartbeats 4000000 in
set_option maxRecDepth 100000 in
theorem w_X6_inUseWhenFrozen_12 {p : Program} {e : Env} {s : State} {m : MethodId} {below : List Frame} {meth : Method} {c : Code} {A : Nat → Prop} {D : va_G} {cy : Nat → ClassId} {args : Array Value} {r : Int64} (l : Launch) (ht : Nat → Nat) (St : SRows) (C : zX p s m meth c cX6_inUseWhenFrozen 6 args RX6 (some FieldType.long) A D (zty cy)) :
    ∀ (n : Nat) (v1 : Int64) (v3 : Int64) (v5 : Int32) (H : Heap) (locs : List Loc) (ls : Array Slot), zl3 (b_X6_inUseWhenFrozen_12 St) n v1 v3 v5 = some r → va_P D vwCl (wRows ht cy St) H → va_D A (wRows ht cy St) → va_S A s.heap H locs → lv_has ls 6 [(0, .ref (ht 0)), (1, .long v1), (3, .long v3), (5, .int v5)] → W p l e (zRm 3 70) s m args below meth c H locs 0 0 (MQ below (zQL D (zty cy) A (wRows ht cy St) r) args s 0 0 A) (F0 m 12 ls []) := by
  obtain ⟨hx, hb, hr, hts, hown, hlocks, hml, hA, hK⟩ := id C
  intro n
  induction n with
  | zero => intro v1 v3 v5 H locs ls hf; exact zno hf
  | succ n ih =>
    intro v1 v3 v5 H locs ls hf hP hD hS hl
    have hf : b_X6_inUseWhenFrozen_12 St (zl3 (b_X6_inUseWhenFrozen_12 St) n) v1 v3 v5 = some r := hf
    have K12 := ih
    refine lv_iload hx hb dX6_inUseWhenFrozen_12 (lv_at hl 3 rfl) ?_
    refine lv_bipush (v := (48 : Int32)) hx hb dX6_inUseWhenFrozen_14 (by decide) ?_
    refine z_icmp_ge (tgt := 87) hx hb dX6_inUseWhenFrozen_16 (by decide) hf (fun hf => ?_) (fun hf => ?_)
    · refine lv_lload_n hx hb dX6_inUseWhenFrozen_87 rfl (lv_at hl 2 rfl) ?_
      refine lv_aload_n hx hb dX6_inUseWhenFrozen_88 rfl (lv_at hl 0 rfl) ?_
      refine lv_bipush (v := (-2 : Int32)) hx hb dX6_inUseWhenFrozen_89 (by decide) ?_
      obtain ⟨q1, hc, hf⟩ := zbd hf
      refine z_cVl0 (As := [.int (-2 : Int32)]) (rest := [.long v3]) C (c_X6_heldWithout l D cy ht St (-2 : Int32) q1 hc) gV_X6_X6_heldWithout hd_X6_heldWithout ⟨Nat.le_of_ble_eq_true rfl, Nat.le_of_ble_eq_true rfl⟩ ⟨Nat.le_refl _, Nat.le_refl _⟩ (va_recv hK hP (ci := 3) (q0 := 0) rfl rfl) hP hD hS hl.1 (Nat.le_of_ble_eq_true rfl) dX6_inUseWhenFrozen_91 (fun H locs hP hD hS => ?_)
      have hP : va_P D vwCl (wRows ht cy St) H := hP
      have hD : va_D A (wRows ht cy St) := hD
      refine lv_lor hx hb dX6_inUseWhenFrozen_94 ?_
      obtain rfl := Option.some.inj hf
      exact z_lret (v := (v3 ||| q1)) C hP hD hS dX6_inUseWhenFrozen_95
    · refine lv_aload_n hx hb dX6_inUseWhenFrozen_19 rfl (lv_at hl 0 rfl) ?_
      refine lv_iload hx hb dX6_inUseWhenFrozen_20 (lv_at hl 3 rfl) ?_
      obtain ⟨q2, hc, hf⟩ := zbd hf
      refine z_cVi0 (As := [.int v5]) (rest := []) C (c_X6_isVersion l D cy ht St v5 q2 hc) gV_X6_X6_isVersion hd_X6_isVersion ⟨Nat.le_of_ble_eq_true rfl, Nat.le_of_ble_eq_true rfl⟩ ⟨Nat.le_refl _, Nat.le_refl _⟩ (va_recv hK hP (ci := 3) (q0 := 0) rfl rfl) hP hD hS hl.1 (Nat.le_of_ble_eq_true rfl) dX6_inUseWhenFrozen_22 (fun H locs hP hD hS => ?_)
      have hP : va_P D vwCl (wRows ht cy St) H := hP
      have hD : va_D A (wRows ht cy St) := hD
      refine z_if_eq (tgt := 81) hx hb dX6_inUseWhenFrozen_25 (by decide) hf (fun hf => ?_) (fun hf => ?_)
      · refine lv_iinc (v := (v5 + (1 : Int32))) (lv' := [(5, .int (v5 + (1 : Int32))), (0, .ref (ht 0)), (1, .long v1), (3, .long v3)]) hx hb dX6_inUseWhenFrozen_81 hl (k := 3) rfl rfl (by decide) rfl (fun ls hl => ?_)
        refine lv_goto (tgt := 12) hx hb dX6_inUseWhenFrozen_84 (by decide) ?_
        exact K12 v1 v3 (v5 + (1 : Int32)) H locs ls hf hP hD hS (lv_sub hl [1, 2, 3, 0] rfl)
      · refine lv_aload_n hx hb dX6_inUseWhenFrozen_28 rfl (lv_at hl 0 rfl) ?_
        refine lv_iload hx hb dX6_inUseWhenFrozen_29 (lv_at hl 3 rfl) ?_
        refine lv_aload_n hx hb dX6_inUseWhenFrozen_31 rfl (lv_at hl 0 rfl) ?_
        refine va_get (D := D) (ci := 3) (v := .long (Rows_goneStamps St)) (C := RX6) (T := TX6) (N := 16) hx hb hts in_X6 hown hK hP 0 rfl rfl 8 (by decide) (hts _ q1_66) (fun _ h9 => h9) rfl dX6_inUseWhenFrozen_32 ?_
        refine lv_lload_n hx hb dX6_inUseWhenFrozen_35 rfl (lv_at hl 1 rfl) ?_
        obtain ⟨q3, hc, hf⟩ := zbd hf
        refine z_cVi0 (As := [.int v5, .long (Rows_goneStamps St), .long v1]) (rest := []) C (c_X6_isDead l D cy ht St v5 (Rows_goneStamps St) v1 q3 hc) gV_X6_X6_isDead hd_X6_isDead ⟨Nat.le_of_ble_eq_true rfl, Nat.le_of_ble_eq_true rfl⟩ ⟨Nat.le_refl _, Nat.le_refl _⟩ (va_recv hK hP (ci := 3) (q0 := 0) rfl rfl) hP hD hS hl.1 (Nat.le_of_ble_eq_true rfl) dX6_inUseWhenFrozen_36 (fun H locs hP hD hS => ?_)
        have hP : va_P D vwCl (wRows ht cy St) H := hP
        have hD : va_D A (wRows ht cy St) := hD
        refine z_if_ne (tgt := 81) hx hb dX6_inUseWhenFrozen_39 (by decide) hf (fun hf => ?_) (fun hf => ?_)
        · refine lv_iinc (v := (v5 + (1 : Int32))) (lv' := [(5, .int (v5 + (1 : Int32))), (0, .ref (ht 0)), (1, .long v1), (3, .long v3)]) hx hb dX6_inUseWhenFrozen_81 hl (k := 3) rfl rfl (by decide) rfl (fun ls hl => ?_)
          refine lv_goto (tgt := 12) hx hb dX6_inUseWhenFrozen_84 (by decide) ?_
          exact K12 v1 v3 (v5 + (1 : Int32)) H locs ls hf hP hD hS (lv_sub hl [1, 2, 3, 0] rfl)
        · refine lv_lload_n hx hb dX6_inUseWhenFrozen_42 rfl (lv_at hl 2 rfl) ?_
          refine lv_aload_n hx hb dX6_inUseWhenFrozen_43 rfl (lv_at hl 0 rfl) ?_
          refine va_get (D := D) (ci := 3) (v := .ref (ht 5)) (C := RX6) (T := TX6) (N := 16) hx hb hts in_X6 hown hK hP 0 rfl rfl 13 (by decide) (hts _ q1_71) (fun _ h9 => h9) rfl dX6_inUseWhenFrozen_44 ?_
          refine lv_iload hx hb dX6_inUseWhenFrozen_47 (lv_at hl 3 rfl) ?_
          refine z_iald (f := (Rows_froms St)) hx hb hK hP 5 0 rfl rfl dX6_inUseWhenFrozen_49 hf (fun hf => ?_)
          obtain ⟨q4, hc, hf⟩ := zbd hf
          refine z_cSlE (As := [.int ((Rows_froms St) v5.toNatClampNeg)]) (rest := [.long v3]) C (c_X6_bitOf l D cy ((Rows_froms St) v5.toNatClampNeg) q4 hc) gS_X6_X6_bitOf hd_X6_bitOf ⟨Nat.le_of_ble_eq_true rfl, Nat.le_of_ble_eq_true rfl⟩ ⟨Nat.le_refl _, Nat.le_refl _⟩ hP hD hS hl.1 (Nat.le_of_ble_eq_true rfl) dX6_inUseWhenFrozen_50 (fun H locs hP hD hS => ?_)
          refine lv_lload_n hx hb dX6_inUseWhenFrozen_53 rfl (lv_at hl 1 rfl) ?_
          refine lv_ldc2 (v := (-1 : Int64)) hx hb hown (hts _ q3_46) dX6_inUseWhenFrozen_54 ?_
          refine lv_lxor hx hb dX6_inUseWhenFrozen_57 ?_
          refine lv_land hx hb dX6_inUseWhenFrozen_58 ?_
          refine lv_aload_n hx hb dX6_inUseWhenFrozen_59 rfl (lv_at hl 0 rfl) ?_
          refine va_get (D := D) (ci := 3) (v := .ref (ht 6)) (C := RX6) (T := TX6) (N := 16) hx hb hts in_X6 hown hK hP 0 rfl rfl 14 (by decide) (hts _ q1_72) (fun _ h9 => h9) rfl dX6_inUseWhenFrozen_60 ?_
          refine lv_iload hx hb dX6_inUseWhenFrozen_63 (lv_at hl 3 rfl) ?_
          refine z_iald (f := (Rows_tills St)) hx hb hK hP 6 0 rfl rfl dX6_inUseWhenFrozen_65 hf (fun hf => ?_)
          obtain ⟨q5, hc, hf⟩ := zbd hf
          refine z_cSlE (As := [.int ((Rows_tills St) v5.toNatClampNeg)]) (rest := [.long (q4 &&& (v1 ^^^ (-1 : Int64))), .long v3]) C (c_X6_bitOf l D cy ((Rows_tills St) v5.toNatClampNeg) q5 hc) gS_X6_X6_bitOf hd_X6_bitOf ⟨Nat.le_of_ble_eq_true rfl, Nat.le_of_ble_eq_true rfl⟩ ⟨Nat.le_refl _, Nat.le_refl _⟩ hP hD hS hl.1 (Nat.le_of_ble_eq_true rfl) dX6_inUseWhenFrozen_66 (fun H locs hP hD hS => ?_)
          refine lv_aload_n hx hb dX6_inUseWhenFrozen_69 rfl (lv_at hl 0 rfl) ?_
          refine va_get (D := D) (ci := 3) (v := .long (Rows_goneStamps St)) (C := RX6) (T := TX6) (N := 16) hx hb hts in_X6 hown hK hP 0 rfl rfl 8 (by decide) (hts _ q1_66) (fun _ h9 => h9) rfl dX6_inUseWhenFrozen_70 ?_
          refine lv_ldc2 (v := (-1 : Int64)) hx hb hown (hts _ q3_46) dX6_inUseWhenFrozen_73 ?_
          refine lv_lxor hx hb dX6_inUseWhenFrozen_76 ?_
          refine lv_land hx hb dX6_inUseWhenFrozen_77 ?_
          refine lv_lor hx hb dX6_inUseWhenFrozen_78 ?_
          refine lv_lor hx hb dX6_inUseWhenFrozen_79 ?_
          refine lv_lstore_n (lv' := [(3, .long (v3 ||| ((q4 &&& (v1 ^^^ (-1 : Int64))) ||| (q5 &&& ((Rows_goneStamps St) ^^^ (-1 : Int64)))))), (0, .ref (ht 0)), (1, .long v1), (5, .int v5)]) hx hb dX6_inUseWhenFrozen_80 rfl hl (by decide) rfl (fun ls hl => ?_)
          refine lv_iinc (v := (v5 + (1 : Int32))) (lv' := [(5, .int (v5 + (1 : Int32))), (3, .long (v3 ||| ((q4 &&& (v1 ^^^ (-1 : Int64))) ||| (q5 &&& ((Rows_goneStamps St) ^^^ (-1 : Int64)))))), (0, .ref (ht 0)), (1, .long v1)]) hx hb dX6_inUseWhenFrozen_81 hl (k := 3) rfl rfl (by decide) rfl (fun ls hl => ?_)
          refine lv_goto (tgt := 12) hx hb dX6_inUseWhenFrozen_84 (by decide) ?_
          exact K12 v1 (v3 ||| ((q4 &&& (v1 ^^^ (-1 : Int64))) ||| (q5 &&& ((Rows_goneStamps St) ^^^ (-1 : Int64))))) (v5 + (1 : Int32)) H locs ls hf hP hD hS (lv_sub hl [2, 3, 1, 0] rfl)
def f_X6_inUseWhenFrozen (St : SRows) : Option (Int64) :=
  (f_X6_settledWithout St (-2 : Int32)).bind (fun q6 =>
    (zl3 (b_X6_inUseWhenFrozen_12 St) FU q6 (0 : Int64) (0 : Int32)))
set_option maxHeartbeats 4000000 in
set_option maxRecDepth 100000 in
theorem c_X6_inUseWhenFrozen (l : Launch) (D : va_G) (cy : Nat → ClassId) (ht : Nat → Nat) (St : SRows) (r : Int64) (hf : f_X6_inUseWhenFrozen St = some r) : zCL l yX6_inUseWhenFrozen cX6_inUseWhenFrozen 6 (some FieldType.long) 3 70 D (zty cy) [.ref (ht 0)] (wRows ht cy St) (wRows ht cy St) r := by
  refine zCL_of (by decide +kernel) (Nat.le_of_ble_eq_true rfl) ?_
  intro p e s m below meth c A ls C hP hD hS hl
  generalize hargs : ([.ref (ht 0)] : List Value).toArray = args at C ⊢
  have C : zX p s m meth c cX6_inUseWhenFrozen 6 args RX6 (some FieldType.long) A D (zty cy) := C
  obtain ⟨hx, hb, hr, hts, hown, hlocks, hml, hA, hK⟩ := id C
  have hl : lv_has ls 6 [(0, .ref (ht 0))] := hl
  generalize hH : s.heap = H at hP ⊢
  have hS : va_S A s.heap H [] := by rw [← hH]; exact hS
  generalize ([] : List Loc) = locs at hS ⊢
  refine lv_aload_n hx hb dX6_inUseWhenFrozen_0 rfl (lv_at hl 0 rfl) ?_
  refine lv_bipush (v := (-2 : Int32)) hx hb dX6_inUseWhenFrozen_1 (by decide) ?_
  obtain ⟨q6, hc, hf⟩ := zbd hf
  refine z_cVl0 (As := [.int (-2 : Int32)]) (rest := []) C (c_X6_settledWithout l D cy ht St (-2 : Int32) q6 hc) gV_X6_X6_settledWithout hd_X6_settledWithout ⟨Nat.le_of_ble_eq_true rfl, Nat.le_of_ble_eq_true rfl⟩ ⟨Nat.le_refl _, Nat.le_refl _⟩ (va_recv hK hP (ci := 3) (q0 := 0) rfl rfl) hP hD hS hl.1 (Nat.le_of_ble_eq_true rfl) dX6_inUseWhenFrozen_3 (fun H locs hP hD hS => ?_)
  have hP : va_P D vwCl (wRows ht cy St) H := hP
  have hD : va_D A (wRows ht cy St) := hD
  refine lv_lstore_n (lv' := [(1, .long q6), (0, .ref (ht 0))]) hx hb dX6_inUseWhenFrozen_6 rfl hl (by decide) rfl (fun ls hl => ?_)
  refine lv_lconst (v := (0 : Int64)) hx hb dX6_inUseWhenFrozen_7 (by decide) ?_
  refine lv_lstore_n (lv' := [(3, .long (0 : Int64)), (1, .long q6), (0, .ref (ht 0))]) hx hb dX6_inUseWhenFrozen_8 rfl hl (by decide) rfl (fun ls hl => ?_)
  refine lv_iconst (v := (0 : Int32)) hx hb dX6_inUseWhenFrozen_9 (by decide) ?_
  refine lv_istore (lv' := [(5, .int (0 : Int32)), (3, .long (0 : Int64)), (1, .long q6), (0, .ref (ht 0))]) hx hb dX6_inUseWhenFrozen_10 hl (by decide) rfl (fun ls hl => ?_)
  exact w_X6_inUseWhenFrozen_12 l ht St C FU q6 (0 : Int64) (0 : Int32) H locs ls hf hP hD hS (lv_sub hl [3, 2, 1, 0] rfl)
def b_X6_firstFreeSlot_2 (St : SRows) (k2 : Int32 → Option (Int32)) (v1 : Int32) : Option (Int32) :=
  (if (6 : Int32) ≤ v1 then
    some (-2 : Int32)
    else
    (if zib v1 6 then (if ((Rows_stamps St) v1.toNatClampNeg) = (-2 : Int32) then
        some v1
        else
        (k2 (v1 + (1 : Int32)))) else none))
set_option maxHeartbeats 4000000 in
set_option maxRecDepth 100000 in
theorem w_X6_firstFreeSlot_2 {p : Program} {e : Env} {s : State} {m : MethodId} {below : List Frame} {meth : Method} {c : Code} {A : Nat → Prop} {D : va_G} {cy : Nat → ClassId} {args : Array Value} {r : Int32} (l : Launch) (ht : Nat → Nat) (St : SRows) (C : zX p s m meth c cX6_firstFreeSlot 2 args RX6 (some FieldType.int) A D (zty cy)) :
    ∀ (n : Nat) (v1 : Int32) (H : Heap) (locs : List Loc) (ls : Array Slot), zl1 (b_X6_firstFreeSlot_2 St) n v1 = some r → va_P D vwCl (wRows ht cy St) H → va_D A (wRows ht cy St) → va_S A s.heap H locs → lv_has ls 2 [(0, .ref (ht 0)), (1, .int v1)] → W p l e (zRm 0 0) s m args below meth c H locs 0 0 (MQ below (zQI D (zty cy) A (wRows ht cy St) r) args s 0 0 A) (F0 m 2 ls []) := by
  obtain ⟨hx, hb, hr, hts, hown, hlocks, hml, hA, hK⟩ := id C
  intro n
  induction n with
  | zero => intro v1 H locs ls hf; exact zno hf
  | succ n ih =>
    intro v1 H locs ls hf hP hD hS hl
    have hf : b_X6_firstFreeSlot_2 St (zl1 (b_X6_firstFreeSlot_2 St) n) v1 = some r := hf
    have K2 := ih
    refine lv_iload_n hx hb dX6_firstFreeSlot_2 rfl (lv_at hl 1 rfl) ?_
    refine lv_bipush (v := (6 : Int32)) hx hb dX6_firstFreeSlot_3 (by decide) ?_
    refine z_icmp_ge (tgt := 27) hx hb dX6_firstFreeSlot_5 (by decide) hf (fun hf => ?_) (fun hf => ?_)
    · refine lv_bipush (v := (-2 : Int32)) hx hb dX6_firstFreeSlot_27 (by decide) ?_
      obtain rfl := Option.some.inj hf
      exact z_iret (v := (-2 : Int32)) C hP hD hS dX6_firstFreeSlot_29
    · refine lv_aload_n hx hb dX6_firstFreeSlot_8 rfl (lv_at hl 0 rfl) ?_
      refine va_get (D := D) (ci := 3) (v := .ref (ht 1)) (C := RX6) (T := TX6) (N := 16) hx hb hts in_X6 hown hK hP 0 rfl rfl 9 (by decide) (hts _ q1_67) (fun _ h9 => h9) rfl dX6_firstFreeSlot_9 ?_
      refine lv_iload_n hx hb dX6_firstFreeSlot_12 rfl (lv_at hl 1 rfl) ?_
      refine z_iald (f := (Rows_stamps St)) hx hb hK hP 1 0 rfl rfl dX6_firstFreeSlot_13 hf (fun hf => ?_)
      refine lv_bipush (v := (-2 : Int32)) hx hb dX6_firstFreeSlot_14 (by decide) ?_
      refine z_icmp_ne (tgt := 21) hx hb dX6_firstFreeSlot_16 (by decide) hf (fun hf => ?_) (fun hf => ?_)
      · refine lv_iinc (v := (v1 + (1 : Int32))) (lv' := [(1, .int (v1 + (1 : Int32))), (0, .ref (ht 0))]) hx hb dX6_firstFreeSlot_21 hl (k := 1) rfl rfl (by decide) rfl (fun ls hl => ?_)
        refine lv_goto (tgt := 2) hx hb dX6_firstFreeSlot_24 (by decide) ?_
        exact K2 (v1 + (1 : Int32)) H locs ls hf hP hD hS (lv_sub hl [1, 0] rfl)
      · refine lv_iload_n hx hb dX6_firstFreeSlot_19 rfl (lv_at hl 1 rfl) ?_
        obtain rfl := Option.some.inj hf
        exact z_iret (v := v1) C hP hD hS dX6_firstFreeSlot_20
def f_X6_firstFreeSlot (St : SRows) : Option (Int32) :=
  (zl1 (b_X6_firstFreeSlot_2 St) FU (0 : Int32))
set_option maxHeartbeats 4000000 in
set_option maxRecDepth 100000 in
theorem c_X6_firstFreeSlot (l : Launch) (D : va_G) (cy : Nat → ClassId) (ht : Nat → Nat) (St : SRows) (r : Int32) (hf : f_X6_firstFreeSlot St = some r) : zCI l yX6_firstFreeSlot cX6_firstFreeSlot 2 (some FieldType.int) 0 0 D (zty cy) [.ref (ht 0)] (wRows ht cy St) (wRows ht cy St) r := by
  refine zCI_of (by decide +kernel) (Nat.le_of_ble_eq_true rfl) ?_
  intro p e s m below meth c A ls C hP hD hS hl
  generalize hargs : ([.ref (ht 0)] : List Value).toArray = args at C ⊢
  have C : zX p s m meth c cX6_firstFreeSlot 2 args RX6 (some FieldType.int) A D (zty cy) := C
  obtain ⟨hx, hb, hr, hts, hown, hlocks, hml, hA, hK⟩ := id C
  have hl : lv_has ls 2 [(0, .ref (ht 0))] := hl
  generalize hH : s.heap = H at hP ⊢
  have hS : va_S A s.heap H [] := by rw [← hH]; exact hS
  generalize ([] : List Loc) = locs at hS ⊢
  refine lv_iconst (v := (0 : Int32)) hx hb dX6_firstFreeSlot_0 (by decide) ?_
  refine lv_istore_n (lv' := [(1, .int (0 : Int32)), (0, .ref (ht 0))]) hx hb dX6_firstFreeSlot_1 rfl hl (by decide) rfl (fun ls hl => ?_)
  exact w_X6_firstFreeSlot_2 l ht St C FU (0 : Int32) H locs ls hf hP hD hS (lv_sub hl [1, 0] rfl)
def f_X6_roomBeside (St : SRows) (x1 : Int64) : Option (Int32) :=
  (f_X6_greatestAge St x1).bind (fun q1 =>
    (if q1 = (-2 : Int32) then
      some (-2 : Int32)
      else
      (f_X6_firstFreeSlot St).bind (fun q2 =>
        (if q2 = (-2 : Int32) then
          some (0 : Int32)
          else
          some (if (0 : Int32) < (((Rows_ring St) / (2 : Int32)) - q1) then (((Rows_ring St) / (2 : Int32)) - q1) else (0 : Int32))))))
set_option maxHeartbeats 4000000 in
set_option maxRecDepth 100000 in
theorem c_X6_roomBeside (l : Launch) (D : va_G) (cy : Nat → ClassId) (ht : Nat → Nat) (St : SRows) (x1 : Int64) (r : Int32) (hf : f_X6_roomBeside St x1 = some r) : zCI l yX6_roomBeside cX6_roomBeside 4 (some FieldType.int) 2 64 D (zty cy) [.ref (ht 0), .long x1] (wRows ht cy St) (wRows ht cy St) r := by
  refine zCI_of (by decide +kernel) (Nat.le_of_ble_eq_true rfl) ?_
  intro p e s m below meth c A ls C hP hD hS hl
  generalize hargs : ([.ref (ht 0), .long x1] : List Value).toArray = args at C ⊢
  have C : zX p s m meth c cX6_roomBeside 4 args RX6 (some FieldType.int) A D (zty cy) := C
  obtain ⟨hx, hb, hr, hts, hown, hlocks, hml, hA, hK⟩ := id C
  have hl : lv_has ls 4 [(0, .ref (ht 0)), (1, .long x1)] := hl
  generalize hH : s.heap = H at hP ⊢
  have hS : va_S A s.heap H [] := by rw [← hH]; exact hS
  generalize ([] : List Loc) = locs at hS ⊢
  refine lv_aload_n hx hb dX6_roomBeside_0 rfl (lv_at hl 0 rfl) ?_
  refine lv_lload_n hx hb dX6_roomBeside_1 rfl (lv_at hl 1 rfl) ?_
  obtain ⟨q1, hc, hf⟩ := zbd hf
  refine z_cVi0 (As := [.long x1]) (rest := []) C (c_X6_greatestAge l D cy ht St x1 q1 hc) gV_X6_X6_greatestAge hd_X6_greatestAge ⟨Nat.le_of_ble_eq_true rfl, Nat.le_of_ble_eq_true rfl⟩ ⟨Nat.le_refl _, Nat.le_refl _⟩ (va_recv hK hP (ci := 3) (q0 := 0) rfl rfl) hP hD hS hl.1 (Nat.le_of_ble_eq_true rfl) dX6_roomBeside_2 (fun H locs hP hD hS => ?_)
  have hP : va_P D vwCl (wRows ht cy St) H := hP
  have hD : va_D A (wRows ht cy St) := hD
  refine lv_istore_n (lv' := [(3, .int q1), (0, .ref (ht 0)), (1, .long x1)]) hx hb dX6_roomBeside_5 rfl hl (by decide) rfl (fun ls hl => ?_)
  refine lv_iload_n hx hb dX6_roomBeside_6 rfl (lv_at hl 0 rfl) ?_
  refine lv_bipush (v := (-2 : Int32)) hx hb dX6_roomBeside_7 (by decide) ?_
  refine z_icmp_ne (tgt := 15) hx hb dX6_roomBeside_9 (by decide) hf (fun hf => ?_) (fun hf => ?_)
  · refine lv_aload_n hx hb dX6_roomBeside_15 rfl (lv_at hl 1 rfl) ?_
    obtain ⟨q2, hc, hf⟩ := zbd hf
    refine z_cVi0 (As := []) (rest := []) C (c_X6_firstFreeSlot l D cy ht St q2 hc) gV_X6_X6_firstFreeSlot hd_X6_firstFreeSlot ⟨Nat.le_of_ble_eq_true rfl, Nat.le_of_ble_eq_true rfl⟩ ⟨Nat.le_refl _, Nat.le_refl _⟩ (va_recv hK hP (ci := 3) (q0 := 0) rfl rfl) hP hD hS hl.1 (Nat.le_of_ble_eq_true rfl) dX6_roomBeside_16 (fun H locs hP hD hS => ?_)
    have hP : va_P D vwCl (wRows ht cy St) H := hP
    have hD : va_D A (wRows ht cy St) := hD
    refine lv_bipush (v := (-2 : Int32)) hx hb dX6_roomBeside_19 (by decide) ?_
    refine z_icmp_ne (tgt := 28) hx hb dX6_roomBeside_21 (by decide) hf (fun hf => ?_) (fun hf => ?_)
    · refine lv_iconst (v := (0 : Int32)) hx hb dX6_roomBeside_28 (by decide) ?_
      refine lv_aload_n hx hb dX6_roomBeside_29 rfl (lv_at hl 1 rfl) ?_
      refine va_get (D := D) (ci := 3) (v := .int (Rows_ring St)) (C := RX6) (T := TX6) (N := 16) hx hb hts in_X6 hown hK hP 0 rfl rfl 0 (by decide) (hts _ q1_49) (fun _ h9 => h9) rfl dX6_roomBeside_30 ?_
      refine lv_iconst (v := (2 : Int32)) hx hb dX6_roomBeside_33 (by decide) ?_
      refine lv_idiv hx hb dX6_roomBeside_34 (by decide) ?_
      refine lv_iload_n hx hb dX6_roomBeside_35 rfl (lv_at hl 0 rfl) ?_
      refine lv_isub hx hb dX6_roomBeside_36 ?_
      refine va_mmax hx hb (hml.trans hl.1.symm) hown (hts _ q3_35) (hts _ q3_36) (hts _ q1_9) (hts _ q3_37) (by decide) (Nat.le_of_ble_eq_true rfl) (by decide) (by decide) dX6_roomBeside_37 ?_
      obtain rfl := Option.some.inj hf
      exact z_iret (v := (if (0 : Int32) < (((Rows_ring St) / (2 : Int32)) - q1) then (((Rows_ring St) / (2 : Int32)) - q1) else (0 : Int32))) C hP hD hS dX6_roomBeside_40
    · refine lv_iconst (v := (0 : Int32)) hx hb dX6_roomBeside_24 (by decide) ?_
      refine lv_goto (tgt := 40) hx hb dX6_roomBeside_25 (by decide) ?_
      obtain rfl := Option.some.inj hf
      exact z_iret (v := (0 : Int32)) C hP hD hS dX6_roomBeside_40
  · refine lv_bipush (v := (-2 : Int32)) hx hb dX6_roomBeside_12 (by decide) ?_
    obtain rfl := Option.some.inj hf
    exact z_iret (v := (-2 : Int32)) C hP hD hS dX6_roomBeside_14
def f_X6_stampOf (St : SRows) (x1 : Int32) : Option (Int32) :=
  (f_X6_runs St x1).bind (fun q1 =>
    (if q1 = 0 then
      some (-2 : Int32)
      else
      (if zib x1 6 then some ((Rows_stamps St) x1.toNatClampNeg) else none)))
set_option maxHeartbeats 4000000 in
set_option maxRecDepth 100000 in
theorem c_X6_stampOf (l : Launch) (D : va_G) (cy : Nat → ClassId) (ht : Nat → Nat) (St : SRows) (x1 : Int32) (r : Int32) (hf : f_X6_stampOf St x1 = some r) : zCI l yX6_stampOf cX6_stampOf 2 (some FieldType.int) 1 21 D (zty cy) [.ref (ht 0), .int x1] (wRows ht cy St) (wRows ht cy St) r := by
  refine zCI_of (by decide +kernel) (Nat.le_of_ble_eq_true rfl) ?_
  intro p e s m below meth c A ls C hP hD hS hl
  generalize hargs : ([.ref (ht 0), .int x1] : List Value).toArray = args at C ⊢
  have C : zX p s m meth c cX6_stampOf 2 args RX6 (some FieldType.int) A D (zty cy) := C
  obtain ⟨hx, hb, hr, hts, hown, hlocks, hml, hA, hK⟩ := id C
  have hl : lv_has ls 2 [(0, .ref (ht 0)), (1, .int x1)] := hl
  generalize hH : s.heap = H at hP ⊢
  have hS : va_S A s.heap H [] := by rw [← hH]; exact hS
  generalize ([] : List Loc) = locs at hS ⊢
  refine lv_aload_n hx hb dX6_stampOf_0 rfl (lv_at hl 0 rfl) ?_
  refine lv_iload_n hx hb dX6_stampOf_1 rfl (lv_at hl 1 rfl) ?_
  obtain ⟨q1, hc, hf⟩ := zbd hf
  refine z_cVi0 (As := [.int x1]) (rest := []) C (c_X6_runs l D cy ht St x1 q1 hc) gV_X6_X6_runs hd_X6_runs ⟨Nat.le_of_ble_eq_true rfl, Nat.le_of_ble_eq_true rfl⟩ ⟨Nat.le_refl _, Nat.le_refl _⟩ (va_recv hK hP (ci := 3) (q0 := 0) rfl rfl) hP hD hS hl.1 (Nat.le_of_ble_eq_true rfl) dX6_stampOf_2 (fun H locs hP hD hS => ?_)
  have hP : va_P D vwCl (wRows ht cy St) H := hP
  have hD : va_D A (wRows ht cy St) := hD
  refine z_if_eq (tgt := 17) hx hb dX6_stampOf_5 (by decide) hf (fun hf => ?_) (fun hf => ?_)
  · refine lv_bipush (v := (-2 : Int32)) hx hb dX6_stampOf_17 (by decide) ?_
    obtain rfl := Option.some.inj hf
    exact z_iret (v := (-2 : Int32)) C hP hD hS dX6_stampOf_19
  · refine lv_aload_n hx hb dX6_stampOf_8 rfl (lv_at hl 0 rfl) ?_
    refine va_get (D := D) (ci := 3) (v := .ref (ht 1)) (C := RX6) (T := TX6) (N := 16) hx hb hts in_X6 hown hK hP 0 rfl rfl 9 (by decide) (hts _ q1_67) (fun _ h9 => h9) rfl dX6_stampOf_9 ?_
    refine lv_iload_n hx hb dX6_stampOf_12 rfl (lv_at hl 1 rfl) ?_
    refine z_iald (f := (Rows_stamps St)) hx hb hK hP 1 0 rfl rfl dX6_stampOf_13 hf (fun hf => ?_)
    refine lv_goto (tgt := 19) hx hb dX6_stampOf_14 (by decide) ?_
    obtain rfl := Option.some.inj hf
    exact z_iret (v := ((Rows_stamps St) x1.toNatClampNeg)) C hP hD hS dX6_stampOf_19
def f_J13_bitCount_95d88 (x0 : Int64) : Option (Int32) :=
  some ((((((((((x0 - ((jlushr x0 (1 : Int32)) &&& (6148914691236517205 : Int64))) &&& (3689348814741910323 : Int64)) + ((jlushr (x0 - ((jlushr x0 (1 : Int32)) &&& (6148914691236517205 : Int64))) (2 : Int32)) &&& (3689348814741910323 : Int64))) + (jlushr (((x0 - ((jlushr x0 (1 : Int32)) &&& (6148914691236517205 : Int64))) &&& (3689348814741910323 : Int64)) + ((jlushr (x0 - ((jlushr x0 (1 : Int32)) &&& (6148914691236517205 : Int64))) (2 : Int32)) &&& (3689348814741910323 : Int64))) (4 : Int32))) &&& (1085102592571150095 : Int64)) + (jlushr (((((x0 - ((jlushr x0 (1 : Int32)) &&& (6148914691236517205 : Int64))) &&& (3689348814741910323 : Int64)) + ((jlushr (x0 - ((jlushr x0 (1 : Int32)) &&& (6148914691236517205 : Int64))) (2 : Int32)) &&& (3689348814741910323 : Int64))) + (jlushr (((x0 - ((jlushr x0 (1 : Int32)) &&& (6148914691236517205 : Int64))) &&& (3689348814741910323 : Int64)) + ((jlushr (x0 - ((jlushr x0 (1 : Int32)) &&& (6148914691236517205 : Int64))) (2 : Int32)) &&& (3689348814741910323 : Int64))) (4 : Int32))) &&& (1085102592571150095 : Int64)) (8 : Int32))) + (jlushr ((((((x0 - ((jlushr x0 (1 : Int32)) &&& (6148914691236517205 : Int64))) &&& (3689348814741910323 : Int64)) + ((jlushr (x0 - ((jlushr x0 (1 : Int32)) &&& (6148914691236517205 : Int64))) (2 : Int32)) &&& (3689348814741910323 : Int64))) + (jlushr (((x0 - ((jlushr x0 (1 : Int32)) &&& (6148914691236517205 : Int64))) &&& (3689348814741910323 : Int64)) + ((jlushr (x0 - ((jlushr x0 (1 : Int32)) &&& (6148914691236517205 : Int64))) (2 : Int32)) &&& (3689348814741910323 : Int64))) (4 : Int32))) &&& (1085102592571150095 : Int64)) + (jlushr (((((x0 - ((jlushr x0 (1 : Int32)) &&& (6148914691236517205 : Int64))) &&& (3689348814741910323 : Int64)) + ((jlushr (x0 - ((jlushr x0 (1 : Int32)) &&& (6148914691236517205 : Int64))) (2 : Int32)) &&& (3689348814741910323 : Int64))) + (jlushr (((x0 - ((jlushr x0 (1 : Int32)) &&& (6148914691236517205 : Int64))) &&& (3689348814741910323 : Int64)) + ((jlushr (x0 - ((jlushr x0 (1 : Int32)) &&& (6148914691236517205 : Int64))) (2 : Int32)) &&& (3689348814741910323 : Int64))) (4 : Int32))) &&& (1085102592571150095 : Int64)) (8 : Int32))) (16 : Int32))) + (jlushr (((((((x0 - ((jlushr x0 (1 : Int32)) &&& (6148914691236517205 : Int64))) &&& (3689348814741910323 : Int64)) + ((jlushr (x0 - ((jlushr x0 (1 : Int32)) &&& (6148914691236517205 : Int64))) (2 : Int32)) &&& (3689348814741910323 : Int64))) + (jlushr (((x0 - ((jlushr x0 (1 : Int32)) &&& (6148914691236517205 : Int64))) &&& (3689348814741910323 : Int64)) + ((jlushr (x0 - ((jlushr x0 (1 : Int32)) &&& (6148914691236517205 : Int64))) (2 : Int32)) &&& (3689348814741910323 : Int64))) (4 : Int32))) &&& (1085102592571150095 : Int64)) + (jlushr (((((x0 - ((jlushr x0 (1 : Int32)) &&& (6148914691236517205 : Int64))) &&& (3689348814741910323 : Int64)) + ((jlushr (x0 - ((jlushr x0 (1 : Int32)) &&& (6148914691236517205 : Int64))) (2 : Int32)) &&& (3689348814741910323 : Int64))) + (jlushr (((x0 - ((jlushr x0 (1 : Int32)) &&& (6148914691236517205 : Int64))) &&& (3689348814741910323 : Int64)) + ((jlushr (x0 - ((jlushr x0 (1 : Int32)) &&& (6148914691236517205 : Int64))) (2 : Int32)) &&& (3689348814741910323 : Int64))) (4 : Int32))) &&& (1085102592571150095 : Int64)) (8 : Int32))) + (jlushr ((((((x0 - ((jlushr x0 (1 : Int32)) &&& (6148914691236517205 : Int64))) &&& (3689348814741910323 : Int64)) + ((jlushr (x0 - ((jlushr x0 (1 : Int32)) &&& (6148914691236517205 : Int64))) (2 : Int32)) &&& (3689348814741910323 : Int64))) + (jlushr (((x0 - ((jlushr x0 (1 : Int32)) &&& (6148914691236517205 : Int64))) &&& (3689348814741910323 : Int64)) + ((jlushr (x0 - ((jlushr x0 (1 : Int32)) &&& (6148914691236517205 : Int64))) (2 : Int32)) &&& (3689348814741910323 : Int64))) (4 : Int32))) &&& (1085102592571150095 : Int64)) + (jlushr (((((x0 - ((jlushr x0 (1 : Int32)) &&& (6148914691236517205 : Int64))) &&& (3689348814741910323 : Int64)) + ((jlushr (x0 - ((jlushr x0 (1 : Int32)) &&& (6148914691236517205 : Int64))) (2 : Int32)) &&& (3689348814741910323 : Int64))) + (jlushr (((x0 - ((jlushr x0 (1 : Int32)) &&& (6148914691236517205 : Int64))) &&& (3689348814741910323 : Int64)) + ((jlushr (x0 - ((jlushr x0 (1 : Int32)) &&& (6148914691236517205 : Int64))) (2 : Int32)) &&& (3689348814741910323 : Int64))) (4 : Int32))) &&& (1085102592571150095 : Int64)) (8 : Int32))) (16 : Int32))) (32 : Int32))).toInt32) &&& (127 : Int32))
set_option maxHeartbeats 4000000 in
set_option maxRecDepth 100000 in
theorem c_J13_bitCount_95d88 (l : Launch) (D : va_G) (cy : Nat → ClassId) (x0 : Int64) (r : Int32) (hf : f_J13_bitCount_95d88 x0 = some r) : zCI l yJ13_bitCount_95d88 cJ13_bitCount_95d88 2 (some FieldType.int) 0 0 D (zty cy) [.long x0] ([]) ([]) r := by
  refine zCI_of (by decide +kernel) (Nat.le_of_ble_eq_true rfl) ?_
  intro p e s m below meth c A ls C hP hD hS hl
  generalize hargs : ([.long x0] : List Value).toArray = args at C ⊢
  have C : zX p s m meth c cJ13_bitCount_95d88 2 args RJ13 (some FieldType.int) A D (zty cy) := C
  obtain ⟨hx, hb, hr, hts, hown, hlocks, hml, hA, hK⟩ := id C
  have hl : lv_has ls 2 [(0, .long x0)] := hl
  generalize hH : s.heap = H at hP ⊢
  have hS : va_S A s.heap H [] := by rw [← hH]; exact hS
  generalize ([] : List Loc) = locs at hS ⊢
  refine lv_lload_n hx hb dJ13_bitCount_95d88_0 rfl (lv_at hl 0 rfl) ?_
  refine lv_lload_n hx hb dJ13_bitCount_95d88_1 rfl (lv_at hl 0 rfl) ?_
  refine lv_iconst (v := (1 : Int32)) hx hb dJ13_bitCount_95d88_2 (by decide) ?_
  refine lv_lushr (v := (jlushr x0 (1 : Int32))) hx hb dJ13_bitCount_95d88_3 rfl ?_
  refine lv_ldc2 (v := (6148914691236517205 : Int64)) hx hb hown (hts _ q4_61) dJ13_bitCount_95d88_4 ?_
  refine lv_land hx hb dJ13_bitCount_95d88_7 ?_
  refine lv_lsub hx hb dJ13_bitCount_95d88_8 ?_
  refine lv_lstore_n (lv' := [(0, .long (x0 - ((jlushr x0 (1 : Int32)) &&& (6148914691236517205 : Int64))))]) hx hb dJ13_bitCount_95d88_9 rfl hl (by decide) rfl (fun ls hl => ?_)
  refine lv_lload_n hx hb dJ13_bitCount_95d88_10 rfl (lv_at hl 0 rfl) ?_
  refine lv_ldc2 (v := (3689348814741910323 : Int64)) hx hb hown (hts _ q4_62) dJ13_bitCount_95d88_11 ?_
  refine lv_land hx hb dJ13_bitCount_95d88_14 ?_
  refine lv_lload_n hx hb dJ13_bitCount_95d88_15 rfl (lv_at hl 0 rfl) ?_
  refine lv_iconst (v := (2 : Int32)) hx hb dJ13_bitCount_95d88_16 (by decide) ?_
  refine lv_lushr (v := (jlushr (x0 - ((jlushr x0 (1 : Int32)) &&& (6148914691236517205 : Int64))) (2 : Int32))) hx hb dJ13_bitCount_95d88_17 rfl ?_
  refine lv_ldc2 (v := (3689348814741910323 : Int64)) hx hb hown (hts _ q4_62) dJ13_bitCount_95d88_18 ?_
  refine lv_land hx hb dJ13_bitCount_95d88_21 ?_
  refine lv_ladd hx hb dJ13_bitCount_95d88_22 ?_
  refine lv_lstore_n (lv' := [(0, .long (((x0 - ((jlushr x0 (1 : Int32)) &&& (6148914691236517205 : Int64))) &&& (3689348814741910323 : Int64)) + ((jlushr (x0 - ((jlushr x0 (1 : Int32)) &&& (6148914691236517205 : Int64))) (2 : Int32)) &&& (3689348814741910323 : Int64))))]) hx hb dJ13_bitCount_95d88_23 rfl hl (by decide) rfl (fun ls hl => ?_)
  refine lv_lload_n hx hb dJ13_bitCount_95d88_24 rfl (lv_at hl 0 rfl) ?_
  refine lv_lload_n hx hb dJ13_bitCount_95d88_25 rfl (lv_at hl 0 rfl) ?_
  refine lv_iconst (v := (4 : Int32)) hx hb dJ13_bitCount_95d88_26 (by decide) ?_
  refine lv_lushr (v := (jlushr (((x0 - ((jlushr x0 (1 : Int32)) &&& (6148914691236517205 : Int64))) &&& (3689348814741910323 : Int64)) + ((jlushr (x0 - ((jlushr x0 (1 : Int32)) &&& (6148914691236517205 : Int64))) (2 : Int32)) &&& (3689348814741910323 : Int64))) (4 : Int32))) hx hb dJ13_bitCount_95d88_27 rfl ?_
  refine lv_ladd hx hb dJ13_bitCount_95d88_28 ?_
  refine lv_ldc2 (v := (1085102592571150095 : Int64)) hx hb hown (hts _ q4_63) dJ13_bitCount_95d88_29 ?_
  refine lv_land hx hb dJ13_bitCount_95d88_32 ?_
  refine lv_lstore_n (lv' := [(0, .long (((((x0 - ((jlushr x0 (1 : Int32)) &&& (6148914691236517205 : Int64))) &&& (3689348814741910323 : Int64)) + ((jlushr (x0 - ((jlushr x0 (1 : Int32)) &&& (6148914691236517205 : Int64))) (2 : Int32)) &&& (3689348814741910323 : Int64))) + (jlushr (((x0 - ((jlushr x0 (1 : Int32)) &&& (6148914691236517205 : Int64))) &&& (3689348814741910323 : Int64)) + ((jlushr (x0 - ((jlushr x0 (1 : Int32)) &&& (6148914691236517205 : Int64))) (2 : Int32)) &&& (3689348814741910323 : Int64))) (4 : Int32))) &&& (1085102592571150095 : Int64)))]) hx hb dJ13_bitCount_95d88_33 rfl hl (by decide) rfl (fun ls hl => ?_)
  refine lv_lload_n hx hb dJ13_bitCount_95d88_34 rfl (lv_at hl 0 rfl) ?_
  refine lv_lload_n hx hb dJ13_bitCount_95d88_35 rfl (lv_at hl 0 rfl) ?_
  refine lv_bipush (v := (8 : Int32)) hx hb dJ13_bitCount_95d88_36 (by decide) ?_
  refine lv_lushr (v := (jlushr (((((x0 - ((jlushr x0 (1 : Int32)) &&& (6148914691236517205 : Int64))) &&& (3689348814741910323 : Int64)) + ((jlushr (x0 - ((jlushr x0 (1 : Int32)) &&& (6148914691236517205 : Int64))) (2 : Int32)) &&& (3689348814741910323 : Int64))) + (jlushr (((x0 - ((jlushr x0 (1 : Int32)) &&& (6148914691236517205 : Int64))) &&& (3689348814741910323 : Int64)) + ((jlushr (x0 - ((jlushr x0 (1 : Int32)) &&& (6148914691236517205 : Int64))) (2 : Int32)) &&& (3689348814741910323 : Int64))) (4 : Int32))) &&& (1085102592571150095 : Int64)) (8 : Int32))) hx hb dJ13_bitCount_95d88_38 rfl ?_
  refine lv_ladd hx hb dJ13_bitCount_95d88_39 ?_
  refine lv_lstore_n (lv' := [(0, .long ((((((x0 - ((jlushr x0 (1 : Int32)) &&& (6148914691236517205 : Int64))) &&& (3689348814741910323 : Int64)) + ((jlushr (x0 - ((jlushr x0 (1 : Int32)) &&& (6148914691236517205 : Int64))) (2 : Int32)) &&& (3689348814741910323 : Int64))) + (jlushr (((x0 - ((jlushr x0 (1 : Int32)) &&& (6148914691236517205 : Int64))) &&& (3689348814741910323 : Int64)) + ((jlushr (x0 - ((jlushr x0 (1 : Int32)) &&& (6148914691236517205 : Int64))) (2 : Int32)) &&& (3689348814741910323 : Int64))) (4 : Int32))) &&& (1085102592571150095 : Int64)) + (jlushr (((((x0 - ((jlushr x0 (1 : Int32)) &&& (6148914691236517205 : Int64))) &&& (3689348814741910323 : Int64)) + ((jlushr (x0 - ((jlushr x0 (1 : Int32)) &&& (6148914691236517205 : Int64))) (2 : Int32)) &&& (3689348814741910323 : Int64))) + (jlushr (((x0 - ((jlushr x0 (1 : Int32)) &&& (6148914691236517205 : Int64))) &&& (3689348814741910323 : Int64)) + ((jlushr (x0 - ((jlushr x0 (1 : Int32)) &&& (6148914691236517205 : Int64))) (2 : Int32)) &&& (3689348814741910323 : Int64))) (4 : Int32))) &&& (1085102592571150095 : Int64)) (8 : Int32))))]) hx hb dJ13_bitCount_95d88_40 rfl hl (by decide) rfl (fun ls hl => ?_)
  refine lv_lload_n hx hb dJ13_bitCount_95d88_41 rfl (lv_at hl 0 rfl) ?_
  refine lv_lload_n hx hb dJ13_bitCount_95d88_42 rfl (lv_at hl 0 rfl) ?_
  refine lv_bipush (v := (16 : Int32)) hx hb dJ13_bitCount_95d88_43 (by decide) ?_
  refine lv_lushr (v := (jlushr ((((((x0 - ((jlushr x0 (1 : Int32)) &&& (6148914691236517205 : Int64))) &&& (3689348814741910323 : Int64)) + ((jlushr (x0 - ((jlushr x0 (1 : Int32)) &&& (6148914691236517205 : Int64))) (2 : Int32)) &&& (3689348814741910323 : Int64))) + (jlushr (((x0 - ((jlushr x0 (1 : Int32)) &&& (6148914691236517205 : Int64))) &&& (3689348814741910323 : Int64)) + ((jlushr (x0 - ((jlushr x0 (1 : Int32)) &&& (6148914691236517205 : Int64))) (2 : Int32)) &&& (3689348814741910323 : Int64))) (4 : Int32))) &&& (1085102592571150095 : Int64)) + (jlushr (((((x0 - ((jlushr x0 (1 : Int32)) &&& (6148914691236517205 : Int64))) &&& (3689348814741910323 : Int64)) + ((jlushr (x0 - ((jlushr x0 (1 : Int32)) &&& (6148914691236517205 : Int64))) (2 : Int32)) &&& (3689348814741910323 : Int64))) + (jlushr (((x0 - ((jlushr x0 (1 : Int32)) &&& (6148914691236517205 : Int64))) &&& (3689348814741910323 : Int64)) + ((jlushr (x0 - ((jlushr x0 (1 : Int32)) &&& (6148914691236517205 : Int64))) (2 : Int32)) &&& (3689348814741910323 : Int64))) (4 : Int32))) &&& (1085102592571150095 : Int64)) (8 : Int32))) (16 : Int32))) hx hb dJ13_bitCount_95d88_45 rfl ?_
  refine lv_ladd hx hb dJ13_bitCount_95d88_46 ?_
  refine lv_lstore_n (lv' := [(0, .long (((((((x0 - ((jlushr x0 (1 : Int32)) &&& (6148914691236517205 : Int64))) &&& (3689348814741910323 : Int64)) + ((jlushr (x0 - ((jlushr x0 (1 : Int32)) &&& (6148914691236517205 : Int64))) (2 : Int32)) &&& (3689348814741910323 : Int64))) + (jlushr (((x0 - ((jlushr x0 (1 : Int32)) &&& (6148914691236517205 : Int64))) &&& (3689348814741910323 : Int64)) + ((jlushr (x0 - ((jlushr x0 (1 : Int32)) &&& (6148914691236517205 : Int64))) (2 : Int32)) &&& (3689348814741910323 : Int64))) (4 : Int32))) &&& (1085102592571150095 : Int64)) + (jlushr (((((x0 - ((jlushr x0 (1 : Int32)) &&& (6148914691236517205 : Int64))) &&& (3689348814741910323 : Int64)) + ((jlushr (x0 - ((jlushr x0 (1 : Int32)) &&& (6148914691236517205 : Int64))) (2 : Int32)) &&& (3689348814741910323 : Int64))) + (jlushr (((x0 - ((jlushr x0 (1 : Int32)) &&& (6148914691236517205 : Int64))) &&& (3689348814741910323 : Int64)) + ((jlushr (x0 - ((jlushr x0 (1 : Int32)) &&& (6148914691236517205 : Int64))) (2 : Int32)) &&& (3689348814741910323 : Int64))) (4 : Int32))) &&& (1085102592571150095 : Int64)) (8 : Int32))) + (jlushr ((((((x0 - ((jlushr x0 (1 : Int32)) &&& (6148914691236517205 : Int64))) &&& (3689348814741910323 : Int64)) + ((jlushr (x0 - ((jlushr x0 (1 : Int32)) &&& (6148914691236517205 : Int64))) (2 : Int32)) &&& (3689348814741910323 : Int64))) + (jlushr (((x0 - ((jlushr x0 (1 : Int32)) &&& (6148914691236517205 : Int64))) &&& (3689348814741910323 : Int64)) + ((jlushr (x0 - ((jlushr x0 (1 : Int32)) &&& (6148914691236517205 : Int64))) (2 : Int32)) &&& (3689348814741910323 : Int64))) (4 : Int32))) &&& (1085102592571150095 : Int64)) + (jlushr (((((x0 - ((jlushr x0 (1 : Int32)) &&& (6148914691236517205 : Int64))) &&& (3689348814741910323 : Int64)) + ((jlushr (x0 - ((jlushr x0 (1 : Int32)) &&& (6148914691236517205 : Int64))) (2 : Int32)) &&& (3689348814741910323 : Int64))) + (jlushr (((x0 - ((jlushr x0 (1 : Int32)) &&& (6148914691236517205 : Int64))) &&& (3689348814741910323 : Int64)) + ((jlushr (x0 - ((jlushr x0 (1 : Int32)) &&& (6148914691236517205 : Int64))) (2 : Int32)) &&& (3689348814741910323 : Int64))) (4 : Int32))) &&& (1085102592571150095 : Int64)) (8 : Int32))) (16 : Int32))))]) hx hb dJ13_bitCount_95d88_47 rfl hl (by decide) rfl (fun ls hl => ?_)
  refine lv_lload_n hx hb dJ13_bitCount_95d88_48 rfl (lv_at hl 0 rfl) ?_
  refine lv_lload_n hx hb dJ13_bitCount_95d88_49 rfl (lv_at hl 0 rfl) ?_
  refine lv_bipush (v := (32 : Int32)) hx hb dJ13_bitCount_95d88_50 (by decide) ?_
  refine lv_lushr (v := (jlushr (((((((x0 - ((jlushr x0 (1 : Int32)) &&& (6148914691236517205 : Int64))) &&& (3689348814741910323 : Int64)) + ((jlushr (x0 - ((jlushr x0 (1 : Int32)) &&& (6148914691236517205 : Int64))) (2 : Int32)) &&& (3689348814741910323 : Int64))) + (jlushr (((x0 - ((jlushr x0 (1 : Int32)) &&& (6148914691236517205 : Int64))) &&& (3689348814741910323 : Int64)) + ((jlushr (x0 - ((jlushr x0 (1 : Int32)) &&& (6148914691236517205 : Int64))) (2 : Int32)) &&& (3689348814741910323 : Int64))) (4 : Int32))) &&& (1085102592571150095 : Int64)) + (jlushr (((((x0 - ((jlushr x0 (1 : Int32)) &&& (6148914691236517205 : Int64))) &&& (3689348814741910323 : Int64)) + ((jlushr (x0 - ((jlushr x0 (1 : Int32)) &&& (6148914691236517205 : Int64))) (2 : Int32)) &&& (3689348814741910323 : Int64))) + (jlushr (((x0 - ((jlushr x0 (1 : Int32)) &&& (6148914691236517205 : Int64))) &&& (3689348814741910323 : Int64)) + ((jlushr (x0 - ((jlushr x0 (1 : Int32)) &&& (6148914691236517205 : Int64))) (2 : Int32)) &&& (3689348814741910323 : Int64))) (4 : Int32))) &&& (1085102592571150095 : Int64)) (8 : Int32))) + (jlushr ((((((x0 - ((jlushr x0 (1 : Int32)) &&& (6148914691236517205 : Int64))) &&& (3689348814741910323 : Int64)) + ((jlushr (x0 - ((jlushr x0 (1 : Int32)) &&& (6148914691236517205 : Int64))) (2 : Int32)) &&& (3689348814741910323 : Int64))) + (jlushr (((x0 - ((jlushr x0 (1 : Int32)) &&& (6148914691236517205 : Int64))) &&& (3689348814741910323 : Int64)) + ((jlushr (x0 - ((jlushr x0 (1 : Int32)) &&& (6148914691236517205 : Int64))) (2 : Int32)) &&& (3689348814741910323 : Int64))) (4 : Int32))) &&& (1085102592571150095 : Int64)) + (jlushr (((((x0 - ((jlushr x0 (1 : Int32)) &&& (6148914691236517205 : Int64))) &&& (3689348814741910323 : Int64)) + ((jlushr (x0 - ((jlushr x0 (1 : Int32)) &&& (6148914691236517205 : Int64))) (2 : Int32)) &&& (3689348814741910323 : Int64))) + (jlushr (((x0 - ((jlushr x0 (1 : Int32)) &&& (6148914691236517205 : Int64))) &&& (3689348814741910323 : Int64)) + ((jlushr (x0 - ((jlushr x0 (1 : Int32)) &&& (6148914691236517205 : Int64))) (2 : Int32)) &&& (3689348814741910323 : Int64))) (4 : Int32))) &&& (1085102592571150095 : Int64)) (8 : Int32))) (16 : Int32))) (32 : Int32))) hx hb dJ13_bitCount_95d88_52 rfl ?_
  refine lv_ladd hx hb dJ13_bitCount_95d88_53 ?_
  refine lv_lstore_n (lv' := [(0, .long ((((((((x0 - ((jlushr x0 (1 : Int32)) &&& (6148914691236517205 : Int64))) &&& (3689348814741910323 : Int64)) + ((jlushr (x0 - ((jlushr x0 (1 : Int32)) &&& (6148914691236517205 : Int64))) (2 : Int32)) &&& (3689348814741910323 : Int64))) + (jlushr (((x0 - ((jlushr x0 (1 : Int32)) &&& (6148914691236517205 : Int64))) &&& (3689348814741910323 : Int64)) + ((jlushr (x0 - ((jlushr x0 (1 : Int32)) &&& (6148914691236517205 : Int64))) (2 : Int32)) &&& (3689348814741910323 : Int64))) (4 : Int32))) &&& (1085102592571150095 : Int64)) + (jlushr (((((x0 - ((jlushr x0 (1 : Int32)) &&& (6148914691236517205 : Int64))) &&& (3689348814741910323 : Int64)) + ((jlushr (x0 - ((jlushr x0 (1 : Int32)) &&& (6148914691236517205 : Int64))) (2 : Int32)) &&& (3689348814741910323 : Int64))) + (jlushr (((x0 - ((jlushr x0 (1 : Int32)) &&& (6148914691236517205 : Int64))) &&& (3689348814741910323 : Int64)) + ((jlushr (x0 - ((jlushr x0 (1 : Int32)) &&& (6148914691236517205 : Int64))) (2 : Int32)) &&& (3689348814741910323 : Int64))) (4 : Int32))) &&& (1085102592571150095 : Int64)) (8 : Int32))) + (jlushr ((((((x0 - ((jlushr x0 (1 : Int32)) &&& (6148914691236517205 : Int64))) &&& (3689348814741910323 : Int64)) + ((jlushr (x0 - ((jlushr x0 (1 : Int32)) &&& (6148914691236517205 : Int64))) (2 : Int32)) &&& (3689348814741910323 : Int64))) + (jlushr (((x0 - ((jlushr x0 (1 : Int32)) &&& (6148914691236517205 : Int64))) &&& (3689348814741910323 : Int64)) + ((jlushr (x0 - ((jlushr x0 (1 : Int32)) &&& (6148914691236517205 : Int64))) (2 : Int32)) &&& (3689348814741910323 : Int64))) (4 : Int32))) &&& (1085102592571150095 : Int64)) + (jlushr (((((x0 - ((jlushr x0 (1 : Int32)) &&& (6148914691236517205 : Int64))) &&& (3689348814741910323 : Int64)) + ((jlushr (x0 - ((jlushr x0 (1 : Int32)) &&& (6148914691236517205 : Int64))) (2 : Int32)) &&& (3689348814741910323 : Int64))) + (jlushr (((x0 - ((jlushr x0 (1 : Int32)) &&& (6148914691236517205 : Int64))) &&& (3689348814741910323 : Int64)) + ((jlushr (x0 - ((jlushr x0 (1 : Int32)) &&& (6148914691236517205 : Int64))) (2 : Int32)) &&& (3689348814741910323 : Int64))) (4 : Int32))) &&& (1085102592571150095 : Int64)) (8 : Int32))) (16 : Int32))) + (jlushr (((((((x0 - ((jlushr x0 (1 : Int32)) &&& (6148914691236517205 : Int64))) &&& (3689348814741910323 : Int64)) + ((jlushr (x0 - ((jlushr x0 (1 : Int32)) &&& (6148914691236517205 : Int64))) (2 : Int32)) &&& (3689348814741910323 : Int64))) + (jlushr (((x0 - ((jlushr x0 (1 : Int32)) &&& (6148914691236517205 : Int64))) &&& (3689348814741910323 : Int64)) + ((jlushr (x0 - ((jlushr x0 (1 : Int32)) &&& (6148914691236517205 : Int64))) (2 : Int32)) &&& (3689348814741910323 : Int64))) (4 : Int32))) &&& (1085102592571150095 : Int64)) + (jlushr (((((x0 - ((jlushr x0 (1 : Int32)) &&& (6148914691236517205 : Int64))) &&& (3689348814741910323 : Int64)) + ((jlushr (x0 - ((jlushr x0 (1 : Int32)) &&& (6148914691236517205 : Int64))) (2 : Int32)) &&& (3689348814741910323 : Int64))) + (jlushr (((x0 - ((jlushr x0 (1 : Int32)) &&& (6148914691236517205 : Int64))) &&& (3689348814741910323 : Int64)) + ((jlushr (x0 - ((jlushr x0 (1 : Int32)) &&& (6148914691236517205 : Int64))) (2 : Int32)) &&& (3689348814741910323 : Int64))) (4 : Int32))) &&& (1085102592571150095 : Int64)) (8 : Int32))) + (jlushr ((((((x0 - ((jlushr x0 (1 : Int32)) &&& (6148914691236517205 : Int64))) &&& (3689348814741910323 : Int64)) + ((jlushr (x0 - ((jlushr x0 (1 : Int32)) &&& (6148914691236517205 : Int64))) (2 : Int32)) &&& (3689348814741910323 : Int64))) + (jlushr (((x0 - ((jlushr x0 (1 : Int32)) &&& (6148914691236517205 : Int64))) &&& (3689348814741910323 : Int64)) + ((jlushr (x0 - ((jlushr x0 (1 : Int32)) &&& (6148914691236517205 : Int64))) (2 : Int32)) &&& (3689348814741910323 : Int64))) (4 : Int32))) &&& (1085102592571150095 : Int64)) + (jlushr (((((x0 - ((jlushr x0 (1 : Int32)) &&& (6148914691236517205 : Int64))) &&& (3689348814741910323 : Int64)) + ((jlushr (x0 - ((jlushr x0 (1 : Int32)) &&& (6148914691236517205 : Int64))) (2 : Int32)) &&& (3689348814741910323 : Int64))) + (jlushr (((x0 - ((jlushr x0 (1 : Int32)) &&& (6148914691236517205 : Int64))) &&& (3689348814741910323 : Int64)) + ((jlushr (x0 - ((jlushr x0 (1 : Int32)) &&& (6148914691236517205 : Int64))) (2 : Int32)) &&& (3689348814741910323 : Int64))) (4 : Int32))) &&& (1085102592571150095 : Int64)) (8 : Int32))) (16 : Int32))) (32 : Int32))))]) hx hb dJ13_bitCount_95d88_54 rfl hl (by decide) rfl (fun ls hl => ?_)
  refine lv_lload_n hx hb dJ13_bitCount_95d88_55 rfl (lv_at hl 0 rfl) ?_
  refine lv_l2i (v := ((((((((x0 - ((jlushr x0 (1 : Int32)) &&& (6148914691236517205 : Int64))) &&& (3689348814741910323 : Int64)) + ((jlushr (x0 - ((jlushr x0 (1 : Int32)) &&& (6148914691236517205 : Int64))) (2 : Int32)) &&& (3689348814741910323 : Int64))) + (jlushr (((x0 - ((jlushr x0 (1 : Int32)) &&& (6148914691236517205 : Int64))) &&& (3689348814741910323 : Int64)) + ((jlushr (x0 - ((jlushr x0 (1 : Int32)) &&& (6148914691236517205 : Int64))) (2 : Int32)) &&& (3689348814741910323 : Int64))) (4 : Int32))) &&& (1085102592571150095 : Int64)) + (jlushr (((((x0 - ((jlushr x0 (1 : Int32)) &&& (6148914691236517205 : Int64))) &&& (3689348814741910323 : Int64)) + ((jlushr (x0 - ((jlushr x0 (1 : Int32)) &&& (6148914691236517205 : Int64))) (2 : Int32)) &&& (3689348814741910323 : Int64))) + (jlushr (((x0 - ((jlushr x0 (1 : Int32)) &&& (6148914691236517205 : Int64))) &&& (3689348814741910323 : Int64)) + ((jlushr (x0 - ((jlushr x0 (1 : Int32)) &&& (6148914691236517205 : Int64))) (2 : Int32)) &&& (3689348814741910323 : Int64))) (4 : Int32))) &&& (1085102592571150095 : Int64)) (8 : Int32))) + (jlushr ((((((x0 - ((jlushr x0 (1 : Int32)) &&& (6148914691236517205 : Int64))) &&& (3689348814741910323 : Int64)) + ((jlushr (x0 - ((jlushr x0 (1 : Int32)) &&& (6148914691236517205 : Int64))) (2 : Int32)) &&& (3689348814741910323 : Int64))) + (jlushr (((x0 - ((jlushr x0 (1 : Int32)) &&& (6148914691236517205 : Int64))) &&& (3689348814741910323 : Int64)) + ((jlushr (x0 - ((jlushr x0 (1 : Int32)) &&& (6148914691236517205 : Int64))) (2 : Int32)) &&& (3689348814741910323 : Int64))) (4 : Int32))) &&& (1085102592571150095 : Int64)) + (jlushr (((((x0 - ((jlushr x0 (1 : Int32)) &&& (6148914691236517205 : Int64))) &&& (3689348814741910323 : Int64)) + ((jlushr (x0 - ((jlushr x0 (1 : Int32)) &&& (6148914691236517205 : Int64))) (2 : Int32)) &&& (3689348814741910323 : Int64))) + (jlushr (((x0 - ((jlushr x0 (1 : Int32)) &&& (6148914691236517205 : Int64))) &&& (3689348814741910323 : Int64)) + ((jlushr (x0 - ((jlushr x0 (1 : Int32)) &&& (6148914691236517205 : Int64))) (2 : Int32)) &&& (3689348814741910323 : Int64))) (4 : Int32))) &&& (1085102592571150095 : Int64)) (8 : Int32))) (16 : Int32))) + (jlushr (((((((x0 - ((jlushr x0 (1 : Int32)) &&& (6148914691236517205 : Int64))) &&& (3689348814741910323 : Int64)) + ((jlushr (x0 - ((jlushr x0 (1 : Int32)) &&& (6148914691236517205 : Int64))) (2 : Int32)) &&& (3689348814741910323 : Int64))) + (jlushr (((x0 - ((jlushr x0 (1 : Int32)) &&& (6148914691236517205 : Int64))) &&& (3689348814741910323 : Int64)) + ((jlushr (x0 - ((jlushr x0 (1 : Int32)) &&& (6148914691236517205 : Int64))) (2 : Int32)) &&& (3689348814741910323 : Int64))) (4 : Int32))) &&& (1085102592571150095 : Int64)) + (jlushr (((((x0 - ((jlushr x0 (1 : Int32)) &&& (6148914691236517205 : Int64))) &&& (3689348814741910323 : Int64)) + ((jlushr (x0 - ((jlushr x0 (1 : Int32)) &&& (6148914691236517205 : Int64))) (2 : Int32)) &&& (3689348814741910323 : Int64))) + (jlushr (((x0 - ((jlushr x0 (1 : Int32)) &&& (6148914691236517205 : Int64))) &&& (3689348814741910323 : Int64)) + ((jlushr (x0 - ((jlushr x0 (1 : Int32)) &&& (6148914691236517205 : Int64))) (2 : Int32)) &&& (3689348814741910323 : Int64))) (4 : Int32))) &&& (1085102592571150095 : Int64)) (8 : Int32))) + (jlushr ((((((x0 - ((jlushr x0 (1 : Int32)) &&& (6148914691236517205 : Int64))) &&& (3689348814741910323 : Int64)) + ((jlushr (x0 - ((jlushr x0 (1 : Int32)) &&& (6148914691236517205 : Int64))) (2 : Int32)) &&& (3689348814741910323 : Int64))) + (jlushr (((x0 - ((jlushr x0 (1 : Int32)) &&& (6148914691236517205 : Int64))) &&& (3689348814741910323 : Int64)) + ((jlushr (x0 - ((jlushr x0 (1 : Int32)) &&& (6148914691236517205 : Int64))) (2 : Int32)) &&& (3689348814741910323 : Int64))) (4 : Int32))) &&& (1085102592571150095 : Int64)) + (jlushr (((((x0 - ((jlushr x0 (1 : Int32)) &&& (6148914691236517205 : Int64))) &&& (3689348814741910323 : Int64)) + ((jlushr (x0 - ((jlushr x0 (1 : Int32)) &&& (6148914691236517205 : Int64))) (2 : Int32)) &&& (3689348814741910323 : Int64))) + (jlushr (((x0 - ((jlushr x0 (1 : Int32)) &&& (6148914691236517205 : Int64))) &&& (3689348814741910323 : Int64)) + ((jlushr (x0 - ((jlushr x0 (1 : Int32)) &&& (6148914691236517205 : Int64))) (2 : Int32)) &&& (3689348814741910323 : Int64))) (4 : Int32))) &&& (1085102592571150095 : Int64)) (8 : Int32))) (16 : Int32))) (32 : Int32))).toInt32) hx hb dJ13_bitCount_95d88_56 rfl ?_
  refine lv_bipush (v := (127 : Int32)) hx hb dJ13_bitCount_95d88_57 (by decide) ?_
  refine lv_iand hx hb dJ13_bitCount_95d88_59 ?_
  obtain rfl := Option.some.inj hf
  exact z_iret (v := ((((((((((x0 - ((jlushr x0 (1 : Int32)) &&& (6148914691236517205 : Int64))) &&& (3689348814741910323 : Int64)) + ((jlushr (x0 - ((jlushr x0 (1 : Int32)) &&& (6148914691236517205 : Int64))) (2 : Int32)) &&& (3689348814741910323 : Int64))) + (jlushr (((x0 - ((jlushr x0 (1 : Int32)) &&& (6148914691236517205 : Int64))) &&& (3689348814741910323 : Int64)) + ((jlushr (x0 - ((jlushr x0 (1 : Int32)) &&& (6148914691236517205 : Int64))) (2 : Int32)) &&& (3689348814741910323 : Int64))) (4 : Int32))) &&& (1085102592571150095 : Int64)) + (jlushr (((((x0 - ((jlushr x0 (1 : Int32)) &&& (6148914691236517205 : Int64))) &&& (3689348814741910323 : Int64)) + ((jlushr (x0 - ((jlushr x0 (1 : Int32)) &&& (6148914691236517205 : Int64))) (2 : Int32)) &&& (3689348814741910323 : Int64))) + (jlushr (((x0 - ((jlushr x0 (1 : Int32)) &&& (6148914691236517205 : Int64))) &&& (3689348814741910323 : Int64)) + ((jlushr (x0 - ((jlushr x0 (1 : Int32)) &&& (6148914691236517205 : Int64))) (2 : Int32)) &&& (3689348814741910323 : Int64))) (4 : Int32))) &&& (1085102592571150095 : Int64)) (8 : Int32))) + (jlushr ((((((x0 - ((jlushr x0 (1 : Int32)) &&& (6148914691236517205 : Int64))) &&& (3689348814741910323 : Int64)) + ((jlushr (x0 - ((jlushr x0 (1 : Int32)) &&& (6148914691236517205 : Int64))) (2 : Int32)) &&& (3689348814741910323 : Int64))) + (jlushr (((x0 - ((jlushr x0 (1 : Int32)) &&& (6148914691236517205 : Int64))) &&& (3689348814741910323 : Int64)) + ((jlushr (x0 - ((jlushr x0 (1 : Int32)) &&& (6148914691236517205 : Int64))) (2 : Int32)) &&& (3689348814741910323 : Int64))) (4 : Int32))) &&& (1085102592571150095 : Int64)) + (jlushr (((((x0 - ((jlushr x0 (1 : Int32)) &&& (6148914691236517205 : Int64))) &&& (3689348814741910323 : Int64)) + ((jlushr (x0 - ((jlushr x0 (1 : Int32)) &&& (6148914691236517205 : Int64))) (2 : Int32)) &&& (3689348814741910323 : Int64))) + (jlushr (((x0 - ((jlushr x0 (1 : Int32)) &&& (6148914691236517205 : Int64))) &&& (3689348814741910323 : Int64)) + ((jlushr (x0 - ((jlushr x0 (1 : Int32)) &&& (6148914691236517205 : Int64))) (2 : Int32)) &&& (3689348814741910323 : Int64))) (4 : Int32))) &&& (1085102592571150095 : Int64)) (8 : Int32))) (16 : Int32))) + (jlushr (((((((x0 - ((jlushr x0 (1 : Int32)) &&& (6148914691236517205 : Int64))) &&& (3689348814741910323 : Int64)) + ((jlushr (x0 - ((jlushr x0 (1 : Int32)) &&& (6148914691236517205 : Int64))) (2 : Int32)) &&& (3689348814741910323 : Int64))) + (jlushr (((x0 - ((jlushr x0 (1 : Int32)) &&& (6148914691236517205 : Int64))) &&& (3689348814741910323 : Int64)) + ((jlushr (x0 - ((jlushr x0 (1 : Int32)) &&& (6148914691236517205 : Int64))) (2 : Int32)) &&& (3689348814741910323 : Int64))) (4 : Int32))) &&& (1085102592571150095 : Int64)) + (jlushr (((((x0 - ((jlushr x0 (1 : Int32)) &&& (6148914691236517205 : Int64))) &&& (3689348814741910323 : Int64)) + ((jlushr (x0 - ((jlushr x0 (1 : Int32)) &&& (6148914691236517205 : Int64))) (2 : Int32)) &&& (3689348814741910323 : Int64))) + (jlushr (((x0 - ((jlushr x0 (1 : Int32)) &&& (6148914691236517205 : Int64))) &&& (3689348814741910323 : Int64)) + ((jlushr (x0 - ((jlushr x0 (1 : Int32)) &&& (6148914691236517205 : Int64))) (2 : Int32)) &&& (3689348814741910323 : Int64))) (4 : Int32))) &&& (1085102592571150095 : Int64)) (8 : Int32))) + (jlushr ((((((x0 - ((jlushr x0 (1 : Int32)) &&& (6148914691236517205 : Int64))) &&& (3689348814741910323 : Int64)) + ((jlushr (x0 - ((jlushr x0 (1 : Int32)) &&& (6148914691236517205 : Int64))) (2 : Int32)) &&& (3689348814741910323 : Int64))) + (jlushr (((x0 - ((jlushr x0 (1 : Int32)) &&& (6148914691236517205 : Int64))) &&& (3689348814741910323 : Int64)) + ((jlushr (x0 - ((jlushr x0 (1 : Int32)) &&& (6148914691236517205 : Int64))) (2 : Int32)) &&& (3689348814741910323 : Int64))) (4 : Int32))) &&& (1085102592571150095 : Int64)) + (jlushr (((((x0 - ((jlushr x0 (1 : Int32)) &&& (6148914691236517205 : Int64))) &&& (3689348814741910323 : Int64)) + ((jlushr (x0 - ((jlushr x0 (1 : Int32)) &&& (6148914691236517205 : Int64))) (2 : Int32)) &&& (3689348814741910323 : Int64))) + (jlushr (((x0 - ((jlushr x0 (1 : Int32)) &&& (6148914691236517205 : Int64))) &&& (3689348814741910323 : Int64)) + ((jlushr (x0 - ((jlushr x0 (1 : Int32)) &&& (6148914691236517205 : Int64))) (2 : Int32)) &&& (3689348814741910323 : Int64))) (4 : Int32))) &&& (1085102592571150095 : Int64)) (8 : Int32))) (16 : Int32))) (32 : Int32))).toInt32) &&& (127 : Int32))) C hP hD hS dJ13_bitCount_95d88_60
def f_X6_snapshotLength (St : SRows) (x1 : Int32) : Option (Int32) :=
  (f_X6_runs St x1).bind (fun q1 =>
    (if q1 = 0 then
      some (0 : Int32)
      else
      (if zib x1 6 then (f_J13_bitCount_95d88 ((Rows_held St) x1.toNatClampNeg)).bind (fun q2 =>
          some (q2 - (1 : Int32))) else none)))
set_option maxHeartbeats 4000000 in
set_option maxRecDepth 100000 in
theorem c_X6_snapshotLength (l : Launch) (D : va_G) (cy : Nat → ClassId) (ht : Nat → Nat) (St : SRows) (x1 : Int32) (r : Int32) (hf : f_X6_snapshotLength St x1 = some r) : zCI l yX6_snapshotLength cX6_snapshotLength 2 (some FieldType.int) 1 21 D (zty cy) [.ref (ht 0), .int x1] (wRows ht cy St) (wRows ht cy St) r := by
  refine zCI_of (by decide +kernel) (Nat.le_of_ble_eq_true rfl) ?_
  intro p e s m below meth c A ls C hP hD hS hl
  generalize hargs : ([.ref (ht 0), .int x1] : List Value).toArray = args at C ⊢
  have C : zX p s m meth c cX6_snapshotLength 2 args RX6 (some FieldType.int) A D (zty cy) := C
  obtain ⟨hx, hb, hr, hts, hown, hlocks, hml, hA, hK⟩ := id C
  have hl : lv_has ls 2 [(0, .ref (ht 0)), (1, .int x1)] := hl
  generalize hH : s.heap = H at hP ⊢
  have hS : va_S A s.heap H [] := by rw [← hH]; exact hS
  generalize ([] : List Loc) = locs at hS ⊢
  refine lv_aload_n hx hb dX6_snapshotLength_0 rfl (lv_at hl 0 rfl) ?_
  refine lv_iload_n hx hb dX6_snapshotLength_1 rfl (lv_at hl 1 rfl) ?_
  obtain ⟨q1, hc, hf⟩ := zbd hf
  refine z_cVi0 (As := [.int x1]) (rest := []) C (c_X6_runs l D cy ht St x1 q1 hc) gV_X6_X6_runs hd_X6_runs ⟨Nat.le_of_ble_eq_true rfl, Nat.le_of_ble_eq_true rfl⟩ ⟨Nat.le_refl _, Nat.le_refl _⟩ (va_recv hK hP (ci := 3) (q0 := 0) rfl rfl) hP hD hS hl.1 (Nat.le_of_ble_eq_true rfl) dX6_snapshotLength_2 (fun H locs hP hD hS => ?_)
  have hP : va_P D vwCl (wRows ht cy St) H := hP
  have hD : va_D A (wRows ht cy St) := hD
  refine z_if_eq (tgt := 22) hx hb dX6_snapshotLength_5 (by decide) hf (fun hf => ?_) (fun hf => ?_)
  · refine lv_iconst (v := (0 : Int32)) hx hb dX6_snapshotLength_22 (by decide) ?_
    obtain rfl := Option.some.inj hf
    exact z_iret (v := (0 : Int32)) C hP hD hS dX6_snapshotLength_23
  · refine lv_aload_n hx hb dX6_snapshotLength_8 rfl (lv_at hl 0 rfl) ?_
    refine va_get (D := D) (ci := 3) (v := .ref (ht 2)) (C := RX6) (T := TX6) (N := 16) hx hb hts in_X6 hown hK hP 0 rfl rfl 10 (by decide) (hts _ q1_68) (fun _ h9 => h9) rfl dX6_snapshotLength_9 ?_
    refine lv_iload_n hx hb dX6_snapshotLength_12 rfl (lv_at hl 1 rfl) ?_
    refine z_lald (f := (Rows_held St)) hx hb hK hP 2 1 rfl rfl dX6_snapshotLength_13 hf (fun hf => ?_)
    obtain ⟨q2, hc, hf⟩ := zbd hf
    refine z_cSiE (As := [.long ((Rows_held St) x1.toNatClampNeg)]) (rest := []) C (c_J13_bitCount_95d88 l D cy ((Rows_held St) x1.toNatClampNeg) q2 hc) gS_X6_J13_bitCount_95d88 hd_J13_bitCount_95d88 ⟨Nat.le_of_ble_eq_true rfl, Nat.le_of_ble_eq_true rfl⟩ ⟨Nat.le_refl _, Nat.le_refl _⟩ hP hD hS hl.1 (Nat.le_of_ble_eq_true rfl) dX6_snapshotLength_14 (fun H locs hP hD hS => ?_)
    refine lv_iconst (v := (1 : Int32)) hx hb dX6_snapshotLength_17 (by decide) ?_
    refine lv_isub hx hb dX6_snapshotLength_18 ?_
    refine lv_goto (tgt := 23) hx hb dX6_snapshotLength_19 (by decide) ?_
    obtain rfl := Option.some.inj hf
    exact z_iret (v := (q2 - (1 : Int32))) C hP hD hS dX6_snapshotLength_23
def f_X6_hasLost (St : SRows) (x1 : Int32) : Option (Int32) :=
  (f_X6_runs St x1).bind (fun q1 =>
    (if q1 = 0 then
      some (0 : Int32)
      else
      (if (((Rows_lostSlots St) >>> (x1 &&& 31)) &&& (1 : Int32)) = 0 then
        some (0 : Int32)
        else
        some (1 : Int32))))
set_option maxHeartbeats 4000000 in
set_option maxRecDepth 100000 in
theorem c_X6_hasLost (l : Launch) (D : va_G) (cy : Nat → ClassId) (ht : Nat → Nat) (St : SRows) (x1 : Int32) (r : Int32) (hf : f_X6_hasLost St x1 = some r) : zCI l yX6_hasLost cX6_hasLost 2 (some FieldType.boolean) 1 21 D (zty cy) [.ref (ht 0), .int x1] (wRows ht cy St) (wRows ht cy St) r := by
  refine zCI_of (by decide +kernel) (Nat.le_of_ble_eq_true rfl) ?_
  intro p e s m below meth c A ls C hP hD hS hl
  generalize hargs : ([.ref (ht 0), .int x1] : List Value).toArray = args at C ⊢
  have C : zX p s m meth c cX6_hasLost 2 args RX6 (some FieldType.boolean) A D (zty cy) := C
  obtain ⟨hx, hb, hr, hts, hown, hlocks, hml, hA, hK⟩ := id C
  have hl : lv_has ls 2 [(0, .ref (ht 0)), (1, .int x1)] := hl
  generalize hH : s.heap = H at hP ⊢
  have hS : va_S A s.heap H [] := by rw [← hH]; exact hS
  generalize ([] : List Loc) = locs at hS ⊢
  refine lv_aload_n hx hb dX6_hasLost_0 rfl (lv_at hl 0 rfl) ?_
  refine lv_iload_n hx hb dX6_hasLost_1 rfl (lv_at hl 1 rfl) ?_
  obtain ⟨q1, hc, hf⟩ := zbd hf
  refine z_cVi0 (As := [.int x1]) (rest := []) C (c_X6_runs l D cy ht St x1 q1 hc) gV_X6_X6_runs hd_X6_runs ⟨Nat.le_of_ble_eq_true rfl, Nat.le_of_ble_eq_true rfl⟩ ⟨Nat.le_refl _, Nat.le_refl _⟩ (va_recv hK hP (ci := 3) (q0 := 0) rfl rfl) hP hD hS hl.1 (Nat.le_of_ble_eq_true rfl) dX6_hasLost_2 (fun H locs hP hD hS => ?_)
  have hP : va_P D vwCl (wRows ht cy St) H := hP
  have hD : va_D A (wRows ht cy St) := hD
  refine z_if_eq (tgt := 23) hx hb dX6_hasLost_5 (by decide) hf (fun hf => ?_) (fun hf => ?_)
  · refine lv_iconst (v := (0 : Int32)) hx hb dX6_hasLost_23 (by decide) ?_
    obtain rfl := Option.some.inj hf
    exact z_zret (v := (0 : Int32)) C rfl hP hD hS dX6_hasLost_24
  · refine lv_aload_n hx hb dX6_hasLost_8 rfl (lv_at hl 0 rfl) ?_
    refine va_get (D := D) (ci := 3) (v := .int (Rows_lostSlots St)) (C := RX6) (T := TX6) (N := 16) hx hb hts in_X6 hown hK hP 0 rfl rfl 5 (by decide) (hts _ q1_63) (fun _ h9 => h9) rfl dX6_hasLost_9 ?_
    refine lv_iload_n hx hb dX6_hasLost_12 rfl (lv_at hl 1 rfl) ?_
    refine lv_ishr hx hb dX6_hasLost_13 ?_
    refine lv_iconst (v := (1 : Int32)) hx hb dX6_hasLost_14 (by decide) ?_
    refine lv_iand hx hb dX6_hasLost_15 ?_
    refine z_if_eq (tgt := 23) hx hb dX6_hasLost_16 (by decide) hf (fun hf => ?_) (fun hf => ?_)
    · refine lv_iconst (v := (0 : Int32)) hx hb dX6_hasLost_23 (by decide) ?_
      obtain rfl := Option.some.inj hf
      exact z_zret (v := (0 : Int32)) C rfl hP hD hS dX6_hasLost_24
    · refine lv_iconst (v := (1 : Int32)) hx hb dX6_hasLost_19 (by decide) ?_
      refine lv_goto (tgt := 24) hx hb dX6_hasLost_20 (by decide) ?_
      obtain rfl := Option.some.inj hf
      exact z_zret (v := (1 : Int32)) C rfl hP hD hS dX6_hasLost_24
def b_X6_runningSlots_4 (St : SRows) (k4 : Int32 → Int32 → Option (Int32)) (v1 : Int32) (v2 : Int32) : Option (Int32) :=
  (if (6 : Int32) ≤ v2 then
    some v1
    else
    (f_X6_runs St v2).bind (fun q1 =>
      (if q1 = 0 then
        (k4 v1 (v2 + (1 : Int32)))
        else
        (k4 (v1 ||| ((1 : Int32) <<< (v2 &&& 31))) (v2 + (1 : Int32))))))
set_option maxHeartbeats 4000000 in
set_option maxRecDepth 100000 in
theorem w_X6_runningSlots_4 {p : Program} {e : Env} {s : State} {m : MethodId} {below : List Frame} {meth : Method} {c : Code} {A : Nat → Prop} {D : va_G} {cy : Nat → ClassId} {args : Array Value} {r : Int32} (l : Launch) (ht : Nat → Nat) (St : SRows) (C : zX p s m meth c cX6_runningSlots 3 args RX6 (some FieldType.int) A D (zty cy)) :
    ∀ (n : Nat) (v1 : Int32) (v2 : Int32) (H : Heap) (locs : List Loc) (ls : Array Slot), zl2 (b_X6_runningSlots_4 St) n v1 v2 = some r → va_P D vwCl (wRows ht cy St) H → va_D A (wRows ht cy St) → va_S A s.heap H locs → lv_has ls 3 [(0, .ref (ht 0)), (1, .int v1), (2, .int v2)] → W p l e (zRm 1 21) s m args below meth c H locs 0 0 (MQ below (zQI D (zty cy) A (wRows ht cy St) r) args s 0 0 A) (F0 m 4 ls []) := by
  obtain ⟨hx, hb, hr, hts, hown, hlocks, hml, hA, hK⟩ := id C
  intro n
  induction n with
  | zero => intro v1 v2 H locs ls hf; exact zno hf
  | succ n ih =>
    intro v1 v2 H locs ls hf hP hD hS hl
    have hf : b_X6_runningSlots_4 St (zl2 (b_X6_runningSlots_4 St) n) v1 v2 = some r := hf
    have K4 := ih
    refine lv_iload_n hx hb dX6_runningSlots_4 rfl (lv_at hl 2 rfl) ?_
    refine lv_bipush (v := (6 : Int32)) hx hb dX6_runningSlots_5 (by decide) ?_
    refine z_icmp_ge (tgt := 30) hx hb dX6_runningSlots_7 (by decide) hf (fun hf => ?_) (fun hf => ?_)
    · refine lv_iload_n hx hb dX6_runningSlots_30 rfl (lv_at hl 1 rfl) ?_
      obtain rfl := Option.some.inj hf
      exact z_iret (v := v1) C hP hD hS dX6_runningSlots_31
    · refine lv_aload_n hx hb dX6_runningSlots_10 rfl (lv_at hl 0 rfl) ?_
      refine lv_iload_n hx hb dX6_runningSlots_11 rfl (lv_at hl 2 rfl) ?_
      obtain ⟨q1, hc, hf⟩ := zbd hf
      refine z_cVi0 (As := [.int v2]) (rest := []) C (c_X6_runs l D cy ht St v2 q1 hc) gV_X6_X6_runs hd_X6_runs ⟨Nat.le_of_ble_eq_true rfl, Nat.le_of_ble_eq_true rfl⟩ ⟨Nat.le_refl _, Nat.le_refl _⟩ (va_recv hK hP (ci := 3) (q0 := 0) rfl rfl) hP hD hS hl.1 (Nat.le_of_ble_eq_true rfl) dX6_runningSlots_12 (fun H locs hP hD hS => ?_)
      have hP : va_P D vwCl (wRows ht cy St) H := hP
      have hD : va_D A (wRows ht cy St) := hD
      refine z_if_eq (tgt := 24) hx hb dX6_runningSlots_15 (by decide) hf (fun hf => ?_) (fun hf => ?_)
      · refine lv_iinc (v := (v2 + (1 : Int32))) (lv' := [(2, .int (v2 + (1 : Int32))), (0, .ref (ht 0)), (1, .int v1)]) hx hb dX6_runningSlots_24 hl (k := 2) rfl rfl (by decide) rfl (fun ls hl => ?_)
        refine lv_goto (tgt := 4) hx hb dX6_runningSlots_27 (by decide) ?_
        exact K4 v1 (v2 + (1 : Int32)) H locs ls hf hP hD hS (lv_sub hl [1, 2, 0] rfl)
      · refine lv_iload_n hx hb dX6_runningSlots_18 rfl (lv_at hl 1 rfl) ?_
        refine lv_iconst (v := (1 : Int32)) hx hb dX6_runningSlots_19 (by decide) ?_
        refine lv_iload_n hx hb dX6_runningSlots_20 rfl (lv_at hl 2 rfl) ?_
        refine lv_ishl hx hb dX6_runningSlots_21 ?_
        refine lv_ior hx hb dX6_runningSlots_22 ?_
        refine lv_istore_n (lv' := [(1, .int (v1 ||| ((1 : Int32) <<< (v2 &&& 31)))), (0, .ref (ht 0)), (2, .int v2)]) hx hb dX6_runningSlots_23 rfl hl (by decide) rfl (fun ls hl => ?_)
        refine lv_iinc (v := (v2 + (1 : Int32))) (lv' := [(2, .int (v2 + (1 : Int32))), (1, .int (v1 ||| ((1 : Int32) <<< (v2 &&& 31)))), (0, .ref (ht 0))]) hx hb dX6_runningSlots_24 hl (k := 2) rfl rfl (by decide) rfl (fun ls hl => ?_)
        refine lv_goto (tgt := 4) hx hb dX6_runningSlots_27 (by decide) ?_
        exact K4 (v1 ||| ((1 : Int32) <<< (v2 &&& 31))) (v2 + (1 : Int32)) H locs ls hf hP hD hS (lv_sub hl [2, 1, 0] rfl)
def f_X6_runningSlots (St : SRows) : Option (Int32) :=
  (zl2 (b_X6_runningSlots_4 St) FU (0 : Int32) (0 : Int32))
set_option maxHeartbeats 4000000 in
set_option maxRecDepth 100000 in
theorem c_X6_runningSlots (l : Launch) (D : va_G) (cy : Nat → ClassId) (ht : Nat → Nat) (St : SRows) (r : Int32) (hf : f_X6_runningSlots St = some r) : zCI l yX6_runningSlots cX6_runningSlots 3 (some FieldType.int) 1 21 D (zty cy) [.ref (ht 0)] (wRows ht cy St) (wRows ht cy St) r := by
  refine zCI_of (by decide +kernel) (Nat.le_of_ble_eq_true rfl) ?_
  intro p e s m below meth c A ls C hP hD hS hl
  generalize hargs : ([.ref (ht 0)] : List Value).toArray = args at C ⊢
  have C : zX p s m meth c cX6_runningSlots 3 args RX6 (some FieldType.int) A D (zty cy) := C
  obtain ⟨hx, hb, hr, hts, hown, hlocks, hml, hA, hK⟩ := id C
  have hl : lv_has ls 3 [(0, .ref (ht 0))] := hl
  generalize hH : s.heap = H at hP ⊢
  have hS : va_S A s.heap H [] := by rw [← hH]; exact hS
  generalize ([] : List Loc) = locs at hS ⊢
  refine lv_iconst (v := (0 : Int32)) hx hb dX6_runningSlots_0 (by decide) ?_
  refine lv_istore_n (lv' := [(1, .int (0 : Int32)), (0, .ref (ht 0))]) hx hb dX6_runningSlots_1 rfl hl (by decide) rfl (fun ls hl => ?_)
  refine lv_iconst (v := (0 : Int32)) hx hb dX6_runningSlots_2 (by decide) ?_
  refine lv_istore_n (lv' := [(2, .int (0 : Int32)), (1, .int (0 : Int32)), (0, .ref (ht 0))]) hx hb dX6_runningSlots_3 rfl hl (by decide) rfl (fun ls hl => ?_)
  exact w_X6_runningSlots_4 l ht St C FU (0 : Int32) (0 : Int32) H locs ls hf hP hD hS (lv_sub hl [2, 1, 0] rfl)
def b_X6_slotOf_2 (St : SRows) (x1 : Int32) (k2 : Int32 → Option (Int32)) (v2 : Int32) : Option (Int32) :=
  (if (6 : Int32) ≤ v2 then
    some (-2 : Int32)
    else
    (f_X6_runs St v2).bind (fun q1 =>
      (if q1 = 0 then
        (k2 (v2 + (1 : Int32)))
        else
        (if zib v2 6 then (if ((Rows_stamps St) v2.toNatClampNeg) = x1 then
            some v2
            else
            (k2 (v2 + (1 : Int32)))) else none))))
set_option maxHeartbeats 4000000 in
set_option maxRecDepth 100000 in
theorem w_X6_slotOf_2 {p : Program} {e : Env} {s : State} {m : MethodId} {below : List Frame} {meth : Method} {c : Code} {A : Nat → Prop} {D : va_G} {cy : Nat → ClassId} {args : Array Value} {r : Int32} (l : Launch) (ht : Nat → Nat) (St : SRows) (x1 : Int32) (C : zX p s m meth c cX6_slotOf 3 args RX6 (some FieldType.int) A D (zty cy)) :
    ∀ (n : Nat) (v2 : Int32) (H : Heap) (locs : List Loc) (ls : Array Slot), zl1 (b_X6_slotOf_2 St x1) n v2 = some r → va_P D vwCl (wRows ht cy St) H → va_D A (wRows ht cy St) → va_S A s.heap H locs → lv_has ls 3 [(0, .ref (ht 0)), (1, .int x1), (2, .int v2)] → W p l e (zRm 1 21) s m args below meth c H locs 0 0 (MQ below (zQI D (zty cy) A (wRows ht cy St) r) args s 0 0 A) (F0 m 2 ls []) := by
  obtain ⟨hx, hb, hr, hts, hown, hlocks, hml, hA, hK⟩ := id C
  intro n
  induction n with
  | zero => intro v2 H locs ls hf; exact zno hf
  | succ n ih =>
    intro v2 H locs ls hf hP hD hS hl
    have hf : b_X6_slotOf_2 St x1 (zl1 (b_X6_slotOf_2 St x1) n) v2 = some r := hf
    have K2 := ih
    refine lv_iload_n hx hb dX6_slotOf_2 rfl (lv_at hl 2 rfl) ?_
    refine lv_bipush (v := (6 : Int32)) hx hb dX6_slotOf_3 (by decide) ?_
    refine z_icmp_ge (tgt := 34) hx hb dX6_slotOf_5 (by decide) hf (fun hf => ?_) (fun hf => ?_)
    · refine lv_bipush (v := (-2 : Int32)) hx hb dX6_slotOf_34 (by decide) ?_
      obtain rfl := Option.some.inj hf
      exact z_iret (v := (-2 : Int32)) C hP hD hS dX6_slotOf_36
    · refine lv_aload_n hx hb dX6_slotOf_8 rfl (lv_at hl 0 rfl) ?_
      refine lv_iload_n hx hb dX6_slotOf_9 rfl (lv_at hl 2 rfl) ?_
      obtain ⟨q1, hc, hf⟩ := zbd hf
      refine z_cVi0 (As := [.int v2]) (rest := []) C (c_X6_runs l D cy ht St v2 q1 hc) gV_X6_X6_runs hd_X6_runs ⟨Nat.le_of_ble_eq_true rfl, Nat.le_of_ble_eq_true rfl⟩ ⟨Nat.le_refl _, Nat.le_refl _⟩ (va_recv hK hP (ci := 3) (q0 := 0) rfl rfl) hP hD hS hl.1 (Nat.le_of_ble_eq_true rfl) dX6_slotOf_10 (fun H locs hP hD hS => ?_)
      have hP : va_P D vwCl (wRows ht cy St) H := hP
      have hD : va_D A (wRows ht cy St) := hD
      refine z_if_eq (tgt := 28) hx hb dX6_slotOf_13 (by decide) hf (fun hf => ?_) (fun hf => ?_)
      · refine lv_iinc (v := (v2 + (1 : Int32))) (lv' := [(2, .int (v2 + (1 : Int32))), (0, .ref (ht 0)), (1, .int x1)]) hx hb dX6_slotOf_28 hl (k := 2) rfl rfl (by decide) rfl (fun ls hl => ?_)
        refine lv_goto (tgt := 2) hx hb dX6_slotOf_31 (by decide) ?_
        exact K2 (v2 + (1 : Int32)) H locs ls hf hP hD hS (lv_sub hl [1, 2, 0] rfl)
      · refine lv_aload_n hx hb dX6_slotOf_16 rfl (lv_at hl 0 rfl) ?_
        refine va_get (D := D) (ci := 3) (v := .ref (ht 1)) (C := RX6) (T := TX6) (N := 16) hx hb hts in_X6 hown hK hP 0 rfl rfl 9 (by decide) (hts _ q1_67) (fun _ h9 => h9) rfl dX6_slotOf_17 ?_
        refine lv_iload_n hx hb dX6_slotOf_20 rfl (lv_at hl 2 rfl) ?_
        refine z_iald (f := (Rows_stamps St)) hx hb hK hP 1 0 rfl rfl dX6_slotOf_21 hf (fun hf => ?_)
        refine lv_iload_n hx hb dX6_slotOf_22 rfl (lv_at hl 1 rfl) ?_
        refine z_icmp_ne (tgt := 28) hx hb dX6_slotOf_23 (by decide) hf (fun hf => ?_) (fun hf => ?_)
        · refine lv_iinc (v := (v2 + (1 : Int32))) (lv' := [(2, .int (v2 + (1 : Int32))), (0, .ref (ht 0)), (1, .int x1)]) hx hb dX6_slotOf_28 hl (k := 2) rfl rfl (by decide) rfl (fun ls hl => ?_)
          refine lv_goto (tgt := 2) hx hb dX6_slotOf_31 (by decide) ?_
          exact K2 (v2 + (1 : Int32)) H locs ls hf hP hD hS (lv_sub hl [1, 2, 0] rfl)
        · refine lv_iload_n hx hb dX6_slotOf_26 rfl (lv_at hl 2 rfl) ?_
          obtain rfl := Option.some.inj hf
          exact z_iret (v := v2) C hP hD hS dX6_slotOf_27
def f_X6_slotOf (St : SRows) (x1 : Int32) : Option (Int32) :=
  (zl1 (b_X6_slotOf_2 St x1) FU (0 : Int32))
set_option maxHeartbeats 4000000 in
set_option maxRecDepth 100000 in
theorem c_X6_slotOf (l : Launch) (D : va_G) (cy : Nat → ClassId) (ht : Nat → Nat) (St : SRows) (x1 : Int32) (r : Int32) (hf : f_X6_slotOf St x1 = some r) : zCI l yX6_slotOf cX6_slotOf 3 (some FieldType.int) 1 21 D (zty cy) [.ref (ht 0), .int x1] (wRows ht cy St) (wRows ht cy St) r := by
  refine zCI_of (by decide +kernel) (Nat.le_of_ble_eq_true rfl) ?_
  intro p e s m below meth c A ls C hP hD hS hl
  generalize hargs : ([.ref (ht 0), .int x1] : List Value).toArray = args at C ⊢
  have C : zX p s m meth c cX6_slotOf 3 args RX6 (some FieldType.int) A D (zty cy) := C
  obtain ⟨hx, hb, hr, hts, hown, hlocks, hml, hA, hK⟩ := id C
  have hl : lv_has ls 3 [(0, .ref (ht 0)), (1, .int x1)] := hl
  generalize hH : s.heap = H at hP ⊢
  have hS : va_S A s.heap H [] := by rw [← hH]; exact hS
  generalize ([] : List Loc) = locs at hS ⊢
  refine lv_iconst (v := (0 : Int32)) hx hb dX6_slotOf_0 (by decide) ?_
  refine lv_istore_n (lv' := [(2, .int (0 : Int32)), (0, .ref (ht 0)), (1, .int x1)]) hx hb dX6_slotOf_1 rfl hl (by decide) rfl (fun ls hl => ?_)
  exact w_X6_slotOf_2 l ht St x1 C FU (0 : Int32) H locs ls hf hP hD hS (lv_sub hl [1, 2, 0] rfl)
def b_X6_slotHoldingBack_8 (St : SRows) (k8 : Int32 → Int32 → Int32 → Option (Int32)) (v1 : Int32) (v2 : Int32) (v3 : Int32) : Option (Int32) :=
  (if (6 : Int32) ≤ v3 then
    some v1
    else
    (if zib v3 6 then (f_X6_greatestAge St ((Rows_held St) v3.toNatClampNeg)).bind (fun q1 =>
        (if q1 ≤ v2 then
          (k8 v1 v2 (v3 + (1 : Int32)))
          else
          (k8 v3 q1 (v3 + (1 : Int32))))) else none))
set_option maxHeartbeats 4000000 in
set_option maxRecDepth 100000 in
theorem w_X6_slotHoldingBack_8 {p : Program} {e : Env} {s : State} {m : MethodId} {below : List Frame} {meth : Method} {c : Code} {A : Nat → Prop} {D : va_G} {cy : Nat → ClassId} {args : Array Value} {r : Int32} (l : Launch) (ht : Nat → Nat) (St : SRows) (C : zX p s m meth c cX6_slotHoldingBack 5 args RX6 (some FieldType.int) A D (zty cy)) :
    ∀ (n : Nat) (v1 : Int32) (v2 : Int32) (v3 : Int32) (H : Heap) (locs : List Loc) (ls : Array Slot), zl3 (b_X6_slotHoldingBack_8 St) n v1 v2 v3 = some r → va_P D vwCl (wRows ht cy St) H → va_D A (wRows ht cy St) → va_S A s.heap H locs → lv_has ls 5 [(0, .ref (ht 0)), (1, .int v1), (2, .int v2), (3, .int v3)] → W p l e (zRm 2 64) s m args below meth c H locs 0 0 (MQ below (zQI D (zty cy) A (wRows ht cy St) r) args s 0 0 A) (F0 m 8 ls []) := by
  obtain ⟨hx, hb, hr, hts, hown, hlocks, hml, hA, hK⟩ := id C
  intro n
  induction n with
  | zero => intro v1 v2 v3 H locs ls hf; exact zno hf
  | succ n ih =>
    intro v1 v2 v3 H locs ls hf hP hD hS hl
    have hf : b_X6_slotHoldingBack_8 St (zl3 (b_X6_slotHoldingBack_8 St) n) v1 v2 v3 = some r := hf
    have K8 := ih
    refine lv_iload_n hx hb dX6_slotHoldingBack_8 rfl (lv_at hl 3 rfl) ?_
    refine lv_bipush (v := (6 : Int32)) hx hb dX6_slotHoldingBack_9 (by decide) ?_
    refine z_icmp_ge (tgt := 43) hx hb dX6_slotHoldingBack_11 (by decide) hf (fun hf => ?_) (fun hf => ?_)
    · refine lv_iload_n hx hb dX6_slotHoldingBack_43 rfl (lv_at hl 1 rfl) ?_
      obtain rfl := Option.some.inj hf
      exact z_iret (v := v1) C hP hD hS dX6_slotHoldingBack_44
    · refine lv_aload_n hx hb dX6_slotHoldingBack_14 rfl (lv_at hl 0 rfl) ?_
      refine lv_aload_n hx hb dX6_slotHoldingBack_15 rfl (lv_at hl 0 rfl) ?_
      refine va_get (D := D) (ci := 3) (v := .ref (ht 2)) (C := RX6) (T := TX6) (N := 16) hx hb hts in_X6 hown hK hP 0 rfl rfl 10 (by decide) (hts _ q1_68) (fun _ h9 => h9) rfl dX6_slotHoldingBack_16 ?_
      refine lv_iload_n hx hb dX6_slotHoldingBack_19 rfl (lv_at hl 3 rfl) ?_
      refine z_lald (f := (Rows_held St)) hx hb hK hP 2 1 rfl rfl dX6_slotHoldingBack_20 hf (fun hf => ?_)
      obtain ⟨q1, hc, hf⟩ := zbd hf
      refine z_cVi0 (As := [.long ((Rows_held St) v3.toNatClampNeg)]) (rest := []) C (c_X6_greatestAge l D cy ht St ((Rows_held St) v3.toNatClampNeg) q1 hc) gV_X6_X6_greatestAge hd_X6_greatestAge ⟨Nat.le_of_ble_eq_true rfl, Nat.le_of_ble_eq_true rfl⟩ ⟨Nat.le_refl _, Nat.le_refl _⟩ (va_recv hK hP (ci := 3) (q0 := 0) rfl rfl) hP hD hS hl.1 (Nat.le_of_ble_eq_true rfl) dX6_slotHoldingBack_21 (fun H locs hP hD hS => ?_)
      have hP : va_P D vwCl (wRows ht cy St) H := hP
      have hD : va_D A (wRows ht cy St) := hD
      refine lv_istore (lv' := [(4, .int q1), (0, .ref (ht 0)), (1, .int v1), (2, .int v2), (3, .int v3)]) hx hb dX6_slotHoldingBack_24 hl (by decide) rfl (fun ls hl => ?_)
      refine lv_iload hx hb dX6_slotHoldingBack_26 (lv_at hl 0 rfl) ?_
      refine lv_iload_n hx hb dX6_slotHoldingBack_28 rfl (lv_at hl 3 rfl) ?_
      refine z_icmp_le (tgt := 37) hx hb dX6_slotHoldingBack_29 (by decide) hf (fun hf => ?_) (fun hf => ?_)
      · refine lv_iinc (v := (v3 + (1 : Int32))) (lv' := [(3, .int (v3 + (1 : Int32))), (4, .int q1), (0, .ref (ht 0)), (1, .int v1), (2, .int v2)]) hx hb dX6_slotHoldingBack_37 hl (k := 4) rfl rfl (by decide) rfl (fun ls hl => ?_)
        refine lv_goto (tgt := 8) hx hb dX6_slotHoldingBack_40 (by decide) ?_
        exact K8 v1 v2 (v3 + (1 : Int32)) H locs ls hf hP hD hS (lv_sub hl [2, 3, 4, 0] rfl)
      · refine lv_iload hx hb dX6_slotHoldingBack_32 (lv_at hl 0 rfl) ?_
        refine lv_istore_n (lv' := [(2, .int q1), (4, .int q1), (0, .ref (ht 0)), (1, .int v1), (3, .int v3)]) hx hb dX6_slotHoldingBack_34 rfl hl (by decide) rfl (fun ls hl => ?_)
        refine lv_iload_n hx hb dX6_slotHoldingBack_35 rfl (lv_at hl 4 rfl) ?_
        refine lv_istore_n (lv' := [(1, .int v3), (2, .int q1), (4, .int q1), (0, .ref (ht 0)), (3, .int v3)]) hx hb dX6_slotHoldingBack_36 rfl hl (by decide) rfl (fun ls hl => ?_)
        refine lv_iinc (v := (v3 + (1 : Int32))) (lv' := [(3, .int (v3 + (1 : Int32))), (1, .int v3), (2, .int q1), (4, .int q1), (0, .ref (ht 0))]) hx hb dX6_slotHoldingBack_37 hl (k := 4) rfl rfl (by decide) rfl (fun ls hl => ?_)
        refine lv_goto (tgt := 8) hx hb dX6_slotHoldingBack_40 (by decide) ?_
        exact K8 v3 q1 (v3 + (1 : Int32)) H locs ls hf hP hD hS (lv_sub hl [4, 1, 2, 0] rfl)
def f_X6_slotHoldingBack (St : SRows) : Option (Int32) :=
  (zl3 (b_X6_slotHoldingBack_8 St) FU (-2 : Int32) (-2 : Int32) (0 : Int32))
set_option maxHeartbeats 4000000 in
set_option maxRecDepth 100000 in
theorem c_X6_slotHoldingBack (l : Launch) (D : va_G) (cy : Nat → ClassId) (ht : Nat → Nat) (St : SRows) (r : Int32) (hf : f_X6_slotHoldingBack St = some r) : zCI l yX6_slotHoldingBack cX6_slotHoldingBack 5 (some FieldType.int) 2 64 D (zty cy) [.ref (ht 0)] (wRows ht cy St) (wRows ht cy St) r := by
  refine zCI_of (by decide +kernel) (Nat.le_of_ble_eq_true rfl) ?_
  intro p e s m below meth c A ls C hP hD hS hl
  generalize hargs : ([.ref (ht 0)] : List Value).toArray = args at C ⊢
  have C : zX p s m meth c cX6_slotHoldingBack 5 args RX6 (some FieldType.int) A D (zty cy) := C
  obtain ⟨hx, hb, hr, hts, hown, hlocks, hml, hA, hK⟩ := id C
  have hl : lv_has ls 5 [(0, .ref (ht 0))] := hl
  generalize hH : s.heap = H at hP ⊢
  have hS : va_S A s.heap H [] := by rw [← hH]; exact hS
  generalize ([] : List Loc) = locs at hS ⊢
  refine lv_bipush (v := (-2 : Int32)) hx hb dX6_slotHoldingBack_0 (by decide) ?_
  refine lv_istore_n (lv' := [(1, .int (-2 : Int32)), (0, .ref (ht 0))]) hx hb dX6_slotHoldingBack_2 rfl hl (by decide) rfl (fun ls hl => ?_)
  refine lv_bipush (v := (-2 : Int32)) hx hb dX6_slotHoldingBack_3 (by decide) ?_
  refine lv_istore_n (lv' := [(2, .int (-2 : Int32)), (1, .int (-2 : Int32)), (0, .ref (ht 0))]) hx hb dX6_slotHoldingBack_5 rfl hl (by decide) rfl (fun ls hl => ?_)
  refine lv_iconst (v := (0 : Int32)) hx hb dX6_slotHoldingBack_6 (by decide) ?_
  refine lv_istore_n (lv' := [(3, .int (0 : Int32)), (2, .int (-2 : Int32)), (1, .int (-2 : Int32)), (0, .ref (ht 0))]) hx hb dX6_slotHoldingBack_7 rfl hl (by decide) rfl (fun ls hl => ?_)
  exact w_X6_slotHoldingBack_8 l ht St C FU (-2 : Int32) (-2 : Int32) (0 : Int32) H locs ls hf hP hD hS (lv_sub hl [3, 2, 1, 0] rfl)
def b_X6_madeBy_4 (St : SRows) (x1 : Int32) (k4 : Int32 → Int32 → Option (Int32)) (v2 : Int32) (v3 : Int32) : Option (Int32) :=
  (if (48 : Int32) ≤ v3 then
    some v2
    else
    (f_X6_isVersion St v3).bind (fun q1 =>
      (if q1 = 0 then
        (k4 v2 (v3 + (1 : Int32)))
        else
        (if zib v3 48 then (if ((Rows_froms St) v3.toNatClampNeg) = x1 then
            (k4 (v2 + (1 : Int32)) (v3 + (1 : Int32)))
            else
            (k4 v2 (v3 + (1 : Int32)))) else none))))
set_option maxHeartbeats 4000000 in
set_option maxRecDepth 100000 in
theorem w_X6_madeBy_4 {p : Program} {e : Env} {s : State} {m : MethodId} {below : List Frame} {meth : Method} {c : Code} {A : Nat → Prop} {D : va_G} {cy : Nat → ClassId} {args : Array Value} {r : Int32} (l : Launch) (ht : Nat → Nat) (St : SRows) (x1 : Int32) (C : zX p s m meth c cX6_madeBy 4 args RX6 (some FieldType.int) A D (zty cy)) :
    ∀ (n : Nat) (v2 : Int32) (v3 : Int32) (H : Heap) (locs : List Loc) (ls : Array Slot), zl2 (b_X6_madeBy_4 St x1) n v2 v3 = some r → va_P D vwCl (wRows ht cy St) H → va_D A (wRows ht cy St) → va_S A s.heap H locs → lv_has ls 4 [(0, .ref (ht 0)), (1, .int x1), (2, .int v2), (3, .int v3)] → W p l e (zRm 1 21) s m args below meth c H locs 0 0 (MQ below (zQI D (zty cy) A (wRows ht cy St) r) args s 0 0 A) (F0 m 4 ls []) := by
  obtain ⟨hx, hb, hr, hts, hown, hlocks, hml, hA, hK⟩ := id C
  intro n
  induction n with
  | zero => intro v2 v3 H locs ls hf; exact zno hf
  | succ n ih =>
    intro v2 v3 H locs ls hf hP hD hS hl
    have hf : b_X6_madeBy_4 St x1 (zl2 (b_X6_madeBy_4 St x1) n) v2 v3 = some r := hf
    have K4 := ih
    refine lv_iload_n hx hb dX6_madeBy_4 rfl (lv_at hl 3 rfl) ?_
    refine lv_bipush (v := (48 : Int32)) hx hb dX6_madeBy_5 (by decide) ?_
    refine z_icmp_ge (tgt := 37) hx hb dX6_madeBy_7 (by decide) hf (fun hf => ?_) (fun hf => ?_)
    · refine lv_iload_n hx hb dX6_madeBy_37 rfl (lv_at hl 2 rfl) ?_
      obtain rfl := Option.some.inj hf
      exact z_iret (v := v2) C hP hD hS dX6_madeBy_38
    · refine lv_aload_n hx hb dX6_madeBy_10 rfl (lv_at hl 0 rfl) ?_
      refine lv_iload_n hx hb dX6_madeBy_11 rfl (lv_at hl 3 rfl) ?_
      obtain ⟨q1, hc, hf⟩ := zbd hf
      refine z_cVi0 (As := [.int v3]) (rest := []) C (c_X6_isVersion l D cy ht St v3 q1 hc) gV_X6_X6_isVersion hd_X6_isVersion ⟨Nat.le_of_ble_eq_true rfl, Nat.le_of_ble_eq_true rfl⟩ ⟨Nat.le_refl _, Nat.le_refl _⟩ (va_recv hK hP (ci := 3) (q0 := 0) rfl rfl) hP hD hS hl.1 (Nat.le_of_ble_eq_true rfl) dX6_madeBy_12 (fun H locs hP hD hS => ?_)
      have hP : va_P D vwCl (wRows ht cy St) H := hP
      have hD : va_D A (wRows ht cy St) := hD
      refine z_if_eq (tgt := 31) hx hb dX6_madeBy_15 (by decide) hf (fun hf => ?_) (fun hf => ?_)
      · refine lv_iinc (v := (v3 + (1 : Int32))) (lv' := [(3, .int (v3 + (1 : Int32))), (0, .ref (ht 0)), (1, .int x1), (2, .int v2)]) hx hb dX6_madeBy_31 hl (k := 3) rfl rfl (by decide) rfl (fun ls hl => ?_)
        refine lv_goto (tgt := 4) hx hb dX6_madeBy_34 (by decide) ?_
        exact K4 v2 (v3 + (1 : Int32)) H locs ls hf hP hD hS (lv_sub hl [1, 2, 3, 0] rfl)
      · refine lv_aload_n hx hb dX6_madeBy_18 rfl (lv_at hl 0 rfl) ?_
        refine va_get (D := D) (ci := 3) (v := .ref (ht 5)) (C := RX6) (T := TX6) (N := 16) hx hb hts in_X6 hown hK hP 0 rfl rfl 13 (by decide) (hts _ q1_71) (fun _ h9 => h9) rfl dX6_madeBy_19 ?_
        refine lv_iload_n hx hb dX6_madeBy_22 rfl (lv_at hl 3 rfl) ?_
        refine z_iald (f := (Rows_froms St)) hx hb hK hP 5 0 rfl rfl dX6_madeBy_23 hf (fun hf => ?_)
        refine lv_iload_n hx hb dX6_madeBy_24 rfl (lv_at hl 1 rfl) ?_
        refine z_icmp_ne (tgt := 31) hx hb dX6_madeBy_25 (by decide) hf (fun hf => ?_) (fun hf => ?_)
        · refine lv_iinc (v := (v3 + (1 : Int32))) (lv' := [(3, .int (v3 + (1 : Int32))), (0, .ref (ht 0)), (1, .int x1), (2, .int v2)]) hx hb dX6_madeBy_31 hl (k := 3) rfl rfl (by decide) rfl (fun ls hl => ?_)
          refine lv_goto (tgt := 4) hx hb dX6_madeBy_34 (by decide) ?_
          exact K4 v2 (v3 + (1 : Int32)) H locs ls hf hP hD hS (lv_sub hl [1, 2, 3, 0] rfl)
        · refine lv_iinc (v := (v2 + (1 : Int32))) (lv' := [(2, .int (v2 + (1 : Int32))), (0, .ref (ht 0)), (1, .int x1), (3, .int v3)]) hx hb dX6_madeBy_28 hl (k := 2) rfl rfl (by decide) rfl (fun ls hl => ?_)
          refine lv_iinc (v := (v3 + (1 : Int32))) (lv' := [(3, .int (v3 + (1 : Int32))), (2, .int (v2 + (1 : Int32))), (0, .ref (ht 0)), (1, .int x1)]) hx hb dX6_madeBy_31 hl (k := 3) rfl rfl (by decide) rfl (fun ls hl => ?_)
          refine lv_goto (tgt := 4) hx hb dX6_madeBy_34 (by decide) ?_
          exact K4 (v2 + (1 : Int32)) (v3 + (1 : Int32)) H locs ls hf hP hD hS (lv_sub hl [2, 3, 1, 0] rfl)
def f_X6_madeBy (St : SRows) (x1 : Int32) : Option (Int32) :=
  (zl2 (b_X6_madeBy_4 St x1) FU (0 : Int32) (0 : Int32))
set_option maxHeartbeats 4000000 in
set_option maxRecDepth 100000 in
theorem c_X6_madeBy (l : Launch) (D : va_G) (cy : Nat → ClassId) (ht : Nat → Nat) (St : SRows) (x1 : Int32) (r : Int32) (hf : f_X6_madeBy St x1 = some r) : zCI l yX6_madeBy cX6_madeBy 4 (some FieldType.int) 1 21 D (zty cy) [.ref (ht 0), .int x1] (wRows ht cy St) (wRows ht cy St) r := by
  refine zCI_of (by decide +kernel) (Nat.le_of_ble_eq_true rfl) ?_
  intro p e s m below meth c A ls C hP hD hS hl
  generalize hargs : ([.ref (ht 0), .int x1] : List Value).toArray = args at C ⊢
  have C : zX p s m meth c cX6_madeBy 4 args RX6 (some FieldType.int) A D (zty cy) := C
  obtain ⟨hx, hb, hr, hts, hown, hlocks, hml, hA, hK⟩ := id C
  have hl : lv_has ls 4 [(0, .ref (ht 0)), (1, .int x1)] := hl
  generalize hH : s.heap = H at hP ⊢
  have hS : va_S A s.heap H [] := by rw [← hH]; exact hS
  generalize ([] : List Loc) = locs at hS ⊢
  refine lv_iconst (v := (0 : Int32)) hx hb dX6_madeBy_0 (by decide) ?_
  refine lv_istore_n (lv' := [(2, .int (0 : Int32)), (0, .ref (ht 0)), (1, .int x1)]) hx hb dX6_madeBy_1 rfl hl (by decide) rfl (fun ls hl => ?_)
  refine lv_iconst (v := (0 : Int32)) hx hb dX6_madeBy_2 (by decide) ?_
  refine lv_istore_n (lv' := [(3, .int (0 : Int32)), (2, .int (0 : Int32)), (0, .ref (ht 0)), (1, .int x1)]) hx hb dX6_madeBy_3 rfl hl (by decide) rfl (fun ls hl => ?_)
  exact w_X6_madeBy_4 l ht St x1 C FU (0 : Int32) (0 : Int32) H locs ls hf hP hD hS (lv_sub hl [2, 3, 1, 0] rfl)
def b_X6_endedBy_4 (St : SRows) (x1 : Int32) (k4 : Int32 → Int32 → Option (Int32)) (v2 : Int32) (v3 : Int32) : Option (Int32) :=
  (if (48 : Int32) ≤ v3 then
    some v2
    else
    (f_X6_isVersion St v3).bind (fun q1 =>
      (if q1 = 0 then
        (k4 v2 (v3 + (1 : Int32)))
        else
        (if zib v3 48 then (if ((Rows_tills St) v3.toNatClampNeg) = x1 then
            (k4 (v2 + (1 : Int32)) (v3 + (1 : Int32)))
            else
            (k4 v2 (v3 + (1 : Int32)))) else none))))
set_option maxHeartbeats 4000000 in
set_option maxRecDepth 100000 in
theorem w_X6_endedBy_4 {p : Program} {e : Env} {s : State} {m : MethodId} {below : List Frame} {meth : Method} {c : Code} {A : Nat → Prop} {D : va_G} {cy : Nat → ClassId} {args : Array Value} {r : Int32} (l : Launch) (ht : Nat → Nat) (St : SRows) (x1 : Int32) (C : zX p s m meth c cX6_endedBy 4 args RX6 (some FieldType.int) A D (zty cy)) :
    ∀ (n : Nat) (v2 : Int32) (v3 : Int32) (H : Heap) (locs : List Loc) (ls : Array Slot), zl2 (b_X6_endedBy_4 St x1) n v2 v3 = some r → va_P D vwCl (wRows ht cy St) H → va_D A (wRows ht cy St) → va_S A s.heap H locs → lv_has ls 4 [(0, .ref (ht 0)), (1, .int x1), (2, .int v2), (3, .int v3)] → W p l e (zRm 1 21) s m args below meth c H locs 0 0 (MQ below (zQI D (zty cy) A (wRows ht cy St) r) args s 0 0 A) (F0 m 4 ls []) := by
  obtain ⟨hx, hb, hr, hts, hown, hlocks, hml, hA, hK⟩ := id C
  intro n
  induction n with
  | zero => intro v2 v3 H locs ls hf; exact zno hf
  | succ n ih =>
    intro v2 v3 H locs ls hf hP hD hS hl
    have hf : b_X6_endedBy_4 St x1 (zl2 (b_X6_endedBy_4 St x1) n) v2 v3 = some r := hf
    have K4 := ih
    refine lv_iload_n hx hb dX6_endedBy_4 rfl (lv_at hl 3 rfl) ?_
    refine lv_bipush (v := (48 : Int32)) hx hb dX6_endedBy_5 (by decide) ?_
    refine z_icmp_ge (tgt := 37) hx hb dX6_endedBy_7 (by decide) hf (fun hf => ?_) (fun hf => ?_)
    · refine lv_iload_n hx hb dX6_endedBy_37 rfl (lv_at hl 2 rfl) ?_
      obtain rfl := Option.some.inj hf
      exact z_iret (v := v2) C hP hD hS dX6_endedBy_38
    · refine lv_aload_n hx hb dX6_endedBy_10 rfl (lv_at hl 0 rfl) ?_
      refine lv_iload_n hx hb dX6_endedBy_11 rfl (lv_at hl 3 rfl) ?_
      obtain ⟨q1, hc, hf⟩ := zbd hf
      refine z_cVi0 (As := [.int v3]) (rest := []) C (c_X6_isVersion l D cy ht St v3 q1 hc) gV_X6_X6_isVersion hd_X6_isVersion ⟨Nat.le_of_ble_eq_true rfl, Nat.le_of_ble_eq_true rfl⟩ ⟨Nat.le_refl _, Nat.le_refl _⟩ (va_recv hK hP (ci := 3) (q0 := 0) rfl rfl) hP hD hS hl.1 (Nat.le_of_ble_eq_true rfl) dX6_endedBy_12 (fun H locs hP hD hS => ?_)
      have hP : va_P D vwCl (wRows ht cy St) H := hP
      have hD : va_D A (wRows ht cy St) := hD
      refine z_if_eq (tgt := 31) hx hb dX6_endedBy_15 (by decide) hf (fun hf => ?_) (fun hf => ?_)
      · refine lv_iinc (v := (v3 + (1 : Int32))) (lv' := [(3, .int (v3 + (1 : Int32))), (0, .ref (ht 0)), (1, .int x1), (2, .int v2)]) hx hb dX6_endedBy_31 hl (k := 3) rfl rfl (by decide) rfl (fun ls hl => ?_)
        refine lv_goto (tgt := 4) hx hb dX6_endedBy_34 (by decide) ?_
        exact K4 v2 (v3 + (1 : Int32)) H locs ls hf hP hD hS (lv_sub hl [1, 2, 3, 0] rfl)
      · refine lv_aload_n hx hb dX6_endedBy_18 rfl (lv_at hl 0 rfl) ?_
        refine va_get (D := D) (ci := 3) (v := .ref (ht 6)) (C := RX6) (T := TX6) (N := 16) hx hb hts in_X6 hown hK hP 0 rfl rfl 14 (by decide) (hts _ q1_72) (fun _ h9 => h9) rfl dX6_endedBy_19 ?_
        refine lv_iload_n hx hb dX6_endedBy_22 rfl (lv_at hl 3 rfl) ?_
        refine z_iald (f := (Rows_tills St)) hx hb hK hP 6 0 rfl rfl dX6_endedBy_23 hf (fun hf => ?_)
        refine lv_iload_n hx hb dX6_endedBy_24 rfl (lv_at hl 1 rfl) ?_
        refine z_icmp_ne (tgt := 31) hx hb dX6_endedBy_25 (by decide) hf (fun hf => ?_) (fun hf => ?_)
        · refine lv_iinc (v := (v3 + (1 : Int32))) (lv' := [(3, .int (v3 + (1 : Int32))), (0, .ref (ht 0)), (1, .int x1), (2, .int v2)]) hx hb dX6_endedBy_31 hl (k := 3) rfl rfl (by decide) rfl (fun ls hl => ?_)
          refine lv_goto (tgt := 4) hx hb dX6_endedBy_34 (by decide) ?_
          exact K4 v2 (v3 + (1 : Int32)) H locs ls hf hP hD hS (lv_sub hl [1, 2, 3, 0] rfl)
        · refine lv_iinc (v := (v2 + (1 : Int32))) (lv' := [(2, .int (v2 + (1 : Int32))), (0, .ref (ht 0)), (1, .int x1), (3, .int v3)]) hx hb dX6_endedBy_28 hl (k := 2) rfl rfl (by decide) rfl (fun ls hl => ?_)
          refine lv_iinc (v := (v3 + (1 : Int32))) (lv' := [(3, .int (v3 + (1 : Int32))), (2, .int (v2 + (1 : Int32))), (0, .ref (ht 0)), (1, .int x1)]) hx hb dX6_endedBy_31 hl (k := 3) rfl rfl (by decide) rfl (fun ls hl => ?_)
          refine lv_goto (tgt := 4) hx hb dX6_endedBy_34 (by decide) ?_
          exact K4 (v2 + (1 : Int32)) (v3 + (1 : Int32)) H locs ls hf hP hD hS (lv_sub hl [2, 3, 1, 0] rfl)
def f_X6_endedBy (St : SRows) (x1 : Int32) : Option (Int32) :=
  (zl2 (b_X6_endedBy_4 St x1) FU (0 : Int32) (0 : Int32))
set_option maxHeartbeats 4000000 in
set_option maxRecDepth 100000 in
theorem c_X6_endedBy (l : Launch) (D : va_G) (cy : Nat → ClassId) (ht : Nat → Nat) (St : SRows) (x1 : Int32) (r : Int32) (hf : f_X6_endedBy St x1 = some r) : zCI l yX6_endedBy cX6_endedBy 4 (some FieldType.int) 1 21 D (zty cy) [.ref (ht 0), .int x1] (wRows ht cy St) (wRows ht cy St) r := by
  refine zCI_of (by decide +kernel) (Nat.le_of_ble_eq_true rfl) ?_
  intro p e s m below meth c A ls C hP hD hS hl
  generalize hargs : ([.ref (ht 0), .int x1] : List Value).toArray = args at C ⊢
  have C : zX p s m meth c cX6_endedBy 4 args RX6 (some FieldType.int) A D (zty cy) := C
  obtain ⟨hx, hb, hr, hts, hown, hlocks, hml, hA, hK⟩ := id C
  have hl : lv_has ls 4 [(0, .ref (ht 0)), (1, .int x1)] := hl
  generalize hH : s.heap = H at hP ⊢
  have hS : va_S A s.heap H [] := by rw [← hH]; exact hS
  generalize ([] : List Loc) = locs at hS ⊢
  refine lv_iconst (v := (0 : Int32)) hx hb dX6_endedBy_0 (by decide) ?_
  refine lv_istore_n (lv' := [(2, .int (0 : Int32)), (0, .ref (ht 0)), (1, .int x1)]) hx hb dX6_endedBy_1 rfl hl (by decide) rfl (fun ls hl => ?_)
  refine lv_iconst (v := (0 : Int32)) hx hb dX6_endedBy_2 (by decide) ?_
  refine lv_istore_n (lv' := [(3, .int (0 : Int32)), (2, .int (0 : Int32)), (0, .ref (ht 0)), (1, .int x1)]) hx hb dX6_endedBy_3 rfl hl (by decide) rfl (fun ls hl => ?_)
  exact w_X6_endedBy_4 l ht St x1 C FU (0 : Int32) (0 : Int32) H locs ls hf hP hD hS (lv_sub hl [2, 3, 1, 0] rfl)
def f_X6_rowOf (St : SRows) (x1 : Int32) : Option (Int32) :=
  (f_X6_isVersion St x1).bind (fun q1 =>
    (if q1 = 0 then
      some (-2 : Int32)
      else
      (if zib x1 48 then some ((Rows_rowsOf St) x1.toNatClampNeg) else none)))
set_option maxHeartbeats 4000000 in
set_option maxRecDepth 100000 in
theorem c_X6_rowOf (l : Launch) (D : va_G) (cy : Nat → ClassId) (ht : Nat → Nat) (St : SRows) (x1 : Int32) (r : Int32) (hf : f_X6_rowOf St x1 = some r) : zCI l yX6_rowOf cX6_rowOf 2 (some FieldType.int) 1 21 D (zty cy) [.ref (ht 0), .int x1] (wRows ht cy St) (wRows ht cy St) r := by
  refine zCI_of (by decide +kernel) (Nat.le_of_ble_eq_true rfl) ?_
  intro p e s m below meth c A ls C hP hD hS hl
  generalize hargs : ([.ref (ht 0), .int x1] : List Value).toArray = args at C ⊢
  have C : zX p s m meth c cX6_rowOf 2 args RX6 (some FieldType.int) A D (zty cy) := C
  obtain ⟨hx, hb, hr, hts, hown, hlocks, hml, hA, hK⟩ := id C
  have hl : lv_has ls 2 [(0, .ref (ht 0)), (1, .int x1)] := hl
  generalize hH : s.heap = H at hP ⊢
  have hS : va_S A s.heap H [] := by rw [← hH]; exact hS
  generalize ([] : List Loc) = locs at hS ⊢
  refine lv_aload_n hx hb dX6_rowOf_0 rfl (lv_at hl 0 rfl) ?_
  refine lv_iload_n hx hb dX6_rowOf_1 rfl (lv_at hl 1 rfl) ?_
  obtain ⟨q1, hc, hf⟩ := zbd hf
  refine z_cVi0 (As := [.int x1]) (rest := []) C (c_X6_isVersion l D cy ht St x1 q1 hc) gV_X6_X6_isVersion hd_X6_isVersion ⟨Nat.le_of_ble_eq_true rfl, Nat.le_of_ble_eq_true rfl⟩ ⟨Nat.le_refl _, Nat.le_refl _⟩ (va_recv hK hP (ci := 3) (q0 := 0) rfl rfl) hP hD hS hl.1 (Nat.le_of_ble_eq_true rfl) dX6_rowOf_2 (fun H locs hP hD hS => ?_)
  have hP : va_P D vwCl (wRows ht cy St) H := hP
  have hD : va_D A (wRows ht cy St) := hD
  refine z_if_eq (tgt := 17) hx hb dX6_rowOf_5 (by decide) hf (fun hf => ?_) (fun hf => ?_)
  · refine lv_bipush (v := (-2 : Int32)) hx hb dX6_rowOf_17 (by decide) ?_
    obtain rfl := Option.some.inj hf
    exact z_iret (v := (-2 : Int32)) C hP hD hS dX6_rowOf_19
  · refine lv_aload_n hx hb dX6_rowOf_8 rfl (lv_at hl 0 rfl) ?_
    refine va_get (D := D) (ci := 3) (v := .ref (ht 3)) (C := RX6) (T := TX6) (N := 16) hx hb hts in_X6 hown hK hP 0 rfl rfl 11 (by decide) (hts _ q1_69) (fun _ h9 => h9) rfl dX6_rowOf_9 ?_
    refine lv_iload_n hx hb dX6_rowOf_12 rfl (lv_at hl 1 rfl) ?_
    refine z_iald (f := (Rows_rowsOf St)) hx hb hK hP 3 0 rfl rfl dX6_rowOf_13 hf (fun hf => ?_)
    refine lv_goto (tgt := 19) hx hb dX6_rowOf_14 (by decide) ?_
    obtain rfl := Option.some.inj hf
    exact z_iret (v := ((Rows_rowsOf St) x1.toNatClampNeg)) C hP hD hS dX6_rowOf_19
def f_X6_valueOf (St : SRows) (x1 : Int32) : Option (Int32) :=
  (f_X6_isVersion St x1).bind (fun q1 =>
    (if q1 = 0 then
      some (-2 : Int32)
      else
      (if zib x1 48 then some ((Rows_values St) x1.toNatClampNeg) else none)))
set_option maxHeartbeats 4000000 in
set_option maxRecDepth 100000 in
theorem c_X6_valueOf (l : Launch) (D : va_G) (cy : Nat → ClassId) (ht : Nat → Nat) (St : SRows) (x1 : Int32) (r : Int32) (hf : f_X6_valueOf St x1 = some r) : zCI l yX6_valueOf cX6_valueOf 2 (some FieldType.int) 1 21 D (zty cy) [.ref (ht 0), .int x1] (wRows ht cy St) (wRows ht cy St) r := by
  refine zCI_of (by decide +kernel) (Nat.le_of_ble_eq_true rfl) ?_
  intro p e s m below meth c A ls C hP hD hS hl
  generalize hargs : ([.ref (ht 0), .int x1] : List Value).toArray = args at C ⊢
  have C : zX p s m meth c cX6_valueOf 2 args RX6 (some FieldType.int) A D (zty cy) := C
  obtain ⟨hx, hb, hr, hts, hown, hlocks, hml, hA, hK⟩ := id C
  have hl : lv_has ls 2 [(0, .ref (ht 0)), (1, .int x1)] := hl
  generalize hH : s.heap = H at hP ⊢
  have hS : va_S A s.heap H [] := by rw [← hH]; exact hS
  generalize ([] : List Loc) = locs at hS ⊢
  refine lv_aload_n hx hb dX6_valueOf_0 rfl (lv_at hl 0 rfl) ?_
  refine lv_iload_n hx hb dX6_valueOf_1 rfl (lv_at hl 1 rfl) ?_
  obtain ⟨q1, hc, hf⟩ := zbd hf
  refine z_cVi0 (As := [.int x1]) (rest := []) C (c_X6_isVersion l D cy ht St x1 q1 hc) gV_X6_X6_isVersion hd_X6_isVersion ⟨Nat.le_of_ble_eq_true rfl, Nat.le_of_ble_eq_true rfl⟩ ⟨Nat.le_refl _, Nat.le_refl _⟩ (va_recv hK hP (ci := 3) (q0 := 0) rfl rfl) hP hD hS hl.1 (Nat.le_of_ble_eq_true rfl) dX6_valueOf_2 (fun H locs hP hD hS => ?_)
  have hP : va_P D vwCl (wRows ht cy St) H := hP
  have hD : va_D A (wRows ht cy St) := hD
  refine z_if_eq (tgt := 17) hx hb dX6_valueOf_5 (by decide) hf (fun hf => ?_) (fun hf => ?_)
  · refine lv_bipush (v := (-2 : Int32)) hx hb dX6_valueOf_17 (by decide) ?_
    obtain rfl := Option.some.inj hf
    exact z_iret (v := (-2 : Int32)) C hP hD hS dX6_valueOf_19
  · refine lv_aload_n hx hb dX6_valueOf_8 rfl (lv_at hl 0 rfl) ?_
    refine va_get (D := D) (ci := 3) (v := .ref (ht 4)) (C := RX6) (T := TX6) (N := 16) hx hb hts in_X6 hown hK hP 0 rfl rfl 12 (by decide) (hts _ q1_70) (fun _ h9 => h9) rfl dX6_valueOf_9 ?_
    refine lv_iload_n hx hb dX6_valueOf_12 rfl (lv_at hl 1 rfl) ?_
    refine z_iald (f := (Rows_values St)) hx hb hK hP 4 0 rfl rfl dX6_valueOf_13 hf (fun hf => ?_)
    refine lv_goto (tgt := 19) hx hb dX6_valueOf_14 (by decide) ?_
    obtain rfl := Option.some.inj hf
    exact z_iret (v := ((Rows_values St) x1.toNatClampNeg)) C hP hD hS dX6_valueOf_19
def f_X6_madeAt (St : SRows) (x1 : Int32) : Option (Int32) :=
  (if x1 < 0 then
    some (-2 : Int32)
    else
    (if (Rows_count St) ≤ x1 then
      some (-2 : Int32)
      else
      (if (48 : Int32) ≤ x1 then
        some (-2 : Int32)
        else
        (if zib x1 48 then some ((Rows_made St) x1.toNatClampNeg) else none))))
set_option maxHeartbeats 4000000 in
set_option maxRecDepth 100000 in
theorem c_X6_madeAt (l : Launch) (D : va_G) (cy : Nat → ClassId) (ht : Nat → Nat) (St : SRows) (x1 : Int32) (r : Int32) (hf : f_X6_madeAt St x1 = some r) : zCI l yX6_madeAt cX6_madeAt 2 (some FieldType.int) 0 0 D (zty cy) [.ref (ht 0), .int x1] (wRows ht cy St) (wRows ht cy St) r := by
  refine zCI_of (by decide +kernel) (Nat.le_of_ble_eq_true rfl) ?_
  intro p e s m below meth c A ls C hP hD hS hl
  generalize hargs : ([.ref (ht 0), .int x1] : List Value).toArray = args at C ⊢
  have C : zX p s m meth c cX6_madeAt 2 args RX6 (some FieldType.int) A D (zty cy) := C
  obtain ⟨hx, hb, hr, hts, hown, hlocks, hml, hA, hK⟩ := id C
  have hl : lv_has ls 2 [(0, .ref (ht 0)), (1, .int x1)] := hl
  generalize hH : s.heap = H at hP ⊢
  have hS : va_S A s.heap H [] := by rw [← hH]; exact hS
  generalize ([] : List Loc) = locs at hS ⊢
  refine lv_iload_n hx hb dX6_madeAt_0 rfl (lv_at hl 1 rfl) ?_
  refine z_if_lt (tgt := 27) hx hb dX6_madeAt_1 (by decide) hf (fun hf => ?_) (fun hf => ?_)
  · refine lv_bipush (v := (-2 : Int32)) hx hb dX6_madeAt_27 (by decide) ?_
    obtain rfl := Option.some.inj hf
    exact z_iret (v := (-2 : Int32)) C hP hD hS dX6_madeAt_29
  · refine lv_iload_n hx hb dX6_madeAt_4 rfl (lv_at hl 1 rfl) ?_
    refine lv_aload_n hx hb dX6_madeAt_5 rfl (lv_at hl 0 rfl) ?_
    refine va_get (D := D) (ci := 3) (v := .int (Rows_count St)) (C := RX6) (T := TX6) (N := 16) hx hb hts in_X6 hown hK hP 0 rfl rfl 4 (by decide) (hts _ q1_61) (fun _ h9 => h9) rfl dX6_madeAt_6 ?_
    refine z_icmp_ge (tgt := 27) hx hb dX6_madeAt_9 (by decide) hf (fun hf => ?_) (fun hf => ?_)
    · refine lv_bipush (v := (-2 : Int32)) hx hb dX6_madeAt_27 (by decide) ?_
      obtain rfl := Option.some.inj hf
      exact z_iret (v := (-2 : Int32)) C hP hD hS dX6_madeAt_29
    · refine lv_iload_n hx hb dX6_madeAt_12 rfl (lv_at hl 1 rfl) ?_
      refine lv_bipush (v := (48 : Int32)) hx hb dX6_madeAt_13 (by decide) ?_
      refine z_icmp_ge (tgt := 27) hx hb dX6_madeAt_15 (by decide) hf (fun hf => ?_) (fun hf => ?_)
      · refine lv_bipush (v := (-2 : Int32)) hx hb dX6_madeAt_27 (by decide) ?_
        obtain rfl := Option.some.inj hf
        exact z_iret (v := (-2 : Int32)) C hP hD hS dX6_madeAt_29
      · refine lv_aload_n hx hb dX6_madeAt_18 rfl (lv_at hl 0 rfl) ?_
        refine va_get (D := D) (ci := 3) (v := .ref (ht 7)) (C := RX6) (T := TX6) (N := 16) hx hb hts in_X6 hown hK hP 0 rfl rfl 15 (by decide) (hts _ q1_73) (fun _ h9 => h9) rfl dX6_madeAt_19 ?_
        refine lv_iload_n hx hb dX6_madeAt_22 rfl (lv_at hl 1 rfl) ?_
        refine z_iald (f := (Rows_made St)) hx hb hK hP 7 0 rfl rfl dX6_madeAt_23 hf (fun hf => ?_)
        refine lv_goto (tgt := 29) hx hb dX6_madeAt_24 (by decide) ?_
        obtain rfl := Option.some.inj hf
        exact z_iret (v := ((Rows_made St) x1.toNatClampNeg)) C hP hD hS dX6_madeAt_29
def b_X6_chainLength_4 (St : SRows) (x1 : Int32) (k4 : Int32 → Int32 → Option (Int32)) (v2 : Int32) (v3 : Int32) : Option (Int32) :=
  (if (48 : Int32) ≤ v3 then
    some v2
    else
    (f_X6_rowOf St v3).bind (fun q1 =>
      (if q1 = x1 then
        (k4 (v2 + (1 : Int32)) (v3 + (1 : Int32)))
        else
        (k4 v2 (v3 + (1 : Int32))))))
set_option maxHeartbeats 4000000 in
set_option maxRecDepth 100000 in
theorem w_X6_chainLength_4 {p : Program} {e : Env} {s : State} {m : MethodId} {below : List Frame} {meth : Method} {c : Code} {A : Nat → Prop} {D : va_G} {cy : Nat → ClassId} {args : Array Value} {r : Int32} (l : Launch) (ht : Nat → Nat) (St : SRows) (x1 : Int32) (C : zX p s m meth c cX6_chainLength 4 args RX6 (some FieldType.int) A D (zty cy)) :
    ∀ (n : Nat) (v2 : Int32) (v3 : Int32) (H : Heap) (locs : List Loc) (ls : Array Slot), zl2 (b_X6_chainLength_4 St x1) n v2 v3 = some r → va_P D vwCl (wRows ht cy St) H → va_D A (wRows ht cy St) → va_S A s.heap H locs → lv_has ls 4 [(0, .ref (ht 0)), (1, .int x1), (2, .int v2), (3, .int v3)] → W p l e (zRm 2 42) s m args below meth c H locs 0 0 (MQ below (zQI D (zty cy) A (wRows ht cy St) r) args s 0 0 A) (F0 m 4 ls []) := by
  obtain ⟨hx, hb, hr, hts, hown, hlocks, hml, hA, hK⟩ := id C
  intro n
  induction n with
  | zero => intro v2 v3 H locs ls hf; exact zno hf
  | succ n ih =>
    intro v2 v3 H locs ls hf hP hD hS hl
    have hf : b_X6_chainLength_4 St x1 (zl2 (b_X6_chainLength_4 St x1) n) v2 v3 = some r := hf
    have K4 := ih
    refine lv_iload_n hx hb dX6_chainLength_4 rfl (lv_at hl 3 rfl) ?_
    refine lv_bipush (v := (48 : Int32)) hx hb dX6_chainLength_5 (by decide) ?_
    refine z_icmp_ge (tgt := 28) hx hb dX6_chainLength_7 (by decide) hf (fun hf => ?_) (fun hf => ?_)
    · refine lv_iload_n hx hb dX6_chainLength_28 rfl (lv_at hl 2 rfl) ?_
      obtain rfl := Option.some.inj hf
      exact z_iret (v := v2) C hP hD hS dX6_chainLength_29
    · refine lv_aload_n hx hb dX6_chainLength_10 rfl (lv_at hl 0 rfl) ?_
      refine lv_iload_n hx hb dX6_chainLength_11 rfl (lv_at hl 3 rfl) ?_
      obtain ⟨q1, hc, hf⟩ := zbd hf
      refine z_cVi0 (As := [.int v3]) (rest := []) C (c_X6_rowOf l D cy ht St v3 q1 hc) gV_X6_X6_rowOf hd_X6_rowOf ⟨Nat.le_of_ble_eq_true rfl, Nat.le_of_ble_eq_true rfl⟩ ⟨Nat.le_refl _, Nat.le_refl _⟩ (va_recv hK hP (ci := 3) (q0 := 0) rfl rfl) hP hD hS hl.1 (Nat.le_of_ble_eq_true rfl) dX6_chainLength_12 (fun H locs hP hD hS => ?_)
      have hP : va_P D vwCl (wRows ht cy St) H := hP
      have hD : va_D A (wRows ht cy St) := hD
      refine lv_iload_n hx hb dX6_chainLength_15 rfl (lv_at hl 1 rfl) ?_
      refine z_icmp_ne (tgt := 22) hx hb dX6_chainLength_16 (by decide) hf (fun hf => ?_) (fun hf => ?_)
      · refine lv_iinc (v := (v3 + (1 : Int32))) (lv' := [(3, .int (v3 + (1 : Int32))), (0, .ref (ht 0)), (1, .int x1), (2, .int v2)]) hx hb dX6_chainLength_22 hl (k := 3) rfl rfl (by decide) rfl (fun ls hl => ?_)
        refine lv_goto (tgt := 4) hx hb dX6_chainLength_25 (by decide) ?_
        exact K4 v2 (v3 + (1 : Int32)) H locs ls hf hP hD hS (lv_sub hl [1, 2, 3, 0] rfl)
      · refine lv_iinc (v := (v2 + (1 : Int32))) (lv' := [(2, .int (v2 + (1 : Int32))), (0, .ref (ht 0)), (1, .int x1), (3, .int v3)]) hx hb dX6_chainLength_19 hl (k := 2) rfl rfl (by decide) rfl (fun ls hl => ?_)
        refine lv_iinc (v := (v3 + (1 : Int32))) (lv' := [(3, .int (v3 + (1 : Int32))), (2, .int (v2 + (1 : Int32))), (0, .ref (ht 0)), (1, .int x1)]) hx hb dX6_chainLength_22 hl (k := 3) rfl rfl (by decide) rfl (fun ls hl => ?_)
        refine lv_goto (tgt := 4) hx hb dX6_chainLength_25 (by decide) ?_
        exact K4 (v2 + (1 : Int32)) (v3 + (1 : Int32)) H locs ls hf hP hD hS (lv_sub hl [2, 3, 1, 0] rfl)
def f_X6_chainLength (St : SRows) (x1 : Int32) : Option (Int32) :=
  (zl2 (b_X6_chainLength_4 St x1) FU (0 : Int32) (0 : Int32))
set_option maxHeartbeats 4000000 in
set_option maxRecDepth 100000 in
theorem c_X6_chainLength (l : Launch) (D : va_G) (cy : Nat → ClassId) (ht : Nat → Nat) (St : SRows) (x1 : Int32) (r : Int32) (hf : f_X6_chainLength St x1 = some r) : zCI l yX6_chainLength cX6_chainLength 4 (some FieldType.int) 2 42 D (zty cy) [.ref (ht 0), .int x1] (wRows ht cy St) (wRows ht cy St) r := by
  refine zCI_of (by decide +kernel) (Nat.le_of_ble_eq_true rfl) ?_
  intro p e s m below meth c A ls C hP hD hS hl
  generalize hargs : ([.ref (ht 0), .int x1] : List Value).toArray = args at C ⊢
  have C : zX p s m meth c cX6_chainLength 4 args RX6 (some FieldType.int) A D (zty cy) := C
  obtain ⟨hx, hb, hr, hts, hown, hlocks, hml, hA, hK⟩ := id C
  have hl : lv_has ls 4 [(0, .ref (ht 0)), (1, .int x1)] := hl
  generalize hH : s.heap = H at hP ⊢
  have hS : va_S A s.heap H [] := by rw [← hH]; exact hS
  generalize ([] : List Loc) = locs at hS ⊢
  refine lv_iconst (v := (0 : Int32)) hx hb dX6_chainLength_0 (by decide) ?_
  refine lv_istore_n (lv' := [(2, .int (0 : Int32)), (0, .ref (ht 0)), (1, .int x1)]) hx hb dX6_chainLength_1 rfl hl (by decide) rfl (fun ls hl => ?_)
  refine lv_iconst (v := (0 : Int32)) hx hb dX6_chainLength_2 (by decide) ?_
  refine lv_istore_n (lv' := [(3, .int (0 : Int32)), (2, .int (0 : Int32)), (0, .ref (ht 0)), (1, .int x1)]) hx hb dX6_chainLength_3 rfl hl (by decide) rfl (fun ls hl => ?_)
  exact w_X6_chainLength_4 l ht St x1 C FU (0 : Int32) (0 : Int32) H locs ls hf hP hD hS (lv_sub hl [2, 3, 1, 0] rfl)
def b_X6_versionInChain_5 (St : SRows) (x1 : Int32) (x2 : Int32) (k5 : Int32 → Int32 → Option (Int32)) (v3 : Int32) (v4 : Int32) : Option (Int32) :=
  (if (Rows_count St) ≤ v4 then
    some (-2 : Int32)
    else
    (f_X6_madeAt St v4).bind (fun q1 =>
      (f_X6_rowOf St q1).bind (fun q2 =>
        (if q2 = x1 then
          (if v3 = x2 then
            some q1
            else
            (k5 (v3 + (1 : Int32)) (v4 + (1 : Int32))))
          else
          (k5 v3 (v4 + (1 : Int32)))))))
set_option maxHeartbeats 4000000 in
set_option maxRecDepth 100000 in
theorem w_X6_versionInChain_5 {p : Program} {e : Env} {s : State} {m : MethodId} {below : List Frame} {meth : Method} {c : Code} {A : Nat → Prop} {D : va_G} {cy : Nat → ClassId} {args : Array Value} {r : Int32} (l : Launch) (ht : Nat → Nat) (St : SRows) (x1 : Int32) (x2 : Int32) (C : zX p s m meth c cX6_versionInChain 6 args RX6 (some FieldType.int) A D (zty cy)) :
    ∀ (n : Nat) (v3 : Int32) (v4 : Int32) (H : Heap) (locs : List Loc) (ls : Array Slot), zl2 (b_X6_versionInChain_5 St x1 x2) n v3 v4 = some r → va_P D vwCl (wRows ht cy St) H → va_D A (wRows ht cy St) → va_S A s.heap H locs → lv_has ls 6 [(0, .ref (ht 0)), (1, .int x1), (2, .int x2), (3, .int v3), (4, .int v4)] → W p l e (zRm 2 42) s m args below meth c H locs 0 0 (MQ below (zQI D (zty cy) A (wRows ht cy St) r) args s 0 0 A) (F0 m 5 ls []) := by
  obtain ⟨hx, hb, hr, hts, hown, hlocks, hml, hA, hK⟩ := id C
  intro n
  induction n with
  | zero => intro v3 v4 H locs ls hf; exact zno hf
  | succ n ih =>
    intro v3 v4 H locs ls hf hP hD hS hl
    have hf : b_X6_versionInChain_5 St x1 x2 (zl2 (b_X6_versionInChain_5 St x1 x2) n) v3 v4 = some r := hf
    have K5 := ih
    refine lv_iload hx hb dX6_versionInChain_5 (lv_at hl 4 rfl) ?_
    refine lv_aload_n hx hb dX6_versionInChain_7 rfl (lv_at hl 0 rfl) ?_
    refine va_get (D := D) (ci := 3) (v := .int (Rows_count St)) (C := RX6) (T := TX6) (N := 16) hx hb hts in_X6 hown hK hP 0 rfl rfl 4 (by decide) (hts _ q1_61) (fun _ h9 => h9) rfl dX6_versionInChain_8 ?_
    refine z_icmp_ge (tgt := 52) hx hb dX6_versionInChain_11 (by decide) hf (fun hf => ?_) (fun hf => ?_)
    · refine lv_bipush (v := (-2 : Int32)) hx hb dX6_versionInChain_52 (by decide) ?_
      obtain rfl := Option.some.inj hf
      exact z_iret (v := (-2 : Int32)) C hP hD hS dX6_versionInChain_54
    · refine lv_aload_n hx hb dX6_versionInChain_14 rfl (lv_at hl 0 rfl) ?_
      refine lv_iload hx hb dX6_versionInChain_15 (lv_at hl 4 rfl) ?_
      obtain ⟨q1, hc, hf⟩ := zbd hf
      refine z_cVi0 (As := [.int v4]) (rest := []) C (c_X6_madeAt l D cy ht St v4 q1 hc) gV_X6_X6_madeAt hd_X6_madeAt ⟨Nat.le_of_ble_eq_true rfl, Nat.le_of_ble_eq_true rfl⟩ ⟨Nat.le_refl _, Nat.le_refl _⟩ (va_recv hK hP (ci := 3) (q0 := 0) rfl rfl) hP hD hS hl.1 (Nat.le_of_ble_eq_true rfl) dX6_versionInChain_17 (fun H locs hP hD hS => ?_)
      have hP : va_P D vwCl (wRows ht cy St) H := hP
      have hD : va_D A (wRows ht cy St) := hD
      refine lv_istore (lv' := [(5, .int q1), (0, .ref (ht 0)), (1, .int x1), (2, .int x2), (3, .int v3), (4, .int v4)]) hx hb dX6_versionInChain_20 hl (by decide) rfl (fun ls hl => ?_)
      refine lv_aload_n hx hb dX6_versionInChain_22 rfl (lv_at hl 1 rfl) ?_
      refine lv_iload hx hb dX6_versionInChain_23 (lv_at hl 0 rfl) ?_
      obtain ⟨q2, hc, hf⟩ := zbd hf
      refine z_cVi0 (As := [.int q1]) (rest := []) C (c_X6_rowOf l D cy ht St q1 q2 hc) gV_X6_X6_rowOf hd_X6_rowOf ⟨Nat.le_of_ble_eq_true rfl, Nat.le_of_ble_eq_true rfl⟩ ⟨Nat.le_refl _, Nat.le_refl _⟩ (va_recv hK hP (ci := 3) (q0 := 0) rfl rfl) hP hD hS hl.1 (Nat.le_of_ble_eq_true rfl) dX6_versionInChain_25 (fun H locs hP hD hS => ?_)
      have hP : va_P D vwCl (wRows ht cy St) H := hP
      have hD : va_D A (wRows ht cy St) := hD
      refine lv_iload_n hx hb dX6_versionInChain_28 rfl (lv_at hl 2 rfl) ?_
      refine z_icmp_eq (tgt := 35) hx hb dX6_versionInChain_29 (by decide) hf (fun hf => ?_) (fun hf => ?_)
      · refine lv_iload_n hx hb dX6_versionInChain_35 rfl (lv_at hl 4 rfl) ?_
        refine lv_iload_n hx hb dX6_versionInChain_36 rfl (lv_at hl 3 rfl) ?_
        refine z_icmp_ne (tgt := 43) hx hb dX6_versionInChain_37 (by decide) hf (fun hf => ?_) (fun hf => ?_)
        · refine lv_iinc (v := (v3 + (1 : Int32))) (lv' := [(3, .int (v3 + (1 : Int32))), (5, .int q1), (0, .ref (ht 0)), (1, .int x1), (2, .int x2), (4, .int v4)]) hx hb dX6_versionInChain_43 hl (k := 4) rfl rfl (by decide) rfl (fun ls hl => ?_)
          refine lv_iinc (v := (v4 + (1 : Int32))) (lv' := [(4, .int (v4 + (1 : Int32))), (3, .int (v3 + (1 : Int32))), (5, .int q1), (0, .ref (ht 0)), (1, .int x1), (2, .int x2)]) hx hb dX6_versionInChain_46 hl (k := 5) rfl rfl (by decide) rfl (fun ls hl => ?_)
          refine lv_goto (tgt := 5) hx hb dX6_versionInChain_49 (by decide) ?_
          exact K5 (v3 + (1 : Int32)) (v4 + (1 : Int32)) H locs ls hf hP hD hS (lv_sub hl [3, 4, 5, 1, 0] rfl)
        · refine lv_iload hx hb dX6_versionInChain_40 (lv_at hl 0 rfl) ?_
          obtain rfl := Option.some.inj hf
          exact z_iret (v := q1) C hP hD hS dX6_versionInChain_42
      · refine lv_goto (tgt := 46) hx hb dX6_versionInChain_32 (by decide) ?_
        refine lv_iinc (v := (v4 + (1 : Int32))) (lv' := [(4, .int (v4 + (1 : Int32))), (5, .int q1), (0, .ref (ht 0)), (1, .int x1), (2, .int x2), (3, .int v3)]) hx hb dX6_versionInChain_46 hl (k := 5) rfl rfl (by decide) rfl (fun ls hl => ?_)
        refine lv_goto (tgt := 5) hx hb dX6_versionInChain_49 (by decide) ?_
        exact K5 v3 (v4 + (1 : Int32)) H locs ls hf hP hD hS (lv_sub hl [2, 3, 4, 5, 0] rfl)
def f_X6_versionInChain (St : SRows) (x1 : Int32) (x2 : Int32) : Option (Int32) :=
  (zl2 (b_X6_versionInChain_5 St x1 x2) FU (0 : Int32) (0 : Int32))
set_option maxHeartbeats 4000000 in
set_option maxRecDepth 100000 in
theorem c_X6_versionInChain (l : Launch) (D : va_G) (cy : Nat → ClassId) (ht : Nat → Nat) (St : SRows) (x1 : Int32) (x2 : Int32) (r : Int32) (hf : f_X6_versionInChain St x1 x2 = some r) : zCI l yX6_versionInChain cX6_versionInChain 6 (some FieldType.int) 2 42 D (zty cy) [.ref (ht 0), .int x1, .int x2] (wRows ht cy St) (wRows ht cy St) r := by
  refine zCI_of (by decide +kernel) (Nat.le_of_ble_eq_true rfl) ?_
  intro p e s m below meth c A ls C hP hD hS hl
  generalize hargs : ([.ref (ht 0), .int x1, .int x2] : List Value).toArray = args at C ⊢
  have C : zX p s m meth c cX6_versionInChain 6 args RX6 (some FieldType.int) A D (zty cy) := C
  obtain ⟨hx, hb, hr, hts, hown, hlocks, hml, hA, hK⟩ := id C
  have hl : lv_has ls 6 [(0, .ref (ht 0)), (1, .int x1), (2, .int x2)] := hl
  generalize hH : s.heap = H at hP ⊢
  have hS : va_S A s.heap H [] := by rw [← hH]; exact hS
  generalize ([] : List Loc) = locs at hS ⊢
  refine lv_iconst (v := (0 : Int32)) hx hb dX6_versionInChain_0 (by decide) ?_
  refine lv_istore_n (lv' := [(3, .int (0 : Int32)), (0, .ref (ht 0)), (1, .int x1), (2, .int x2)]) hx hb dX6_versionInChain_1 rfl hl (by decide) rfl (fun ls hl => ?_)
  refine lv_iconst (v := (0 : Int32)) hx hb dX6_versionInChain_2 (by decide) ?_
  refine lv_istore (lv' := [(4, .int (0 : Int32)), (3, .int (0 : Int32)), (0, .ref (ht 0)), (1, .int x1), (2, .int x2)]) hx hb dX6_versionInChain_3 hl (by decide) rfl (fun ls hl => ?_)
  exact w_X6_versionInChain_5 l ht St x1 x2 C FU (0 : Int32) (0 : Int32) H locs ls hf hP hD hS (lv_sub hl [2, 3, 4, 1, 0] rfl)
def f_X6_isDeadNow (St : SRows) (x1 : Int32) : Option (Int32) :=
  (f_X6_settledWithout St (-2 : Int32)).bind (fun q1 =>
    (f_X6_isDead St x1 (Rows_goneStamps St) q1).bind (fun q2 =>
      (if zbo q2 then some q2 else none)))
set_option maxHeartbeats 4000000 in
set_option maxRecDepth 100000 in
theorem c_X6_isDeadNow (l : Launch) (D : va_G) (cy : Nat → ClassId) (ht : Nat → Nat) (St : SRows) (x1 : Int32) (r : Int32) (hf : f_X6_isDeadNow St x1 = some r) : zCI l yX6_isDeadNow cX6_isDeadNow 2 (some FieldType.boolean) 3 70 D (zty cy) [.ref (ht 0), .int x1] (wRows ht cy St) (wRows ht cy St) r := by
  refine zCI_of (by decide +kernel) (Nat.le_of_ble_eq_true rfl) ?_
  intro p e s m below meth c A ls C hP hD hS hl
  generalize hargs : ([.ref (ht 0), .int x1] : List Value).toArray = args at C ⊢
  have C : zX p s m meth c cX6_isDeadNow 2 args RX6 (some FieldType.boolean) A D (zty cy) := C
  obtain ⟨hx, hb, hr, hts, hown, hlocks, hml, hA, hK⟩ := id C
  have hl : lv_has ls 2 [(0, .ref (ht 0)), (1, .int x1)] := hl
  generalize hH : s.heap = H at hP ⊢
  have hS : va_S A s.heap H [] := by rw [← hH]; exact hS
  generalize ([] : List Loc) = locs at hS ⊢
  refine lv_aload_n hx hb dX6_isDeadNow_0 rfl (lv_at hl 0 rfl) ?_
  refine lv_iload_n hx hb dX6_isDeadNow_1 rfl (lv_at hl 1 rfl) ?_
  refine lv_aload_n hx hb dX6_isDeadNow_2 rfl (lv_at hl 0 rfl) ?_
  refine va_get (D := D) (ci := 3) (v := .long (Rows_goneStamps St)) (C := RX6) (T := TX6) (N := 16) hx hb hts in_X6 hown hK hP 0 rfl rfl 8 (by decide) (hts _ q1_66) (fun _ h9 => h9) rfl dX6_isDeadNow_3 ?_
  refine lv_aload_n hx hb dX6_isDeadNow_6 rfl (lv_at hl 0 rfl) ?_
  refine lv_bipush (v := (-2 : Int32)) hx hb dX6_isDeadNow_7 (by decide) ?_
  obtain ⟨q1, hc, hf⟩ := zbd hf
  refine z_cVl0 (As := [.int (-2 : Int32)]) (rest := [.long (Rows_goneStamps St), .int x1, .ref (ht 0)]) C (c_X6_settledWithout l D cy ht St (-2 : Int32) q1 hc) gV_X6_X6_settledWithout hd_X6_settledWithout ⟨Nat.le_of_ble_eq_true rfl, Nat.le_of_ble_eq_true rfl⟩ ⟨Nat.le_refl _, Nat.le_refl _⟩ (va_recv hK hP (ci := 3) (q0 := 0) rfl rfl) hP hD hS hl.1 (Nat.le_of_ble_eq_true rfl) dX6_isDeadNow_9 (fun H locs hP hD hS => ?_)
  have hP : va_P D vwCl (wRows ht cy St) H := hP
  have hD : va_D A (wRows ht cy St) := hD
  obtain ⟨q2, hc, hf⟩ := zbd hf
  refine z_cVi0 (As := [.int x1, .long (Rows_goneStamps St), .long q1]) (rest := []) C (c_X6_isDead l D cy ht St x1 (Rows_goneStamps St) q1 q2 hc) gV_X6_X6_isDead hd_X6_isDead ⟨Nat.le_of_ble_eq_true rfl, Nat.le_of_ble_eq_true rfl⟩ ⟨Nat.le_refl _, Nat.le_refl _⟩ (va_recv hK hP (ci := 3) (q0 := 0) rfl rfl) hP hD hS hl.1 (Nat.le_of_ble_eq_true rfl) dX6_isDeadNow_12 (fun H locs hP hD hS => ?_)
  have hP : va_P D vwCl (wRows ht cy St) H := hP
  have hD : va_D A (wRows ht cy St) := hD
  obtain ⟨hz, hf⟩ := zgd hf
  obtain rfl := Option.some.inj hf
  exact z_zret (v := q2) C (zbo_n hz) hP hD hS dX6_isDeadNow_15
def b_X6_countDeadWithout_27 (St : SRows) (x1 : Int32) (k27 : Int64 → Int64 → Int32 → Int32 → Option (Int32)) (v2 : Int64) (v4 : Int64) (v6 : Int32) (v7 : Int32) : Option (Int32) :=
  (if (48 : Int32) ≤ v7 then
    some v6
    else
    (f_X6_isVersion St v7).bind (fun q1 =>
      (if q1 = 0 then
        (k27 v2 v4 v6 (v7 + (1 : Int32)))
        else
        (f_X6_isDead St v7 v4 v2).bind (fun q2 =>
          (if q2 = 0 then
            (k27 v2 v4 v6 (v7 + (1 : Int32)))
            else
            (k27 v2 v4 (v6 + (1 : Int32)) (v7 + (1 : Int32))))))))
set_option maxHeartbeats 4000000 in
set_option maxRecDepth 100000 in
theorem w_X6_countDeadWithout_27 {p : Program} {e : Env} {s : State} {m : MethodId} {below : List Frame} {meth : Method} {c : Code} {A : Nat → Prop} {D : va_G} {cy : Nat → ClassId} {args : Array Value} {r : Int32} (l : Launch) (ht : Nat → Nat) (St : SRows) (x1 : Int32) (C : zX p s m meth c cX6_countDeadWithout 8 args RX6 (some FieldType.int) A D (zty cy)) :
    ∀ (n : Nat) (v2 : Int64) (v4 : Int64) (v6 : Int32) (v7 : Int32) (H : Heap) (locs : List Loc) (ls : Array Slot), zl4 (b_X6_countDeadWithout_27 St x1) n v2 v4 v6 v7 = some r → va_P D vwCl (wRows ht cy St) H → va_D A (wRows ht cy St) → va_S A s.heap H locs → lv_has ls 8 [(0, .ref (ht 0)), (2, .long v2), (4, .long v4), (6, .int v6), (7, .int v7)] → W p l e (zRm 3 70) s m args below meth c H locs 0 0 (MQ below (zQI D (zty cy) A (wRows ht cy St) r) args s 0 0 A) (F0 m 27 ls []) := by
  obtain ⟨hx, hb, hr, hts, hown, hlocks, hml, hA, hK⟩ := id C
  intro n
  induction n with
  | zero => intro v2 v4 v6 v7 H locs ls hf; exact zno hf
  | succ n ih =>
    intro v2 v4 v6 v7 H locs ls hf hP hD hS hl
    have hf : b_X6_countDeadWithout_27 St x1 (zl4 (b_X6_countDeadWithout_27 St x1) n) v2 v4 v6 v7 = some r := hf
    have K27 := ih
    refine lv_iload hx hb dX6_countDeadWithout_27 (lv_at hl 4 rfl) ?_
    refine lv_bipush (v := (48 : Int32)) hx hb dX6_countDeadWithout_29 (by decide) ?_
    refine z_icmp_ge (tgt := 64) hx hb dX6_countDeadWithout_31 (by decide) hf (fun hf => ?_) (fun hf => ?_)
    · refine lv_iload hx hb dX6_countDeadWithout_64 (lv_at hl 3 rfl) ?_
      obtain rfl := Option.some.inj hf
      exact z_iret (v := v6) C hP hD hS dX6_countDeadWithout_66
    · refine lv_aload_n hx hb dX6_countDeadWithout_34 rfl (lv_at hl 0 rfl) ?_
      refine lv_iload hx hb dX6_countDeadWithout_35 (lv_at hl 4 rfl) ?_
      obtain ⟨q1, hc, hf⟩ := zbd hf
      refine z_cVi0 (As := [.int v7]) (rest := []) C (c_X6_isVersion l D cy ht St v7 q1 hc) gV_X6_X6_isVersion hd_X6_isVersion ⟨Nat.le_of_ble_eq_true rfl, Nat.le_of_ble_eq_true rfl⟩ ⟨Nat.le_refl _, Nat.le_refl _⟩ (va_recv hK hP (ci := 3) (q0 := 0) rfl rfl) hP hD hS hl.1 (Nat.le_of_ble_eq_true rfl) dX6_countDeadWithout_37 (fun H locs hP hD hS => ?_)
      have hP : va_P D vwCl (wRows ht cy St) H := hP
      have hD : va_D A (wRows ht cy St) := hD
      refine z_if_eq (tgt := 58) hx hb dX6_countDeadWithout_40 (by decide) hf (fun hf => ?_) (fun hf => ?_)
      · refine lv_iinc (v := (v7 + (1 : Int32))) (lv' := [(7, .int (v7 + (1 : Int32))), (0, .ref (ht 0)), (2, .long v2), (4, .long v4), (6, .int v6)]) hx hb dX6_countDeadWithout_58 hl (k := 4) rfl rfl (by decide) rfl (fun ls hl => ?_)
        refine lv_goto (tgt := 27) hx hb dX6_countDeadWithout_61 (by decide) ?_
        exact K27 v2 v4 v6 (v7 + (1 : Int32)) H locs ls hf hP hD hS (lv_sub hl [1, 2, 3, 4, 0] rfl)
      · refine lv_aload_n hx hb dX6_countDeadWithout_43 rfl (lv_at hl 0 rfl) ?_
        refine lv_iload hx hb dX6_countDeadWithout_44 (lv_at hl 4 rfl) ?_
        refine lv_lload hx hb dX6_countDeadWithout_46 (lv_at hl 2 rfl) ?_
        refine lv_lload_n hx hb dX6_countDeadWithout_48 rfl (lv_at hl 1 rfl) ?_
        obtain ⟨q2, hc, hf⟩ := zbd hf
        refine z_cVi0 (As := [.int v7, .long v4, .long v2]) (rest := []) C (c_X6_isDead l D cy ht St v7 v4 v2 q2 hc) gV_X6_X6_isDead hd_X6_isDead ⟨Nat.le_of_ble_eq_true rfl, Nat.le_of_ble_eq_true rfl⟩ ⟨Nat.le_refl _, Nat.le_refl _⟩ (va_recv hK hP (ci := 3) (q0 := 0) rfl rfl) hP hD hS hl.1 (Nat.le_of_ble_eq_true rfl) dX6_countDeadWithout_49 (fun H locs hP hD hS => ?_)
        have hP : va_P D vwCl (wRows ht cy St) H := hP
        have hD : va_D A (wRows ht cy St) := hD
        refine z_if_eq (tgt := 58) hx hb dX6_countDeadWithout_52 (by decide) hf (fun hf => ?_) (fun hf => ?_)
        · refine lv_iinc (v := (v7 + (1 : Int32))) (lv' := [(7, .int (v7 + (1 : Int32))), (0, .ref (ht 0)), (2, .long v2), (4, .long v4), (6, .int v6)]) hx hb dX6_countDeadWithout_58 hl (k := 4) rfl rfl (by decide) rfl (fun ls hl => ?_)
          refine lv_goto (tgt := 27) hx hb dX6_countDeadWithout_61 (by decide) ?_
          exact K27 v2 v4 v6 (v7 + (1 : Int32)) H locs ls hf hP hD hS (lv_sub hl [1, 2, 3, 4, 0] rfl)
        · refine lv_iinc (v := (v6 + (1 : Int32))) (lv' := [(6, .int (v6 + (1 : Int32))), (0, .ref (ht 0)), (2, .long v2), (4, .long v4), (7, .int v7)]) hx hb dX6_countDeadWithout_55 hl (k := 3) rfl rfl (by decide) rfl (fun ls hl => ?_)
          refine lv_iinc (v := (v7 + (1 : Int32))) (lv' := [(7, .int (v7 + (1 : Int32))), (6, .int (v6 + (1 : Int32))), (0, .ref (ht 0)), (2, .long v2), (4, .long v4)]) hx hb dX6_countDeadWithout_58 hl (k := 4) rfl rfl (by decide) rfl (fun ls hl => ?_)
          refine lv_goto (tgt := 27) hx hb dX6_countDeadWithout_61 (by decide) ?_
          exact K27 v2 v4 (v6 + (1 : Int32)) (v7 + (1 : Int32)) H locs ls hf hP hD hS (lv_sub hl [2, 3, 4, 1, 0] rfl)
def f_X6_countDeadWithout (St : SRows) (x1 : Int32) : Option (Int32) :=
  (f_X6_settledWithout St x1).bind (fun q3 =>
    (f_X6_stampOf St x1).bind (fun q4 =>
      (f_X6_bitOf q4).bind (fun q5 =>
        (zl4 (b_X6_countDeadWithout_27 St x1) FU q3 ((Rows_goneStamps St) ||| q5) (0 : Int32) (0 : Int32)))))
set_option maxHeartbeats 4000000 in
set_option maxRecDepth 100000 in
theorem c_X6_countDeadWithout (l : Launch) (D : va_G) (cy : Nat → ClassId) (ht : Nat → Nat) (St : SRows) (x1 : Int32) (r : Int32) (hf : f_X6_countDeadWithout St x1 = some r) : zCI l yX6_countDeadWithout cX6_countDeadWithout 8 (some FieldType.int) 3 70 D (zty cy) [.ref (ht 0), .int x1] (wRows ht cy St) (wRows ht cy St) r := by
  refine zCI_of (by decide +kernel) (Nat.le_of_ble_eq_true rfl) ?_
  intro p e s m below meth c A ls C hP hD hS hl
  generalize hargs : ([.ref (ht 0), .int x1] : List Value).toArray = args at C ⊢
  have C : zX p s m meth c cX6_countDeadWithout 8 args RX6 (some FieldType.int) A D (zty cy) := C
  obtain ⟨hx, hb, hr, hts, hown, hlocks, hml, hA, hK⟩ := id C
  have hl : lv_has ls 8 [(0, .ref (ht 0)), (1, .int x1)] := hl
  generalize hH : s.heap = H at hP ⊢
  have hS : va_S A s.heap H [] := by rw [← hH]; exact hS
  generalize ([] : List Loc) = locs at hS ⊢
  refine lv_aload_n hx hb dX6_countDeadWithout_0 rfl (lv_at hl 0 rfl) ?_
  refine lv_iload_n hx hb dX6_countDeadWithout_1 rfl (lv_at hl 1 rfl) ?_
  obtain ⟨q3, hc, hf⟩ := zbd hf
  refine z_cVl0 (As := [.int x1]) (rest := []) C (c_X6_settledWithout l D cy ht St x1 q3 hc) gV_X6_X6_settledWithout hd_X6_settledWithout ⟨Nat.le_of_ble_eq_true rfl, Nat.le_of_ble_eq_true rfl⟩ ⟨Nat.le_refl _, Nat.le_refl _⟩ (va_recv hK hP (ci := 3) (q0 := 0) rfl rfl) hP hD hS hl.1 (Nat.le_of_ble_eq_true rfl) dX6_countDeadWithout_2 (fun H locs hP hD hS => ?_)
  have hP : va_P D vwCl (wRows ht cy St) H := hP
  have hD : va_D A (wRows ht cy St) := hD
  refine lv_lstore_n (lv' := [(2, .long q3), (0, .ref (ht 0)), (1, .int x1)]) hx hb dX6_countDeadWithout_5 rfl hl (by decide) rfl (fun ls hl => ?_)
  refine lv_aload_n hx hb dX6_countDeadWithout_6 rfl (lv_at hl 1 rfl) ?_
  refine va_get (D := D) (ci := 3) (v := .long (Rows_goneStamps St)) (C := RX6) (T := TX6) (N := 16) hx hb hts in_X6 hown hK hP 0 rfl rfl 8 (by decide) (hts _ q1_66) (fun _ h9 => h9) rfl dX6_countDeadWithout_7 ?_
  refine lv_aload_n hx hb dX6_countDeadWithout_10 rfl (lv_at hl 1 rfl) ?_
  refine lv_iload_n hx hb dX6_countDeadWithout_11 rfl (lv_at hl 2 rfl) ?_
  obtain ⟨q4, hc, hf⟩ := zbd hf
  refine z_cVi0 (As := [.int x1]) (rest := [.long (Rows_goneStamps St)]) C (c_X6_stampOf l D cy ht St x1 q4 hc) gV_X6_X6_stampOf hd_X6_stampOf ⟨Nat.le_of_ble_eq_true rfl, Nat.le_of_ble_eq_true rfl⟩ ⟨Nat.le_refl _, Nat.le_refl _⟩ (va_recv hK hP (ci := 3) (q0 := 0) rfl rfl) hP hD hS hl.1 (Nat.le_of_ble_eq_true rfl) dX6_countDeadWithout_12 (fun H locs hP hD hS => ?_)
  have hP : va_P D vwCl (wRows ht cy St) H := hP
  have hD : va_D A (wRows ht cy St) := hD
  obtain ⟨q5, hc, hf⟩ := zbd hf
  refine z_cSlE (As := [.int q4]) (rest := [.long (Rows_goneStamps St)]) C (c_X6_bitOf l D cy q4 q5 hc) gS_X6_X6_bitOf hd_X6_bitOf ⟨Nat.le_of_ble_eq_true rfl, Nat.le_of_ble_eq_true rfl⟩ ⟨Nat.le_refl _, Nat.le_refl _⟩ hP hD hS hl.1 (Nat.le_of_ble_eq_true rfl) dX6_countDeadWithout_15 (fun H locs hP hD hS => ?_)
  refine lv_lor hx hb dX6_countDeadWithout_18 ?_
  refine lv_lstore (lv' := [(4, .long ((Rows_goneStamps St) ||| q5)), (2, .long q3), (0, .ref (ht 0)), (1, .int x1)]) hx hb dX6_countDeadWithout_19 hl (by decide) rfl (fun ls hl => ?_)
  refine lv_iconst (v := (0 : Int32)) hx hb dX6_countDeadWithout_21 (by decide) ?_
  refine lv_istore (lv' := [(6, .int (0 : Int32)), (4, .long ((Rows_goneStamps St) ||| q5)), (2, .long q3), (0, .ref (ht 0)), (1, .int x1)]) hx hb dX6_countDeadWithout_22 hl (by decide) rfl (fun ls hl => ?_)
  refine lv_iconst (v := (0 : Int32)) hx hb dX6_countDeadWithout_24 (by decide) ?_
  refine lv_istore (lv' := [(7, .int (0 : Int32)), (6, .int (0 : Int32)), (4, .long ((Rows_goneStamps St) ||| q5)), (2, .long q3), (0, .ref (ht 0)), (1, .int x1)]) hx hb dX6_countDeadWithout_25 hl (by decide) rfl (fun ls hl => ?_)
  exact w_X6_countDeadWithout_27 l ht St x1 C FU q3 ((Rows_goneStamps St) ||| q5) (0 : Int32) (0 : Int32) H locs ls hf hP hD hS (lv_sub hl [4, 3, 2, 1, 0] rfl)
def f_X6_wouldFreeze (St : SRows) (x1 : Int32) : Option (Int32) :=
  (f_X6_settledWithout St (-2 : Int32)).bind (fun q1 =>
    (f_X6_fromOf St x1).bind (fun q2 =>
      (f_X6_holds q1 q2).bind (fun q3 =>
        (if zbo q3 then some q3 else none))))
set_option maxHeartbeats 4000000 in
set_option maxRecDepth 100000 in
theorem c_X6_wouldFreeze (l : Launch) (D : va_G) (cy : Nat → ClassId) (ht : Nat → Nat) (St : SRows) (x1 : Int32) (r : Int32) (hf : f_X6_wouldFreeze St x1 = some r) : zCI l yX6_wouldFreeze cX6_wouldFreeze 2 (some FieldType.boolean) 3 70 D (zty cy) [.ref (ht 0), .int x1] (wRows ht cy St) (wRows ht cy St) r := by
  refine zCI_of (by decide +kernel) (Nat.le_of_ble_eq_true rfl) ?_
  intro p e s m below meth c A ls C hP hD hS hl
  generalize hargs : ([.ref (ht 0), .int x1] : List Value).toArray = args at C ⊢
  have C : zX p s m meth c cX6_wouldFreeze 2 args RX6 (some FieldType.boolean) A D (zty cy) := C
  obtain ⟨hx, hb, hr, hts, hown, hlocks, hml, hA, hK⟩ := id C
  have hl : lv_has ls 2 [(0, .ref (ht 0)), (1, .int x1)] := hl
  generalize hH : s.heap = H at hP ⊢
  have hS : va_S A s.heap H [] := by rw [← hH]; exact hS
  generalize ([] : List Loc) = locs at hS ⊢
  refine lv_aload_n hx hb dX6_wouldFreeze_0 rfl (lv_at hl 0 rfl) ?_
  refine lv_bipush (v := (-2 : Int32)) hx hb dX6_wouldFreeze_1 (by decide) ?_
  obtain ⟨q1, hc, hf⟩ := zbd hf
  refine z_cVl0 (As := [.int (-2 : Int32)]) (rest := []) C (c_X6_settledWithout l D cy ht St (-2 : Int32) q1 hc) gV_X6_X6_settledWithout hd_X6_settledWithout ⟨Nat.le_of_ble_eq_true rfl, Nat.le_of_ble_eq_true rfl⟩ ⟨Nat.le_refl _, Nat.le_refl _⟩ (va_recv hK hP (ci := 3) (q0 := 0) rfl rfl) hP hD hS hl.1 (Nat.le_of_ble_eq_true rfl) dX6_wouldFreeze_3 (fun H locs hP hD hS => ?_)
  have hP : va_P D vwCl (wRows ht cy St) H := hP
  have hD : va_D A (wRows ht cy St) := hD
  refine lv_aload_n hx hb dX6_wouldFreeze_6 rfl (lv_at hl 0 rfl) ?_
  refine lv_iload_n hx hb dX6_wouldFreeze_7 rfl (lv_at hl 1 rfl) ?_
  obtain ⟨q2, hc, hf⟩ := zbd hf
  refine z_cVi0 (As := [.int x1]) (rest := [.long q1]) C (c_X6_fromOf l D cy ht St x1 q2 hc) gV_X6_X6_fromOf hd_X6_fromOf ⟨Nat.le_of_ble_eq_true rfl, Nat.le_of_ble_eq_true rfl⟩ ⟨Nat.le_refl _, Nat.le_refl _⟩ (va_recv hK hP (ci := 3) (q0 := 0) rfl rfl) hP hD hS hl.1 (Nat.le_of_ble_eq_true rfl) dX6_wouldFreeze_8 (fun H locs hP hD hS => ?_)
  have hP : va_P D vwCl (wRows ht cy St) H := hP
  have hD : va_D A (wRows ht cy St) := hD
  obtain ⟨q3, hc, hf⟩ := zbd hf
  refine z_cSiE (As := [.long q1, .int q2]) (rest := []) C (c_X6_holds l D cy q1 q2 q3 hc) gS_X6_X6_holds hd_X6_holds ⟨Nat.le_of_ble_eq_true rfl, Nat.le_of_ble_eq_true rfl⟩ ⟨Nat.le_refl _, Nat.le_refl _⟩ hP hD hS hl.1 (Nat.le_of_ble_eq_true rfl) dX6_wouldFreeze_11 (fun H locs hP hD hS => ?_)
  obtain ⟨hz, hf⟩ := zgd hf
  obtain rfl := Option.some.inj hf
  exact z_zret (v := q3) C (zbo_n hz) hP hD hS dX6_wouldFreeze_14
def b_X6_countFreezing_12 (St : SRows) (k12 : Int64 → Int32 → Int32 → Option (Int32)) (v1 : Int64) (v3 : Int32) (v4 : Int32) : Option (Int32) :=
  (if (48 : Int32) ≤ v4 then
    some v3
    else
    (f_X6_fromOf St v4).bind (fun q1 =>
      (f_X6_holds v1 q1).bind (fun q2 =>
        (if q2 = 0 then
          (f_X6_tillOf St v4).bind (fun q3 =>
            (f_X6_holds (Rows_goneStamps St) q3).bind (fun q4 =>
              (if q4 = 0 then
                (k12 v1 v3 (v4 + (1 : Int32)))
                else
                (k12 v1 (v3 + (1 : Int32)) (v4 + (1 : Int32))))))
          else
          (k12 v1 (v3 + (1 : Int32)) (v4 + (1 : Int32)))))))
set_option maxHeartbeats 4000000 in
set_option maxRecDepth 100000 in
theorem w_X6_countFreezing_12 {p : Program} {e : Env} {s : State} {m : MethodId} {below : List Frame} {meth : Method} {c : Code} {A : Nat → Prop} {D : va_G} {cy : Nat → ClassId} {args : Array Value} {r : Int32} (l : Launch) (ht : Nat → Nat) (St : SRows) (C : zX p s m meth c cX6_countFreezing 5 args RX6 (some FieldType.int) A D (zty cy)) :
    ∀ (n : Nat) (v1 : Int64) (v3 : Int32) (v4 : Int32) (H : Heap) (locs : List Loc) (ls : Array Slot), zl3 (b_X6_countFreezing_12 St) n v1 v3 v4 = some r → va_P D vwCl (wRows ht cy St) H → va_D A (wRows ht cy St) → va_S A s.heap H locs → lv_has ls 5 [(0, .ref (ht 0)), (1, .long v1), (3, .int v3), (4, .int v4)] → W p l e (zRm 3 70) s m args below meth c H locs 0 0 (MQ below (zQI D (zty cy) A (wRows ht cy St) r) args s 0 0 A) (F0 m 12 ls []) := by
  obtain ⟨hx, hb, hr, hts, hown, hlocks, hml, hA, hK⟩ := id C
  intro n
  induction n with
  | zero => intro v1 v3 v4 H locs ls hf; exact zno hf
  | succ n ih =>
    intro v1 v3 v4 H locs ls hf hP hD hS hl
    have hf : b_X6_countFreezing_12 St (zl3 (b_X6_countFreezing_12 St) n) v1 v3 v4 = some r := hf
    have K12 := ih
    refine lv_iload hx hb dX6_countFreezing_12 (lv_at hl 3 rfl) ?_
    refine lv_bipush (v := (48 : Int32)) hx hb dX6_countFreezing_14 (by decide) ?_
    refine z_icmp_ge (tgt := 57) hx hb dX6_countFreezing_16 (by decide) hf (fun hf => ?_) (fun hf => ?_)
    · refine lv_iload_n hx hb dX6_countFreezing_57 rfl (lv_at hl 2 rfl) ?_
      obtain rfl := Option.some.inj hf
      exact z_iret (v := v3) C hP hD hS dX6_countFreezing_58
    · refine lv_lload_n hx hb dX6_countFreezing_19 rfl (lv_at hl 1 rfl) ?_
      refine lv_aload_n hx hb dX6_countFreezing_20 rfl (lv_at hl 0 rfl) ?_
      refine lv_iload hx hb dX6_countFreezing_21 (lv_at hl 3 rfl) ?_
      obtain ⟨q1, hc, hf⟩ := zbd hf
      refine z_cVi0 (As := [.int v4]) (rest := [.long v1]) C (c_X6_fromOf l D cy ht St v4 q1 hc) gV_X6_X6_fromOf hd_X6_fromOf ⟨Nat.le_of_ble_eq_true rfl, Nat.le_of_ble_eq_true rfl⟩ ⟨Nat.le_refl _, Nat.le_refl _⟩ (va_recv hK hP (ci := 3) (q0 := 0) rfl rfl) hP hD hS hl.1 (Nat.le_of_ble_eq_true rfl) dX6_countFreezing_23 (fun H locs hP hD hS => ?_)
      have hP : va_P D vwCl (wRows ht cy St) H := hP
      have hD : va_D A (wRows ht cy St) := hD
      obtain ⟨q2, hc, hf⟩ := zbd hf
      refine z_cSiE (As := [.long v1, .int q1]) (rest := []) C (c_X6_holds l D cy v1 q1 q2 hc) gS_X6_X6_holds hd_X6_holds ⟨Nat.le_of_ble_eq_true rfl, Nat.le_of_ble_eq_true rfl⟩ ⟨Nat.le_refl _, Nat.le_refl _⟩ hP hD hS hl.1 (Nat.le_of_ble_eq_true rfl) dX6_countFreezing_26 (fun H locs hP hD hS => ?_)
      refine z_if_ne (tgt := 48) hx hb dX6_countFreezing_29 (by decide) hf (fun hf => ?_) (fun hf => ?_)
      · refine lv_iinc (v := (v3 + (1 : Int32))) (lv' := [(3, .int (v3 + (1 : Int32))), (0, .ref (ht 0)), (1, .long v1), (4, .int v4)]) hx hb dX6_countFreezing_48 hl (k := 2) rfl rfl (by decide) rfl (fun ls hl => ?_)
        refine lv_iinc (v := (v4 + (1 : Int32))) (lv' := [(4, .int (v4 + (1 : Int32))), (3, .int (v3 + (1 : Int32))), (0, .ref (ht 0)), (1, .long v1)]) hx hb dX6_countFreezing_51 hl (k := 3) rfl rfl (by decide) rfl (fun ls hl => ?_)
        refine lv_goto (tgt := 12) hx hb dX6_countFreezing_54 (by decide) ?_
        exact K12 v1 (v3 + (1 : Int32)) (v4 + (1 : Int32)) H locs ls hf hP hD hS (lv_sub hl [2, 3, 1, 0] rfl)
      · refine lv_aload_n hx hb dX6_countFreezing_32 rfl (lv_at hl 0 rfl) ?_
        refine va_get (D := D) (ci := 3) (v := .long (Rows_goneStamps St)) (C := RX6) (T := TX6) (N := 16) hx hb hts in_X6 hown hK hP 0 rfl rfl 8 (by decide) (hts _ q1_66) (fun _ h9 => h9) rfl dX6_countFreezing_33 ?_
        refine lv_aload_n hx hb dX6_countFreezing_36 rfl (lv_at hl 0 rfl) ?_
        refine lv_iload hx hb dX6_countFreezing_37 (lv_at hl 3 rfl) ?_
        obtain ⟨q3, hc, hf⟩ := zbd hf
        refine z_cVi0 (As := [.int v4]) (rest := [.long (Rows_goneStamps St)]) C (c_X6_tillOf l D cy ht St v4 q3 hc) gV_X6_X6_tillOf hd_X6_tillOf ⟨Nat.le_of_ble_eq_true rfl, Nat.le_of_ble_eq_true rfl⟩ ⟨Nat.le_refl _, Nat.le_refl _⟩ (va_recv hK hP (ci := 3) (q0 := 0) rfl rfl) hP hD hS hl.1 (Nat.le_of_ble_eq_true rfl) dX6_countFreezing_39 (fun H locs hP hD hS => ?_)
        have hP : va_P D vwCl (wRows ht cy St) H := hP
        have hD : va_D A (wRows ht cy St) := hD
        obtain ⟨q4, hc, hf⟩ := zbd hf
        refine z_cSiE (As := [.long (Rows_goneStamps St), .int q3]) (rest := []) C (c_X6_holds l D cy (Rows_goneStamps St) q3 q4 hc) gS_X6_X6_holds hd_X6_holds ⟨Nat.le_of_ble_eq_true rfl, Nat.le_of_ble_eq_true rfl⟩ ⟨Nat.le_refl _, Nat.le_refl _⟩ hP hD hS hl.1 (Nat.le_of_ble_eq_true rfl) dX6_countFreezing_42 (fun H locs hP hD hS => ?_)
        refine z_if_eq (tgt := 51) hx hb dX6_countFreezing_45 (by decide) hf (fun hf => ?_) (fun hf => ?_)
        · refine lv_iinc (v := (v4 + (1 : Int32))) (lv' := [(4, .int (v4 + (1 : Int32))), (0, .ref (ht 0)), (1, .long v1), (3, .int v3)]) hx hb dX6_countFreezing_51 hl (k := 3) rfl rfl (by decide) rfl (fun ls hl => ?_)
          refine lv_goto (tgt := 12) hx hb dX6_countFreezing_54 (by decide) ?_
          exact K12 v1 v3 (v4 + (1 : Int32)) H locs ls hf hP hD hS (lv_sub hl [1, 2, 3, 0] rfl)
        · refine lv_iinc (v := (v3 + (1 : Int32))) (lv' := [(3, .int (v3 + (1 : Int32))), (0, .ref (ht 0)), (1, .long v1), (4, .int v4)]) hx hb dX6_countFreezing_48 hl (k := 2) rfl rfl (by decide) rfl (fun ls hl => ?_)
          refine lv_iinc (v := (v4 + (1 : Int32))) (lv' := [(4, .int (v4 + (1 : Int32))), (3, .int (v3 + (1 : Int32))), (0, .ref (ht 0)), (1, .long v1)]) hx hb dX6_countFreezing_51 hl (k := 3) rfl rfl (by decide) rfl (fun ls hl => ?_)
          refine lv_goto (tgt := 12) hx hb dX6_countFreezing_54 (by decide) ?_
          exact K12 v1 (v3 + (1 : Int32)) (v4 + (1 : Int32)) H locs ls hf hP hD hS (lv_sub hl [2, 3, 1, 0] rfl)
def f_X6_countFreezing (St : SRows) : Option (Int32) :=
  (f_X6_settledWithout St (-2 : Int32)).bind (fun q5 =>
    (zl3 (b_X6_countFreezing_12 St) FU q5 (0 : Int32) (0 : Int32)))
set_option maxHeartbeats 4000000 in
set_option maxRecDepth 100000 in
theorem c_X6_countFreezing (l : Launch) (D : va_G) (cy : Nat → ClassId) (ht : Nat → Nat) (St : SRows) (r : Int32) (hf : f_X6_countFreezing St = some r) : zCI l yX6_countFreezing cX6_countFreezing 5 (some FieldType.int) 3 70 D (zty cy) [.ref (ht 0)] (wRows ht cy St) (wRows ht cy St) r := by
  refine zCI_of (by decide +kernel) (Nat.le_of_ble_eq_true rfl) ?_
  intro p e s m below meth c A ls C hP hD hS hl
  generalize hargs : ([.ref (ht 0)] : List Value).toArray = args at C ⊢
  have C : zX p s m meth c cX6_countFreezing 5 args RX6 (some FieldType.int) A D (zty cy) := C
  obtain ⟨hx, hb, hr, hts, hown, hlocks, hml, hA, hK⟩ := id C
  have hl : lv_has ls 5 [(0, .ref (ht 0))] := hl
  generalize hH : s.heap = H at hP ⊢
  have hS : va_S A s.heap H [] := by rw [← hH]; exact hS
  generalize ([] : List Loc) = locs at hS ⊢
  refine lv_aload_n hx hb dX6_countFreezing_0 rfl (lv_at hl 0 rfl) ?_
  refine lv_bipush (v := (-2 : Int32)) hx hb dX6_countFreezing_1 (by decide) ?_
  obtain ⟨q5, hc, hf⟩ := zbd hf
  refine z_cVl0 (As := [.int (-2 : Int32)]) (rest := []) C (c_X6_settledWithout l D cy ht St (-2 : Int32) q5 hc) gV_X6_X6_settledWithout hd_X6_settledWithout ⟨Nat.le_of_ble_eq_true rfl, Nat.le_of_ble_eq_true rfl⟩ ⟨Nat.le_refl _, Nat.le_refl _⟩ (va_recv hK hP (ci := 3) (q0 := 0) rfl rfl) hP hD hS hl.1 (Nat.le_of_ble_eq_true rfl) dX6_countFreezing_3 (fun H locs hP hD hS => ?_)
  have hP : va_P D vwCl (wRows ht cy St) H := hP
  have hD : va_D A (wRows ht cy St) := hD
  refine lv_lstore_n (lv' := [(1, .long q5), (0, .ref (ht 0))]) hx hb dX6_countFreezing_6 rfl hl (by decide) rfl (fun ls hl => ?_)
  refine lv_iconst (v := (0 : Int32)) hx hb dX6_countFreezing_7 (by decide) ?_
  refine lv_istore_n (lv' := [(3, .int (0 : Int32)), (1, .long q5), (0, .ref (ht 0))]) hx hb dX6_countFreezing_8 rfl hl (by decide) rfl (fun ls hl => ?_)
  refine lv_iconst (v := (0 : Int32)) hx hb dX6_countFreezing_9 (by decide) ?_
  refine lv_istore (lv' := [(4, .int (0 : Int32)), (3, .int (0 : Int32)), (1, .long q5), (0, .ref (ht 0))]) hx hb dX6_countFreezing_10 hl (by decide) rfl (fun ls hl => ?_)
  exact w_X6_countFreezing_12 l ht St C FU q5 (0 : Int32) (0 : Int32) H locs ls hf hP hD hS (lv_sub hl [3, 2, 1, 0] rfl)
def f_X6_countingFor (St : SRows) (x1 : Int32) : Option (Int64) :=
  (f_X6_runs St x1).bind (fun q1 =>
    (if q1 = 0 then
      some (0 : Int64)
      else
      (if zib x1 6 then (if zib x1 6 then (if zib x1 6 then (f_X6_olderThan St ((Rows_stamps St) x1.toNatClampNeg)).bind (fun q2 =>
              some ((jlshl (1 : Int64) ((Rows_stamps St) x1.toNatClampNeg)) ||| (((Rows_doneStamps St) &&& (((Rows_held St) x1.toNatClampNeg) ^^^ (-1 : Int64))) &&& q2))) else none) else none) else none)))
set_option maxHeartbeats 4000000 in
set_option maxRecDepth 100000 in
theorem c_X6_countingFor (l : Launch) (D : va_G) (cy : Nat → ClassId) (ht : Nat → Nat) (St : SRows) (x1 : Int32) (r : Int64) (hf : f_X6_countingFor St x1 = some r) : zCL l yX6_countingFor cX6_countingFor 2 (some FieldType.long) 1 25 D (zty cy) [.ref (ht 0), .int x1] (wRows ht cy St) (wRows ht cy St) r := by
  refine zCL_of (by decide +kernel) (Nat.le_of_ble_eq_true rfl) ?_
  intro p e s m below meth c A ls C hP hD hS hl
  generalize hargs : ([.ref (ht 0), .int x1] : List Value).toArray = args at C ⊢
  have C : zX p s m meth c cX6_countingFor 2 args RX6 (some FieldType.long) A D (zty cy) := C
  obtain ⟨hx, hb, hr, hts, hown, hlocks, hml, hA, hK⟩ := id C
  have hl : lv_has ls 2 [(0, .ref (ht 0)), (1, .int x1)] := hl
  generalize hH : s.heap = H at hP ⊢
  have hS : va_S A s.heap H [] := by rw [← hH]; exact hS
  generalize ([] : List Loc) = locs at hS ⊢
  refine lv_aload_n hx hb dX6_countingFor_0 rfl (lv_at hl 0 rfl) ?_
  refine lv_iload_n hx hb dX6_countingFor_1 rfl (lv_at hl 1 rfl) ?_
  obtain ⟨q1, hc, hf⟩ := zbd hf
  refine z_cVi0 (As := [.int x1]) (rest := []) C (c_X6_runs l D cy ht St x1 q1 hc) gV_X6_X6_runs hd_X6_runs ⟨Nat.le_of_ble_eq_true rfl, Nat.le_of_ble_eq_true rfl⟩ ⟨Nat.le_refl _, Nat.le_refl _⟩ (va_recv hK hP (ci := 3) (q0 := 0) rfl rfl) hP hD hS hl.1 (Nat.le_of_ble_eq_true rfl) dX6_countingFor_2 (fun H locs hP hD hS => ?_)
  have hP : va_P D vwCl (wRows ht cy St) H := hP
  have hD : va_D A (wRows ht cy St) := hD
  refine z_if_ne (tgt := 10) hx hb dX6_countingFor_5 (by decide) hf (fun hf => ?_) (fun hf => ?_)
  · refine lv_lconst (v := (1 : Int64)) hx hb dX6_countingFor_10 (by decide) ?_
    refine lv_aload_n hx hb dX6_countingFor_11 rfl (lv_at hl 0 rfl) ?_
    refine va_get (D := D) (ci := 3) (v := .ref (ht 1)) (C := RX6) (T := TX6) (N := 16) hx hb hts in_X6 hown hK hP 0 rfl rfl 9 (by decide) (hts _ q1_67) (fun _ h9 => h9) rfl dX6_countingFor_12 ?_
    refine lv_iload_n hx hb dX6_countingFor_15 rfl (lv_at hl 1 rfl) ?_
    refine z_iald (f := (Rows_stamps St)) hx hb hK hP 1 0 rfl rfl dX6_countingFor_16 hf (fun hf => ?_)
    refine lv_lshl (v := (jlshl (1 : Int64) ((Rows_stamps St) x1.toNatClampNeg))) hx hb dX6_countingFor_17 rfl ?_
    refine lv_aload_n hx hb dX6_countingFor_18 rfl (lv_at hl 0 rfl) ?_
    refine va_get (D := D) (ci := 3) (v := .long (Rows_doneStamps St)) (C := RX6) (T := TX6) (N := 16) hx hb hts in_X6 hown hK hP 0 rfl rfl 7 (by decide) (hts _ q1_65) (fun _ h9 => h9) rfl dX6_countingFor_19 ?_
    refine lv_aload_n hx hb dX6_countingFor_22 rfl (lv_at hl 0 rfl) ?_
    refine va_get (D := D) (ci := 3) (v := .ref (ht 2)) (C := RX6) (T := TX6) (N := 16) hx hb hts in_X6 hown hK hP 0 rfl rfl 10 (by decide) (hts _ q1_68) (fun _ h9 => h9) rfl dX6_countingFor_23 ?_
    refine lv_iload_n hx hb dX6_countingFor_26 rfl (lv_at hl 1 rfl) ?_
    refine z_lald (f := (Rows_held St)) hx hb hK hP 2 1 rfl rfl dX6_countingFor_27 hf (fun hf => ?_)
    refine lv_ldc2 (v := (-1 : Int64)) hx hb hown (hts _ q3_46) dX6_countingFor_28 ?_
    refine lv_lxor hx hb dX6_countingFor_31 ?_
    refine lv_land hx hb dX6_countingFor_32 ?_
    refine lv_aload_n hx hb dX6_countingFor_33 rfl (lv_at hl 0 rfl) ?_
    refine lv_aload_n hx hb dX6_countingFor_34 rfl (lv_at hl 0 rfl) ?_
    refine va_get (D := D) (ci := 3) (v := .ref (ht 1)) (C := RX6) (T := TX6) (N := 16) hx hb hts in_X6 hown hK hP 0 rfl rfl 9 (by decide) (hts _ q1_67) (fun _ h9 => h9) rfl dX6_countingFor_35 ?_
    refine lv_iload_n hx hb dX6_countingFor_38 rfl (lv_at hl 1 rfl) ?_
    refine z_iald (f := (Rows_stamps St)) hx hb hK hP 1 0 rfl rfl dX6_countingFor_39 hf (fun hf => ?_)
    obtain ⟨q2, hc, hf⟩ := zbd hf
    refine z_cVl0 (As := [.int ((Rows_stamps St) x1.toNatClampNeg)]) (rest := [.long ((Rows_doneStamps St) &&& (((Rows_held St) x1.toNatClampNeg) ^^^ (-1 : Int64))), .long (jlshl (1 : Int64) ((Rows_stamps St) x1.toNatClampNeg))]) C (c_X6_olderThan l D cy ht St ((Rows_stamps St) x1.toNatClampNeg) q2 hc) gV_X6_X6_olderThan hd_X6_olderThan ⟨Nat.le_of_ble_eq_true rfl, Nat.le_of_ble_eq_true rfl⟩ ⟨Nat.le_refl _, Nat.le_refl _⟩ (va_recv hK hP (ci := 3) (q0 := 0) rfl rfl) hP hD hS hl.1 (Nat.le_of_ble_eq_true rfl) dX6_countingFor_40 (fun H locs hP hD hS => ?_)
    have hP : va_P D vwCl (wRows ht cy St) H := hP
    have hD : va_D A (wRows ht cy St) := hD
    refine lv_land hx hb dX6_countingFor_43 ?_
    refine lv_lor hx hb dX6_countingFor_44 ?_
    obtain rfl := Option.some.inj hf
    exact z_lret (v := ((jlshl (1 : Int64) ((Rows_stamps St) x1.toNatClampNeg)) ||| (((Rows_doneStamps St) &&& (((Rows_held St) x1.toNatClampNeg) ^^^ (-1 : Int64))) &&& q2))) C hP hD hS dX6_countingFor_45
  · refine lv_lconst (v := (0 : Int64)) hx hb dX6_countingFor_8 (by decide) ?_
    obtain rfl := Option.some.inj hf
    exact z_lret (v := (0 : Int64)) C hP hD hS dX6_countingFor_9
def f_X6_countingFresh (St : SRows) : Option (Int64) :=
  some (Rows_doneStamps St)
set_option maxHeartbeats 4000000 in
set_option maxRecDepth 100000 in
theorem c_X6_countingFresh (l : Launch) (D : va_G) (cy : Nat → ClassId) (ht : Nat → Nat) (St : SRows) (r : Int64) (hf : f_X6_countingFresh St = some r) : zCL l yX6_countingFresh cX6_countingFresh 1 (some FieldType.long) 0 0 D (zty cy) [.ref (ht 0)] (wRows ht cy St) (wRows ht cy St) r := by
  refine zCL_of (by decide +kernel) (Nat.le_of_ble_eq_true rfl) ?_
  intro p e s m below meth c A ls C hP hD hS hl
  generalize hargs : ([.ref (ht 0)] : List Value).toArray = args at C ⊢
  have C : zX p s m meth c cX6_countingFresh 1 args RX6 (some FieldType.long) A D (zty cy) := C
  obtain ⟨hx, hb, hr, hts, hown, hlocks, hml, hA, hK⟩ := id C
  have hl : lv_has ls 1 [(0, .ref (ht 0))] := hl
  generalize hH : s.heap = H at hP ⊢
  have hS : va_S A s.heap H [] := by rw [← hH]; exact hS
  generalize ([] : List Loc) = locs at hS ⊢
  refine lv_aload_n hx hb dX6_countingFresh_0 rfl (lv_at hl 0 rfl) ?_
  refine va_get (D := D) (ci := 3) (v := .long (Rows_doneStamps St)) (C := RX6) (T := TX6) (N := 16) hx hb hts in_X6 hown hK hP 0 rfl rfl 7 (by decide) (hts _ q1_65) (fun _ h9 => h9) rfl dX6_countingFresh_1 ?_
  obtain rfl := Option.some.inj hf
  exact z_lret (v := (Rows_doneStamps St)) C hP hD hS dX6_countingFresh_4
def f_X6_countingAsOf (St : SRows) (x1 : Int32) : Option (Int64) :=
  (f_X6_olderThan St x1).bind (fun q1 =>
    some ((Rows_doneStamps St) &&& q1))
set_option maxHeartbeats 4000000 in
set_option maxRecDepth 100000 in
theorem c_X6_countingAsOf (l : Launch) (D : va_G) (cy : Nat → ClassId) (ht : Nat → Nat) (St : SRows) (x1 : Int32) (r : Int64) (hf : f_X6_countingAsOf St x1 = some r) : zCL l yX6_countingAsOf cX6_countingAsOf 2 (some FieldType.long) 1 25 D (zty cy) [.ref (ht 0), .int x1] (wRows ht cy St) (wRows ht cy St) r := by
  refine zCL_of (by decide +kernel) (Nat.le_of_ble_eq_true rfl) ?_
  intro p e s m below meth c A ls C hP hD hS hl
  generalize hargs : ([.ref (ht 0), .int x1] : List Value).toArray = args at C ⊢
  have C : zX p s m meth c cX6_countingAsOf 2 args RX6 (some FieldType.long) A D (zty cy) := C
  obtain ⟨hx, hb, hr, hts, hown, hlocks, hml, hA, hK⟩ := id C
  have hl : lv_has ls 2 [(0, .ref (ht 0)), (1, .int x1)] := hl
  generalize hH : s.heap = H at hP ⊢
  have hS : va_S A s.heap H [] := by rw [← hH]; exact hS
  generalize ([] : List Loc) = locs at hS ⊢
  refine lv_aload_n hx hb dX6_countingAsOf_0 rfl (lv_at hl 0 rfl) ?_
  refine va_get (D := D) (ci := 3) (v := .long (Rows_doneStamps St)) (C := RX6) (T := TX6) (N := 16) hx hb hts in_X6 hown hK hP 0 rfl rfl 7 (by decide) (hts _ q1_65) (fun _ h9 => h9) rfl dX6_countingAsOf_1 ?_
  refine lv_aload_n hx hb dX6_countingAsOf_4 rfl (lv_at hl 0 rfl) ?_
  refine lv_iload_n hx hb dX6_countingAsOf_5 rfl (lv_at hl 1 rfl) ?_
  obtain ⟨q1, hc, hf⟩ := zbd hf
  refine z_cVl0 (As := [.int x1]) (rest := [.long (Rows_doneStamps St)]) C (c_X6_olderThan l D cy ht St x1 q1 hc) gV_X6_X6_olderThan hd_X6_olderThan ⟨Nat.le_of_ble_eq_true rfl, Nat.le_of_ble_eq_true rfl⟩ ⟨Nat.le_refl _, Nat.le_refl _⟩ (va_recv hK hP (ci := 3) (q0 := 0) rfl rfl) hP hD hS hl.1 (Nat.le_of_ble_eq_true rfl) dX6_countingAsOf_6 (fun H locs hP hD hS => ?_)
  have hP : va_P D vwCl (wRows ht cy St) H := hP
  have hD : va_D A (wRows ht cy St) := hD
  refine lv_land hx hb dX6_countingAsOf_9 ?_
  obtain rfl := Option.some.inj hf
  exact z_lret (v := ((Rows_doneStamps St) &&& q1)) C hP hD hS dX6_countingAsOf_10
def b_X6_isSeen_39 (St : SRows) (x1 : Int32) (x2 : Int64) (u0 : Int32) : Option (Int32) :=
  (if u0 = 0 then
    some (0 : Int32)
    else
    (if zib x1 48 then (f_X6_holds x2 ((Rows_tills St) x1.toNatClampNeg)).bind (fun q1 =>
        (if q1 = 0 then
          some (1 : Int32)
          else
          some (0 : Int32))) else none))
set_option maxHeartbeats 4000000 in
set_option maxRecDepth 100000 in
theorem w_X6_isSeen_39 {p : Program} {e : Env} {s : State} {m : MethodId} {below : List Frame} {meth : Method} {c : Code} {A : Nat → Prop} {D : va_G} {cy : Nat → ClassId} {args : Array Value} {r : Int32} (l : Launch) (ht : Nat → Nat) (St : SRows) (x1 : Int32) (x2 : Int64) (C : zX p s m meth c cX6_isSeen 5 args RX6 (some FieldType.boolean) A D (zty cy)) :
    ∀ (u0 : Int32) (H : Heap) (locs : List Loc) (ls : Array Slot), b_X6_isSeen_39 St x1 x2 u0 = some r → va_P D vwCl (wRows ht cy St) H → va_D A (wRows ht cy St) → va_S A s.heap H locs → lv_has ls 5 [(0, .ref (ht 0)), (1, .int x1), (2, .long x2)] → W p l e (zRm 1 22) s m args below meth c H locs 0 0 (MQ below (zQI D (zty cy) A (wRows ht cy St) r) args s 0 0 A) (F0 m 39 ls [.int u0]) := by
  obtain ⟨hx, hb, hr, hts, hown, hlocks, hml, hA, hK⟩ := id C
  intro u0 H locs ls hf hP hD hS hl
  refine lv_istore (lv' := [(4, .int u0), (0, .ref (ht 0)), (1, .int x1), (2, .long x2)]) hx hb dX6_isSeen_39 hl (by decide) rfl (fun ls hl => ?_)
  refine lv_iload hx hb dX6_isSeen_41 (lv_at hl 0 rfl) ?_
  refine z_if_eq (tgt := 63) hx hb dX6_isSeen_43 (by decide) hf (fun hf => ?_) (fun hf => ?_)
  · refine lv_iconst (v := (0 : Int32)) hx hb dX6_isSeen_63 (by decide) ?_
    obtain rfl := Option.some.inj hf
    exact z_zret (v := (0 : Int32)) C rfl hP hD hS dX6_isSeen_64
  · refine lv_lload_n hx hb dX6_isSeen_46 rfl (lv_at hl 3 rfl) ?_
    refine lv_aload_n hx hb dX6_isSeen_47 rfl (lv_at hl 1 rfl) ?_
    refine va_get (D := D) (ci := 3) (v := .ref (ht 6)) (C := RX6) (T := TX6) (N := 16) hx hb hts in_X6 hown hK hP 0 rfl rfl 14 (by decide) (hts _ q1_72) (fun _ h9 => h9) rfl dX6_isSeen_48 ?_
    refine lv_iload_n hx hb dX6_isSeen_51 rfl (lv_at hl 2 rfl) ?_
    refine z_iald (f := (Rows_tills St)) hx hb hK hP 6 0 rfl rfl dX6_isSeen_52 hf (fun hf => ?_)
    obtain ⟨q1, hc, hf⟩ := zbd hf
    refine z_cSiE (As := [.long x2, .int ((Rows_tills St) x1.toNatClampNeg)]) (rest := []) C (c_X6_holds l D cy x2 ((Rows_tills St) x1.toNatClampNeg) q1 hc) gS_X6_X6_holds hd_X6_holds ⟨Nat.le_of_ble_eq_true rfl, Nat.le_of_ble_eq_true rfl⟩ ⟨Nat.le_refl _, Nat.le_refl _⟩ hP hD hS hl.1 (Nat.le_of_ble_eq_true rfl) dX6_isSeen_53 (fun H locs hP hD hS => ?_)
    refine z_if_ne (tgt := 63) hx hb dX6_isSeen_56 (by decide) hf (fun hf => ?_) (fun hf => ?_)
    · refine lv_iconst (v := (0 : Int32)) hx hb dX6_isSeen_63 (by decide) ?_
      obtain rfl := Option.some.inj hf
      exact z_zret (v := (0 : Int32)) C rfl hP hD hS dX6_isSeen_64
    · refine lv_iconst (v := (1 : Int32)) hx hb dX6_isSeen_59 (by decide) ?_
      refine lv_goto (tgt := 64) hx hb dX6_isSeen_60 (by decide) ?_
      obtain rfl := Option.some.inj hf
      exact z_zret (v := (1 : Int32)) C rfl hP hD hS dX6_isSeen_64
def f_X6_isSeen (St : SRows) (x1 : Int32) (x2 : Int64) : Option (Int32) :=
  (f_X6_isVersion St x1).bind (fun q2 =>
    (if q2 = 0 then
      some (0 : Int32)
      else
      (if zib x1 48 then (if ((Rows_froms St) x1.toNatClampNeg) = (-2 : Int32) then
          (b_X6_isSeen_39 St x1 x2 (1 : Int32))
          else
          (if zib x1 48 then (f_X6_holds x2 ((Rows_froms St) x1.toNatClampNeg)).bind (fun q3 =>
              (if q3 = 0 then
                (b_X6_isSeen_39 St x1 x2 (0 : Int32))
                else
                (b_X6_isSeen_39 St x1 x2 (1 : Int32)))) else none)) else none)))
set_option maxHeartbeats 4000000 in
set_option maxRecDepth 100000 in
theorem c_X6_isSeen (l : Launch) (D : va_G) (cy : Nat → ClassId) (ht : Nat → Nat) (St : SRows) (x1 : Int32) (x2 : Int64) (r : Int32) (hf : f_X6_isSeen St x1 x2 = some r) : zCI l yX6_isSeen cX6_isSeen 5 (some FieldType.boolean) 1 22 D (zty cy) [.ref (ht 0), .int x1, .long x2] (wRows ht cy St) (wRows ht cy St) r := by
  refine zCI_of (by decide +kernel) (Nat.le_of_ble_eq_true rfl) ?_
  intro p e s m below meth c A ls C hP hD hS hl
  generalize hargs : ([.ref (ht 0), .int x1, .long x2] : List Value).toArray = args at C ⊢
  have C : zX p s m meth c cX6_isSeen 5 args RX6 (some FieldType.boolean) A D (zty cy) := C
  obtain ⟨hx, hb, hr, hts, hown, hlocks, hml, hA, hK⟩ := id C
  have hl : lv_has ls 5 [(0, .ref (ht 0)), (1, .int x1), (2, .long x2)] := hl
  generalize hH : s.heap = H at hP ⊢
  have hS : va_S A s.heap H [] := by rw [← hH]; exact hS
  generalize ([] : List Loc) = locs at hS ⊢
  refine lv_aload_n hx hb dX6_isSeen_0 rfl (lv_at hl 0 rfl) ?_
  refine lv_iload_n hx hb dX6_isSeen_1 rfl (lv_at hl 1 rfl) ?_
  obtain ⟨q2, hc, hf⟩ := zbd hf
  refine z_cVi0 (As := [.int x1]) (rest := []) C (c_X6_isVersion l D cy ht St x1 q2 hc) gV_X6_X6_isVersion hd_X6_isVersion ⟨Nat.le_of_ble_eq_true rfl, Nat.le_of_ble_eq_true rfl⟩ ⟨Nat.le_refl _, Nat.le_refl _⟩ (va_recv hK hP (ci := 3) (q0 := 0) rfl rfl) hP hD hS hl.1 (Nat.le_of_ble_eq_true rfl) dX6_isSeen_2 (fun H locs hP hD hS => ?_)
  have hP : va_P D vwCl (wRows ht cy St) H := hP
  have hD : va_D A (wRows ht cy St) := hD
  refine z_if_ne (tgt := 10) hx hb dX6_isSeen_5 (by decide) hf (fun hf => ?_) (fun hf => ?_)
  · refine lv_aload_n hx hb dX6_isSeen_10 rfl (lv_at hl 0 rfl) ?_
    refine va_get (D := D) (ci := 3) (v := .ref (ht 5)) (C := RX6) (T := TX6) (N := 16) hx hb hts in_X6 hown hK hP 0 rfl rfl 13 (by decide) (hts _ q1_71) (fun _ h9 => h9) rfl dX6_isSeen_11 ?_
    refine lv_iload_n hx hb dX6_isSeen_14 rfl (lv_at hl 1 rfl) ?_
    refine z_iald (f := (Rows_froms St)) hx hb hK hP 5 0 rfl rfl dX6_isSeen_15 hf (fun hf => ?_)
    refine lv_bipush (v := (-2 : Int32)) hx hb dX6_isSeen_16 (by decide) ?_
    refine z_icmp_eq (tgt := 34) hx hb dX6_isSeen_18 (by decide) hf (fun hf => ?_) (fun hf => ?_)
    · refine lv_iconst (v := (1 : Int32)) hx hb dX6_isSeen_34 (by decide) ?_
      refine lv_goto (tgt := 39) hx hb dX6_isSeen_35 (by decide) ?_
      exact w_X6_isSeen_39 l ht St x1 x2 C (1 : Int32) H locs ls hf hP hD hS (lv_sub hl [0, 1, 2] rfl)
    · refine lv_lload_n hx hb dX6_isSeen_21 rfl (lv_at hl 2 rfl) ?_
      refine lv_aload_n hx hb dX6_isSeen_22 rfl (lv_at hl 0 rfl) ?_
      refine va_get (D := D) (ci := 3) (v := .ref (ht 5)) (C := RX6) (T := TX6) (N := 16) hx hb hts in_X6 hown hK hP 0 rfl rfl 13 (by decide) (hts _ q1_71) (fun _ h9 => h9) rfl dX6_isSeen_23 ?_
      refine lv_iload_n hx hb dX6_isSeen_26 rfl (lv_at hl 1 rfl) ?_
      refine z_iald (f := (Rows_froms St)) hx hb hK hP 5 0 rfl rfl dX6_isSeen_27 hf (fun hf => ?_)
      obtain ⟨q3, hc, hf⟩ := zbd hf
      refine z_cSiE (As := [.long x2, .int ((Rows_froms St) x1.toNatClampNeg)]) (rest := []) C (c_X6_holds l D cy x2 ((Rows_froms St) x1.toNatClampNeg) q3 hc) gS_X6_X6_holds hd_X6_holds ⟨Nat.le_of_ble_eq_true rfl, Nat.le_of_ble_eq_true rfl⟩ ⟨Nat.le_refl _, Nat.le_refl _⟩ hP hD hS hl.1 (Nat.le_of_ble_eq_true rfl) dX6_isSeen_28 (fun H locs hP hD hS => ?_)
      refine z_if_eq (tgt := 38) hx hb dX6_isSeen_31 (by decide) hf (fun hf => ?_) (fun hf => ?_)
      · refine lv_iconst (v := (0 : Int32)) hx hb dX6_isSeen_38 (by decide) ?_
        exact w_X6_isSeen_39 l ht St x1 x2 C (0 : Int32) H locs ls hf hP hD hS (lv_sub hl [0, 1, 2] rfl)
      · refine lv_iconst (v := (1 : Int32)) hx hb dX6_isSeen_34 (by decide) ?_
        refine lv_goto (tgt := 39) hx hb dX6_isSeen_35 (by decide) ?_
        exact w_X6_isSeen_39 l ht St x1 x2 C (1 : Int32) H locs ls hf hP hD hS (lv_sub hl [0, 1, 2] rfl)
  · refine lv_iconst (v := (0 : Int32)) hx hb dX6_isSeen_8 (by decide) ?_
    obtain rfl := Option.some.inj hf
    exact z_zret (v := (0 : Int32)) C rfl hP hD hS dX6_isSeen_9
def b_X6_versionSeen_8 (St : SRows) (x1 : Int32) (x2 : Int64) (k8 : Int32 → Option (Int32)) (v4 : Int32) : Option (Int32) :=
  (if v4 < 0 then
    some (-2 : Int32)
    else
    (f_X6_madeAt St v4).bind (fun q1 =>
      (f_X6_rowOf St q1).bind (fun q2 =>
        (if q2 = x1 then
          (f_X6_isSeen St q1 x2).bind (fun q3 =>
            (if q3 = 0 then
              (k8 (v4 + (-1 : Int32)))
              else
              some q1))
          else
          (k8 (v4 + (-1 : Int32)))))))
set_option maxHeartbeats 4000000 in
set_option maxRecDepth 100000 in
theorem w_X6_versionSeen_8 {p : Program} {e : Env} {s : State} {m : MethodId} {below : List Frame} {meth : Method} {c : Code} {A : Nat → Prop} {D : va_G} {cy : Nat → ClassId} {args : Array Value} {r : Int32} (l : Launch) (ht : Nat → Nat) (St : SRows) (x1 : Int32) (x2 : Int64) (C : zX p s m meth c cX6_versionSeen 6 args RX6 (some FieldType.int) A D (zty cy)) :
    ∀ (n : Nat) (v4 : Int32) (H : Heap) (locs : List Loc) (ls : Array Slot), zl1 (b_X6_versionSeen_8 St x1 x2) n v4 = some r → va_P D vwCl (wRows ht cy St) H → va_D A (wRows ht cy St) → va_S A s.heap H locs → lv_has ls 6 [(0, .ref (ht 0)), (1, .int x1), (2, .long x2), (4, .int v4)] → W p l e (zRm 2 46) s m args below meth c H locs 0 0 (MQ below (zQI D (zty cy) A (wRows ht cy St) r) args s 0 0 A) (F0 m 8 ls []) := by
  obtain ⟨hx, hb, hr, hts, hown, hlocks, hml, hA, hK⟩ := id C
  intro n
  induction n with
  | zero => intro v4 H locs ls hf; exact zno hf
  | succ n ih =>
    intro v4 H locs ls hf hP hD hS hl
    have hf : b_X6_versionSeen_8 St x1 x2 (zl1 (b_X6_versionSeen_8 St x1 x2) n) v4 = some r := hf
    have K8 := ih
    refine lv_iload hx hb dX6_versionSeen_8 (lv_at hl 3 rfl) ?_
    refine z_if_lt (tgt := 50) hx hb dX6_versionSeen_10 (by decide) hf (fun hf => ?_) (fun hf => ?_)
    · refine lv_bipush (v := (-2 : Int32)) hx hb dX6_versionSeen_50 (by decide) ?_
      obtain rfl := Option.some.inj hf
      exact z_iret (v := (-2 : Int32)) C hP hD hS dX6_versionSeen_52
    · refine lv_aload_n hx hb dX6_versionSeen_13 rfl (lv_at hl 0 rfl) ?_
      refine lv_iload hx hb dX6_versionSeen_14 (lv_at hl 3 rfl) ?_
      obtain ⟨q1, hc, hf⟩ := zbd hf
      refine z_cVi0 (As := [.int v4]) (rest := []) C (c_X6_madeAt l D cy ht St v4 q1 hc) gV_X6_X6_madeAt hd_X6_madeAt ⟨Nat.le_of_ble_eq_true rfl, Nat.le_of_ble_eq_true rfl⟩ ⟨Nat.le_refl _, Nat.le_refl _⟩ (va_recv hK hP (ci := 3) (q0 := 0) rfl rfl) hP hD hS hl.1 (Nat.le_of_ble_eq_true rfl) dX6_versionSeen_16 (fun H locs hP hD hS => ?_)
      have hP : va_P D vwCl (wRows ht cy St) H := hP
      have hD : va_D A (wRows ht cy St) := hD
      refine lv_istore (lv' := [(5, .int q1), (0, .ref (ht 0)), (1, .int x1), (2, .long x2), (4, .int v4)]) hx hb dX6_versionSeen_19 hl (by decide) rfl (fun ls hl => ?_)
      refine lv_aload_n hx hb dX6_versionSeen_21 rfl (lv_at hl 1 rfl) ?_
      refine lv_iload hx hb dX6_versionSeen_22 (lv_at hl 0 rfl) ?_
      obtain ⟨q2, hc, hf⟩ := zbd hf
      refine z_cVi0 (As := [.int q1]) (rest := []) C (c_X6_rowOf l D cy ht St q1 q2 hc) gV_X6_X6_rowOf hd_X6_rowOf ⟨Nat.le_of_ble_eq_true rfl, Nat.le_of_ble_eq_true rfl⟩ ⟨Nat.le_refl _, Nat.le_refl _⟩ (va_recv hK hP (ci := 3) (q0 := 0) rfl rfl) hP hD hS hl.1 (Nat.le_of_ble_eq_true rfl) dX6_versionSeen_24 (fun H locs hP hD hS => ?_)
      have hP : va_P D vwCl (wRows ht cy St) H := hP
      have hD : va_D A (wRows ht cy St) := hD
      refine lv_iload_n hx hb dX6_versionSeen_27 rfl (lv_at hl 2 rfl) ?_
      refine z_icmp_ne (tgt := 44) hx hb dX6_versionSeen_28 (by decide) hf (fun hf => ?_) (fun hf => ?_)
      · refine lv_iinc (v := (v4 + (-1 : Int32))) (lv' := [(4, .int (v4 + (-1 : Int32))), (5, .int q1), (0, .ref (ht 0)), (1, .int x1), (2, .long x2)]) hx hb dX6_versionSeen_44 hl (k := 4) rfl rfl (by decide) rfl (fun ls hl => ?_)
        refine lv_goto (tgt := 8) hx hb dX6_versionSeen_47 (by decide) ?_
        exact K8 (v4 + (-1 : Int32)) H locs ls hf hP hD hS (lv_sub hl [2, 3, 4, 0] rfl)
      · refine lv_aload_n hx hb dX6_versionSeen_31 rfl (lv_at hl 1 rfl) ?_
        refine lv_iload hx hb dX6_versionSeen_32 (lv_at hl 0 rfl) ?_
        refine lv_lload_n hx hb dX6_versionSeen_34 rfl (lv_at hl 3 rfl) ?_
        obtain ⟨q3, hc, hf⟩ := zbd hf
        refine z_cVi0 (As := [.int q1, .long x2]) (rest := []) C (c_X6_isSeen l D cy ht St q1 x2 q3 hc) gV_X6_X6_isSeen hd_X6_isSeen ⟨Nat.le_of_ble_eq_true rfl, Nat.le_of_ble_eq_true rfl⟩ ⟨Nat.le_refl _, Nat.le_refl _⟩ (va_recv hK hP (ci := 3) (q0 := 0) rfl rfl) hP hD hS hl.1 (Nat.le_of_ble_eq_true rfl) dX6_versionSeen_35 (fun H locs hP hD hS => ?_)
        have hP : va_P D vwCl (wRows ht cy St) H := hP
        have hD : va_D A (wRows ht cy St) := hD
        refine z_if_eq (tgt := 44) hx hb dX6_versionSeen_38 (by decide) hf (fun hf => ?_) (fun hf => ?_)
        · refine lv_iinc (v := (v4 + (-1 : Int32))) (lv' := [(4, .int (v4 + (-1 : Int32))), (5, .int q1), (0, .ref (ht 0)), (1, .int x1), (2, .long x2)]) hx hb dX6_versionSeen_44 hl (k := 4) rfl rfl (by decide) rfl (fun ls hl => ?_)
          refine lv_goto (tgt := 8) hx hb dX6_versionSeen_47 (by decide) ?_
          exact K8 (v4 + (-1 : Int32)) H locs ls hf hP hD hS (lv_sub hl [2, 3, 4, 0] rfl)
        · refine lv_iload hx hb dX6_versionSeen_41 (lv_at hl 0 rfl) ?_
          obtain rfl := Option.some.inj hf
          exact z_iret (v := q1) C hP hD hS dX6_versionSeen_43
def f_X6_versionSeen (St : SRows) (x1 : Int32) (x2 : Int64) : Option (Int32) :=
  (zl1 (b_X6_versionSeen_8 St x1 x2) FU ((Rows_count St) - (1 : Int32)))
set_option maxHeartbeats 4000000 in
set_option maxRecDepth 100000 in
theorem c_X6_versionSeen (l : Launch) (D : va_G) (cy : Nat → ClassId) (ht : Nat → Nat) (St : SRows) (x1 : Int32) (x2 : Int64) (r : Int32) (hf : f_X6_versionSeen St x1 x2 = some r) : zCI l yX6_versionSeen cX6_versionSeen 6 (some FieldType.int) 2 46 D (zty cy) [.ref (ht 0), .int x1, .long x2] (wRows ht cy St) (wRows ht cy St) r := by
  refine zCI_of (by decide +kernel) (Nat.le_of_ble_eq_true rfl) ?_
  intro p e s m below meth c A ls C hP hD hS hl
  generalize hargs : ([.ref (ht 0), .int x1, .long x2] : List Value).toArray = args at C ⊢
  have C : zX p s m meth c cX6_versionSeen 6 args RX6 (some FieldType.int) A D (zty cy) := C
  obtain ⟨hx, hb, hr, hts, hown, hlocks, hml, hA, hK⟩ := id C
  have hl : lv_has ls 6 [(0, .ref (ht 0)), (1, .int x1), (2, .long x2)] := hl
  generalize hH : s.heap = H at hP ⊢
  have hS : va_S A s.heap H [] := by rw [← hH]; exact hS
  generalize ([] : List Loc) = locs at hS ⊢
  refine lv_aload_n hx hb dX6_versionSeen_0 rfl (lv_at hl 0 rfl) ?_
  refine va_get (D := D) (ci := 3) (v := .int (Rows_count St)) (C := RX6) (T := TX6) (N := 16) hx hb hts in_X6 hown hK hP 0 rfl rfl 4 (by decide) (hts _ q1_61) (fun _ h9 => h9) rfl dX6_versionSeen_1 ?_
  refine lv_iconst (v := (1 : Int32)) hx hb dX6_versionSeen_4 (by decide) ?_
  refine lv_isub hx hb dX6_versionSeen_5 ?_
  refine lv_istore (lv' := [(4, .int ((Rows_count St) - (1 : Int32))), (0, .ref (ht 0)), (1, .int x1), (2, .long x2)]) hx hb dX6_versionSeen_6 hl (by decide) rfl (fun ls hl => ?_)
  exact w_X6_versionSeen_8 l ht St x1 x2 C FU ((Rows_count St) - (1 : Int32)) H locs ls hf hP hD hS (lv_sub hl [1, 2, 3, 0] rfl)
def f_X6_valueSeen (St : SRows) (x1 : Int32) (x2 : Int64) : Option (Int32) :=
  (f_X6_versionSeen St x1 x2).bind (fun q1 =>
    (f_X6_valueOf St q1).bind (fun q2 =>
      some q2))
set_option maxHeartbeats 4000000 in
set_option maxRecDepth 100000 in
theorem c_X6_valueSeen (l : Launch) (D : va_G) (cy : Nat → ClassId) (ht : Nat → Nat) (St : SRows) (x1 : Int32) (x2 : Int64) (r : Int32) (hf : f_X6_valueSeen St x1 x2 = some r) : zCI l yX6_valueSeen cX6_valueSeen 4 (some FieldType.int) 3 71 D (zty cy) [.ref (ht 0), .int x1, .long x2] (wRows ht cy St) (wRows ht cy St) r := by
  refine zCI_of (by decide +kernel) (Nat.le_of_ble_eq_true rfl) ?_
  intro p e s m below meth c A ls C hP hD hS hl
  generalize hargs : ([.ref (ht 0), .int x1, .long x2] : List Value).toArray = args at C ⊢
  have C : zX p s m meth c cX6_valueSeen 4 args RX6 (some FieldType.int) A D (zty cy) := C
  obtain ⟨hx, hb, hr, hts, hown, hlocks, hml, hA, hK⟩ := id C
  have hl : lv_has ls 4 [(0, .ref (ht 0)), (1, .int x1), (2, .long x2)] := hl
  generalize hH : s.heap = H at hP ⊢
  have hS : va_S A s.heap H [] := by rw [← hH]; exact hS
  generalize ([] : List Loc) = locs at hS ⊢
  refine lv_aload_n hx hb dX6_valueSeen_0 rfl (lv_at hl 0 rfl) ?_
  refine lv_aload_n hx hb dX6_valueSeen_1 rfl (lv_at hl 0 rfl) ?_
  refine lv_iload_n hx hb dX6_valueSeen_2 rfl (lv_at hl 1 rfl) ?_
  refine lv_lload_n hx hb dX6_valueSeen_3 rfl (lv_at hl 2 rfl) ?_
  obtain ⟨q1, hc, hf⟩ := zbd hf
  refine z_cVi0 (As := [.int x1, .long x2]) (rest := [.ref (ht 0)]) C (c_X6_versionSeen l D cy ht St x1 x2 q1 hc) gV_X6_X6_versionSeen hd_X6_versionSeen ⟨Nat.le_of_ble_eq_true rfl, Nat.le_of_ble_eq_true rfl⟩ ⟨Nat.le_refl _, Nat.le_refl _⟩ (va_recv hK hP (ci := 3) (q0 := 0) rfl rfl) hP hD hS hl.1 (Nat.le_of_ble_eq_true rfl) dX6_valueSeen_4 (fun H locs hP hD hS => ?_)
  have hP : va_P D vwCl (wRows ht cy St) H := hP
  have hD : va_D A (wRows ht cy St) := hD
  obtain ⟨q2, hc, hf⟩ := zbd hf
  refine z_cVi0 (As := [.int q1]) (rest := []) C (c_X6_valueOf l D cy ht St q1 q2 hc) gV_X6_X6_valueOf hd_X6_valueOf ⟨Nat.le_of_ble_eq_true rfl, Nat.le_of_ble_eq_true rfl⟩ ⟨Nat.le_refl _, Nat.le_refl _⟩ (va_recv hK hP (ci := 3) (q0 := 0) rfl rfl) hP hD hS hl.1 (Nat.le_of_ble_eq_true rfl) dX6_valueSeen_7 (fun H locs hP hD hS => ?_)
  have hP : va_P D vwCl (wRows ht cy St) H := hP
  have hD : va_D A (wRows ht cy St) := hD
  obtain rfl := Option.some.inj hf
  exact z_iret (v := q2) C hP hD hS dX6_valueSeen_10
def b_X6_sumSeen_13 (St : SRows) (x1 : Int64) (k13 : Int32 → Int32 → Int32 → Option (Int32)) (v3 : Int32) (v4 : Int32) (v5 : Int32) : Option (Int32) :=
  (if v5 < 0 then
    some v3
    else
    (f_X6_madeAt St v5).bind (fun q1 =>
      (f_X6_isSeen St q1 x1).bind (fun q2 =>
        (if q2 = 0 then
          (k13 v3 v4 (v5 + (-1 : Int32)))
          else
          (f_X6_rowOf St q1).bind (fun q3 =>
            (if ((v4 >>> (q3 &&& 31)) &&& (1 : Int32)) = 0 then
              (f_X6_rowOf St q1).bind (fun q4 =>
                (f_X6_valueOf St q1).bind (fun q5 =>
                  (k13 (v3 + q5) (v4 ||| ((1 : Int32) <<< (q4 &&& 31))) (v5 + (-1 : Int32)))))
              else
              (k13 v3 v4 (v5 + (-1 : Int32)))))))))
set_option maxHeartbeats 4000000 in
set_option maxRecDepth 100000 in
theorem w_X6_sumSeen_13 {p : Program} {e : Env} {s : State} {m : MethodId} {below : List Frame} {meth : Method} {c : Code} {A : Nat → Prop} {D : va_G} {cy : Nat → ClassId} {args : Array Value} {r : Int32} (l : Launch) (ht : Nat → Nat) (St : SRows) (x1 : Int64) (C : zX p s m meth c cX6_sumSeen 7 args RX6 (some FieldType.int) A D (zty cy)) :
    ∀ (n : Nat) (v3 : Int32) (v4 : Int32) (v5 : Int32) (H : Heap) (locs : List Loc) (ls : Array Slot), zl3 (b_X6_sumSeen_13 St x1) n v3 v4 v5 = some r → va_P D vwCl (wRows ht cy St) H → va_D A (wRows ht cy St) → va_S A s.heap H locs → lv_has ls 7 [(0, .ref (ht 0)), (1, .long x1), (3, .int v3), (4, .int v4), (5, .int v5)] → W p l e (zRm 2 46) s m args below meth c H locs 0 0 (MQ below (zQI D (zty cy) A (wRows ht cy St) r) args s 0 0 A) (F0 m 13 ls []) := by
  obtain ⟨hx, hb, hr, hts, hown, hlocks, hml, hA, hK⟩ := id C
  intro n
  induction n with
  | zero => intro v3 v4 v5 H locs ls hf; exact zno hf
  | succ n ih =>
    intro v3 v4 v5 H locs ls hf hP hD hS hl
    have hf : b_X6_sumSeen_13 St x1 (zl3 (b_X6_sumSeen_13 St x1) n) v3 v4 v5 = some r := hf
    have K13 := ih
    refine lv_iload hx hb dX6_sumSeen_13 (lv_at hl 4 rfl) ?_
    refine z_if_lt (tgt := 78) hx hb dX6_sumSeen_15 (by decide) hf (fun hf => ?_) (fun hf => ?_)
    · refine lv_iload_n hx hb dX6_sumSeen_78 rfl (lv_at hl 2 rfl) ?_
      obtain rfl := Option.some.inj hf
      exact z_iret (v := v3) C hP hD hS dX6_sumSeen_79
    · refine lv_aload_n hx hb dX6_sumSeen_18 rfl (lv_at hl 0 rfl) ?_
      refine lv_iload hx hb dX6_sumSeen_19 (lv_at hl 4 rfl) ?_
      obtain ⟨q1, hc, hf⟩ := zbd hf
      refine z_cVi0 (As := [.int v5]) (rest := []) C (c_X6_madeAt l D cy ht St v5 q1 hc) gV_X6_X6_madeAt hd_X6_madeAt ⟨Nat.le_of_ble_eq_true rfl, Nat.le_of_ble_eq_true rfl⟩ ⟨Nat.le_refl _, Nat.le_refl _⟩ (va_recv hK hP (ci := 3) (q0 := 0) rfl rfl) hP hD hS hl.1 (Nat.le_of_ble_eq_true rfl) dX6_sumSeen_21 (fun H locs hP hD hS => ?_)
      have hP : va_P D vwCl (wRows ht cy St) H := hP
      have hD : va_D A (wRows ht cy St) := hD
      refine lv_istore (lv' := [(6, .int q1), (0, .ref (ht 0)), (1, .long x1), (3, .int v3), (4, .int v4), (5, .int v5)]) hx hb dX6_sumSeen_24 hl (by decide) rfl (fun ls hl => ?_)
      refine lv_aload_n hx hb dX6_sumSeen_26 rfl (lv_at hl 1 rfl) ?_
      refine lv_iload hx hb dX6_sumSeen_27 (lv_at hl 0 rfl) ?_
      refine lv_lload_n hx hb dX6_sumSeen_29 rfl (lv_at hl 2 rfl) ?_
      obtain ⟨q2, hc, hf⟩ := zbd hf
      refine z_cVi0 (As := [.int q1, .long x1]) (rest := []) C (c_X6_isSeen l D cy ht St q1 x1 q2 hc) gV_X6_X6_isSeen hd_X6_isSeen ⟨Nat.le_of_ble_eq_true rfl, Nat.le_of_ble_eq_true rfl⟩ ⟨Nat.le_refl _, Nat.le_refl _⟩ (va_recv hK hP (ci := 3) (q0 := 0) rfl rfl) hP hD hS hl.1 (Nat.le_of_ble_eq_true rfl) dX6_sumSeen_30 (fun H locs hP hD hS => ?_)
      have hP : va_P D vwCl (wRows ht cy St) H := hP
      have hD : va_D A (wRows ht cy St) := hD
      refine z_if_eq (tgt := 72) hx hb dX6_sumSeen_33 (by decide) hf (fun hf => ?_) (fun hf => ?_)
      · refine lv_iinc (v := (v5 + (-1 : Int32))) (lv' := [(5, .int (v5 + (-1 : Int32))), (6, .int q1), (0, .ref (ht 0)), (1, .long x1), (3, .int v3), (4, .int v4)]) hx hb dX6_sumSeen_72 hl (k := 5) rfl rfl (by decide) rfl (fun ls hl => ?_)
        refine lv_goto (tgt := 13) hx hb dX6_sumSeen_75 (by decide) ?_
        exact K13 v3 v4 (v5 + (-1 : Int32)) H locs ls hf hP hD hS (lv_sub hl [2, 3, 4, 5, 0] rfl)
      · refine lv_iload hx hb dX6_sumSeen_36 (lv_at hl 4 rfl) ?_
        refine lv_aload_n hx hb dX6_sumSeen_38 rfl (lv_at hl 1 rfl) ?_
        refine lv_iload hx hb dX6_sumSeen_39 (lv_at hl 0 rfl) ?_
        obtain ⟨q3, hc, hf⟩ := zbd hf
        refine z_cVi0 (As := [.int q1]) (rest := [.int v4]) C (c_X6_rowOf l D cy ht St q1 q3 hc) gV_X6_X6_rowOf hd_X6_rowOf ⟨Nat.le_of_ble_eq_true rfl, Nat.le_of_ble_eq_true rfl⟩ ⟨Nat.le_refl _, Nat.le_refl _⟩ (va_recv hK hP (ci := 3) (q0 := 0) rfl rfl) hP hD hS hl.1 (Nat.le_of_ble_eq_true rfl) dX6_sumSeen_41 (fun H locs hP hD hS => ?_)
        have hP : va_P D vwCl (wRows ht cy St) H := hP
        have hD : va_D A (wRows ht cy St) := hD
        refine lv_ishr hx hb dX6_sumSeen_44 ?_
        refine lv_iconst (v := (1 : Int32)) hx hb dX6_sumSeen_45 (by decide) ?_
        refine lv_iand hx hb dX6_sumSeen_46 ?_
        refine z_if_ne (tgt := 72) hx hb dX6_sumSeen_47 (by decide) hf (fun hf => ?_) (fun hf => ?_)
        · refine lv_iinc (v := (v5 + (-1 : Int32))) (lv' := [(5, .int (v5 + (-1 : Int32))), (6, .int q1), (0, .ref (ht 0)), (1, .long x1), (3, .int v3), (4, .int v4)]) hx hb dX6_sumSeen_72 hl (k := 5) rfl rfl (by decide) rfl (fun ls hl => ?_)
          refine lv_goto (tgt := 13) hx hb dX6_sumSeen_75 (by decide) ?_
          exact K13 v3 v4 (v5 + (-1 : Int32)) H locs ls hf hP hD hS (lv_sub hl [2, 3, 4, 5, 0] rfl)
        · refine lv_iload hx hb dX6_sumSeen_50 (lv_at hl 4 rfl) ?_
          refine lv_iconst (v := (1 : Int32)) hx hb dX6_sumSeen_52 (by decide) ?_
          refine lv_aload_n hx hb dX6_sumSeen_53 rfl (lv_at hl 1 rfl) ?_
          refine lv_iload hx hb dX6_sumSeen_54 (lv_at hl 0 rfl) ?_
          obtain ⟨q4, hc, hf⟩ := zbd hf
          refine z_cVi0 (As := [.int q1]) (rest := [.int (1 : Int32), .int v4]) C (c_X6_rowOf l D cy ht St q1 q4 hc) gV_X6_X6_rowOf hd_X6_rowOf ⟨Nat.le_of_ble_eq_true rfl, Nat.le_of_ble_eq_true rfl⟩ ⟨Nat.le_refl _, Nat.le_refl _⟩ (va_recv hK hP (ci := 3) (q0 := 0) rfl rfl) hP hD hS hl.1 (Nat.le_of_ble_eq_true rfl) dX6_sumSeen_56 (fun H locs hP hD hS => ?_)
          have hP : va_P D vwCl (wRows ht cy St) H := hP
          have hD : va_D A (wRows ht cy St) := hD
          refine lv_ishl hx hb dX6_sumSeen_59 ?_
          refine lv_ior hx hb dX6_sumSeen_60 ?_
          refine lv_istore (lv' := [(4, .int (v4 ||| ((1 : Int32) <<< (q4 &&& 31)))), (6, .int q1), (0, .ref (ht 0)), (1, .long x1), (3, .int v3), (5, .int v5)]) hx hb dX6_sumSeen_61 hl (by decide) rfl (fun ls hl => ?_)
          refine lv_iload_n hx hb dX6_sumSeen_63 rfl (lv_at hl 4 rfl) ?_
          refine lv_aload_n hx hb dX6_sumSeen_64 rfl (lv_at hl 2 rfl) ?_
          refine lv_iload hx hb dX6_sumSeen_65 (lv_at hl 1 rfl) ?_
          obtain ⟨q5, hc, hf⟩ := zbd hf
          refine z_cVi0 (As := [.int q1]) (rest := [.int v3]) C (c_X6_valueOf l D cy ht St q1 q5 hc) gV_X6_X6_valueOf hd_X6_valueOf ⟨Nat.le_of_ble_eq_true rfl, Nat.le_of_ble_eq_true rfl⟩ ⟨Nat.le_refl _, Nat.le_refl _⟩ (va_recv hK hP (ci := 3) (q0 := 0) rfl rfl) hP hD hS hl.1 (Nat.le_of_ble_eq_true rfl) dX6_sumSeen_67 (fun H locs hP hD hS => ?_)
          have hP : va_P D vwCl (wRows ht cy St) H := hP
          have hD : va_D A (wRows ht cy St) := hD
          refine lv_iadd hx hb dX6_sumSeen_70 ?_
          refine lv_istore_n (lv' := [(3, .int (v3 + q5)), (4, .int (v4 ||| ((1 : Int32) <<< (q4 &&& 31)))), (6, .int q1), (0, .ref (ht 0)), (1, .long x1), (5, .int v5)]) hx hb dX6_sumSeen_71 rfl hl (by decide) rfl (fun ls hl => ?_)
          refine lv_iinc (v := (v5 + (-1 : Int32))) (lv' := [(5, .int (v5 + (-1 : Int32))), (3, .int (v3 + q5)), (4, .int (v4 ||| ((1 : Int32) <<< (q4 &&& 31)))), (6, .int q1), (0, .ref (ht 0)), (1, .long x1)]) hx hb dX6_sumSeen_72 hl (k := 5) rfl rfl (by decide) rfl (fun ls hl => ?_)
          refine lv_goto (tgt := 13) hx hb dX6_sumSeen_75 (by decide) ?_
          exact K13 (v3 + q5) (v4 ||| ((1 : Int32) <<< (q4 &&& 31))) (v5 + (-1 : Int32)) H locs ls hf hP hD hS (lv_sub hl [4, 5, 1, 2, 0] rfl)
def f_X6_sumSeen (St : SRows) (x1 : Int64) : Option (Int32) :=
  (zl3 (b_X6_sumSeen_13 St x1) FU (0 : Int32) (0 : Int32) ((Rows_count St) - (1 : Int32)))
set_option maxHeartbeats 4000000 in
set_option maxRecDepth 100000 in
theorem c_X6_sumSeen (l : Launch) (D : va_G) (cy : Nat → ClassId) (ht : Nat → Nat) (St : SRows) (x1 : Int64) (r : Int32) (hf : f_X6_sumSeen St x1 = some r) : zCI l yX6_sumSeen cX6_sumSeen 7 (some FieldType.int) 2 46 D (zty cy) [.ref (ht 0), .long x1] (wRows ht cy St) (wRows ht cy St) r := by
  refine zCI_of (by decide +kernel) (Nat.le_of_ble_eq_true rfl) ?_
  intro p e s m below meth c A ls C hP hD hS hl
  generalize hargs : ([.ref (ht 0), .long x1] : List Value).toArray = args at C ⊢
  have C : zX p s m meth c cX6_sumSeen 7 args RX6 (some FieldType.int) A D (zty cy) := C
  obtain ⟨hx, hb, hr, hts, hown, hlocks, hml, hA, hK⟩ := id C
  have hl : lv_has ls 7 [(0, .ref (ht 0)), (1, .long x1)] := hl
  generalize hH : s.heap = H at hP ⊢
  have hS : va_S A s.heap H [] := by rw [← hH]; exact hS
  generalize ([] : List Loc) = locs at hS ⊢
  refine lv_iconst (v := (0 : Int32)) hx hb dX6_sumSeen_0 (by decide) ?_
  refine lv_istore_n (lv' := [(3, .int (0 : Int32)), (0, .ref (ht 0)), (1, .long x1)]) hx hb dX6_sumSeen_1 rfl hl (by decide) rfl (fun ls hl => ?_)
  refine lv_iconst (v := (0 : Int32)) hx hb dX6_sumSeen_2 (by decide) ?_
  refine lv_istore (lv' := [(4, .int (0 : Int32)), (3, .int (0 : Int32)), (0, .ref (ht 0)), (1, .long x1)]) hx hb dX6_sumSeen_3 hl (by decide) rfl (fun ls hl => ?_)
  refine lv_aload_n hx hb dX6_sumSeen_5 rfl (lv_at hl 2 rfl) ?_
  refine va_get (D := D) (ci := 3) (v := .int (Rows_count St)) (C := RX6) (T := TX6) (N := 16) hx hb hts in_X6 hown hK hP 0 rfl rfl 4 (by decide) (hts _ q1_61) (fun _ h9 => h9) rfl dX6_sumSeen_6 ?_
  refine lv_iconst (v := (1 : Int32)) hx hb dX6_sumSeen_9 (by decide) ?_
  refine lv_isub hx hb dX6_sumSeen_10 ?_
  refine lv_istore (lv' := [(5, .int ((Rows_count St) - (1 : Int32))), (4, .int (0 : Int32)), (3, .int (0 : Int32)), (0, .ref (ht 0)), (1, .long x1)]) hx hb dX6_sumSeen_11 hl (by decide) rfl (fun ls hl => ?_)
  exact w_X6_sumSeen_13 l ht St x1 C FU (0 : Int32) (0 : Int32) ((Rows_count St) - (1 : Int32)) H locs ls hf hP hD hS (lv_sub hl [3, 4, 2, 1, 0] rfl)
def b_X6_emptyRow_4 (St : SRows) (x1 : Int32) (k4 : Int32 → Int32 → Option (Int32)) (v2 : Int32) (v3 : Int32) : Option (Int32) :=
  (if (Rows_rowCount St) ≤ v3 then
    some (-2 : Int32)
    else
    (f_X6_versionSeen St v3 (Rows_doneStamps St)).bind (fun q1 =>
      (if q1 = (-2 : Int32) then
        (if v2 = x1 then
          some v3
          else
          (k4 (v2 + (1 : Int32)) (v3 + (1 : Int32))))
        else
        (k4 v2 (v3 + (1 : Int32))))))
set_option maxHeartbeats 4000000 in
set_option maxRecDepth 100000 in
theorem w_X6_emptyRow_4 {p : Program} {e : Env} {s : State} {m : MethodId} {below : List Frame} {meth : Method} {c : Code} {A : Nat → Prop} {D : va_G} {cy : Nat → ClassId} {args : Array Value} {r : Int32} (l : Launch) (ht : Nat → Nat) (St : SRows) (x1 : Int32) (C : zX p s m meth c cX6_emptyRow 4 args RX6 (some FieldType.int) A D (zty cy)) :
    ∀ (n : Nat) (v2 : Int32) (v3 : Int32) (H : Heap) (locs : List Loc) (ls : Array Slot), zl2 (b_X6_emptyRow_4 St x1) n v2 v3 = some r → va_P D vwCl (wRows ht cy St) H → va_D A (wRows ht cy St) → va_S A s.heap H locs → lv_has ls 4 [(0, .ref (ht 0)), (1, .int x1), (2, .int v2), (3, .int v3)] → W p l e (zRm 3 71) s m args below meth c H locs 0 0 (MQ below (zQI D (zty cy) A (wRows ht cy St) r) args s 0 0 A) (F0 m 4 ls []) := by
  obtain ⟨hx, hb, hr, hts, hown, hlocks, hml, hA, hK⟩ := id C
  intro n
  induction n with
  | zero => intro v2 v3 H locs ls hf; exact zno hf
  | succ n ih =>
    intro v2 v3 H locs ls hf hP hD hS hl
    have hf : b_X6_emptyRow_4 St x1 (zl2 (b_X6_emptyRow_4 St x1) n) v2 v3 = some r := hf
    have K4 := ih
    refine lv_iload_n hx hb dX6_emptyRow_4 rfl (lv_at hl 3 rfl) ?_
    refine lv_aload_n hx hb dX6_emptyRow_5 rfl (lv_at hl 0 rfl) ?_
    refine va_get (D := D) (ci := 3) (v := .int (Rows_rowCount St)) (C := RX6) (T := TX6) (N := 16) hx hb hts in_X6 hown hK hP 0 rfl rfl 1 (by decide) (hts _ q1_52) (fun _ h9 => h9) rfl dX6_emptyRow_6 ?_
    refine z_icmp_ge (tgt := 45) hx hb dX6_emptyRow_9 (by decide) hf (fun hf => ?_) (fun hf => ?_)
    · refine lv_bipush (v := (-2 : Int32)) hx hb dX6_emptyRow_45 (by decide) ?_
      obtain rfl := Option.some.inj hf
      exact z_iret (v := (-2 : Int32)) C hP hD hS dX6_emptyRow_47
    · refine lv_aload_n hx hb dX6_emptyRow_12 rfl (lv_at hl 0 rfl) ?_
      refine lv_iload_n hx hb dX6_emptyRow_13 rfl (lv_at hl 3 rfl) ?_
      refine lv_aload_n hx hb dX6_emptyRow_14 rfl (lv_at hl 0 rfl) ?_
      refine va_get (D := D) (ci := 3) (v := .long (Rows_doneStamps St)) (C := RX6) (T := TX6) (N := 16) hx hb hts in_X6 hown hK hP 0 rfl rfl 7 (by decide) (hts _ q1_65) (fun _ h9 => h9) rfl dX6_emptyRow_15 ?_
      obtain ⟨q1, hc, hf⟩ := zbd hf
      refine z_cVi0 (As := [.int v3, .long (Rows_doneStamps St)]) (rest := []) C (c_X6_versionSeen l D cy ht St v3 (Rows_doneStamps St) q1 hc) gV_X6_X6_versionSeen hd_X6_versionSeen ⟨Nat.le_of_ble_eq_true rfl, Nat.le_of_ble_eq_true rfl⟩ ⟨Nat.le_refl _, Nat.le_refl _⟩ (va_recv hK hP (ci := 3) (q0 := 0) rfl rfl) hP hD hS hl.1 (Nat.le_of_ble_eq_true rfl) dX6_emptyRow_18 (fun H locs hP hD hS => ?_)
      have hP : va_P D vwCl (wRows ht cy St) H := hP
      have hD : va_D A (wRows ht cy St) := hD
      refine lv_bipush (v := (-2 : Int32)) hx hb dX6_emptyRow_21 (by decide) ?_
      refine z_icmp_eq (tgt := 29) hx hb dX6_emptyRow_23 (by decide) hf (fun hf => ?_) (fun hf => ?_)
      · refine lv_iload_n hx hb dX6_emptyRow_29 rfl (lv_at hl 2 rfl) ?_
        refine lv_iload_n hx hb dX6_emptyRow_30 rfl (lv_at hl 1 rfl) ?_
        refine z_icmp_ne (tgt := 36) hx hb dX6_emptyRow_31 (by decide) hf (fun hf => ?_) (fun hf => ?_)
        · refine lv_iinc (v := (v2 + (1 : Int32))) (lv' := [(2, .int (v2 + (1 : Int32))), (0, .ref (ht 0)), (1, .int x1), (3, .int v3)]) hx hb dX6_emptyRow_36 hl (k := 2) rfl rfl (by decide) rfl (fun ls hl => ?_)
          refine lv_iinc (v := (v3 + (1 : Int32))) (lv' := [(3, .int (v3 + (1 : Int32))), (2, .int (v2 + (1 : Int32))), (0, .ref (ht 0)), (1, .int x1)]) hx hb dX6_emptyRow_39 hl (k := 3) rfl rfl (by decide) rfl (fun ls hl => ?_)
          refine lv_goto (tgt := 4) hx hb dX6_emptyRow_42 (by decide) ?_
          exact K4 (v2 + (1 : Int32)) (v3 + (1 : Int32)) H locs ls hf hP hD hS (lv_sub hl [2, 3, 1, 0] rfl)
        · refine lv_iload_n hx hb dX6_emptyRow_34 rfl (lv_at hl 3 rfl) ?_
          obtain rfl := Option.some.inj hf
          exact z_iret (v := v3) C hP hD hS dX6_emptyRow_35
      · refine lv_goto (tgt := 39) hx hb dX6_emptyRow_26 (by decide) ?_
        refine lv_iinc (v := (v3 + (1 : Int32))) (lv' := [(3, .int (v3 + (1 : Int32))), (0, .ref (ht 0)), (1, .int x1), (2, .int v2)]) hx hb dX6_emptyRow_39 hl (k := 3) rfl rfl (by decide) rfl (fun ls hl => ?_)
        refine lv_goto (tgt := 4) hx hb dX6_emptyRow_42 (by decide) ?_
        exact K4 v2 (v3 + (1 : Int32)) H locs ls hf hP hD hS (lv_sub hl [1, 2, 3, 0] rfl)
def f_X6_emptyRow (St : SRows) (x1 : Int32) : Option (Int32) :=
  (zl2 (b_X6_emptyRow_4 St x1) FU (0 : Int32) (0 : Int32))
set_option maxHeartbeats 4000000 in
set_option maxRecDepth 100000 in
theorem c_X6_emptyRow (l : Launch) (D : va_G) (cy : Nat → ClassId) (ht : Nat → Nat) (St : SRows) (x1 : Int32) (r : Int32) (hf : f_X6_emptyRow St x1 = some r) : zCI l yX6_emptyRow cX6_emptyRow 4 (some FieldType.int) 3 71 D (zty cy) [.ref (ht 0), .int x1] (wRows ht cy St) (wRows ht cy St) r := by
  refine zCI_of (by decide +kernel) (Nat.le_of_ble_eq_true rfl) ?_
  intro p e s m below meth c A ls C hP hD hS hl
  generalize hargs : ([.ref (ht 0), .int x1] : List Value).toArray = args at C ⊢
  have C : zX p s m meth c cX6_emptyRow 4 args RX6 (some FieldType.int) A D (zty cy) := C
  obtain ⟨hx, hb, hr, hts, hown, hlocks, hml, hA, hK⟩ := id C
  have hl : lv_has ls 4 [(0, .ref (ht 0)), (1, .int x1)] := hl
  generalize hH : s.heap = H at hP ⊢
  have hS : va_S A s.heap H [] := by rw [← hH]; exact hS
  generalize ([] : List Loc) = locs at hS ⊢
  refine lv_iconst (v := (0 : Int32)) hx hb dX6_emptyRow_0 (by decide) ?_
  refine lv_istore_n (lv' := [(2, .int (0 : Int32)), (0, .ref (ht 0)), (1, .int x1)]) hx hb dX6_emptyRow_1 rfl hl (by decide) rfl (fun ls hl => ?_)
  refine lv_iconst (v := (0 : Int32)) hx hb dX6_emptyRow_2 (by decide) ?_
  refine lv_istore_n (lv' := [(3, .int (0 : Int32)), (2, .int (0 : Int32)), (0, .ref (ht 0)), (1, .int x1)]) hx hb dX6_emptyRow_3 rfl hl (by decide) rfl (fun ls hl => ?_)
  exact w_X6_emptyRow_4 l ht St x1 C FU (0 : Int32) (0 : Int32) H locs ls hf hP hD hS (lv_sub hl [2, 3, 1, 0] rfl)
def b_X6_lastNotGone_7 (St : SRows) (x1 : Int32) (k7 : Int32 → Option (Int32)) (v2 : Int32) : Option (Int32) :=
  (if v2 < 0 then
    some (-2 : Int32)
    else
    (f_X6_madeAt St v2).bind (fun q1 =>
      (f_X6_rowOf St q1).bind (fun q2 =>
        (if q2 = x1 then
          (f_X6_fromOf St q1).bind (fun q3 =>
            (f_X6_holds (Rows_goneStamps St) q3).bind (fun q4 =>
              (if q4 = 0 then
                some q1
                else
                (k7 (v2 + (-1 : Int32))))))
          else
          (k7 (v2 + (-1 : Int32)))))))
set_option maxHeartbeats 4000000 in
set_option maxRecDepth 100000 in
theorem w_X6_lastNotGone_7 {p : Program} {e : Env} {s : State} {m : MethodId} {below : List Frame} {meth : Method} {c : Code} {A : Nat → Prop} {D : va_G} {cy : Nat → ClassId} {args : Array Value} {r : Int32} (l : Launch) (ht : Nat → Nat) (St : SRows) (x1 : Int32) (C : zX p s m meth c cX6_lastNotGone 4 args RX6 (some FieldType.int) A D (zty cy)) :
    ∀ (n : Nat) (v2 : Int32) (H : Heap) (locs : List Loc) (ls : Array Slot), zl1 (b_X6_lastNotGone_7 St x1) n v2 = some r → va_P D vwCl (wRows ht cy St) H → va_D A (wRows ht cy St) → va_S A s.heap H locs → lv_has ls 4 [(0, .ref (ht 0)), (1, .int x1), (2, .int v2)] → W p l e (zRm 2 42) s m args below meth c H locs 0 0 (MQ below (zQI D (zty cy) A (wRows ht cy St) r) args s 0 0 A) (F0 m 7 ls []) := by
  obtain ⟨hx, hb, hr, hts, hown, hlocks, hml, hA, hK⟩ := id C
  intro n
  induction n with
  | zero => intro v2 H locs ls hf; exact zno hf
  | succ n ih =>
    intro v2 H locs ls hf hP hD hS hl
    have hf : b_X6_lastNotGone_7 St x1 (zl1 (b_X6_lastNotGone_7 St x1) n) v2 = some r := hf
    have K7 := ih
    refine lv_iload_n hx hb dX6_lastNotGone_7 rfl (lv_at hl 2 rfl) ?_
    refine z_if_lt (tgt := 49) hx hb dX6_lastNotGone_8 (by decide) hf (fun hf => ?_) (fun hf => ?_)
    · refine lv_bipush (v := (-2 : Int32)) hx hb dX6_lastNotGone_49 (by decide) ?_
      obtain rfl := Option.some.inj hf
      exact z_iret (v := (-2 : Int32)) C hP hD hS dX6_lastNotGone_51
    · refine lv_aload_n hx hb dX6_lastNotGone_11 rfl (lv_at hl 0 rfl) ?_
      refine lv_iload_n hx hb dX6_lastNotGone_12 rfl (lv_at hl 2 rfl) ?_
      obtain ⟨q1, hc, hf⟩ := zbd hf
      refine z_cVi0 (As := [.int v2]) (rest := []) C (c_X6_madeAt l D cy ht St v2 q1 hc) gV_X6_X6_madeAt hd_X6_madeAt ⟨Nat.le_of_ble_eq_true rfl, Nat.le_of_ble_eq_true rfl⟩ ⟨Nat.le_refl _, Nat.le_refl _⟩ (va_recv hK hP (ci := 3) (q0 := 0) rfl rfl) hP hD hS hl.1 (Nat.le_of_ble_eq_true rfl) dX6_lastNotGone_13 (fun H locs hP hD hS => ?_)
      have hP : va_P D vwCl (wRows ht cy St) H := hP
      have hD : va_D A (wRows ht cy St) := hD
      refine lv_istore_n (lv' := [(3, .int q1), (0, .ref (ht 0)), (1, .int x1), (2, .int v2)]) hx hb dX6_lastNotGone_16 rfl hl (by decide) rfl (fun ls hl => ?_)
      refine lv_aload_n hx hb dX6_lastNotGone_17 rfl (lv_at hl 1 rfl) ?_
      refine lv_iload_n hx hb dX6_lastNotGone_18 rfl (lv_at hl 0 rfl) ?_
      obtain ⟨q2, hc, hf⟩ := zbd hf
      refine z_cVi0 (As := [.int q1]) (rest := []) C (c_X6_rowOf l D cy ht St q1 q2 hc) gV_X6_X6_rowOf hd_X6_rowOf ⟨Nat.le_of_ble_eq_true rfl, Nat.le_of_ble_eq_true rfl⟩ ⟨Nat.le_refl _, Nat.le_refl _⟩ (va_recv hK hP (ci := 3) (q0 := 0) rfl rfl) hP hD hS hl.1 (Nat.le_of_ble_eq_true rfl) dX6_lastNotGone_19 (fun H locs hP hD hS => ?_)
      have hP : va_P D vwCl (wRows ht cy St) H := hP
      have hD : va_D A (wRows ht cy St) := hD
      refine lv_iload_n hx hb dX6_lastNotGone_22 rfl (lv_at hl 2 rfl) ?_
      refine z_icmp_ne (tgt := 43) hx hb dX6_lastNotGone_23 (by decide) hf (fun hf => ?_) (fun hf => ?_)
      · refine lv_iinc (v := (v2 + (-1 : Int32))) (lv' := [(2, .int (v2 + (-1 : Int32))), (3, .int q1), (0, .ref (ht 0)), (1, .int x1)]) hx hb dX6_lastNotGone_43 hl (k := 3) rfl rfl (by decide) rfl (fun ls hl => ?_)
        refine lv_goto (tgt := 7) hx hb dX6_lastNotGone_46 (by decide) ?_
        exact K7 (v2 + (-1 : Int32)) H locs ls hf hP hD hS (lv_sub hl [2, 3, 0] rfl)
      · refine lv_aload_n hx hb dX6_lastNotGone_26 rfl (lv_at hl 1 rfl) ?_
        refine va_get (D := D) (ci := 3) (v := .long (Rows_goneStamps St)) (C := RX6) (T := TX6) (N := 16) hx hb hts in_X6 hown hK hP 0 rfl rfl 8 (by decide) (hts _ q1_66) (fun _ h9 => h9) rfl dX6_lastNotGone_27 ?_
        refine lv_aload_n hx hb dX6_lastNotGone_30 rfl (lv_at hl 1 rfl) ?_
        refine lv_iload_n hx hb dX6_lastNotGone_31 rfl (lv_at hl 0 rfl) ?_
        obtain ⟨q3, hc, hf⟩ := zbd hf
        refine z_cVi0 (As := [.int q1]) (rest := [.long (Rows_goneStamps St)]) C (c_X6_fromOf l D cy ht St q1 q3 hc) gV_X6_X6_fromOf hd_X6_fromOf ⟨Nat.le_of_ble_eq_true rfl, Nat.le_of_ble_eq_true rfl⟩ ⟨Nat.le_refl _, Nat.le_refl _⟩ (va_recv hK hP (ci := 3) (q0 := 0) rfl rfl) hP hD hS hl.1 (Nat.le_of_ble_eq_true rfl) dX6_lastNotGone_32 (fun H locs hP hD hS => ?_)
        have hP : va_P D vwCl (wRows ht cy St) H := hP
        have hD : va_D A (wRows ht cy St) := hD
        obtain ⟨q4, hc, hf⟩ := zbd hf
        refine z_cSiE (As := [.long (Rows_goneStamps St), .int q3]) (rest := []) C (c_X6_holds l D cy (Rows_goneStamps St) q3 q4 hc) gS_X6_X6_holds hd_X6_holds ⟨Nat.le_of_ble_eq_true rfl, Nat.le_of_ble_eq_true rfl⟩ ⟨Nat.le_refl _, Nat.le_refl _⟩ hP hD hS hl.1 (Nat.le_of_ble_eq_true rfl) dX6_lastNotGone_35 (fun H locs hP hD hS => ?_)
        refine z_if_ne (tgt := 43) hx hb dX6_lastNotGone_38 (by decide) hf (fun hf => ?_) (fun hf => ?_)
        · refine lv_iinc (v := (v2 + (-1 : Int32))) (lv' := [(2, .int (v2 + (-1 : Int32))), (3, .int q1), (0, .ref (ht 0)), (1, .int x1)]) hx hb dX6_lastNotGone_43 hl (k := 3) rfl rfl (by decide) rfl (fun ls hl => ?_)
          refine lv_goto (tgt := 7) hx hb dX6_lastNotGone_46 (by decide) ?_
          exact K7 (v2 + (-1 : Int32)) H locs ls hf hP hD hS (lv_sub hl [2, 3, 0] rfl)
        · refine lv_iload_n hx hb dX6_lastNotGone_41 rfl (lv_at hl 0 rfl) ?_
          obtain rfl := Option.some.inj hf
          exact z_iret (v := q1) C hP hD hS dX6_lastNotGone_42
def f_X6_lastNotGone (St : SRows) (x1 : Int32) : Option (Int32) :=
  (zl1 (b_X6_lastNotGone_7 St x1) FU ((Rows_count St) - (1 : Int32)))
set_option maxHeartbeats 4000000 in
set_option maxRecDepth 100000 in
theorem c_X6_lastNotGone (l : Launch) (D : va_G) (cy : Nat → ClassId) (ht : Nat → Nat) (St : SRows) (x1 : Int32) (r : Int32) (hf : f_X6_lastNotGone St x1 = some r) : zCI l yX6_lastNotGone cX6_lastNotGone 4 (some FieldType.int) 2 42 D (zty cy) [.ref (ht 0), .int x1] (wRows ht cy St) (wRows ht cy St) r := by
  refine zCI_of (by decide +kernel) (Nat.le_of_ble_eq_true rfl) ?_
  intro p e s m below meth c A ls C hP hD hS hl
  generalize hargs : ([.ref (ht 0), .int x1] : List Value).toArray = args at C ⊢
  have C : zX p s m meth c cX6_lastNotGone 4 args RX6 (some FieldType.int) A D (zty cy) := C
  obtain ⟨hx, hb, hr, hts, hown, hlocks, hml, hA, hK⟩ := id C
  have hl : lv_has ls 4 [(0, .ref (ht 0)), (1, .int x1)] := hl
  generalize hH : s.heap = H at hP ⊢
  have hS : va_S A s.heap H [] := by rw [← hH]; exact hS
  generalize ([] : List Loc) = locs at hS ⊢
  refine lv_aload_n hx hb dX6_lastNotGone_0 rfl (lv_at hl 0 rfl) ?_
  refine va_get (D := D) (ci := 3) (v := .int (Rows_count St)) (C := RX6) (T := TX6) (N := 16) hx hb hts in_X6 hown hK hP 0 rfl rfl 4 (by decide) (hts _ q1_61) (fun _ h9 => h9) rfl dX6_lastNotGone_1 ?_
  refine lv_iconst (v := (1 : Int32)) hx hb dX6_lastNotGone_4 (by decide) ?_
  refine lv_isub hx hb dX6_lastNotGone_5 ?_
  refine lv_istore_n (lv' := [(2, .int ((Rows_count St) - (1 : Int32))), (0, .ref (ht 0)), (1, .int x1)]) hx hb dX6_lastNotGone_6 rfl hl (by decide) rfl (fun ls hl => ?_)
  exact w_X6_lastNotGone_7 l ht St x1 C FU ((Rows_count St) - (1 : Int32)) H locs ls hf hP hD hS (lv_sub hl [1, 2, 0] rfl)
def b_X6_verdict_49 (St : SRows) (x1 : Int32) (x2 : Int32) (v3 : Int64) (u0 : Int32) : Option (Int32) :=
  (f_X6_holds v3 u0).bind (fun q1 =>
    (if q1 = 0 then
      (f_X6_holds (Rows_runningStamps St) u0).bind (fun q2 =>
        (if q2 = 0 then
          (f_X6_holds (Rows_doneStamps St) u0).bind (fun q3 =>
            (if q3 = 0 then
              some (0 : Int32)
              else
              some (2 : Int32)))
          else
          some (1 : Int32)))
      else
      some (0 : Int32)))
set_option maxHeartbeats 4000000 in
set_option maxRecDepth 100000 in
theorem w_X6_verdict_49 {p : Program} {e : Env} {s : State} {m : MethodId} {below : List Frame} {meth : Method} {c : Code} {A : Nat → Prop} {D : va_G} {cy : Nat → ClassId} {args : Array Value} {r : Int32} (l : Launch) (ht : Nat → Nat) (St : SRows) (x1 : Int32) (x2 : Int32) (C : zX p s m meth c cX6_verdict 7 args RX6 (some FieldType.int) A D (zty cy)) :
    ∀ (v3 : Int64) (u0 : Int32) (H : Heap) (locs : List Loc) (ls : Array Slot), b_X6_verdict_49 St x1 x2 v3 u0 = some r → va_P D vwCl (wRows ht cy St) H → va_D A (wRows ht cy St) → va_S A s.heap H locs → lv_has ls 7 [(0, .ref (ht 0)), (3, .long v3)] → W p l e (zRm 3 71) s m args below meth c H locs 0 0 (MQ below (zQI D (zty cy) A (wRows ht cy St) r) args s 0 0 A) (F0 m 49 ls [.int u0]) := by
  obtain ⟨hx, hb, hr, hts, hown, hlocks, hml, hA, hK⟩ := id C
  intro v3 u0 H locs ls hf hP hD hS hl
  refine lv_istore (lv' := [(6, .int u0), (0, .ref (ht 0)), (3, .long v3)]) hx hb dX6_verdict_49 hl (by decide) rfl (fun ls hl => ?_)
  refine lv_lload_n hx hb dX6_verdict_51 rfl (lv_at hl 2 rfl) ?_
  refine lv_iload hx hb dX6_verdict_52 (lv_at hl 0 rfl) ?_
  obtain ⟨q1, hc, hf⟩ := zbd hf
  refine z_cSiE (As := [.long v3, .int u0]) (rest := []) C (c_X6_holds l D cy v3 u0 q1 hc) gS_X6_X6_holds hd_X6_holds ⟨Nat.le_of_ble_eq_true rfl, Nat.le_of_ble_eq_true rfl⟩ ⟨Nat.le_refl _, Nat.le_refl _⟩ hP hD hS hl.1 (Nat.le_of_ble_eq_true rfl) dX6_verdict_54 (fun H locs hP hD hS => ?_)
  refine z_if_eq (tgt := 62) hx hb dX6_verdict_57 (by decide) hf (fun hf => ?_) (fun hf => ?_)
  · refine lv_aload_n hx hb dX6_verdict_62 rfl (lv_at hl 1 rfl) ?_
    refine va_get (D := D) (ci := 3) (v := .long (Rows_runningStamps St)) (C := RX6) (T := TX6) (N := 16) hx hb hts in_X6 hown hK hP 0 rfl rfl 6 (by decide) (hts _ q1_64) (fun _ h9 => h9) rfl dX6_verdict_63 ?_
    refine lv_iload hx hb dX6_verdict_66 (lv_at hl 0 rfl) ?_
    obtain ⟨q2, hc, hf⟩ := zbd hf
    refine z_cSiE (As := [.long (Rows_runningStamps St), .int u0]) (rest := []) C (c_X6_holds l D cy (Rows_runningStamps St) u0 q2 hc) gS_X6_X6_holds hd_X6_holds ⟨Nat.le_of_ble_eq_true rfl, Nat.le_of_ble_eq_true rfl⟩ ⟨Nat.le_refl _, Nat.le_refl _⟩ hP hD hS hl.1 (Nat.le_of_ble_eq_true rfl) dX6_verdict_68 (fun H locs hP hD hS => ?_)
    refine z_if_eq (tgt := 76) hx hb dX6_verdict_71 (by decide) hf (fun hf => ?_) (fun hf => ?_)
    · refine lv_aload_n hx hb dX6_verdict_76 rfl (lv_at hl 1 rfl) ?_
      refine va_get (D := D) (ci := 3) (v := .long (Rows_doneStamps St)) (C := RX6) (T := TX6) (N := 16) hx hb hts in_X6 hown hK hP 0 rfl rfl 7 (by decide) (hts _ q1_65) (fun _ h9 => h9) rfl dX6_verdict_77 ?_
      refine lv_iload hx hb dX6_verdict_80 (lv_at hl 0 rfl) ?_
      obtain ⟨q3, hc, hf⟩ := zbd hf
      refine z_cSiE (As := [.long (Rows_doneStamps St), .int u0]) (rest := []) C (c_X6_holds l D cy (Rows_doneStamps St) u0 q3 hc) gS_X6_X6_holds hd_X6_holds ⟨Nat.le_of_ble_eq_true rfl, Nat.le_of_ble_eq_true rfl⟩ ⟨Nat.le_refl _, Nat.le_refl _⟩ hP hD hS hl.1 (Nat.le_of_ble_eq_true rfl) dX6_verdict_82 (fun H locs hP hD hS => ?_)
      refine z_if_eq (tgt := 92) hx hb dX6_verdict_85 (by decide) hf (fun hf => ?_) (fun hf => ?_)
      · refine lv_iconst (v := (0 : Int32)) hx hb dX6_verdict_92 (by decide) ?_
        obtain rfl := Option.some.inj hf
        exact z_iret (v := (0 : Int32)) C hP hD hS dX6_verdict_93
      · refine lv_iconst (v := (2 : Int32)) hx hb dX6_verdict_88 (by decide) ?_
        refine lv_goto (tgt := 93) hx hb dX6_verdict_89 (by decide) ?_
        obtain rfl := Option.some.inj hf
        exact z_iret (v := (2 : Int32)) C hP hD hS dX6_verdict_93
    · refine lv_iconst (v := (1 : Int32)) hx hb dX6_verdict_74 (by decide) ?_
      obtain rfl := Option.some.inj hf
      exact z_iret (v := (1 : Int32)) C hP hD hS dX6_verdict_75
  · refine lv_iconst (v := (0 : Int32)) hx hb dX6_verdict_60 (by decide) ?_
    obtain rfl := Option.some.inj hf
    exact z_iret (v := (0 : Int32)) C hP hD hS dX6_verdict_61
def f_X6_verdict (St : SRows) (x1 : Int32) (x2 : Int32) : Option (Int32) :=
  (f_X6_hasLost St x1).bind (fun q4 =>
    (if q4 = 0 then
      (f_X6_countingFor St x1).bind (fun q5 =>
        (f_X6_versionSeen St x2 q5).bind (fun q6 =>
          (if q6 = (-2 : Int32) then
            (f_X6_lastNotGone St x2).bind (fun q8 =>
              (f_X6_fromOf St q8).bind (fun q9 =>
                (b_X6_verdict_49 St x1 x2 q5 q9)))
            else
            (f_X6_tillOf St q6).bind (fun q7 =>
              (b_X6_verdict_49 St x1 x2 q5 q7)))))
      else
      some (3 : Int32)))
set_option maxHeartbeats 4000000 in
set_option maxRecDepth 100000 in
theorem c_X6_verdict (l : Launch) (D : va_G) (cy : Nat → ClassId) (ht : Nat → Nat) (St : SRows) (x1 : Int32) (x2 : Int32) (r : Int32) (hf : f_X6_verdict St x1 x2 = some r) : zCI l yX6_verdict cX6_verdict 7 (some FieldType.int) 3 71 D (zty cy) [.ref (ht 0), .int x1, .int x2] (wRows ht cy St) (wRows ht cy St) r := by
  refine zCI_of (by decide +kernel) (Nat.le_of_ble_eq_true rfl) ?_
  intro p e s m below meth c A ls C hP hD hS hl
  generalize hargs : ([.ref (ht 0), .int x1, .int x2] : List Value).toArray = args at C ⊢
  have C : zX p s m meth c cX6_verdict 7 args RX6 (some FieldType.int) A D (zty cy) := C
  obtain ⟨hx, hb, hr, hts, hown, hlocks, hml, hA, hK⟩ := id C
  have hl : lv_has ls 7 [(0, .ref (ht 0)), (1, .int x1), (2, .int x2)] := hl
  generalize hH : s.heap = H at hP ⊢
  have hS : va_S A s.heap H [] := by rw [← hH]; exact hS
  generalize ([] : List Loc) = locs at hS ⊢
  refine lv_aload_n hx hb dX6_verdict_0 rfl (lv_at hl 0 rfl) ?_
  refine lv_iload_n hx hb dX6_verdict_1 rfl (lv_at hl 1 rfl) ?_
  obtain ⟨q4, hc, hf⟩ := zbd hf
  refine z_cVi0 (As := [.int x1]) (rest := []) C (c_X6_hasLost l D cy ht St x1 q4 hc) gV_X6_X6_hasLost hd_X6_hasLost ⟨Nat.le_of_ble_eq_true rfl, Nat.le_of_ble_eq_true rfl⟩ ⟨Nat.le_refl _, Nat.le_refl _⟩ (va_recv hK hP (ci := 3) (q0 := 0) rfl rfl) hP hD hS hl.1 (Nat.le_of_ble_eq_true rfl) dX6_verdict_2 (fun H locs hP hD hS => ?_)
  have hP : va_P D vwCl (wRows ht cy St) H := hP
  have hD : va_D A (wRows ht cy St) := hD
  refine z_if_eq (tgt := 10) hx hb dX6_verdict_5 (by decide) hf (fun hf => ?_) (fun hf => ?_)
  · refine lv_aload_n hx hb dX6_verdict_10 rfl (lv_at hl 0 rfl) ?_
    refine lv_iload_n hx hb dX6_verdict_11 rfl (lv_at hl 1 rfl) ?_
    obtain ⟨q5, hc, hf⟩ := zbd hf
    refine z_cVl0 (As := [.int x1]) (rest := []) C (c_X6_countingFor l D cy ht St x1 q5 hc) gV_X6_X6_countingFor hd_X6_countingFor ⟨Nat.le_of_ble_eq_true rfl, Nat.le_of_ble_eq_true rfl⟩ ⟨Nat.le_refl _, Nat.le_refl _⟩ (va_recv hK hP (ci := 3) (q0 := 0) rfl rfl) hP hD hS hl.1 (Nat.le_of_ble_eq_true rfl) dX6_verdict_12 (fun H locs hP hD hS => ?_)
    have hP : va_P D vwCl (wRows ht cy St) H := hP
    have hD : va_D A (wRows ht cy St) := hD
    refine lv_lstore_n (lv' := [(3, .long q5), (0, .ref (ht 0)), (1, .int x1), (2, .int x2)]) hx hb dX6_verdict_15 rfl hl (by decide) rfl (fun ls hl => ?_)
    refine lv_aload_n hx hb dX6_verdict_16 rfl (lv_at hl 1 rfl) ?_
    refine lv_iload_n hx hb dX6_verdict_17 rfl (lv_at hl 3 rfl) ?_
    refine lv_lload_n hx hb dX6_verdict_18 rfl (lv_at hl 0 rfl) ?_
    obtain ⟨q6, hc, hf⟩ := zbd hf
    refine z_cVi0 (As := [.int x2, .long q5]) (rest := []) C (c_X6_versionSeen l D cy ht St x2 q5 q6 hc) gV_X6_X6_versionSeen hd_X6_versionSeen ⟨Nat.le_of_ble_eq_true rfl, Nat.le_of_ble_eq_true rfl⟩ ⟨Nat.le_refl _, Nat.le_refl _⟩ (va_recv hK hP (ci := 3) (q0 := 0) rfl rfl) hP hD hS hl.1 (Nat.le_of_ble_eq_true rfl) dX6_verdict_19 (fun H locs hP hD hS => ?_)
    have hP : va_P D vwCl (wRows ht cy St) H := hP
    have hD : va_D A (wRows ht cy St) := hD
    refine lv_istore (lv' := [(5, .int q6), (3, .long q5), (0, .ref (ht 0)), (1, .int x1), (2, .int x2)]) hx hb dX6_verdict_22 hl (by decide) rfl (fun ls hl => ?_)
    refine lv_iload hx hb dX6_verdict_24 (lv_at hl 0 rfl) ?_
    refine lv_bipush (v := (-2 : Int32)) hx hb dX6_verdict_26 (by decide) ?_
    refine z_icmp_ne (tgt := 43) hx hb dX6_verdict_28 (by decide) hf (fun hf => ?_) (fun hf => ?_)
    · refine lv_aload_n hx hb dX6_verdict_43 rfl (lv_at hl 2 rfl) ?_
      refine lv_iload hx hb dX6_verdict_44 (lv_at hl 0 rfl) ?_
      obtain ⟨q7, hc, hf⟩ := zbd hf
      refine z_cVi0 (As := [.int q6]) (rest := []) C (c_X6_tillOf l D cy ht St q6 q7 hc) gV_X6_X6_tillOf hd_X6_tillOf ⟨Nat.le_of_ble_eq_true rfl, Nat.le_of_ble_eq_true rfl⟩ ⟨Nat.le_refl _, Nat.le_refl _⟩ (va_recv hK hP (ci := 3) (q0 := 0) rfl rfl) hP hD hS hl.1 (Nat.le_of_ble_eq_true rfl) dX6_verdict_46 (fun H locs hP hD hS => ?_)
      have hP : va_P D vwCl (wRows ht cy St) H := hP
      have hD : va_D A (wRows ht cy St) := hD
      exact w_X6_verdict_49 l ht St x1 x2 C q5 q7 H locs ls hf hP hD hS (lv_sub hl [2, 1] rfl)
    · refine lv_aload_n hx hb dX6_verdict_31 rfl (lv_at hl 2 rfl) ?_
      refine lv_aload_n hx hb dX6_verdict_32 rfl (lv_at hl 2 rfl) ?_
      refine lv_iload_n hx hb dX6_verdict_33 rfl (lv_at hl 4 rfl) ?_
      obtain ⟨q8, hc, hf⟩ := zbd hf
      refine z_cVi0 (As := [.int x2]) (rest := [.ref (ht 0)]) C (c_X6_lastNotGone l D cy ht St x2 q8 hc) gV_X6_X6_lastNotGone hd_X6_lastNotGone ⟨Nat.le_of_ble_eq_true rfl, Nat.le_of_ble_eq_true rfl⟩ ⟨Nat.le_refl _, Nat.le_refl _⟩ (va_recv hK hP (ci := 3) (q0 := 0) rfl rfl) hP hD hS hl.1 (Nat.le_of_ble_eq_true rfl) dX6_verdict_34 (fun H locs hP hD hS => ?_)
      have hP : va_P D vwCl (wRows ht cy St) H := hP
      have hD : va_D A (wRows ht cy St) := hD
      obtain ⟨q9, hc, hf⟩ := zbd hf
      refine z_cVi0 (As := [.int q8]) (rest := []) C (c_X6_fromOf l D cy ht St q8 q9 hc) gV_X6_X6_fromOf hd_X6_fromOf ⟨Nat.le_of_ble_eq_true rfl, Nat.le_of_ble_eq_true rfl⟩ ⟨Nat.le_refl _, Nat.le_refl _⟩ (va_recv hK hP (ci := 3) (q0 := 0) rfl rfl) hP hD hS hl.1 (Nat.le_of_ble_eq_true rfl) dX6_verdict_37 (fun H locs hP hD hS => ?_)
      have hP : va_P D vwCl (wRows ht cy St) H := hP
      have hD : va_D A (wRows ht cy St) := hD
      refine lv_goto (tgt := 49) hx hb dX6_verdict_40 (by decide) ?_
      exact w_X6_verdict_49 l ht St x1 x2 C q5 q9 H locs ls hf hP hD hS (lv_sub hl [2, 1] rfl)
  · refine lv_iconst (v := (3 : Int32)) hx hb dX6_verdict_8 (by decide) ?_
    obtain rfl := Option.some.inj hf
    exact z_iret (v := (3 : Int32)) C hP hD hS dX6_verdict_9
def f_X6_holder (St : SRows) (x1 : Int32) (x2 : Int32) : Option (Int32) :=
  (f_X6_verdict St x1 x2).bind (fun q1 =>
    (if q1 = (1 : Int32) then
      (f_X6_countingFor St x1).bind (fun q2 =>
        (f_X6_versionSeen St x2 q2).bind (fun q3 =>
          (if q3 = (-2 : Int32) then
            (f_X6_lastNotGone St x2).bind (fun q6 =>
              (f_X6_fromOf St q6).bind (fun q7 =>
                (f_X6_slotOf St q7).bind (fun q8 =>
                  some q8)))
            else
            (f_X6_tillOf St q3).bind (fun q4 =>
              (f_X6_slotOf St q4).bind (fun q5 =>
                some q5)))))
      else
      some (-2 : Int32)))
set_option maxHeartbeats 4000000 in
set_option maxRecDepth 100000 in
theorem c_X6_holder (l : Launch) (D : va_G) (cy : Nat → ClassId) (ht : Nat → Nat) (St : SRows) (x1 : Int32) (x2 : Int32) (r : Int32) (hf : f_X6_holder St x1 x2 = some r) : zCI l yX6_holder cX6_holder 4 (some FieldType.int) 4 97 D (zty cy) [.ref (ht 0), .int x1, .int x2] (wRows ht cy St) (wRows ht cy St) r := by
  refine zCI_of (by decide +kernel) (Nat.le_of_ble_eq_true rfl) ?_
  intro p e s m below meth c A ls C hP hD hS hl
  generalize hargs : ([.ref (ht 0), .int x1, .int x2] : List Value).toArray = args at C ⊢
  have C : zX p s m meth c cX6_holder 4 args RX6 (some FieldType.int) A D (zty cy) := C
  obtain ⟨hx, hb, hr, hts, hown, hlocks, hml, hA, hK⟩ := id C
  have hl : lv_has ls 4 [(0, .ref (ht 0)), (1, .int x1), (2, .int x2)] := hl
  generalize hH : s.heap = H at hP ⊢
  have hS : va_S A s.heap H [] := by rw [← hH]; exact hS
  generalize ([] : List Loc) = locs at hS ⊢
  refine lv_aload_n hx hb dX6_holder_0 rfl (lv_at hl 0 rfl) ?_
  refine lv_iload_n hx hb dX6_holder_1 rfl (lv_at hl 1 rfl) ?_
  refine lv_iload_n hx hb dX6_holder_2 rfl (lv_at hl 2 rfl) ?_
  obtain ⟨q1, hc, hf⟩ := zbd hf
  refine z_cVi0 (As := [.int x1, .int x2]) (rest := []) C (c_X6_verdict l D cy ht St x1 x2 q1 hc) gV_X6_X6_verdict hd_X6_verdict ⟨Nat.le_of_ble_eq_true rfl, Nat.le_of_ble_eq_true rfl⟩ ⟨Nat.le_refl _, Nat.le_refl _⟩ (va_recv hK hP (ci := 3) (q0 := 0) rfl rfl) hP hD hS hl.1 (Nat.le_of_ble_eq_true rfl) dX6_holder_3 (fun H locs hP hD hS => ?_)
  have hP : va_P D vwCl (wRows ht cy St) H := hP
  have hD : va_D A (wRows ht cy St) := hD
  refine lv_iconst (v := (1 : Int32)) hx hb dX6_holder_6 (by decide) ?_
  refine z_icmp_eq (tgt := 13) hx hb dX6_holder_7 (by decide) hf (fun hf => ?_) (fun hf => ?_)
  · refine lv_aload_n hx hb dX6_holder_13 rfl (lv_at hl 0 rfl) ?_
    refine lv_iload_n hx hb dX6_holder_14 rfl (lv_at hl 2 rfl) ?_
    refine lv_aload_n hx hb dX6_holder_15 rfl (lv_at hl 0 rfl) ?_
    refine lv_iload_n hx hb dX6_holder_16 rfl (lv_at hl 1 rfl) ?_
    obtain ⟨q2, hc, hf⟩ := zbd hf
    refine z_cVl0 (As := [.int x1]) (rest := [.int x2, .ref (ht 0)]) C (c_X6_countingFor l D cy ht St x1 q2 hc) gV_X6_X6_countingFor hd_X6_countingFor ⟨Nat.le_of_ble_eq_true rfl, Nat.le_of_ble_eq_true rfl⟩ ⟨Nat.le_refl _, Nat.le_refl _⟩ (va_recv hK hP (ci := 3) (q0 := 0) rfl rfl) hP hD hS hl.1 (Nat.le_of_ble_eq_true rfl) dX6_holder_17 (fun H locs hP hD hS => ?_)
    have hP : va_P D vwCl (wRows ht cy St) H := hP
    have hD : va_D A (wRows ht cy St) := hD
    obtain ⟨q3, hc, hf⟩ := zbd hf
    refine z_cVi0 (As := [.int x2, .long q2]) (rest := []) C (c_X6_versionSeen l D cy ht St x2 q2 q3 hc) gV_X6_X6_versionSeen hd_X6_versionSeen ⟨Nat.le_of_ble_eq_true rfl, Nat.le_of_ble_eq_true rfl⟩ ⟨Nat.le_refl _, Nat.le_refl _⟩ (va_recv hK hP (ci := 3) (q0 := 0) rfl rfl) hP hD hS hl.1 (Nat.le_of_ble_eq_true rfl) dX6_holder_20 (fun H locs hP hD hS => ?_)
    have hP : va_P D vwCl (wRows ht cy St) H := hP
    have hD : va_D A (wRows ht cy St) := hD
    refine lv_istore_n (lv' := [(3, .int q3), (0, .ref (ht 0)), (1, .int x1), (2, .int x2)]) hx hb dX6_holder_23 rfl hl (by decide) rfl (fun ls hl => ?_)
    refine lv_aload_n hx hb dX6_holder_24 rfl (lv_at hl 1 rfl) ?_
    refine lv_iload_n hx hb dX6_holder_25 rfl (lv_at hl 0 rfl) ?_
    refine lv_bipush (v := (-2 : Int32)) hx hb dX6_holder_26 (by decide) ?_
    refine z_icmp_ne (tgt := 43) hx hb dX6_holder_28 (by decide) hf (fun hf => ?_) (fun hf => ?_)
    · refine lv_aload_n hx hb dX6_holder_43 rfl (lv_at hl 1 rfl) ?_
      refine lv_iload_n hx hb dX6_holder_44 rfl (lv_at hl 0 rfl) ?_
      obtain ⟨q4, hc, hf⟩ := zbd hf
      refine z_cVi0 (As := [.int q3]) (rest := [.ref (ht 0)]) C (c_X6_tillOf l D cy ht St q3 q4 hc) gV_X6_X6_tillOf hd_X6_tillOf ⟨Nat.le_of_ble_eq_true rfl, Nat.le_of_ble_eq_true rfl⟩ ⟨Nat.le_refl _, Nat.le_refl _⟩ (va_recv hK hP (ci := 3) (q0 := 0) rfl rfl) hP hD hS hl.1 (Nat.le_of_ble_eq_true rfl) dX6_holder_45 (fun H locs hP hD hS => ?_)
      have hP : va_P D vwCl (wRows ht cy St) H := hP
      have hD : va_D A (wRows ht cy St) := hD
      obtain ⟨q5, hc, hf⟩ := zbd hf
      refine z_cVi0 (As := [.int q4]) (rest := []) C (c_X6_slotOf l D cy ht St q4 q5 hc) gV_X6_X6_slotOf hd_X6_slotOf ⟨Nat.le_of_ble_eq_true rfl, Nat.le_of_ble_eq_true rfl⟩ ⟨Nat.le_refl _, Nat.le_refl _⟩ (va_recv hK hP (ci := 3) (q0 := 0) rfl rfl) hP hD hS hl.1 (Nat.le_of_ble_eq_true rfl) dX6_holder_48 (fun H locs hP hD hS => ?_)
      have hP : va_P D vwCl (wRows ht cy St) H := hP
      have hD : va_D A (wRows ht cy St) := hD
      obtain rfl := Option.some.inj hf
      exact z_iret (v := q5) C hP hD hS dX6_holder_51
    · refine lv_aload_n hx hb dX6_holder_31 rfl (lv_at hl 1 rfl) ?_
      refine lv_aload_n hx hb dX6_holder_32 rfl (lv_at hl 1 rfl) ?_
      refine lv_iload_n hx hb dX6_holder_33 rfl (lv_at hl 3 rfl) ?_
      obtain ⟨q6, hc, hf⟩ := zbd hf
      refine z_cVi0 (As := [.int x2]) (rest := [.ref (ht 0), .ref (ht 0)]) C (c_X6_lastNotGone l D cy ht St x2 q6 hc) gV_X6_X6_lastNotGone hd_X6_lastNotGone ⟨Nat.le_of_ble_eq_true rfl, Nat.le_of_ble_eq_true rfl⟩ ⟨Nat.le_refl _, Nat.le_refl _⟩ (va_recv hK hP (ci := 3) (q0 := 0) rfl rfl) hP hD hS hl.1 (Nat.le_of_ble_eq_true rfl) dX6_holder_34 (fun H locs hP hD hS => ?_)
      have hP : va_P D vwCl (wRows ht cy St) H := hP
      have hD : va_D A (wRows ht cy St) := hD
      obtain ⟨q7, hc, hf⟩ := zbd hf
      refine z_cVi0 (As := [.int q6]) (rest := [.ref (ht 0)]) C (c_X6_fromOf l D cy ht St q6 q7 hc) gV_X6_X6_fromOf hd_X6_fromOf ⟨Nat.le_of_ble_eq_true rfl, Nat.le_of_ble_eq_true rfl⟩ ⟨Nat.le_refl _, Nat.le_refl _⟩ (va_recv hK hP (ci := 3) (q0 := 0) rfl rfl) hP hD hS hl.1 (Nat.le_of_ble_eq_true rfl) dX6_holder_37 (fun H locs hP hD hS => ?_)
      have hP : va_P D vwCl (wRows ht cy St) H := hP
      have hD : va_D A (wRows ht cy St) := hD
      refine lv_goto (tgt := 48) hx hb dX6_holder_40 (by decide) ?_
      obtain ⟨q8, hc, hf⟩ := zbd hf
      refine z_cVi0 (As := [.int q7]) (rest := []) C (c_X6_slotOf l D cy ht St q7 q8 hc) gV_X6_X6_slotOf hd_X6_slotOf ⟨Nat.le_of_ble_eq_true rfl, Nat.le_of_ble_eq_true rfl⟩ ⟨Nat.le_refl _, Nat.le_refl _⟩ (va_recv hK hP (ci := 3) (q0 := 0) rfl rfl) hP hD hS hl.1 (Nat.le_of_ble_eq_true rfl) dX6_holder_48 (fun H locs hP hD hS => ?_)
      have hP : va_P D vwCl (wRows ht cy St) H := hP
      have hD : va_D A (wRows ht cy St) := hD
      obtain rfl := Option.some.inj hf
      exact z_iret (v := q8) C hP hD hS dX6_holder_51
  · refine lv_bipush (v := (-2 : Int32)) hx hb dX6_holder_10 (by decide) ?_
    obtain rfl := Option.some.inj hf
    exact z_iret (v := (-2 : Int32)) C hP hD hS dX6_holder_12
def b_X6_rowsWithVerdict_5 (St : SRows) (x1 : Int32) (x2 : Int32) (k5 : Int32 → Int32 → Option (Int32)) (v3 : Int32) (v4 : Int32) : Option (Int32) :=
  (if (Rows_rowCount St) ≤ v4 then
    some v3
    else
    (f_X6_verdict St x1 v4).bind (fun q1 =>
      (if q1 = x2 then
        (k5 (v3 ||| ((1 : Int32) <<< (v4 &&& 31))) (v4 + (1 : Int32)))
        else
        (k5 v3 (v4 + (1 : Int32))))))
set_option maxHeartbeats 4000000 in
set_option maxRecDepth 100000 in
theorem w_X6_rowsWithVerdict_5 {p : Program} {e : Env} {s : State} {m : MethodId} {below : List Frame} {meth : Method} {c : Code} {A : Nat → Prop} {D : va_G} {cy : Nat → ClassId} {args : Array Value} {r : Int32} (l : Launch) (ht : Nat → Nat) (St : SRows) (x1 : Int32) (x2 : Int32) (C : zX p s m meth c cX6_rowsWithVerdict 5 args RX6 (some FieldType.int) A D (zty cy)) :
    ∀ (n : Nat) (v3 : Int32) (v4 : Int32) (H : Heap) (locs : List Loc) (ls : Array Slot), zl2 (b_X6_rowsWithVerdict_5 St x1 x2) n v3 v4 = some r → va_P D vwCl (wRows ht cy St) H → va_D A (wRows ht cy St) → va_S A s.heap H locs → lv_has ls 5 [(0, .ref (ht 0)), (1, .int x1), (2, .int x2), (3, .int v3), (4, .int v4)] → W p l e (zRm 4 97) s m args below meth c H locs 0 0 (MQ below (zQI D (zty cy) A (wRows ht cy St) r) args s 0 0 A) (F0 m 5 ls []) := by
  obtain ⟨hx, hb, hr, hts, hown, hlocks, hml, hA, hK⟩ := id C
  intro n
  induction n with
  | zero => intro v3 v4 H locs ls hf; exact zno hf
  | succ n ih =>
    intro v3 v4 H locs ls hf hP hD hS hl
    have hf : b_X6_rowsWithVerdict_5 St x1 x2 (zl2 (b_X6_rowsWithVerdict_5 St x1 x2) n) v3 v4 = some r := hf
    have K5 := ih
    refine lv_iload hx hb dX6_rowsWithVerdict_5 (lv_at hl 4 rfl) ?_
    refine lv_aload_n hx hb dX6_rowsWithVerdict_7 rfl (lv_at hl 0 rfl) ?_
    refine va_get (D := D) (ci := 3) (v := .int (Rows_rowCount St)) (C := RX6) (T := TX6) (N := 16) hx hb hts in_X6 hown hK hP 0 rfl rfl 1 (by decide) (hts _ q1_52) (fun _ h9 => h9) rfl dX6_rowsWithVerdict_8 ?_
    refine z_icmp_ge (tgt := 38) hx hb dX6_rowsWithVerdict_11 (by decide) hf (fun hf => ?_) (fun hf => ?_)
    · refine lv_iload_n hx hb dX6_rowsWithVerdict_38 rfl (lv_at hl 3 rfl) ?_
      obtain rfl := Option.some.inj hf
      exact z_iret (v := v3) C hP hD hS dX6_rowsWithVerdict_39
    · refine lv_aload_n hx hb dX6_rowsWithVerdict_14 rfl (lv_at hl 0 rfl) ?_
      refine lv_iload_n hx hb dX6_rowsWithVerdict_15 rfl (lv_at hl 1 rfl) ?_
      refine lv_iload hx hb dX6_rowsWithVerdict_16 (lv_at hl 4 rfl) ?_
      obtain ⟨q1, hc, hf⟩ := zbd hf
      refine z_cVi0 (As := [.int x1, .int v4]) (rest := []) C (c_X6_verdict l D cy ht St x1 v4 q1 hc) gV_X6_X6_verdict hd_X6_verdict ⟨Nat.le_of_ble_eq_true rfl, Nat.le_of_ble_eq_true rfl⟩ ⟨Nat.le_refl _, Nat.le_refl _⟩ (va_recv hK hP (ci := 3) (q0 := 0) rfl rfl) hP hD hS hl.1 (Nat.le_of_ble_eq_true rfl) dX6_rowsWithVerdict_18 (fun H locs hP hD hS => ?_)
      have hP : va_P D vwCl (wRows ht cy St) H := hP
      have hD : va_D A (wRows ht cy St) := hD
      refine lv_iload_n hx hb dX6_rowsWithVerdict_21 rfl (lv_at hl 2 rfl) ?_
      refine z_icmp_ne (tgt := 32) hx hb dX6_rowsWithVerdict_22 (by decide) hf (fun hf => ?_) (fun hf => ?_)
      · refine lv_iinc (v := (v4 + (1 : Int32))) (lv' := [(4, .int (v4 + (1 : Int32))), (0, .ref (ht 0)), (1, .int x1), (2, .int x2), (3, .int v3)]) hx hb dX6_rowsWithVerdict_32 hl (k := 4) rfl rfl (by decide) rfl (fun ls hl => ?_)
        refine lv_goto (tgt := 5) hx hb dX6_rowsWithVerdict_35 (by decide) ?_
        exact K5 v3 (v4 + (1 : Int32)) H locs ls hf hP hD hS (lv_sub hl [1, 2, 3, 4, 0] rfl)
      · refine lv_iload_n hx hb dX6_rowsWithVerdict_25 rfl (lv_at hl 3 rfl) ?_
        refine lv_iconst (v := (1 : Int32)) hx hb dX6_rowsWithVerdict_26 (by decide) ?_
        refine lv_iload hx hb dX6_rowsWithVerdict_27 (lv_at hl 4 rfl) ?_
        refine lv_ishl hx hb dX6_rowsWithVerdict_29 ?_
        refine lv_ior hx hb dX6_rowsWithVerdict_30 ?_
        refine lv_istore_n (lv' := [(3, .int (v3 ||| ((1 : Int32) <<< (v4 &&& 31)))), (0, .ref (ht 0)), (1, .int x1), (2, .int x2), (4, .int v4)]) hx hb dX6_rowsWithVerdict_31 rfl hl (by decide) rfl (fun ls hl => ?_)
        refine lv_iinc (v := (v4 + (1 : Int32))) (lv' := [(4, .int (v4 + (1 : Int32))), (3, .int (v3 ||| ((1 : Int32) <<< (v4 &&& 31)))), (0, .ref (ht 0)), (1, .int x1), (2, .int x2)]) hx hb dX6_rowsWithVerdict_32 hl (k := 4) rfl rfl (by decide) rfl (fun ls hl => ?_)
        refine lv_goto (tgt := 5) hx hb dX6_rowsWithVerdict_35 (by decide) ?_
        exact K5 (v3 ||| ((1 : Int32) <<< (v4 &&& 31))) (v4 + (1 : Int32)) H locs ls hf hP hD hS (lv_sub hl [2, 3, 4, 1, 0] rfl)
def f_X6_rowsWithVerdict (St : SRows) (x1 : Int32) (x2 : Int32) : Option (Int32) :=
  (zl2 (b_X6_rowsWithVerdict_5 St x1 x2) FU (0 : Int32) (0 : Int32))
set_option maxHeartbeats 4000000 in
set_option maxRecDepth 100000 in
theorem c_X6_rowsWithVerdict (l : Launch) (D : va_G) (cy : Nat → ClassId) (ht : Nat → Nat) (St : SRows) (x1 : Int32) (x2 : Int32) (r : Int32) (hf : f_X6_rowsWithVerdict St x1 x2 = some r) : zCI l yX6_rowsWithVerdict cX6_rowsWithVerdict 5 (some FieldType.int) 4 97 D (zty cy) [.ref (ht 0), .int x1, .int x2] (wRows ht cy St) (wRows ht cy St) r := by
  refine zCI_of (by decide +kernel) (Nat.le_of_ble_eq_true rfl) ?_
  intro p e s m below meth c A ls C hP hD hS hl
  generalize hargs : ([.ref (ht 0), .int x1, .int x2] : List Value).toArray = args at C ⊢
  have C : zX p s m meth c cX6_rowsWithVerdict 5 args RX6 (some FieldType.int) A D (zty cy) := C
  obtain ⟨hx, hb, hr, hts, hown, hlocks, hml, hA, hK⟩ := id C
  have hl : lv_has ls 5 [(0, .ref (ht 0)), (1, .int x1), (2, .int x2)] := hl
  generalize hH : s.heap = H at hP ⊢
  have hS : va_S A s.heap H [] := by rw [← hH]; exact hS
  generalize ([] : List Loc) = locs at hS ⊢
  refine lv_iconst (v := (0 : Int32)) hx hb dX6_rowsWithVerdict_0 (by decide) ?_
  refine lv_istore_n (lv' := [(3, .int (0 : Int32)), (0, .ref (ht 0)), (1, .int x1), (2, .int x2)]) hx hb dX6_rowsWithVerdict_1 rfl hl (by decide) rfl (fun ls hl => ?_)
  refine lv_iconst (v := (0 : Int32)) hx hb dX6_rowsWithVerdict_2 (by decide) ?_
  refine lv_istore (lv' := [(4, .int (0 : Int32)), (3, .int (0 : Int32)), (0, .ref (ht 0)), (1, .int x1), (2, .int x2)]) hx hb dX6_rowsWithVerdict_3 hl (by decide) rfl (fun ls hl => ?_)
  exact w_X6_rowsWithVerdict_5 l ht St x1 x2 C FU (0 : Int32) (0 : Int32) H locs ls hf hP hD hS (lv_sub hl [2, 3, 4, 1, 0] rfl)
def f_X6_canBegin (St : SRows) : Option (Int32) :=
  (f_X6_firstFreeSlot St).bind (fun q1 =>
    (if q1 = (-2 : Int32) then
      some (0 : Int32)
      else
      (f_X6_inUse St).bind (fun q2 =>
        (f_X6_greatestAge St q2).bind (fun q3 =>
          (if ((Rows_ring St) / (2 : Int32)) ≤ q3 then
            some (0 : Int32)
            else
            some (1 : Int32))))))
set_option maxHeartbeats 4000000 in
set_option maxRecDepth 100000 in
theorem c_X6_canBegin (l : Launch) (D : va_G) (cy : Nat → ClassId) (ht : Nat → Nat) (St : SRows) (r : Int32) (hf : f_X6_canBegin St = some r) : zCI l yX6_canBegin cX6_canBegin 1 (some FieldType.boolean) 2 64 D (zty cy) [.ref (ht 0)] (wRows ht cy St) (wRows ht cy St) r := by
  refine zCI_of (by decide +kernel) (Nat.le_of_ble_eq_true rfl) ?_
  intro p e s m below meth c A ls C hP hD hS hl
  generalize hargs : ([.ref (ht 0)] : List Value).toArray = args at C ⊢
  have C : zX p s m meth c cX6_canBegin 1 args RX6 (some FieldType.boolean) A D (zty cy) := C
  obtain ⟨hx, hb, hr, hts, hown, hlocks, hml, hA, hK⟩ := id C
  have hl : lv_has ls 1 [(0, .ref (ht 0))] := hl
  generalize hH : s.heap = H at hP ⊢
  have hS : va_S A s.heap H [] := by rw [← hH]; exact hS
  generalize ([] : List Loc) = locs at hS ⊢
  refine lv_aload_n hx hb dX6_canBegin_0 rfl (lv_at hl 0 rfl) ?_
  obtain ⟨q1, hc, hf⟩ := zbd hf
  refine z_cVi0 (As := []) (rest := []) C (c_X6_firstFreeSlot l D cy ht St q1 hc) gV_X6_X6_firstFreeSlot hd_X6_firstFreeSlot ⟨Nat.le_of_ble_eq_true rfl, Nat.le_of_ble_eq_true rfl⟩ ⟨Nat.le_refl _, Nat.le_refl _⟩ (va_recv hK hP (ci := 3) (q0 := 0) rfl rfl) hP hD hS hl.1 (Nat.le_of_ble_eq_true rfl) dX6_canBegin_1 (fun H locs hP hD hS => ?_)
  have hP : va_P D vwCl (wRows ht cy St) H := hP
  have hD : va_D A (wRows ht cy St) := hD
  refine lv_bipush (v := (-2 : Int32)) hx hb dX6_canBegin_4 (by decide) ?_
  refine z_icmp_eq (tgt := 30) hx hb dX6_canBegin_6 (by decide) hf (fun hf => ?_) (fun hf => ?_)
  · refine lv_iconst (v := (0 : Int32)) hx hb dX6_canBegin_30 (by decide) ?_
    obtain rfl := Option.some.inj hf
    exact z_zret (v := (0 : Int32)) C rfl hP hD hS dX6_canBegin_31
  · refine lv_aload_n hx hb dX6_canBegin_9 rfl (lv_at hl 0 rfl) ?_
    refine lv_aload_n hx hb dX6_canBegin_10 rfl (lv_at hl 0 rfl) ?_
    obtain ⟨q2, hc, hf⟩ := zbd hf
    refine z_cVl0 (As := []) (rest := [.ref (ht 0)]) C (c_X6_inUse l D cy ht St q2 hc) gV_X6_X6_inUse hd_X6_inUse ⟨Nat.le_of_ble_eq_true rfl, Nat.le_of_ble_eq_true rfl⟩ ⟨Nat.le_refl _, Nat.le_refl _⟩ (va_recv hK hP (ci := 3) (q0 := 0) rfl rfl) hP hD hS hl.1 (Nat.le_of_ble_eq_true rfl) dX6_canBegin_11 (fun H locs hP hD hS => ?_)
    have hP : va_P D vwCl (wRows ht cy St) H := hP
    have hD : va_D A (wRows ht cy St) := hD
    obtain ⟨q3, hc, hf⟩ := zbd hf
    refine z_cVi0 (As := [.long q2]) (rest := []) C (c_X6_greatestAge l D cy ht St q2 q3 hc) gV_X6_X6_greatestAge hd_X6_greatestAge ⟨Nat.le_of_ble_eq_true rfl, Nat.le_of_ble_eq_true rfl⟩ ⟨Nat.le_refl _, Nat.le_refl _⟩ (va_recv hK hP (ci := 3) (q0 := 0) rfl rfl) hP hD hS hl.1 (Nat.le_of_ble_eq_true rfl) dX6_canBegin_14 (fun H locs hP hD hS => ?_)
    have hP : va_P D vwCl (wRows ht cy St) H := hP
    have hD : va_D A (wRows ht cy St) := hD
    refine lv_aload_n hx hb dX6_canBegin_17 rfl (lv_at hl 0 rfl) ?_
    refine va_get (D := D) (ci := 3) (v := .int (Rows_ring St)) (C := RX6) (T := TX6) (N := 16) hx hb hts in_X6 hown hK hP 0 rfl rfl 0 (by decide) (hts _ q1_49) (fun _ h9 => h9) rfl dX6_canBegin_18 ?_
    refine lv_iconst (v := (2 : Int32)) hx hb dX6_canBegin_21 (by decide) ?_
    refine lv_idiv hx hb dX6_canBegin_22 (by decide) ?_
    refine z_icmp_ge (tgt := 30) hx hb dX6_canBegin_23 (by decide) hf (fun hf => ?_) (fun hf => ?_)
    · refine lv_iconst (v := (0 : Int32)) hx hb dX6_canBegin_30 (by decide) ?_
      obtain rfl := Option.some.inj hf
      exact z_zret (v := (0 : Int32)) C rfl hP hD hS dX6_canBegin_31
    · refine lv_iconst (v := (1 : Int32)) hx hb dX6_canBegin_26 (by decide) ?_
      refine lv_goto (tgt := 31) hx hb dX6_canBegin_27 (by decide) ?_
      obtain rfl := Option.some.inj hf
      exact z_zret (v := (1 : Int32)) C rfl hP hD hS dX6_canBegin_31
def f_X6_beginWriter (St : SRows) : Option (Int32 × SRows) :=
  (f_X6_firstFreeSlot St).bind (fun q1 =>
    (if q1 = (-2 : Int32) then
      some ((-2 : Int32), St)
      else
      (if zib q1 6 then (if zib q1 6 then (if (Rows_ring St) ≤ ((Rows_nextStamp St) + (1 : Int32)) then
            some (q1, (mkRows (Rows_ring St) (Rows_rowCount St) (Rows_crash St) (0 : Int32) (Rows_count St) ((Rows_lostSlots St) &&& (((1 : Int32) <<< (q1 &&& 31)) ^^^ (-1 : Int32))) ((Rows_runningStamps St) ||| (jlshl (1 : Int64) (Rows_nextStamp St))) ((Rows_doneStamps St) &&& ((jlshl (1 : Int64) (Rows_nextStamp St)) ^^^ (-1 : Int64))) ((Rows_goneStamps St) &&& ((jlshl (1 : Int64) (Rows_nextStamp St)) ^^^ (-1 : Int64))) (upd (Rows_stamps St) q1.toNatClampNeg (Rows_nextStamp St)) (vp_updL (Rows_held St) q1.toNatClampNeg ((Rows_runningStamps St) ||| (jlshl (1 : Int64) (Rows_nextStamp St)))) (Rows_rowsOf St) (Rows_values St) (Rows_froms St) (Rows_tills St) (Rows_made St)))
            else
            some (q1, (mkRows (Rows_ring St) (Rows_rowCount St) (Rows_crash St) ((Rows_nextStamp St) + (1 : Int32)) (Rows_count St) ((Rows_lostSlots St) &&& (((1 : Int32) <<< (q1 &&& 31)) ^^^ (-1 : Int32))) ((Rows_runningStamps St) ||| (jlshl (1 : Int64) (Rows_nextStamp St))) ((Rows_doneStamps St) &&& ((jlshl (1 : Int64) (Rows_nextStamp St)) ^^^ (-1 : Int64))) ((Rows_goneStamps St) &&& ((jlshl (1 : Int64) (Rows_nextStamp St)) ^^^ (-1 : Int64))) (upd (Rows_stamps St) q1.toNatClampNeg (Rows_nextStamp St)) (vp_updL (Rows_held St) q1.toNatClampNeg ((Rows_runningStamps St) ||| (jlshl (1 : Int64) (Rows_nextStamp St)))) (Rows_rowsOf St) (Rows_values St) (Rows_froms St) (Rows_tills St) (Rows_made St)))) else none) else none)))
set_option maxHeartbeats 4000000 in
set_option maxRecDepth 100000 in
theorem c_X6_beginWriter (l : Launch) (D : va_G) (cy : Nat → ClassId) (ht : Nat → Nat) (St : SRows) (r : Int32 × SRows) (hf : f_X6_beginWriter St = some r) : zCI l yX6_beginWriter cX6_beginWriter 4 (some FieldType.int) 1 21 D (zty cy) [.ref (ht 0)] (wRows ht cy St) (wRows ht cy r.2) r.1 := by
  refine zCI_of (by decide +kernel) (Nat.le_of_ble_eq_true rfl) ?_
  intro p e s m below meth c A ls C hP hD hS hl
  generalize hargs : ([.ref (ht 0)] : List Value).toArray = args at C ⊢
  have C : zX p s m meth c cX6_beginWriter 4 args RX6 (some FieldType.int) A D (zty cy) := C
  obtain ⟨hx, hb, hr, hts, hown, hlocks, hml, hA, hK⟩ := id C
  have hl : lv_has ls 4 [(0, .ref (ht 0))] := hl
  generalize hH : s.heap = H at hP ⊢
  have hS : va_S A s.heap H [] := by rw [← hH]; exact hS
  generalize ([] : List Loc) = locs at hS ⊢
  refine lv_aload_n hx hb dX6_beginWriter_0 rfl (lv_at hl 0 rfl) ?_
  obtain ⟨q1, hc, hf⟩ := zbd hf
  refine z_cVi0 (As := []) (rest := []) C (c_X6_firstFreeSlot l D cy ht St q1 hc) gV_X6_X6_firstFreeSlot hd_X6_firstFreeSlot ⟨Nat.le_of_ble_eq_true rfl, Nat.le_of_ble_eq_true rfl⟩ ⟨Nat.le_refl _, Nat.le_refl _⟩ (va_recv hK hP (ci := 3) (q0 := 0) rfl rfl) hP hD hS hl.1 (Nat.le_of_ble_eq_true rfl) dX6_beginWriter_1 (fun H locs hP hD hS => ?_)
  have hP : va_P D vwCl (wRows ht cy St) H := hP
  have hD : va_D A (wRows ht cy St) := hD
  refine lv_istore_n (lv' := [(1, .int q1), (0, .ref (ht 0))]) hx hb dX6_beginWriter_4 rfl hl (by decide) rfl (fun ls hl => ?_)
  refine lv_iload_n hx hb dX6_beginWriter_5 rfl (lv_at hl 0 rfl) ?_
  refine lv_bipush (v := (-2 : Int32)) hx hb dX6_beginWriter_6 (by decide) ?_
  refine z_icmp_ne (tgt := 14) hx hb dX6_beginWriter_8 (by decide) hf (fun hf => ?_) (fun hf => ?_)
  · refine lv_lconst (v := (1 : Int64)) hx hb dX6_beginWriter_14 (by decide) ?_
    refine lv_aload_n hx hb dX6_beginWriter_15 rfl (lv_at hl 1 rfl) ?_
    refine va_get (D := D) (ci := 3) (v := .int (Rows_nextStamp St)) (C := RX6) (T := TX6) (N := 16) hx hb hts in_X6 hown hK hP 0 rfl rfl 3 (by decide) (hts _ q1_58) (fun _ h9 => h9) rfl dX6_beginWriter_16 ?_
    refine lv_lshl (v := (jlshl (1 : Int64) (Rows_nextStamp St))) hx hb dX6_beginWriter_19 rfl ?_
    refine lv_lstore_n (lv' := [(2, .long (jlshl (1 : Int64) (Rows_nextStamp St))), (1, .int q1), (0, .ref (ht 0))]) hx hb dX6_beginWriter_20 rfl hl (by decide) rfl (fun ls hl => ?_)
    refine lv_aload_n hx hb dX6_beginWriter_21 rfl (lv_at hl 2 rfl) ?_
    refine va_get (D := D) (ci := 3) (v := .ref (ht 2)) (C := RX6) (T := TX6) (N := 16) hx hb hts in_X6 hown hK hP 0 rfl rfl 10 (by decide) (hts _ q1_68) (fun _ h9 => h9) rfl dX6_beginWriter_22 ?_
    refine lv_iload_n hx hb dX6_beginWriter_25 rfl (lv_at hl 1 rfl) ?_
    refine lv_aload_n hx hb dX6_beginWriter_26 rfl (lv_at hl 2 rfl) ?_
    refine va_get (D := D) (ci := 3) (v := .long (Rows_runningStamps St)) (C := RX6) (T := TX6) (N := 16) hx hb hts in_X6 hown hK hP 0 rfl rfl 6 (by decide) (hts _ q1_64) (fun _ h9 => h9) rfl dX6_beginWriter_27 ?_
    refine lv_lload_n hx hb dX6_beginWriter_30 rfl (lv_at hl 0 rfl) ?_
    refine lv_lor hx hb dX6_beginWriter_31 ?_
    refine z_last (f := (Rows_held St)) (w2 := vRows ht cy (Rows_ring St) (Rows_rowCount St) (Rows_crash St) (Rows_nextStamp St) (Rows_count St) (Rows_lostSlots St) (Rows_runningStamps St) (Rows_doneStamps St) (Rows_goneStamps St) (Rows_stamps St) (vp_updL (Rows_held St) q1.toNatClampNeg ((Rows_runningStamps St) ||| (jlshl (1 : Int64) (Rows_nextStamp St)))) (Rows_rowsOf St) (Rows_values St) (Rows_froms St) (Rows_tills St) (Rows_made St)) hx hb hK hP hD hS 2 1 rfl rfl dX6_beginWriter_32 hf rfl (fun hf H locs hP hD hS => ?_)
    refine lv_aload_n hx hb dX6_beginWriter_33 rfl (lv_at hl 2 rfl) ?_
    refine va_get (D := D) (ci := 3) (v := .ref (ht 1)) (C := RX6) (T := TX6) (N := 16) hx hb hts in_X6 hown hK hP 0 rfl rfl 9 (by decide) (hts _ q1_67) (fun _ h9 => h9) rfl dX6_beginWriter_34 ?_
    refine lv_iload_n hx hb dX6_beginWriter_37 rfl (lv_at hl 1 rfl) ?_
    refine lv_aload_n hx hb dX6_beginWriter_38 rfl (lv_at hl 2 rfl) ?_
    refine va_get (D := D) (ci := 3) (v := .int (Rows_nextStamp St)) (C := RX6) (T := TX6) (N := 16) hx hb hts in_X6 hown hK hP 0 rfl rfl 3 (by decide) (hts _ q1_58) (fun _ h9 => h9) rfl dX6_beginWriter_39 ?_
    refine z_iast (f := (Rows_stamps St)) (w2 := vRows ht cy (Rows_ring St) (Rows_rowCount St) (Rows_crash St) (Rows_nextStamp St) (Rows_count St) (Rows_lostSlots St) (Rows_runningStamps St) (Rows_doneStamps St) (Rows_goneStamps St) (upd (Rows_stamps St) q1.toNatClampNeg (Rows_nextStamp St)) (vp_updL (Rows_held St) q1.toNatClampNeg ((Rows_runningStamps St) ||| (jlshl (1 : Int64) (Rows_nextStamp St)))) (Rows_rowsOf St) (Rows_values St) (Rows_froms St) (Rows_tills St) (Rows_made St)) hx hb hK hP hD hS 1 0 rfl rfl dX6_beginWriter_42 hf rfl (fun hf H locs hP hD hS => ?_)
    refine lv_aload_n hx hb dX6_beginWriter_43 rfl (lv_at hl 2 rfl) ?_
    refine lv_dup hx hb dX6_beginWriter_44 rfl ?_
    refine va_get (D := D) (ci := 3) (v := .int (Rows_lostSlots St)) (C := RX6) (T := TX6) (N := 16) hx hb hts in_X6 hown hK hP 0 rfl rfl 5 (by decide) (hts _ q1_63) (fun _ h9 => h9) rfl dX6_beginWriter_45 ?_
    refine lv_iconst (v := (1 : Int32)) hx hb dX6_beginWriter_48 (by decide) ?_
    refine lv_iload_n hx hb dX6_beginWriter_49 rfl (lv_at hl 1 rfl) ?_
    refine lv_ishl hx hb dX6_beginWriter_50 ?_
    refine lv_iconst (v := (-1 : Int32)) hx hb dX6_beginWriter_51 (by decide) ?_
    refine lv_ixor hx hb dX6_beginWriter_52 ?_
    refine lv_iand hx hb dX6_beginWriter_53 ?_
    refine z_put (w2 := vRows ht cy (Rows_ring St) (Rows_rowCount St) (Rows_crash St) (Rows_nextStamp St) (Rows_count St) ((Rows_lostSlots St) &&& (((1 : Int32) <<< (q1 &&& 31)) ^^^ (-1 : Int32))) (Rows_runningStamps St) (Rows_doneStamps St) (Rows_goneStamps St) (upd (Rows_stamps St) q1.toNatClampNeg (Rows_nextStamp St)) (vp_updL (Rows_held St) q1.toNatClampNeg ((Rows_runningStamps St) ||| (jlshl (1 : Int64) (Rows_nextStamp St)))) (Rows_rowsOf St) (Rows_values St) (Rows_froms St) (Rows_tills St) (Rows_made St)) hx hb hts in_X6 tyX6 tyX6_ok nmX6 hown hK hP hD hS 0 rfl rfl 5 (by decide) (hts _ q1_63) (fun _ h9 => h9) rfl rfl rfl (Nat.le_of_ble_eq_true rfl) dX6_beginWriter_54 rfl (fun H locs hP hD hS => ?_)
    refine lv_aload_n hx hb dX6_beginWriter_57 rfl (lv_at hl 2 rfl) ?_
    refine lv_dup hx hb dX6_beginWriter_58 rfl ?_
    refine va_get (D := D) (ci := 3) (v := .long (Rows_runningStamps St)) (C := RX6) (T := TX6) (N := 16) hx hb hts in_X6 hown hK hP 0 rfl rfl 6 (by decide) (hts _ q1_64) (fun _ h9 => h9) rfl dX6_beginWriter_59 ?_
    refine lv_lload_n hx hb dX6_beginWriter_62 rfl (lv_at hl 0 rfl) ?_
    refine lv_lor hx hb dX6_beginWriter_63 ?_
    refine z_put (w2 := vRows ht cy (Rows_ring St) (Rows_rowCount St) (Rows_crash St) (Rows_nextStamp St) (Rows_count St) ((Rows_lostSlots St) &&& (((1 : Int32) <<< (q1 &&& 31)) ^^^ (-1 : Int32))) ((Rows_runningStamps St) ||| (jlshl (1 : Int64) (Rows_nextStamp St))) (Rows_doneStamps St) (Rows_goneStamps St) (upd (Rows_stamps St) q1.toNatClampNeg (Rows_nextStamp St)) (vp_updL (Rows_held St) q1.toNatClampNeg ((Rows_runningStamps St) ||| (jlshl (1 : Int64) (Rows_nextStamp St)))) (Rows_rowsOf St) (Rows_values St) (Rows_froms St) (Rows_tills St) (Rows_made St)) hx hb hts in_X6 tyX6 tyX6_ok nmX6 hown hK hP hD hS 0 rfl rfl 6 (by decide) (hts _ q1_64) (fun _ h9 => h9) rfl rfl rfl (Nat.le_of_ble_eq_true rfl) dX6_beginWriter_64 rfl (fun H locs hP hD hS => ?_)
    refine lv_aload_n hx hb dX6_beginWriter_67 rfl (lv_at hl 2 rfl) ?_
    refine lv_dup hx hb dX6_beginWriter_68 rfl ?_
    refine va_get (D := D) (ci := 3) (v := .long (Rows_doneStamps St)) (C := RX6) (T := TX6) (N := 16) hx hb hts in_X6 hown hK hP 0 rfl rfl 7 (by decide) (hts _ q1_65) (fun _ h9 => h9) rfl dX6_beginWriter_69 ?_
    refine lv_lload_n hx hb dX6_beginWriter_72 rfl (lv_at hl 0 rfl) ?_
    refine lv_ldc2 (v := (-1 : Int64)) hx hb hown (hts _ q3_46) dX6_beginWriter_73 ?_
    refine lv_lxor hx hb dX6_beginWriter_76 ?_
    refine lv_land hx hb dX6_beginWriter_77 ?_
    refine z_put (w2 := vRows ht cy (Rows_ring St) (Rows_rowCount St) (Rows_crash St) (Rows_nextStamp St) (Rows_count St) ((Rows_lostSlots St) &&& (((1 : Int32) <<< (q1 &&& 31)) ^^^ (-1 : Int32))) ((Rows_runningStamps St) ||| (jlshl (1 : Int64) (Rows_nextStamp St))) ((Rows_doneStamps St) &&& ((jlshl (1 : Int64) (Rows_nextStamp St)) ^^^ (-1 : Int64))) (Rows_goneStamps St) (upd (Rows_stamps St) q1.toNatClampNeg (Rows_nextStamp St)) (vp_updL (Rows_held St) q1.toNatClampNeg ((Rows_runningStamps St) ||| (jlshl (1 : Int64) (Rows_nextStamp St)))) (Rows_rowsOf St) (Rows_values St) (Rows_froms St) (Rows_tills St) (Rows_made St)) hx hb hts in_X6 tyX6 tyX6_ok nmX6 hown hK hP hD hS 0 rfl rfl 7 (by decide) (hts _ q1_65) (fun _ h9 => h9) rfl rfl rfl (Nat.le_of_ble_eq_true rfl) dX6_beginWriter_78 rfl (fun H locs hP hD hS => ?_)
    refine lv_aload_n hx hb dX6_beginWriter_81 rfl (lv_at hl 2 rfl) ?_
    refine lv_dup hx hb dX6_beginWriter_82 rfl ?_
    refine va_get (D := D) (ci := 3) (v := .long (Rows_goneStamps St)) (C := RX6) (T := TX6) (N := 16) hx hb hts in_X6 hown hK hP 0 rfl rfl 8 (by decide) (hts _ q1_66) (fun _ h9 => h9) rfl dX6_beginWriter_83 ?_
    refine lv_lload_n hx hb dX6_beginWriter_86 rfl (lv_at hl 0 rfl) ?_
    refine lv_ldc2 (v := (-1 : Int64)) hx hb hown (hts _ q3_46) dX6_beginWriter_87 ?_
    refine lv_lxor hx hb dX6_beginWriter_90 ?_
    refine lv_land hx hb dX6_beginWriter_91 ?_
    refine z_put (w2 := vRows ht cy (Rows_ring St) (Rows_rowCount St) (Rows_crash St) (Rows_nextStamp St) (Rows_count St) ((Rows_lostSlots St) &&& (((1 : Int32) <<< (q1 &&& 31)) ^^^ (-1 : Int32))) ((Rows_runningStamps St) ||| (jlshl (1 : Int64) (Rows_nextStamp St))) ((Rows_doneStamps St) &&& ((jlshl (1 : Int64) (Rows_nextStamp St)) ^^^ (-1 : Int64))) ((Rows_goneStamps St) &&& ((jlshl (1 : Int64) (Rows_nextStamp St)) ^^^ (-1 : Int64))) (upd (Rows_stamps St) q1.toNatClampNeg (Rows_nextStamp St)) (vp_updL (Rows_held St) q1.toNatClampNeg ((Rows_runningStamps St) ||| (jlshl (1 : Int64) (Rows_nextStamp St)))) (Rows_rowsOf St) (Rows_values St) (Rows_froms St) (Rows_tills St) (Rows_made St)) hx hb hts in_X6 tyX6 tyX6_ok nmX6 hown hK hP hD hS 0 rfl rfl 8 (by decide) (hts _ q1_66) (fun _ h9 => h9) rfl rfl rfl (Nat.le_of_ble_eq_true rfl) dX6_beginWriter_92 rfl (fun H locs hP hD hS => ?_)
    refine lv_aload_n hx hb dX6_beginWriter_95 rfl (lv_at hl 2 rfl) ?_
    refine lv_aload_n hx hb dX6_beginWriter_96 rfl (lv_at hl 2 rfl) ?_
    refine va_get (D := D) (ci := 3) (v := .int (Rows_nextStamp St)) (C := RX6) (T := TX6) (N := 16) hx hb hts in_X6 hown hK hP 0 rfl rfl 3 (by decide) (hts _ q1_58) (fun _ h9 => h9) rfl dX6_beginWriter_97 ?_
    refine lv_iconst (v := (1 : Int32)) hx hb dX6_beginWriter_100 (by decide) ?_
    refine lv_iadd hx hb dX6_beginWriter_101 ?_
    refine lv_aload_n hx hb dX6_beginWriter_102 rfl (lv_at hl 2 rfl) ?_
    refine va_get (D := D) (ci := 3) (v := .int (Rows_ring St)) (C := RX6) (T := TX6) (N := 16) hx hb hts in_X6 hown hK hP 0 rfl rfl 0 (by decide) (hts _ q1_49) (fun _ h9 => h9) rfl dX6_beginWriter_103 ?_
    refine z_icmp_ge (tgt := 118) hx hb dX6_beginWriter_106 (by decide) hf (fun hf => ?_) (fun hf => ?_)
    · refine lv_iconst (v := (0 : Int32)) hx hb dX6_beginWriter_118 (by decide) ?_
      refine z_put (w2 := vRows ht cy (Rows_ring St) (Rows_rowCount St) (Rows_crash St) (0 : Int32) (Rows_count St) ((Rows_lostSlots St) &&& (((1 : Int32) <<< (q1 &&& 31)) ^^^ (-1 : Int32))) ((Rows_runningStamps St) ||| (jlshl (1 : Int64) (Rows_nextStamp St))) ((Rows_doneStamps St) &&& ((jlshl (1 : Int64) (Rows_nextStamp St)) ^^^ (-1 : Int64))) ((Rows_goneStamps St) &&& ((jlshl (1 : Int64) (Rows_nextStamp St)) ^^^ (-1 : Int64))) (upd (Rows_stamps St) q1.toNatClampNeg (Rows_nextStamp St)) (vp_updL (Rows_held St) q1.toNatClampNeg ((Rows_runningStamps St) ||| (jlshl (1 : Int64) (Rows_nextStamp St)))) (Rows_rowsOf St) (Rows_values St) (Rows_froms St) (Rows_tills St) (Rows_made St)) hx hb hts in_X6 tyX6 tyX6_ok nmX6 hown hK hP hD hS 0 rfl rfl 3 (by decide) (hts _ q1_58) (fun _ h9 => h9) rfl rfl rfl (Nat.le_of_ble_eq_true rfl) dX6_beginWriter_119 rfl (fun H locs hP hD hS => ?_)
      refine lv_iload_n hx hb dX6_beginWriter_122 rfl (lv_at hl 1 rfl) ?_
      obtain rfl := Option.some.inj hf
      rw [← wRows_mk ht] at hP hD
      exact z_iret (v := q1) C hP hD hS dX6_beginWriter_123
    · refine lv_aload_n hx hb dX6_beginWriter_109 rfl (lv_at hl 2 rfl) ?_
      refine va_get (D := D) (ci := 3) (v := .int (Rows_nextStamp St)) (C := RX6) (T := TX6) (N := 16) hx hb hts in_X6 hown hK hP 0 rfl rfl 3 (by decide) (hts _ q1_58) (fun _ h9 => h9) rfl dX6_beginWriter_110 ?_
      refine lv_iconst (v := (1 : Int32)) hx hb dX6_beginWriter_113 (by decide) ?_
      refine lv_iadd hx hb dX6_beginWriter_114 ?_
      refine lv_goto (tgt := 119) hx hb dX6_beginWriter_115 (by decide) ?_
      refine z_put (w2 := vRows ht cy (Rows_ring St) (Rows_rowCount St) (Rows_crash St) ((Rows_nextStamp St) + (1 : Int32)) (Rows_count St) ((Rows_lostSlots St) &&& (((1 : Int32) <<< (q1 &&& 31)) ^^^ (-1 : Int32))) ((Rows_runningStamps St) ||| (jlshl (1 : Int64) (Rows_nextStamp St))) ((Rows_doneStamps St) &&& ((jlshl (1 : Int64) (Rows_nextStamp St)) ^^^ (-1 : Int64))) ((Rows_goneStamps St) &&& ((jlshl (1 : Int64) (Rows_nextStamp St)) ^^^ (-1 : Int64))) (upd (Rows_stamps St) q1.toNatClampNeg (Rows_nextStamp St)) (vp_updL (Rows_held St) q1.toNatClampNeg ((Rows_runningStamps St) ||| (jlshl (1 : Int64) (Rows_nextStamp St)))) (Rows_rowsOf St) (Rows_values St) (Rows_froms St) (Rows_tills St) (Rows_made St)) hx hb hts in_X6 tyX6 tyX6_ok nmX6 hown hK hP hD hS 0 rfl rfl 3 (by decide) (hts _ q1_58) (fun _ h9 => h9) rfl rfl rfl (Nat.le_of_ble_eq_true rfl) dX6_beginWriter_119 rfl (fun H locs hP hD hS => ?_)
      refine lv_iload_n hx hb dX6_beginWriter_122 rfl (lv_at hl 1 rfl) ?_
      obtain rfl := Option.some.inj hf
      rw [← wRows_mk ht] at hP hD
      exact z_iret (v := q1) C hP hD hS dX6_beginWriter_123
  · refine lv_bipush (v := (-2 : Int32)) hx hb dX6_beginWriter_11 (by decide) ?_
    obtain rfl := Option.some.inj hf
    exact z_iret (v := (-2 : Int32)) C hP hD hS dX6_beginWriter_13
def b_X6_firstFreeNumber_2 (St : SRows) (k2 : Int32 → Option (Int32)) (v1 : Int32) : Option (Int32) :=
  (if (48 : Int32) ≤ v1 then
    some (-2 : Int32)
    else
    (if zib v1 48 then (if ((Rows_rowsOf St) v1.toNatClampNeg) = (-2 : Int32) then
        some v1
        else
        (k2 (v1 + (1 : Int32)))) else none))
set_option maxHeartbeats 4000000 in
set_option maxRecDepth 100000 in
theorem w_X6_firstFreeNumber_2 {p : Program} {e : Env} {s : State} {m : MethodId} {below : List Frame} {meth : Method} {c : Code} {A : Nat → Prop} {D : va_G} {cy : Nat → ClassId} {args : Array Value} {r : Int32} (l : Launch) (ht : Nat → Nat) (St : SRows) (C : zX p s m meth c cX6_firstFreeNumber 2 args RX6 (some FieldType.int) A D (zty cy)) :
    ∀ (n : Nat) (v1 : Int32) (H : Heap) (locs : List Loc) (ls : Array Slot), zl1 (b_X6_firstFreeNumber_2 St) n v1 = some r → va_P D vwCl (wRows ht cy St) H → va_D A (wRows ht cy St) → va_S A s.heap H locs → lv_has ls 2 [(0, .ref (ht 0)), (1, .int v1)] → W p l e (zRm 0 0) s m args below meth c H locs 0 0 (MQ below (zQI D (zty cy) A (wRows ht cy St) r) args s 0 0 A) (F0 m 2 ls []) := by
  obtain ⟨hx, hb, hr, hts, hown, hlocks, hml, hA, hK⟩ := id C
  intro n
  induction n with
  | zero => intro v1 H locs ls hf; exact zno hf
  | succ n ih =>
    intro v1 H locs ls hf hP hD hS hl
    have hf : b_X6_firstFreeNumber_2 St (zl1 (b_X6_firstFreeNumber_2 St) n) v1 = some r := hf
    have K2 := ih
    refine lv_iload_n hx hb dX6_firstFreeNumber_2 rfl (lv_at hl 1 rfl) ?_
    refine lv_bipush (v := (48 : Int32)) hx hb dX6_firstFreeNumber_3 (by decide) ?_
    refine z_icmp_ge (tgt := 27) hx hb dX6_firstFreeNumber_5 (by decide) hf (fun hf => ?_) (fun hf => ?_)
    · refine lv_bipush (v := (-2 : Int32)) hx hb dX6_firstFreeNumber_27 (by decide) ?_
      obtain rfl := Option.some.inj hf
      exact z_iret (v := (-2 : Int32)) C hP hD hS dX6_firstFreeNumber_29
    · refine lv_aload_n hx hb dX6_firstFreeNumber_8 rfl (lv_at hl 0 rfl) ?_
      refine va_get (D := D) (ci := 3) (v := .ref (ht 3)) (C := RX6) (T := TX6) (N := 16) hx hb hts in_X6 hown hK hP 0 rfl rfl 11 (by decide) (hts _ q1_69) (fun _ h9 => h9) rfl dX6_firstFreeNumber_9 ?_
      refine lv_iload_n hx hb dX6_firstFreeNumber_12 rfl (lv_at hl 1 rfl) ?_
      refine z_iald (f := (Rows_rowsOf St)) hx hb hK hP 3 0 rfl rfl dX6_firstFreeNumber_13 hf (fun hf => ?_)
      refine lv_bipush (v := (-2 : Int32)) hx hb dX6_firstFreeNumber_14 (by decide) ?_
      refine z_icmp_ne (tgt := 21) hx hb dX6_firstFreeNumber_16 (by decide) hf (fun hf => ?_) (fun hf => ?_)
      · refine lv_iinc (v := (v1 + (1 : Int32))) (lv' := [(1, .int (v1 + (1 : Int32))), (0, .ref (ht 0))]) hx hb dX6_firstFreeNumber_21 hl (k := 1) rfl rfl (by decide) rfl (fun ls hl => ?_)
        refine lv_goto (tgt := 2) hx hb dX6_firstFreeNumber_24 (by decide) ?_
        exact K2 (v1 + (1 : Int32)) H locs ls hf hP hD hS (lv_sub hl [1, 0] rfl)
      · refine lv_iload_n hx hb dX6_firstFreeNumber_19 rfl (lv_at hl 1 rfl) ?_
        obtain rfl := Option.some.inj hf
        exact z_iret (v := v1) C hP hD hS dX6_firstFreeNumber_20
def f_X6_firstFreeNumber (St : SRows) : Option (Int32) :=
  (zl1 (b_X6_firstFreeNumber_2 St) FU (0 : Int32))
set_option maxHeartbeats 4000000 in
set_option maxRecDepth 100000 in
theorem c_X6_firstFreeNumber (l : Launch) (D : va_G) (cy : Nat → ClassId) (ht : Nat → Nat) (St : SRows) (r : Int32) (hf : f_X6_firstFreeNumber St = some r) : zCI l yX6_firstFreeNumber cX6_firstFreeNumber 2 (some FieldType.int) 0 0 D (zty cy) [.ref (ht 0)] (wRows ht cy St) (wRows ht cy St) r := by
  refine zCI_of (by decide +kernel) (Nat.le_of_ble_eq_true rfl) ?_
  intro p e s m below meth c A ls C hP hD hS hl
  generalize hargs : ([.ref (ht 0)] : List Value).toArray = args at C ⊢
  have C : zX p s m meth c cX6_firstFreeNumber 2 args RX6 (some FieldType.int) A D (zty cy) := C
  obtain ⟨hx, hb, hr, hts, hown, hlocks, hml, hA, hK⟩ := id C
  have hl : lv_has ls 2 [(0, .ref (ht 0))] := hl
  generalize hH : s.heap = H at hP ⊢
  have hS : va_S A s.heap H [] := by rw [← hH]; exact hS
  generalize ([] : List Loc) = locs at hS ⊢
  refine lv_iconst (v := (0 : Int32)) hx hb dX6_firstFreeNumber_0 (by decide) ?_
  refine lv_istore_n (lv' := [(1, .int (0 : Int32)), (0, .ref (ht 0))]) hx hb dX6_firstFreeNumber_1 rfl hl (by decide) rfl (fun ls hl => ?_)
  exact w_X6_firstFreeNumber_2 l ht St C FU (0 : Int32) H locs ls hf hP hD hS (lv_sub hl [1, 0] rfl)
def f_X6_makeVersion (St : SRows) (x1 : Int32) (x2 : Int32) (x3 : Int32) : Option (Int32 × SRows) :=
  (f_X6_firstFreeNumber St).bind (fun q1 =>
    (if q1 = (-2 : Int32) then
      some ((-2 : Int32), St)
      else
      (if (Rows_count St) < (48 : Int32) then
        (if zib q1 48 then (if zib q1 48 then (if zib q1 48 then (if zib q1 48 then (if zib (Rows_count St) 48 then some (q1, (mkRows (Rows_ring St) (Rows_rowCount St) (Rows_crash St) (Rows_nextStamp St) ((Rows_count St) + (1 : Int32)) (Rows_lostSlots St) (Rows_runningStamps St) (Rows_doneStamps St) (Rows_goneStamps St) (Rows_stamps St) (Rows_held St) (upd (Rows_rowsOf St) q1.toNatClampNeg x1) (upd (Rows_values St) q1.toNatClampNeg x2) (upd (Rows_froms St) q1.toNatClampNeg x3) (upd (Rows_tills St) q1.toNatClampNeg (-2 : Int32)) (upd (Rows_made St) (Rows_count St).toNatClampNeg q1))) else none) else none) else none) else none) else none)
        else
        some ((-2 : Int32), St))))
set_option maxHeartbeats 4000000 in
set_option maxRecDepth 100000 in
theorem c_X6_makeVersion (l : Launch) (D : va_G) (cy : Nat → ClassId) (ht : Nat → Nat) (St : SRows) (x1 : Int32) (x2 : Int32) (x3 : Int32) (r : Int32 × SRows) (hf : f_X6_makeVersion St x1 x2 x3 = some r) : zCI l yX6_makeVersion cX6_makeVersion 5 (some FieldType.int) 1 21 D (zty cy) [.ref (ht 0), .int x1, .int x2, .int x3] (wRows ht cy St) (wRows ht cy r.2) r.1 := by
  refine zCI_of (by decide +kernel) (Nat.le_of_ble_eq_true rfl) ?_
  intro p e s m below meth c A ls C hP hD hS hl
  generalize hargs : ([.ref (ht 0), .int x1, .int x2, .int x3] : List Value).toArray = args at C ⊢
  have C : zX p s m meth c cX6_makeVersion 5 args RX6 (some FieldType.int) A D (zty cy) := C
  obtain ⟨hx, hb, hr, hts, hown, hlocks, hml, hA, hK⟩ := id C
  have hl : lv_has ls 5 [(0, .ref (ht 0)), (1, .int x1), (2, .int x2), (3, .int x3)] := hl
  generalize hH : s.heap = H at hP ⊢
  have hS : va_S A s.heap H [] := by rw [← hH]; exact hS
  generalize ([] : List Loc) = locs at hS ⊢
  refine lv_aload_n hx hb dX6_makeVersion_0 rfl (lv_at hl 0 rfl) ?_
  obtain ⟨q1, hc, hf⟩ := zbd hf
  refine z_cVi0 (As := []) (rest := []) C (c_X6_firstFreeNumber l D cy ht St q1 hc) gV_X6_X6_firstFreeNumber hd_X6_firstFreeNumber ⟨Nat.le_of_ble_eq_true rfl, Nat.le_of_ble_eq_true rfl⟩ ⟨Nat.le_refl _, Nat.le_refl _⟩ (va_recv hK hP (ci := 3) (q0 := 0) rfl rfl) hP hD hS hl.1 (Nat.le_of_ble_eq_true rfl) dX6_makeVersion_1 (fun H locs hP hD hS => ?_)
  have hP : va_P D vwCl (wRows ht cy St) H := hP
  have hD : va_D A (wRows ht cy St) := hD
  refine lv_istore (lv' := [(4, .int q1), (0, .ref (ht 0)), (1, .int x1), (2, .int x2), (3, .int x3)]) hx hb dX6_makeVersion_4 hl (by decide) rfl (fun ls hl => ?_)
  refine lv_iload hx hb dX6_makeVersion_6 (lv_at hl 0 rfl) ?_
  refine lv_bipush (v := (-2 : Int32)) hx hb dX6_makeVersion_8 (by decide) ?_
  refine z_icmp_eq (tgt := 22) hx hb dX6_makeVersion_10 (by decide) hf (fun hf => ?_) (fun hf => ?_)
  · refine lv_bipush (v := (-2 : Int32)) hx hb dX6_makeVersion_22 (by decide) ?_
    obtain rfl := Option.some.inj hf
    exact z_iret (v := (-2 : Int32)) C hP hD hS dX6_makeVersion_24
  · refine lv_aload_n hx hb dX6_makeVersion_13 rfl (lv_at hl 1 rfl) ?_
    refine va_get (D := D) (ci := 3) (v := .int (Rows_count St)) (C := RX6) (T := TX6) (N := 16) hx hb hts in_X6 hown hK hP 0 rfl rfl 4 (by decide) (hts _ q1_61) (fun _ h9 => h9) rfl dX6_makeVersion_14 ?_
    refine lv_bipush (v := (48 : Int32)) hx hb dX6_makeVersion_17 (by decide) ?_
    refine z_icmp_lt (tgt := 25) hx hb dX6_makeVersion_19 (by decide) hf (fun hf => ?_) (fun hf => ?_)
    · refine lv_aload_n hx hb dX6_makeVersion_25 rfl (lv_at hl 1 rfl) ?_
      refine va_get (D := D) (ci := 3) (v := .ref (ht 3)) (C := RX6) (T := TX6) (N := 16) hx hb hts in_X6 hown hK hP 0 rfl rfl 11 (by decide) (hts _ q1_69) (fun _ h9 => h9) rfl dX6_makeVersion_26 ?_
      refine lv_iload hx hb dX6_makeVersion_29 (lv_at hl 0 rfl) ?_
      refine lv_iload_n hx hb dX6_makeVersion_31 rfl (lv_at hl 2 rfl) ?_
      refine z_iast (f := (Rows_rowsOf St)) (w2 := vRows ht cy (Rows_ring St) (Rows_rowCount St) (Rows_crash St) (Rows_nextStamp St) (Rows_count St) (Rows_lostSlots St) (Rows_runningStamps St) (Rows_doneStamps St) (Rows_goneStamps St) (Rows_stamps St) (Rows_held St) (upd (Rows_rowsOf St) q1.toNatClampNeg x1) (Rows_values St) (Rows_froms St) (Rows_tills St) (Rows_made St)) hx hb hK hP hD hS 3 0 rfl rfl dX6_makeVersion_32 hf rfl (fun hf H locs hP hD hS => ?_)
      refine lv_aload_n hx hb dX6_makeVersion_33 rfl (lv_at hl 1 rfl) ?_
      refine va_get (D := D) (ci := 3) (v := .ref (ht 4)) (C := RX6) (T := TX6) (N := 16) hx hb hts in_X6 hown hK hP 0 rfl rfl 12 (by decide) (hts _ q1_70) (fun _ h9 => h9) rfl dX6_makeVersion_34 ?_
      refine lv_iload hx hb dX6_makeVersion_37 (lv_at hl 0 rfl) ?_
      refine lv_iload_n hx hb dX6_makeVersion_39 rfl (lv_at hl 3 rfl) ?_
      refine z_iast (f := (Rows_values St)) (w2 := vRows ht cy (Rows_ring St) (Rows_rowCount St) (Rows_crash St) (Rows_nextStamp St) (Rows_count St) (Rows_lostSlots St) (Rows_runningStamps St) (Rows_doneStamps St) (Rows_goneStamps St) (Rows_stamps St) (Rows_held St) (upd (Rows_rowsOf St) q1.toNatClampNeg x1) (upd (Rows_values St) q1.toNatClampNeg x2) (Rows_froms St) (Rows_tills St) (Rows_made St)) hx hb hK hP hD hS 4 0 rfl rfl dX6_makeVersion_40 hf rfl (fun hf H locs hP hD hS => ?_)
      refine lv_aload_n hx hb dX6_makeVersion_41 rfl (lv_at hl 1 rfl) ?_
      refine va_get (D := D) (ci := 3) (v := .ref (ht 5)) (C := RX6) (T := TX6) (N := 16) hx hb hts in_X6 hown hK hP 0 rfl rfl 13 (by decide) (hts _ q1_71) (fun _ h9 => h9) rfl dX6_makeVersion_42 ?_
      refine lv_iload hx hb dX6_makeVersion_45 (lv_at hl 0 rfl) ?_
      refine lv_iload_n hx hb dX6_makeVersion_47 rfl (lv_at hl 4 rfl) ?_
      refine z_iast (f := (Rows_froms St)) (w2 := vRows ht cy (Rows_ring St) (Rows_rowCount St) (Rows_crash St) (Rows_nextStamp St) (Rows_count St) (Rows_lostSlots St) (Rows_runningStamps St) (Rows_doneStamps St) (Rows_goneStamps St) (Rows_stamps St) (Rows_held St) (upd (Rows_rowsOf St) q1.toNatClampNeg x1) (upd (Rows_values St) q1.toNatClampNeg x2) (upd (Rows_froms St) q1.toNatClampNeg x3) (Rows_tills St) (Rows_made St)) hx hb hK hP hD hS 5 0 rfl rfl dX6_makeVersion_48 hf rfl (fun hf H locs hP hD hS => ?_)
      refine lv_aload_n hx hb dX6_makeVersion_49 rfl (lv_at hl 1 rfl) ?_
      refine va_get (D := D) (ci := 3) (v := .ref (ht 6)) (C := RX6) (T := TX6) (N := 16) hx hb hts in_X6 hown hK hP 0 rfl rfl 14 (by decide) (hts _ q1_72) (fun _ h9 => h9) rfl dX6_makeVersion_50 ?_
      refine lv_iload hx hb dX6_makeVersion_53 (lv_at hl 0 rfl) ?_
      refine lv_bipush (v := (-2 : Int32)) hx hb dX6_makeVersion_55 (by decide) ?_
      refine z_iast (f := (Rows_tills St)) (w2 := vRows ht cy (Rows_ring St) (Rows_rowCount St) (Rows_crash St) (Rows_nextStamp St) (Rows_count St) (Rows_lostSlots St) (Rows_runningStamps St) (Rows_doneStamps St) (Rows_goneStamps St) (Rows_stamps St) (Rows_held St) (upd (Rows_rowsOf St) q1.toNatClampNeg x1) (upd (Rows_values St) q1.toNatClampNeg x2) (upd (Rows_froms St) q1.toNatClampNeg x3) (upd (Rows_tills St) q1.toNatClampNeg (-2 : Int32)) (Rows_made St)) hx hb hK hP hD hS 6 0 rfl rfl dX6_makeVersion_57 hf rfl (fun hf H locs hP hD hS => ?_)
      refine lv_aload_n hx hb dX6_makeVersion_58 rfl (lv_at hl 1 rfl) ?_
      refine va_get (D := D) (ci := 3) (v := .ref (ht 7)) (C := RX6) (T := TX6) (N := 16) hx hb hts in_X6 hown hK hP 0 rfl rfl 15 (by decide) (hts _ q1_73) (fun _ h9 => h9) rfl dX6_makeVersion_59 ?_
      refine lv_aload_n hx hb dX6_makeVersion_62 rfl (lv_at hl 1 rfl) ?_
      refine va_get (D := D) (ci := 3) (v := .int (Rows_count St)) (C := RX6) (T := TX6) (N := 16) hx hb hts in_X6 hown hK hP 0 rfl rfl 4 (by decide) (hts _ q1_61) (fun _ h9 => h9) rfl dX6_makeVersion_63 ?_
      refine lv_iload hx hb dX6_makeVersion_66 (lv_at hl 0 rfl) ?_
      refine z_iast (f := (Rows_made St)) (w2 := vRows ht cy (Rows_ring St) (Rows_rowCount St) (Rows_crash St) (Rows_nextStamp St) (Rows_count St) (Rows_lostSlots St) (Rows_runningStamps St) (Rows_doneStamps St) (Rows_goneStamps St) (Rows_stamps St) (Rows_held St) (upd (Rows_rowsOf St) q1.toNatClampNeg x1) (upd (Rows_values St) q1.toNatClampNeg x2) (upd (Rows_froms St) q1.toNatClampNeg x3) (upd (Rows_tills St) q1.toNatClampNeg (-2 : Int32)) (upd (Rows_made St) (Rows_count St).toNatClampNeg q1)) hx hb hK hP hD hS 7 0 rfl rfl dX6_makeVersion_68 hf rfl (fun hf H locs hP hD hS => ?_)
      refine lv_aload_n hx hb dX6_makeVersion_69 rfl (lv_at hl 1 rfl) ?_
      refine lv_dup hx hb dX6_makeVersion_70 rfl ?_
      refine va_get (D := D) (ci := 3) (v := .int (Rows_count St)) (C := RX6) (T := TX6) (N := 16) hx hb hts in_X6 hown hK hP 0 rfl rfl 4 (by decide) (hts _ q1_61) (fun _ h9 => h9) rfl dX6_makeVersion_71 ?_
      refine lv_iconst (v := (1 : Int32)) hx hb dX6_makeVersion_74 (by decide) ?_
      refine lv_iadd hx hb dX6_makeVersion_75 ?_
      refine z_put (w2 := vRows ht cy (Rows_ring St) (Rows_rowCount St) (Rows_crash St) (Rows_nextStamp St) ((Rows_count St) + (1 : Int32)) (Rows_lostSlots St) (Rows_runningStamps St) (Rows_doneStamps St) (Rows_goneStamps St) (Rows_stamps St) (Rows_held St) (upd (Rows_rowsOf St) q1.toNatClampNeg x1) (upd (Rows_values St) q1.toNatClampNeg x2) (upd (Rows_froms St) q1.toNatClampNeg x3) (upd (Rows_tills St) q1.toNatClampNeg (-2 : Int32)) (upd (Rows_made St) (Rows_count St).toNatClampNeg q1)) hx hb hts in_X6 tyX6 tyX6_ok nmX6 hown hK hP hD hS 0 rfl rfl 4 (by decide) (hts _ q1_61) (fun _ h9 => h9) rfl rfl rfl (Nat.le_of_ble_eq_true rfl) dX6_makeVersion_76 rfl (fun H locs hP hD hS => ?_)
      refine lv_iload hx hb dX6_makeVersion_79 (lv_at hl 0 rfl) ?_
      obtain rfl := Option.some.inj hf
      rw [← wRows_mk ht] at hP hD
      exact z_iret (v := q1) C hP hD hS dX6_makeVersion_81
    · refine lv_bipush (v := (-2 : Int32)) hx hb dX6_makeVersion_22 (by decide) ?_
      obtain rfl := Option.some.inj hf
      exact z_iret (v := (-2 : Int32)) C hP hD hS dX6_makeVersion_24
def f_X6_isOwn (St : SRows) (x1 : Int32) (x2 : Int32) : Option (Int32) :=
  (f_X6_isVersion St x2).bind (fun q1 =>
    (if q1 = 0 then
      some (0 : Int32)
      else
      (if zib x2 48 then (f_X6_stampOf St x1).bind (fun q2 =>
          (if ((Rows_froms St) x2.toNatClampNeg) = q2 then
            some (1 : Int32)
            else
            some (0 : Int32))) else none)))
set_option maxHeartbeats 4000000 in
set_option maxRecDepth 100000 in
theorem c_X6_isOwn (l : Launch) (D : va_G) (cy : Nat → ClassId) (ht : Nat → Nat) (St : SRows) (x1 : Int32) (x2 : Int32) (r : Int32) (hf : f_X6_isOwn St x1 x2 = some r) : zCI l yX6_isOwn cX6_isOwn 3 (some FieldType.boolean) 2 42 D (zty cy) [.ref (ht 0), .int x1, .int x2] (wRows ht cy St) (wRows ht cy St) r := by
  refine zCI_of (by decide +kernel) (Nat.le_of_ble_eq_true rfl) ?_
  intro p e s m below meth c A ls C hP hD hS hl
  generalize hargs : ([.ref (ht 0), .int x1, .int x2] : List Value).toArray = args at C ⊢
  have C : zX p s m meth c cX6_isOwn 3 args RX6 (some FieldType.boolean) A D (zty cy) := C
  obtain ⟨hx, hb, hr, hts, hown, hlocks, hml, hA, hK⟩ := id C
  have hl : lv_has ls 3 [(0, .ref (ht 0)), (1, .int x1), (2, .int x2)] := hl
  generalize hH : s.heap = H at hP ⊢
  have hS : va_S A s.heap H [] := by rw [← hH]; exact hS
  generalize ([] : List Loc) = locs at hS ⊢
  refine lv_aload_n hx hb dX6_isOwn_0 rfl (lv_at hl 0 rfl) ?_
  refine lv_iload_n hx hb dX6_isOwn_1 rfl (lv_at hl 2 rfl) ?_
  obtain ⟨q1, hc, hf⟩ := zbd hf
  refine z_cVi0 (As := [.int x2]) (rest := []) C (c_X6_isVersion l D cy ht St x2 q1 hc) gV_X6_X6_isVersion hd_X6_isVersion ⟨Nat.le_of_ble_eq_true rfl, Nat.le_of_ble_eq_true rfl⟩ ⟨Nat.le_refl _, Nat.le_refl _⟩ (va_recv hK hP (ci := 3) (q0 := 0) rfl rfl) hP hD hS hl.1 (Nat.le_of_ble_eq_true rfl) dX6_isOwn_2 (fun H locs hP hD hS => ?_)
  have hP : va_P D vwCl (wRows ht cy St) H := hP
  have hD : va_D A (wRows ht cy St) := hD
  refine z_if_eq (tgt := 26) hx hb dX6_isOwn_5 (by decide) hf (fun hf => ?_) (fun hf => ?_)
  · refine lv_iconst (v := (0 : Int32)) hx hb dX6_isOwn_26 (by decide) ?_
    obtain rfl := Option.some.inj hf
    exact z_zret (v := (0 : Int32)) C rfl hP hD hS dX6_isOwn_27
  · refine lv_aload_n hx hb dX6_isOwn_8 rfl (lv_at hl 0 rfl) ?_
    refine va_get (D := D) (ci := 3) (v := .ref (ht 5)) (C := RX6) (T := TX6) (N := 16) hx hb hts in_X6 hown hK hP 0 rfl rfl 13 (by decide) (hts _ q1_71) (fun _ h9 => h9) rfl dX6_isOwn_9 ?_
    refine lv_iload_n hx hb dX6_isOwn_12 rfl (lv_at hl 2 rfl) ?_
    refine z_iald (f := (Rows_froms St)) hx hb hK hP 5 0 rfl rfl dX6_isOwn_13 hf (fun hf => ?_)
    refine lv_aload_n hx hb dX6_isOwn_14 rfl (lv_at hl 0 rfl) ?_
    refine lv_iload_n hx hb dX6_isOwn_15 rfl (lv_at hl 1 rfl) ?_
    obtain ⟨q2, hc, hf⟩ := zbd hf
    refine z_cVi0 (As := [.int x1]) (rest := [.int ((Rows_froms St) x2.toNatClampNeg)]) C (c_X6_stampOf l D cy ht St x1 q2 hc) gV_X6_X6_stampOf hd_X6_stampOf ⟨Nat.le_of_ble_eq_true rfl, Nat.le_of_ble_eq_true rfl⟩ ⟨Nat.le_refl _, Nat.le_refl _⟩ (va_recv hK hP (ci := 3) (q0 := 0) rfl rfl) hP hD hS hl.1 (Nat.le_of_ble_eq_true rfl) dX6_isOwn_16 (fun H locs hP hD hS => ?_)
    have hP : va_P D vwCl (wRows ht cy St) H := hP
    have hD : va_D A (wRows ht cy St) := hD
    refine z_icmp_ne (tgt := 26) hx hb dX6_isOwn_19 (by decide) hf (fun hf => ?_) (fun hf => ?_)
    · refine lv_iconst (v := (0 : Int32)) hx hb dX6_isOwn_26 (by decide) ?_
      obtain rfl := Option.some.inj hf
      exact z_zret (v := (0 : Int32)) C rfl hP hD hS dX6_isOwn_27
    · refine lv_iconst (v := (1 : Int32)) hx hb dX6_isOwn_22 (by decide) ?_
      refine lv_goto (tgt := 27) hx hb dX6_isOwn_23 (by decide) ?_
      obtain rfl := Option.some.inj hf
      exact z_zret (v := (1 : Int32)) C rfl hP hD hS dX6_isOwn_27
def f_X6_putTrouble (St : SRows) (x1 : Int32) (x2 : Int32) : Option (Int32) :=
  (f_X6_verdict St x1 x2).bind (fun q1 =>
    (if q1 = (1 : Int32) then
      some (5 : Int32)
      else
      (if q1 = (3 : Int32) then
        some (5 : Int32)
        else
        (if q1 = (2 : Int32) then
          some (0 : Int32)
          else
          (f_X6_firstFreeNumber St).bind (fun q2 =>
            (if q2 = (-2 : Int32) then
              (f_X6_countingFor St x1).bind (fun q3 =>
                (f_X6_versionSeen St x2 q3).bind (fun q4 =>
                  (f_X6_isOwn St x1 q4).bind (fun q5 =>
                    (if q5 = 0 then
                      some (3 : Int32)
                      else
                      some (0 : Int32)))))
              else
              some (0 : Int32)))))))
set_option maxHeartbeats 4000000 in
set_option maxRecDepth 100000 in
theorem c_X6_putTrouble (l : Launch) (D : va_G) (cy : Nat → ClassId) (ht : Nat → Nat) (St : SRows) (x1 : Int32) (x2 : Int32) (r : Int32) (hf : f_X6_putTrouble St x1 x2 = some r) : zCI l yX6_putTrouble cX6_putTrouble 4 (some FieldType.int) 4 97 D (zty cy) [.ref (ht 0), .int x1, .int x2] (wRows ht cy St) (wRows ht cy St) r := by
  refine zCI_of (by decide +kernel) (Nat.le_of_ble_eq_true rfl) ?_
  intro p e s m below meth c A ls C hP hD hS hl
  generalize hargs : ([.ref (ht 0), .int x1, .int x2] : List Value).toArray = args at C ⊢
  have C : zX p s m meth c cX6_putTrouble 4 args RX6 (some FieldType.int) A D (zty cy) := C
  obtain ⟨hx, hb, hr, hts, hown, hlocks, hml, hA, hK⟩ := id C
  have hl : lv_has ls 4 [(0, .ref (ht 0)), (1, .int x1), (2, .int x2)] := hl
  generalize hH : s.heap = H at hP ⊢
  have hS : va_S A s.heap H [] := by rw [← hH]; exact hS
  generalize ([] : List Loc) = locs at hS ⊢
  refine lv_aload_n hx hb dX6_putTrouble_0 rfl (lv_at hl 0 rfl) ?_
  refine lv_iload_n hx hb dX6_putTrouble_1 rfl (lv_at hl 1 rfl) ?_
  refine lv_iload_n hx hb dX6_putTrouble_2 rfl (lv_at hl 2 rfl) ?_
  obtain ⟨q1, hc, hf⟩ := zbd hf
  refine z_cVi0 (As := [.int x1, .int x2]) (rest := []) C (c_X6_verdict l D cy ht St x1 x2 q1 hc) gV_X6_X6_verdict hd_X6_verdict ⟨Nat.le_of_ble_eq_true rfl, Nat.le_of_ble_eq_true rfl⟩ ⟨Nat.le_refl _, Nat.le_refl _⟩ (va_recv hK hP (ci := 3) (q0 := 0) rfl rfl) hP hD hS hl.1 (Nat.le_of_ble_eq_true rfl) dX6_putTrouble_3 (fun H locs hP hD hS => ?_)
  have hP : va_P D vwCl (wRows ht cy St) H := hP
  have hD : va_D A (wRows ht cy St) := hD
  refine lv_istore_n (lv' := [(3, .int q1), (0, .ref (ht 0)), (1, .int x1), (2, .int x2)]) hx hb dX6_putTrouble_6 rfl hl (by decide) rfl (fun ls hl => ?_)
  refine lv_iload_n hx hb dX6_putTrouble_7 rfl (lv_at hl 0 rfl) ?_
  refine lv_iconst (v := (1 : Int32)) hx hb dX6_putTrouble_8 (by decide) ?_
  refine z_icmp_eq (tgt := 17) hx hb dX6_putTrouble_9 (by decide) hf (fun hf => ?_) (fun hf => ?_)
  · refine lv_iconst (v := (5 : Int32)) hx hb dX6_putTrouble_17 (by decide) ?_
    obtain rfl := Option.some.inj hf
    exact z_iret (v := (5 : Int32)) C hP hD hS dX6_putTrouble_18
  · refine lv_iload_n hx hb dX6_putTrouble_12 rfl (lv_at hl 0 rfl) ?_
    refine lv_iconst (v := (3 : Int32)) hx hb dX6_putTrouble_13 (by decide) ?_
    refine z_icmp_ne (tgt := 19) hx hb dX6_putTrouble_14 (by decide) hf (fun hf => ?_) (fun hf => ?_)
    · refine lv_iload_n hx hb dX6_putTrouble_19 rfl (lv_at hl 0 rfl) ?_
      refine lv_iconst (v := (2 : Int32)) hx hb dX6_putTrouble_20 (by decide) ?_
      refine z_icmp_eq (tgt := 33) hx hb dX6_putTrouble_21 (by decide) hf (fun hf => ?_) (fun hf => ?_)
      · refine lv_iconst (v := (0 : Int32)) hx hb dX6_putTrouble_33 (by decide) ?_
        obtain rfl := Option.some.inj hf
        exact z_iret (v := (0 : Int32)) C hP hD hS dX6_putTrouble_34
      · refine lv_aload_n hx hb dX6_putTrouble_24 rfl (lv_at hl 1 rfl) ?_
        obtain ⟨q2, hc, hf⟩ := zbd hf
        refine z_cVi0 (As := []) (rest := []) C (c_X6_firstFreeNumber l D cy ht St q2 hc) gV_X6_X6_firstFreeNumber hd_X6_firstFreeNumber ⟨Nat.le_of_ble_eq_true rfl, Nat.le_of_ble_eq_true rfl⟩ ⟨Nat.le_refl _, Nat.le_refl _⟩ (va_recv hK hP (ci := 3) (q0 := 0) rfl rfl) hP hD hS hl.1 (Nat.le_of_ble_eq_true rfl) dX6_putTrouble_25 (fun H locs hP hD hS => ?_)
        have hP : va_P D vwCl (wRows ht cy St) H := hP
        have hD : va_D A (wRows ht cy St) := hD
        refine lv_bipush (v := (-2 : Int32)) hx hb dX6_putTrouble_28 (by decide) ?_
        refine z_icmp_eq (tgt := 35) hx hb dX6_putTrouble_30 (by decide) hf (fun hf => ?_) (fun hf => ?_)
        · refine lv_aload_n hx hb dX6_putTrouble_35 rfl (lv_at hl 1 rfl) ?_
          refine lv_iload_n hx hb dX6_putTrouble_36 rfl (lv_at hl 2 rfl) ?_
          refine lv_aload_n hx hb dX6_putTrouble_37 rfl (lv_at hl 1 rfl) ?_
          refine lv_iload_n hx hb dX6_putTrouble_38 rfl (lv_at hl 3 rfl) ?_
          refine lv_aload_n hx hb dX6_putTrouble_39 rfl (lv_at hl 1 rfl) ?_
          refine lv_iload_n hx hb dX6_putTrouble_40 rfl (lv_at hl 2 rfl) ?_
          obtain ⟨q3, hc, hf⟩ := zbd hf
          refine z_cVl0 (As := [.int x1]) (rest := [.int x2, .ref (ht 0), .int x1, .ref (ht 0)]) C (c_X6_countingFor l D cy ht St x1 q3 hc) gV_X6_X6_countingFor hd_X6_countingFor ⟨Nat.le_of_ble_eq_true rfl, Nat.le_of_ble_eq_true rfl⟩ ⟨Nat.le_refl _, Nat.le_refl _⟩ (va_recv hK hP (ci := 3) (q0 := 0) rfl rfl) hP hD hS hl.1 (Nat.le_of_ble_eq_true rfl) dX6_putTrouble_41 (fun H locs hP hD hS => ?_)
          have hP : va_P D vwCl (wRows ht cy St) H := hP
          have hD : va_D A (wRows ht cy St) := hD
          obtain ⟨q4, hc, hf⟩ := zbd hf
          refine z_cVi0 (As := [.int x2, .long q3]) (rest := [.int x1, .ref (ht 0)]) C (c_X6_versionSeen l D cy ht St x2 q3 q4 hc) gV_X6_X6_versionSeen hd_X6_versionSeen ⟨Nat.le_of_ble_eq_true rfl, Nat.le_of_ble_eq_true rfl⟩ ⟨Nat.le_refl _, Nat.le_refl _⟩ (va_recv hK hP (ci := 3) (q0 := 0) rfl rfl) hP hD hS hl.1 (Nat.le_of_ble_eq_true rfl) dX6_putTrouble_44 (fun H locs hP hD hS => ?_)
          have hP : va_P D vwCl (wRows ht cy St) H := hP
          have hD : va_D A (wRows ht cy St) := hD
          obtain ⟨q5, hc, hf⟩ := zbd hf
          refine z_cVi0 (As := [.int x1, .int q4]) (rest := []) C (c_X6_isOwn l D cy ht St x1 q4 q5 hc) gV_X6_X6_isOwn hd_X6_isOwn ⟨Nat.le_of_ble_eq_true rfl, Nat.le_of_ble_eq_true rfl⟩ ⟨Nat.le_refl _, Nat.le_refl _⟩ (va_recv hK hP (ci := 3) (q0 := 0) rfl rfl) hP hD hS hl.1 (Nat.le_of_ble_eq_true rfl) dX6_putTrouble_47 (fun H locs hP hD hS => ?_)
          have hP : va_P D vwCl (wRows ht cy St) H := hP
          have hD : va_D A (wRows ht cy St) := hD
          refine z_if_eq (tgt := 57) hx hb dX6_putTrouble_50 (by decide) hf (fun hf => ?_) (fun hf => ?_)
          · refine lv_iconst (v := (3 : Int32)) hx hb dX6_putTrouble_57 (by decide) ?_
            obtain rfl := Option.some.inj hf
            exact z_iret (v := (3 : Int32)) C hP hD hS dX6_putTrouble_58
          · refine lv_iconst (v := (0 : Int32)) hx hb dX6_putTrouble_53 (by decide) ?_
            refine lv_goto (tgt := 58) hx hb dX6_putTrouble_54 (by decide) ?_
            obtain rfl := Option.some.inj hf
            exact z_iret (v := (0 : Int32)) C hP hD hS dX6_putTrouble_58
        · refine lv_iconst (v := (0 : Int32)) hx hb dX6_putTrouble_33 (by decide) ?_
          obtain rfl := Option.some.inj hf
          exact z_iret (v := (0 : Int32)) C hP hD hS dX6_putTrouble_34
    · refine lv_iconst (v := (5 : Int32)) hx hb dX6_putTrouble_17 (by decide) ?_
      obtain rfl := Option.some.inj hf
      exact z_iret (v := (5 : Int32)) C hP hD hS dX6_putTrouble_18
def f_X6_putValue (St : SRows) (x1 : Int32) (x2 : Int32) (x3 : Int32) : Option (Int32 × SRows) :=
  (f_X6_verdict St x1 x2).bind (fun q1 =>
    (if q1 = 0 then
      (f_X6_countingFor St x1).bind (fun q2 =>
        (f_X6_versionSeen St x2 q2).bind (fun q3 =>
          (f_X6_isOwn St x1 q3).bind (fun q4 =>
            (if q4 = 0 then
              (f_X6_isVersion St q3).bind (fun q5 =>
                (if q5 = 0 then
                  (f_X6_stampOf St x1).bind (fun q6 =>
                    (f_X6_makeVersion St x2 x3 q6).bind (fun q7 =>
                      some (q7.1, q7.2)))
                  else
                  (f_X6_stampOf St x1).bind (fun q8 =>
                    (if zib q3 48 then (f_X6_stampOf (mkRows (Rows_ring St) (Rows_rowCount St) (Rows_crash St) (Rows_nextStamp St) (Rows_count St) (Rows_lostSlots St) (Rows_runningStamps St) (Rows_doneStamps St) (Rows_goneStamps St) (Rows_stamps St) (Rows_held St) (Rows_rowsOf St) (Rows_values St) (Rows_froms St) (upd (Rows_tills St) q3.toNatClampNeg q8) (Rows_made St)) x1).bind (fun q9 =>
                        (f_X6_makeVersion (mkRows (Rows_ring St) (Rows_rowCount St) (Rows_crash St) (Rows_nextStamp St) (Rows_count St) (Rows_lostSlots St) (Rows_runningStamps St) (Rows_doneStamps St) (Rows_goneStamps St) (Rows_stamps St) (Rows_held St) (Rows_rowsOf St) (Rows_values St) (Rows_froms St) (upd (Rows_tills St) q3.toNatClampNeg q8) (Rows_made St)) x2 x3 q9).bind (fun q10 =>
                          some (q10.1, q10.2))) else none))))
              else
              (if zib q3 48 then some (q3, (mkRows (Rows_ring St) (Rows_rowCount St) (Rows_crash St) (Rows_nextStamp St) (Rows_count St) (Rows_lostSlots St) (Rows_runningStamps St) (Rows_doneStamps St) (Rows_goneStamps St) (Rows_stamps St) (Rows_held St) (Rows_rowsOf St) (upd (Rows_values St) q3.toNatClampNeg x3) (Rows_froms St) (Rows_tills St) (Rows_made St))) else none)))))
      else
      some ((-2 : Int32), (mkRows (Rows_ring St) (Rows_rowCount St) (Rows_crash St) (Rows_nextStamp St) (Rows_count St) ((Rows_lostSlots St) ||| ((1 : Int32) <<< (x1 &&& 31))) (Rows_runningStamps St) (Rows_doneStamps St) (Rows_goneStamps St) (Rows_stamps St) (Rows_held St) (Rows_rowsOf St) (Rows_values St) (Rows_froms St) (Rows_tills St) (Rows_made St)))))
set_option maxHeartbeats 4000000 in
set_option maxRecDepth 100000 in
theorem c_X6_putValue (l : Launch) (D : va_G) (cy : Nat → ClassId) (ht : Nat → Nat) (St : SRows) (x1 : Int32) (x2 : Int32) (x3 : Int32) (r : Int32 × SRows) (hf : f_X6_putValue St x1 x2 x3 = some r) : zCI l yX6_putValue cX6_putValue 5 (some FieldType.int) 4 97 D (zty cy) [.ref (ht 0), .int x1, .int x2, .int x3] (wRows ht cy St) (wRows ht cy r.2) r.1 := by
  refine zCI_of (by decide +kernel) (Nat.le_of_ble_eq_true rfl) ?_
  intro p e s m below meth c A ls C hP hD hS hl
  generalize hargs : ([.ref (ht 0), .int x1, .int x2, .int x3] : List Value).toArray = args at C ⊢
  have C : zX p s m meth c cX6_putValue 5 args RX6 (some FieldType.int) A D (zty cy) := C
  obtain ⟨hx, hb, hr, hts, hown, hlocks, hml, hA, hK⟩ := id C
  have hl : lv_has ls 5 [(0, .ref (ht 0)), (1, .int x1), (2, .int x2), (3, .int x3)] := hl
  generalize hH : s.heap = H at hP ⊢
  have hS : va_S A s.heap H [] := by rw [← hH]; exact hS
  generalize ([] : List Loc) = locs at hS ⊢
  refine lv_aload_n hx hb dX6_putValue_0 rfl (lv_at hl 0 rfl) ?_
  refine lv_iload_n hx hb dX6_putValue_1 rfl (lv_at hl 1 rfl) ?_
  refine lv_iload_n hx hb dX6_putValue_2 rfl (lv_at hl 2 rfl) ?_
  obtain ⟨q1, hc, hf⟩ := zbd hf
  refine z_cVi0 (As := [.int x1, .int x2]) (rest := []) C (c_X6_verdict l D cy ht St x1 x2 q1 hc) gV_X6_X6_verdict hd_X6_verdict ⟨Nat.le_of_ble_eq_true rfl, Nat.le_of_ble_eq_true rfl⟩ ⟨Nat.le_refl _, Nat.le_refl _⟩ (va_recv hK hP (ci := 3) (q0 := 0) rfl rfl) hP hD hS hl.1 (Nat.le_of_ble_eq_true rfl) dX6_putValue_3 (fun H locs hP hD hS => ?_)
  have hP : va_P D vwCl (wRows ht cy St) H := hP
  have hD : va_D A (wRows ht cy St) := hD
  refine z_if_eq (tgt := 24) hx hb dX6_putValue_6 (by decide) hf (fun hf => ?_) (fun hf => ?_)
  · refine lv_aload_n hx hb dX6_putValue_24 rfl (lv_at hl 0 rfl) ?_
    refine lv_iload_n hx hb dX6_putValue_25 rfl (lv_at hl 2 rfl) ?_
    refine lv_aload_n hx hb dX6_putValue_26 rfl (lv_at hl 0 rfl) ?_
    refine lv_iload_n hx hb dX6_putValue_27 rfl (lv_at hl 1 rfl) ?_
    obtain ⟨q2, hc, hf⟩ := zbd hf
    refine z_cVl0 (As := [.int x1]) (rest := [.int x2, .ref (ht 0)]) C (c_X6_countingFor l D cy ht St x1 q2 hc) gV_X6_X6_countingFor hd_X6_countingFor ⟨Nat.le_of_ble_eq_true rfl, Nat.le_of_ble_eq_true rfl⟩ ⟨Nat.le_refl _, Nat.le_refl _⟩ (va_recv hK hP (ci := 3) (q0 := 0) rfl rfl) hP hD hS hl.1 (Nat.le_of_ble_eq_true rfl) dX6_putValue_28 (fun H locs hP hD hS => ?_)
    have hP : va_P D vwCl (wRows ht cy St) H := hP
    have hD : va_D A (wRows ht cy St) := hD
    obtain ⟨q3, hc, hf⟩ := zbd hf
    refine z_cVi0 (As := [.int x2, .long q2]) (rest := []) C (c_X6_versionSeen l D cy ht St x2 q2 q3 hc) gV_X6_X6_versionSeen hd_X6_versionSeen ⟨Nat.le_of_ble_eq_true rfl, Nat.le_of_ble_eq_true rfl⟩ ⟨Nat.le_refl _, Nat.le_refl _⟩ (va_recv hK hP (ci := 3) (q0 := 0) rfl rfl) hP hD hS hl.1 (Nat.le_of_ble_eq_true rfl) dX6_putValue_31 (fun H locs hP hD hS => ?_)
    have hP : va_P D vwCl (wRows ht cy St) H := hP
    have hD : va_D A (wRows ht cy St) := hD
    refine lv_istore (lv' := [(4, .int q3), (0, .ref (ht 0)), (1, .int x1), (2, .int x2), (3, .int x3)]) hx hb dX6_putValue_34 hl (by decide) rfl (fun ls hl => ?_)
    refine lv_aload_n hx hb dX6_putValue_36 rfl (lv_at hl 1 rfl) ?_
    refine lv_iload_n hx hb dX6_putValue_37 rfl (lv_at hl 2 rfl) ?_
    refine lv_iload hx hb dX6_putValue_38 (lv_at hl 0 rfl) ?_
    obtain ⟨q4, hc, hf⟩ := zbd hf
    refine z_cVi0 (As := [.int x1, .int q3]) (rest := []) C (c_X6_isOwn l D cy ht St x1 q3 q4 hc) gV_X6_X6_isOwn hd_X6_isOwn ⟨Nat.le_of_ble_eq_true rfl, Nat.le_of_ble_eq_true rfl⟩ ⟨Nat.le_refl _, Nat.le_refl _⟩ (va_recv hK hP (ci := 3) (q0 := 0) rfl rfl) hP hD hS hl.1 (Nat.le_of_ble_eq_true rfl) dX6_putValue_40 (fun H locs hP hD hS => ?_)
    have hP : va_P D vwCl (wRows ht cy St) H := hP
    have hD : va_D A (wRows ht cy St) := hD
    refine z_if_eq (tgt := 57) hx hb dX6_putValue_43 (by decide) hf (fun hf => ?_) (fun hf => ?_)
    · refine lv_aload_n hx hb dX6_putValue_57 rfl (lv_at hl 1 rfl) ?_
      refine lv_iload hx hb dX6_putValue_58 (lv_at hl 0 rfl) ?_
      obtain ⟨q5, hc, hf⟩ := zbd hf
      refine z_cVi0 (As := [.int q3]) (rest := []) C (c_X6_isVersion l D cy ht St q3 q5 hc) gV_X6_X6_isVersion hd_X6_isVersion ⟨Nat.le_of_ble_eq_true rfl, Nat.le_of_ble_eq_true rfl⟩ ⟨Nat.le_refl _, Nat.le_refl _⟩ (va_recv hK hP (ci := 3) (q0 := 0) rfl rfl) hP hD hS hl.1 (Nat.le_of_ble_eq_true rfl) dX6_putValue_60 (fun H locs hP hD hS => ?_)
      have hP : va_P D vwCl (wRows ht cy St) H := hP
      have hD : va_D A (wRows ht cy St) := hD
      refine z_if_eq (tgt := 78) hx hb dX6_putValue_63 (by decide) hf (fun hf => ?_) (fun hf => ?_)
      · refine lv_aload_n hx hb dX6_putValue_78 rfl (lv_at hl 1 rfl) ?_
        refine lv_iload_n hx hb dX6_putValue_79 rfl (lv_at hl 3 rfl) ?_
        refine lv_iload_n hx hb dX6_putValue_80 rfl (lv_at hl 4 rfl) ?_
        refine lv_aload_n hx hb dX6_putValue_81 rfl (lv_at hl 1 rfl) ?_
        refine lv_iload_n hx hb dX6_putValue_82 rfl (lv_at hl 2 rfl) ?_
        obtain ⟨q6, hc, hf⟩ := zbd hf
        refine z_cVi0 (As := [.int x1]) (rest := [.int x3, .int x2, .ref (ht 0)]) C (c_X6_stampOf l D cy ht St x1 q6 hc) gV_X6_X6_stampOf hd_X6_stampOf ⟨Nat.le_of_ble_eq_true rfl, Nat.le_of_ble_eq_true rfl⟩ ⟨Nat.le_refl _, Nat.le_refl _⟩ (va_recv hK hP (ci := 3) (q0 := 0) rfl rfl) hP hD hS hl.1 (Nat.le_of_ble_eq_true rfl) dX6_putValue_83 (fun H locs hP hD hS => ?_)
        have hP : va_P D vwCl (wRows ht cy St) H := hP
        have hD : va_D A (wRows ht cy St) := hD
        obtain ⟨q7, hc, hf⟩ := zbd hf
        refine z_cVi0 (As := [.int x2, .int x3, .int q6]) (rest := []) C (c_X6_makeVersion l D cy ht St x2 x3 q6 q7 hc) gV_X6_X6_makeVersion hd_X6_makeVersion ⟨Nat.le_of_ble_eq_true rfl, Nat.le_of_ble_eq_true rfl⟩ ⟨Nat.le_refl _, Nat.le_refl _⟩ (va_recv hK hP (ci := 3) (q0 := 0) rfl rfl) hP hD hS hl.1 (Nat.le_of_ble_eq_true rfl) dX6_putValue_86 (fun H locs hP hD hS => ?_)
        have hP : va_P D vwCl (wRows ht cy q7.2) H := hP
        have hD : va_D A (wRows ht cy q7.2) := hD
        obtain rfl := Option.some.inj hf
        exact z_iret (v := q7.1) C hP hD hS dX6_putValue_89
      · refine lv_aload_n hx hb dX6_putValue_66 rfl (lv_at hl 1 rfl) ?_
        refine va_get (D := D) (ci := 3) (v := .ref (ht 6)) (C := RX6) (T := TX6) (N := 16) hx hb hts in_X6 hown hK hP 0 rfl rfl 14 (by decide) (hts _ q1_72) (fun _ h9 => h9) rfl dX6_putValue_67 ?_
        refine lv_iload hx hb dX6_putValue_70 (lv_at hl 0 rfl) ?_
        refine lv_aload_n hx hb dX6_putValue_72 rfl (lv_at hl 1 rfl) ?_
        refine lv_iload_n hx hb dX6_putValue_73 rfl (lv_at hl 2 rfl) ?_
        obtain ⟨q8, hc, hf⟩ := zbd hf
        refine z_cVi0 (As := [.int x1]) (rest := [.int q3, .ref (ht 6)]) C (c_X6_stampOf l D cy ht St x1 q8 hc) gV_X6_X6_stampOf hd_X6_stampOf ⟨Nat.le_of_ble_eq_true rfl, Nat.le_of_ble_eq_true rfl⟩ ⟨Nat.le_refl _, Nat.le_refl _⟩ (va_recv hK hP (ci := 3) (q0 := 0) rfl rfl) hP hD hS hl.1 (Nat.le_of_ble_eq_true rfl) dX6_putValue_74 (fun H locs hP hD hS => ?_)
        have hP : va_P D vwCl (wRows ht cy St) H := hP
        have hD : va_D A (wRows ht cy St) := hD
        refine z_iast (f := (Rows_tills St)) (w2 := vRows ht cy (Rows_ring St) (Rows_rowCount St) (Rows_crash St) (Rows_nextStamp St) (Rows_count St) (Rows_lostSlots St) (Rows_runningStamps St) (Rows_doneStamps St) (Rows_goneStamps St) (Rows_stamps St) (Rows_held St) (Rows_rowsOf St) (Rows_values St) (Rows_froms St) (upd (Rows_tills St) q3.toNatClampNeg q8) (Rows_made St)) hx hb hK hP hD hS 6 0 rfl rfl dX6_putValue_77 hf rfl (fun hf H locs hP hD hS => ?_)
        refine lv_aload_n hx hb dX6_putValue_78 rfl (lv_at hl 1 rfl) ?_
        refine lv_iload_n hx hb dX6_putValue_79 rfl (lv_at hl 3 rfl) ?_
        refine lv_iload_n hx hb dX6_putValue_80 rfl (lv_at hl 4 rfl) ?_
        refine lv_aload_n hx hb dX6_putValue_81 rfl (lv_at hl 1 rfl) ?_
        refine lv_iload_n hx hb dX6_putValue_82 rfl (lv_at hl 2 rfl) ?_
        obtain ⟨q9, hc, hf⟩ := zbd hf
        rw [← wRows_mk ht] at hP hD
        refine z_cVi0 (As := [.int x1]) (rest := [.int x3, .int x2, .ref (ht 0)]) C (c_X6_stampOf l D cy ht (mkRows (Rows_ring St) (Rows_rowCount St) (Rows_crash St) (Rows_nextStamp St) (Rows_count St) (Rows_lostSlots St) (Rows_runningStamps St) (Rows_doneStamps St) (Rows_goneStamps St) (Rows_stamps St) (Rows_held St) (Rows_rowsOf St) (Rows_values St) (Rows_froms St) (upd (Rows_tills St) q3.toNatClampNeg q8) (Rows_made St)) x1 q9 hc) gV_X6_X6_stampOf hd_X6_stampOf ⟨Nat.le_of_ble_eq_true rfl, Nat.le_of_ble_eq_true rfl⟩ ⟨Nat.le_refl _, Nat.le_refl _⟩ (va_recv hK hP (ci := 3) (q0 := 0) rfl rfl) hP hD hS hl.1 (Nat.le_of_ble_eq_true rfl) dX6_putValue_83 (fun H locs hP hD hS => ?_)
        have hP : va_P D vwCl (wRows ht cy (mkRows (Rows_ring St) (Rows_rowCount St) (Rows_crash St) (Rows_nextStamp St) (Rows_count St) (Rows_lostSlots St) (Rows_runningStamps St) (Rows_doneStamps St) (Rows_goneStamps St) (Rows_stamps St) (Rows_held St) (Rows_rowsOf St) (Rows_values St) (Rows_froms St) (upd (Rows_tills St) q3.toNatClampNeg q8) (Rows_made St))) H := hP
        have hD : va_D A (wRows ht cy (mkRows (Rows_ring St) (Rows_rowCount St) (Rows_crash St) (Rows_nextStamp St) (Rows_count St) (Rows_lostSlots St) (Rows_runningStamps St) (Rows_doneStamps St) (Rows_goneStamps St) (Rows_stamps St) (Rows_held St) (Rows_rowsOf St) (Rows_values St) (Rows_froms St) (upd (Rows_tills St) q3.toNatClampNeg q8) (Rows_made St))) := hD
        rw [wRows_mk ht] at hP hD
        obtain ⟨q10, hc, hf⟩ := zbd hf
        rw [← wRows_mk ht] at hP hD
        refine z_cVi0 (As := [.int x2, .int x3, .int q9]) (rest := []) C (c_X6_makeVersion l D cy ht (mkRows (Rows_ring St) (Rows_rowCount St) (Rows_crash St) (Rows_nextStamp St) (Rows_count St) (Rows_lostSlots St) (Rows_runningStamps St) (Rows_doneStamps St) (Rows_goneStamps St) (Rows_stamps St) (Rows_held St) (Rows_rowsOf St) (Rows_values St) (Rows_froms St) (upd (Rows_tills St) q3.toNatClampNeg q8) (Rows_made St)) x2 x3 q9 q10 hc) gV_X6_X6_makeVersion hd_X6_makeVersion ⟨Nat.le_of_ble_eq_true rfl, Nat.le_of_ble_eq_true rfl⟩ ⟨Nat.le_refl _, Nat.le_refl _⟩ (va_recv hK hP (ci := 3) (q0 := 0) rfl rfl) hP hD hS hl.1 (Nat.le_of_ble_eq_true rfl) dX6_putValue_86 (fun H locs hP hD hS => ?_)
        have hP : va_P D vwCl (wRows ht cy q10.2) H := hP
        have hD : va_D A (wRows ht cy q10.2) := hD
        obtain rfl := Option.some.inj hf
        exact z_iret (v := q10.1) C hP hD hS dX6_putValue_89
    · refine lv_aload_n hx hb dX6_putValue_46 rfl (lv_at hl 1 rfl) ?_
      refine va_get (D := D) (ci := 3) (v := .ref (ht 4)) (C := RX6) (T := TX6) (N := 16) hx hb hts in_X6 hown hK hP 0 rfl rfl 12 (by decide) (hts _ q1_70) (fun _ h9 => h9) rfl dX6_putValue_47 ?_
      refine lv_iload hx hb dX6_putValue_50 (lv_at hl 0 rfl) ?_
      refine lv_iload_n hx hb dX6_putValue_52 rfl (lv_at hl 4 rfl) ?_
      refine z_iast (f := (Rows_values St)) (w2 := vRows ht cy (Rows_ring St) (Rows_rowCount St) (Rows_crash St) (Rows_nextStamp St) (Rows_count St) (Rows_lostSlots St) (Rows_runningStamps St) (Rows_doneStamps St) (Rows_goneStamps St) (Rows_stamps St) (Rows_held St) (Rows_rowsOf St) (upd (Rows_values St) q3.toNatClampNeg x3) (Rows_froms St) (Rows_tills St) (Rows_made St)) hx hb hK hP hD hS 4 0 rfl rfl dX6_putValue_53 hf rfl (fun hf H locs hP hD hS => ?_)
      refine lv_iload hx hb dX6_putValue_54 (lv_at hl 0 rfl) ?_
      obtain rfl := Option.some.inj hf
      rw [← wRows_mk ht] at hP hD
      exact z_iret (v := q3) C hP hD hS dX6_putValue_56
  · refine lv_aload_n hx hb dX6_putValue_9 rfl (lv_at hl 0 rfl) ?_
    refine lv_dup hx hb dX6_putValue_10 rfl ?_
    refine va_get (D := D) (ci := 3) (v := .int (Rows_lostSlots St)) (C := RX6) (T := TX6) (N := 16) hx hb hts in_X6 hown hK hP 0 rfl rfl 5 (by decide) (hts _ q1_63) (fun _ h9 => h9) rfl dX6_putValue_11 ?_
    refine lv_iconst (v := (1 : Int32)) hx hb dX6_putValue_14 (by decide) ?_
    refine lv_iload_n hx hb dX6_putValue_15 rfl (lv_at hl 1 rfl) ?_
    refine lv_ishl hx hb dX6_putValue_16 ?_
    refine lv_ior hx hb dX6_putValue_17 ?_
    refine z_put (w2 := vRows ht cy (Rows_ring St) (Rows_rowCount St) (Rows_crash St) (Rows_nextStamp St) (Rows_count St) ((Rows_lostSlots St) ||| ((1 : Int32) <<< (x1 &&& 31))) (Rows_runningStamps St) (Rows_doneStamps St) (Rows_goneStamps St) (Rows_stamps St) (Rows_held St) (Rows_rowsOf St) (Rows_values St) (Rows_froms St) (Rows_tills St) (Rows_made St)) hx hb hts in_X6 tyX6 tyX6_ok nmX6 hown hK hP hD hS 0 rfl rfl 5 (by decide) (hts _ q1_63) (fun _ h9 => h9) rfl rfl rfl (Nat.le_of_ble_eq_true rfl) dX6_putValue_18 rfl (fun H locs hP hD hS => ?_)
    refine lv_bipush (v := (-2 : Int32)) hx hb dX6_putValue_21 (by decide) ?_
    obtain rfl := Option.some.inj hf
    rw [← wRows_mk ht] at hP hD
    exact z_iret (v := (-2 : Int32)) C hP hD hS dX6_putValue_23
def f_X6_dropTrouble (St : SRows) (x1 : Int32) (x2 : Int32) : Option (Int32) :=
  (f_X6_verdict St x1 x2).bind (fun q1 =>
    (if q1 = (1 : Int32) then
      some (5 : Int32)
      else
      (if q1 = (3 : Int32) then
        some (5 : Int32)
        else
        (if q1 = (2 : Int32) then
          some (0 : Int32)
          else
          (f_X6_countingFor St x1).bind (fun q2 =>
            (f_X6_versionSeen St x2 q2).bind (fun q3 =>
              (if q3 = (-2 : Int32) then
                some (6 : Int32)
                else
                some (0 : Int32))))))))
set_option maxHeartbeats 4000000 in
set_option maxRecDepth 100000 in
theorem c_X6_dropTrouble (l : Launch) (D : va_G) (cy : Nat → ClassId) (ht : Nat → Nat) (St : SRows) (x1 : Int32) (x2 : Int32) (r : Int32) (hf : f_X6_dropTrouble St x1 x2 = some r) : zCI l yX6_dropTrouble cX6_dropTrouble 4 (some FieldType.int) 4 97 D (zty cy) [.ref (ht 0), .int x1, .int x2] (wRows ht cy St) (wRows ht cy St) r := by
  refine zCI_of (by decide +kernel) (Nat.le_of_ble_eq_true rfl) ?_
  intro p e s m below meth c A ls C hP hD hS hl
  generalize hargs : ([.ref (ht 0), .int x1, .int x2] : List Value).toArray = args at C ⊢
  have C : zX p s m meth c cX6_dropTrouble 4 args RX6 (some FieldType.int) A D (zty cy) := C
  obtain ⟨hx, hb, hr, hts, hown, hlocks, hml, hA, hK⟩ := id C
  have hl : lv_has ls 4 [(0, .ref (ht 0)), (1, .int x1), (2, .int x2)] := hl
  generalize hH : s.heap = H at hP ⊢
  have hS : va_S A s.heap H [] := by rw [← hH]; exact hS
  generalize ([] : List Loc) = locs at hS ⊢
  refine lv_aload_n hx hb dX6_dropTrouble_0 rfl (lv_at hl 0 rfl) ?_
  refine lv_iload_n hx hb dX6_dropTrouble_1 rfl (lv_at hl 1 rfl) ?_
  refine lv_iload_n hx hb dX6_dropTrouble_2 rfl (lv_at hl 2 rfl) ?_
  obtain ⟨q1, hc, hf⟩ := zbd hf
  refine z_cVi0 (As := [.int x1, .int x2]) (rest := []) C (c_X6_verdict l D cy ht St x1 x2 q1 hc) gV_X6_X6_verdict hd_X6_verdict ⟨Nat.le_of_ble_eq_true rfl, Nat.le_of_ble_eq_true rfl⟩ ⟨Nat.le_refl _, Nat.le_refl _⟩ (va_recv hK hP (ci := 3) (q0 := 0) rfl rfl) hP hD hS hl.1 (Nat.le_of_ble_eq_true rfl) dX6_dropTrouble_3 (fun H locs hP hD hS => ?_)
  have hP : va_P D vwCl (wRows ht cy St) H := hP
  have hD : va_D A (wRows ht cy St) := hD
  refine lv_istore_n (lv' := [(3, .int q1), (0, .ref (ht 0)), (1, .int x1), (2, .int x2)]) hx hb dX6_dropTrouble_6 rfl hl (by decide) rfl (fun ls hl => ?_)
  refine lv_iload_n hx hb dX6_dropTrouble_7 rfl (lv_at hl 0 rfl) ?_
  refine lv_iconst (v := (1 : Int32)) hx hb dX6_dropTrouble_8 (by decide) ?_
  refine z_icmp_eq (tgt := 17) hx hb dX6_dropTrouble_9 (by decide) hf (fun hf => ?_) (fun hf => ?_)
  · refine lv_iconst (v := (5 : Int32)) hx hb dX6_dropTrouble_17 (by decide) ?_
    obtain rfl := Option.some.inj hf
    exact z_iret (v := (5 : Int32)) C hP hD hS dX6_dropTrouble_18
  · refine lv_iload_n hx hb dX6_dropTrouble_12 rfl (lv_at hl 0 rfl) ?_
    refine lv_iconst (v := (3 : Int32)) hx hb dX6_dropTrouble_13 (by decide) ?_
    refine z_icmp_ne (tgt := 19) hx hb dX6_dropTrouble_14 (by decide) hf (fun hf => ?_) (fun hf => ?_)
    · refine lv_iload_n hx hb dX6_dropTrouble_19 rfl (lv_at hl 0 rfl) ?_
      refine lv_iconst (v := (2 : Int32)) hx hb dX6_dropTrouble_20 (by decide) ?_
      refine z_icmp_ne (tgt := 26) hx hb dX6_dropTrouble_21 (by decide) hf (fun hf => ?_) (fun hf => ?_)
      · refine lv_aload_n hx hb dX6_dropTrouble_26 rfl (lv_at hl 1 rfl) ?_
        refine lv_iload_n hx hb dX6_dropTrouble_27 rfl (lv_at hl 3 rfl) ?_
        refine lv_aload_n hx hb dX6_dropTrouble_28 rfl (lv_at hl 1 rfl) ?_
        refine lv_iload_n hx hb dX6_dropTrouble_29 rfl (lv_at hl 2 rfl) ?_
        obtain ⟨q2, hc, hf⟩ := zbd hf
        refine z_cVl0 (As := [.int x1]) (rest := [.int x2, .ref (ht 0)]) C (c_X6_countingFor l D cy ht St x1 q2 hc) gV_X6_X6_countingFor hd_X6_countingFor ⟨Nat.le_of_ble_eq_true rfl, Nat.le_of_ble_eq_true rfl⟩ ⟨Nat.le_refl _, Nat.le_refl _⟩ (va_recv hK hP (ci := 3) (q0 := 0) rfl rfl) hP hD hS hl.1 (Nat.le_of_ble_eq_true rfl) dX6_dropTrouble_30 (fun H locs hP hD hS => ?_)
        have hP : va_P D vwCl (wRows ht cy St) H := hP
        have hD : va_D A (wRows ht cy St) := hD
        obtain ⟨q3, hc, hf⟩ := zbd hf
        refine z_cVi0 (As := [.int x2, .long q2]) (rest := []) C (c_X6_versionSeen l D cy ht St x2 q2 q3 hc) gV_X6_X6_versionSeen hd_X6_versionSeen ⟨Nat.le_of_ble_eq_true rfl, Nat.le_of_ble_eq_true rfl⟩ ⟨Nat.le_refl _, Nat.le_refl _⟩ (va_recv hK hP (ci := 3) (q0 := 0) rfl rfl) hP hD hS hl.1 (Nat.le_of_ble_eq_true rfl) dX6_dropTrouble_33 (fun H locs hP hD hS => ?_)
        have hP : va_P D vwCl (wRows ht cy St) H := hP
        have hD : va_D A (wRows ht cy St) := hD
        refine lv_bipush (v := (-2 : Int32)) hx hb dX6_dropTrouble_36 (by decide) ?_
        refine z_icmp_ne (tgt := 46) hx hb dX6_dropTrouble_38 (by decide) hf (fun hf => ?_) (fun hf => ?_)
        · refine lv_iconst (v := (0 : Int32)) hx hb dX6_dropTrouble_46 (by decide) ?_
          obtain rfl := Option.some.inj hf
          exact z_iret (v := (0 : Int32)) C hP hD hS dX6_dropTrouble_47
        · refine lv_bipush (v := (6 : Int32)) hx hb dX6_dropTrouble_41 (by decide) ?_
          refine lv_goto (tgt := 47) hx hb dX6_dropTrouble_43 (by decide) ?_
          obtain rfl := Option.some.inj hf
          exact z_iret (v := (6 : Int32)) C hP hD hS dX6_dropTrouble_47
      · refine lv_iconst (v := (0 : Int32)) hx hb dX6_dropTrouble_24 (by decide) ?_
        obtain rfl := Option.some.inj hf
        exact z_iret (v := (0 : Int32)) C hP hD hS dX6_dropTrouble_25
    · refine lv_iconst (v := (5 : Int32)) hx hb dX6_dropTrouble_17 (by decide) ?_
      obtain rfl := Option.some.inj hf
      exact z_iret (v := (5 : Int32)) C hP hD hS dX6_dropTrouble_18
def f_X6_dropValue (St : SRows) (x1 : Int32) (x2 : Int32) : Option (Int32 × SRows) :=
  (f_X6_verdict St x1 x2).bind (fun q1 =>
    (if q1 = 0 then
      (f_X6_countingFor St x1).bind (fun q2 =>
        (f_X6_versionSeen St x2 q2).bind (fun q3 =>
          (f_X6_isVersion St q3).bind (fun q4 =>
            (if q4 = 0 then
              some (q3, St)
              else
              (f_X6_stampOf St x1).bind (fun q5 =>
                (if zib q3 48 then some (q3, (mkRows (Rows_ring St) (Rows_rowCount St) (Rows_crash St) (Rows_nextStamp St) (Rows_count St) (Rows_lostSlots St) (Rows_runningStamps St) (Rows_doneStamps St) (Rows_goneStamps St) (Rows_stamps St) (Rows_held St) (Rows_rowsOf St) (Rows_values St) (Rows_froms St) (upd (Rows_tills St) q3.toNatClampNeg q5) (Rows_made St))) else none))))))
      else
      some ((-2 : Int32), (mkRows (Rows_ring St) (Rows_rowCount St) (Rows_crash St) (Rows_nextStamp St) (Rows_count St) ((Rows_lostSlots St) ||| ((1 : Int32) <<< (x1 &&& 31))) (Rows_runningStamps St) (Rows_doneStamps St) (Rows_goneStamps St) (Rows_stamps St) (Rows_held St) (Rows_rowsOf St) (Rows_values St) (Rows_froms St) (Rows_tills St) (Rows_made St)))))
set_option maxHeartbeats 4000000 in
set_option maxRecDepth 100000 in
theorem c_X6_dropValue (l : Launch) (D : va_G) (cy : Nat → ClassId) (ht : Nat → Nat) (St : SRows) (x1 : Int32) (x2 : Int32) (r : Int32 × SRows) (hf : f_X6_dropValue St x1 x2 = some r) : zCI l yX6_dropValue cX6_dropValue 4 (some FieldType.int) 4 97 D (zty cy) [.ref (ht 0), .int x1, .int x2] (wRows ht cy St) (wRows ht cy r.2) r.1 := by
  refine zCI_of (by decide +kernel) (Nat.le_of_ble_eq_true rfl) ?_
  intro p e s m below meth c A ls C hP hD hS hl
  generalize hargs : ([.ref (ht 0), .int x1, .int x2] : List Value).toArray = args at C ⊢
  have C : zX p s m meth c cX6_dropValue 4 args RX6 (some FieldType.int) A D (zty cy) := C
  obtain ⟨hx, hb, hr, hts, hown, hlocks, hml, hA, hK⟩ := id C
  have hl : lv_has ls 4 [(0, .ref (ht 0)), (1, .int x1), (2, .int x2)] := hl
  generalize hH : s.heap = H at hP ⊢
  have hS : va_S A s.heap H [] := by rw [← hH]; exact hS
  generalize ([] : List Loc) = locs at hS ⊢
  refine lv_aload_n hx hb dX6_dropValue_0 rfl (lv_at hl 0 rfl) ?_
  refine lv_iload_n hx hb dX6_dropValue_1 rfl (lv_at hl 1 rfl) ?_
  refine lv_iload_n hx hb dX6_dropValue_2 rfl (lv_at hl 2 rfl) ?_
  obtain ⟨q1, hc, hf⟩ := zbd hf
  refine z_cVi0 (As := [.int x1, .int x2]) (rest := []) C (c_X6_verdict l D cy ht St x1 x2 q1 hc) gV_X6_X6_verdict hd_X6_verdict ⟨Nat.le_of_ble_eq_true rfl, Nat.le_of_ble_eq_true rfl⟩ ⟨Nat.le_refl _, Nat.le_refl _⟩ (va_recv hK hP (ci := 3) (q0 := 0) rfl rfl) hP hD hS hl.1 (Nat.le_of_ble_eq_true rfl) dX6_dropValue_3 (fun H locs hP hD hS => ?_)
  have hP : va_P D vwCl (wRows ht cy St) H := hP
  have hD : va_D A (wRows ht cy St) := hD
  refine z_if_eq (tgt := 24) hx hb dX6_dropValue_6 (by decide) hf (fun hf => ?_) (fun hf => ?_)
  · refine lv_aload_n hx hb dX6_dropValue_24 rfl (lv_at hl 0 rfl) ?_
    refine lv_iload_n hx hb dX6_dropValue_25 rfl (lv_at hl 2 rfl) ?_
    refine lv_aload_n hx hb dX6_dropValue_26 rfl (lv_at hl 0 rfl) ?_
    refine lv_iload_n hx hb dX6_dropValue_27 rfl (lv_at hl 1 rfl) ?_
    obtain ⟨q2, hc, hf⟩ := zbd hf
    refine z_cVl0 (As := [.int x1]) (rest := [.int x2, .ref (ht 0)]) C (c_X6_countingFor l D cy ht St x1 q2 hc) gV_X6_X6_countingFor hd_X6_countingFor ⟨Nat.le_of_ble_eq_true rfl, Nat.le_of_ble_eq_true rfl⟩ ⟨Nat.le_refl _, Nat.le_refl _⟩ (va_recv hK hP (ci := 3) (q0 := 0) rfl rfl) hP hD hS hl.1 (Nat.le_of_ble_eq_true rfl) dX6_dropValue_28 (fun H locs hP hD hS => ?_)
    have hP : va_P D vwCl (wRows ht cy St) H := hP
    have hD : va_D A (wRows ht cy St) := hD
    obtain ⟨q3, hc, hf⟩ := zbd hf
    refine z_cVi0 (As := [.int x2, .long q2]) (rest := []) C (c_X6_versionSeen l D cy ht St x2 q2 q3 hc) gV_X6_X6_versionSeen hd_X6_versionSeen ⟨Nat.le_of_ble_eq_true rfl, Nat.le_of_ble_eq_true rfl⟩ ⟨Nat.le_refl _, Nat.le_refl _⟩ (va_recv hK hP (ci := 3) (q0 := 0) rfl rfl) hP hD hS hl.1 (Nat.le_of_ble_eq_true rfl) dX6_dropValue_31 (fun H locs hP hD hS => ?_)
    have hP : va_P D vwCl (wRows ht cy St) H := hP
    have hD : va_D A (wRows ht cy St) := hD
    refine lv_istore_n (lv' := [(3, .int q3), (0, .ref (ht 0)), (1, .int x1), (2, .int x2)]) hx hb dX6_dropValue_34 rfl hl (by decide) rfl (fun ls hl => ?_)
    refine lv_aload_n hx hb dX6_dropValue_35 rfl (lv_at hl 1 rfl) ?_
    refine lv_iload_n hx hb dX6_dropValue_36 rfl (lv_at hl 0 rfl) ?_
    obtain ⟨q4, hc, hf⟩ := zbd hf
    refine z_cVi0 (As := [.int q3]) (rest := []) C (c_X6_isVersion l D cy ht St q3 q4 hc) gV_X6_X6_isVersion hd_X6_isVersion ⟨Nat.le_of_ble_eq_true rfl, Nat.le_of_ble_eq_true rfl⟩ ⟨Nat.le_refl _, Nat.le_refl _⟩ (va_recv hK hP (ci := 3) (q0 := 0) rfl rfl) hP hD hS hl.1 (Nat.le_of_ble_eq_true rfl) dX6_dropValue_37 (fun H locs hP hD hS => ?_)
    have hP : va_P D vwCl (wRows ht cy St) H := hP
    have hD : va_D A (wRows ht cy St) := hD
    refine z_if_eq (tgt := 54) hx hb dX6_dropValue_40 (by decide) hf (fun hf => ?_) (fun hf => ?_)
    · refine lv_iload_n hx hb dX6_dropValue_54 rfl (lv_at hl 0 rfl) ?_
      obtain rfl := Option.some.inj hf
      exact z_iret (v := q3) C hP hD hS dX6_dropValue_55
    · refine lv_aload_n hx hb dX6_dropValue_43 rfl (lv_at hl 1 rfl) ?_
      refine va_get (D := D) (ci := 3) (v := .ref (ht 6)) (C := RX6) (T := TX6) (N := 16) hx hb hts in_X6 hown hK hP 0 rfl rfl 14 (by decide) (hts _ q1_72) (fun _ h9 => h9) rfl dX6_dropValue_44 ?_
      refine lv_iload_n hx hb dX6_dropValue_47 rfl (lv_at hl 0 rfl) ?_
      refine lv_aload_n hx hb dX6_dropValue_48 rfl (lv_at hl 1 rfl) ?_
      refine lv_iload_n hx hb dX6_dropValue_49 rfl (lv_at hl 2 rfl) ?_
      obtain ⟨q5, hc, hf⟩ := zbd hf
      refine z_cVi0 (As := [.int x1]) (rest := [.int q3, .ref (ht 6)]) C (c_X6_stampOf l D cy ht St x1 q5 hc) gV_X6_X6_stampOf hd_X6_stampOf ⟨Nat.le_of_ble_eq_true rfl, Nat.le_of_ble_eq_true rfl⟩ ⟨Nat.le_refl _, Nat.le_refl _⟩ (va_recv hK hP (ci := 3) (q0 := 0) rfl rfl) hP hD hS hl.1 (Nat.le_of_ble_eq_true rfl) dX6_dropValue_50 (fun H locs hP hD hS => ?_)
      have hP : va_P D vwCl (wRows ht cy St) H := hP
      have hD : va_D A (wRows ht cy St) := hD
      refine z_iast (f := (Rows_tills St)) (w2 := vRows ht cy (Rows_ring St) (Rows_rowCount St) (Rows_crash St) (Rows_nextStamp St) (Rows_count St) (Rows_lostSlots St) (Rows_runningStamps St) (Rows_doneStamps St) (Rows_goneStamps St) (Rows_stamps St) (Rows_held St) (Rows_rowsOf St) (Rows_values St) (Rows_froms St) (upd (Rows_tills St) q3.toNatClampNeg q5) (Rows_made St)) hx hb hK hP hD hS 6 0 rfl rfl dX6_dropValue_53 hf rfl (fun hf H locs hP hD hS => ?_)
      refine lv_iload_n hx hb dX6_dropValue_54 rfl (lv_at hl 0 rfl) ?_
      obtain rfl := Option.some.inj hf
      rw [← wRows_mk ht] at hP hD
      exact z_iret (v := q3) C hP hD hS dX6_dropValue_55
  · refine lv_aload_n hx hb dX6_dropValue_9 rfl (lv_at hl 0 rfl) ?_
    refine lv_dup hx hb dX6_dropValue_10 rfl ?_
    refine va_get (D := D) (ci := 3) (v := .int (Rows_lostSlots St)) (C := RX6) (T := TX6) (N := 16) hx hb hts in_X6 hown hK hP 0 rfl rfl 5 (by decide) (hts _ q1_63) (fun _ h9 => h9) rfl dX6_dropValue_11 ?_
    refine lv_iconst (v := (1 : Int32)) hx hb dX6_dropValue_14 (by decide) ?_
    refine lv_iload_n hx hb dX6_dropValue_15 rfl (lv_at hl 1 rfl) ?_
    refine lv_ishl hx hb dX6_dropValue_16 ?_
    refine lv_ior hx hb dX6_dropValue_17 ?_
    refine z_put (w2 := vRows ht cy (Rows_ring St) (Rows_rowCount St) (Rows_crash St) (Rows_nextStamp St) (Rows_count St) ((Rows_lostSlots St) ||| ((1 : Int32) <<< (x1 &&& 31))) (Rows_runningStamps St) (Rows_doneStamps St) (Rows_goneStamps St) (Rows_stamps St) (Rows_held St) (Rows_rowsOf St) (Rows_values St) (Rows_froms St) (Rows_tills St) (Rows_made St)) hx hb hts in_X6 tyX6 tyX6_ok nmX6 hown hK hP hD hS 0 rfl rfl 5 (by decide) (hts _ q1_63) (fun _ h9 => h9) rfl rfl rfl (Nat.le_of_ble_eq_true rfl) dX6_dropValue_18 rfl (fun H locs hP hD hS => ?_)
    refine lv_bipush (v := (-2 : Int32)) hx hb dX6_dropValue_21 (by decide) ?_
    obtain rfl := Option.some.inj hf
    rw [← wRows_mk ht] at hP hD
    exact z_iret (v := (-2 : Int32)) C hP hD hS dX6_dropValue_23
def f_X6_endWriter (St : SRows) (x1 : Int32) (x2 : Int32) : Option (Int32 × SRows) :=
  (f_X6_runs St x1).bind (fun q1 =>
    (if q1 = 0 then
      some ((-2 : Int32), St)
      else
      (if zib x1 6 then (if zib x1 6 then (if zib x1 6 then (if x2 = 0 then
              some (((Rows_stamps St) x1.toNatClampNeg), (mkRows (Rows_ring St) (Rows_rowCount St) (Rows_crash St) (Rows_nextStamp St) (Rows_count St) (Rows_lostSlots St) ((Rows_runningStamps St) &&& ((jlshl (1 : Int64) ((Rows_stamps St) x1.toNatClampNeg)) ^^^ (-1 : Int64))) (Rows_doneStamps St) ((Rows_goneStamps St) ||| (jlshl (1 : Int64) ((Rows_stamps St) x1.toNatClampNeg))) (upd (Rows_stamps St) x1.toNatClampNeg (-2 : Int32)) (vp_updL (Rows_held St) x1.toNatClampNeg (0 : Int64)) (Rows_rowsOf St) (Rows_values St) (Rows_froms St) (Rows_tills St) (Rows_made St)))
              else
              some (((Rows_stamps St) x1.toNatClampNeg), (mkRows (Rows_ring St) (Rows_rowCount St) (Rows_crash St) (Rows_nextStamp St) (Rows_count St) (Rows_lostSlots St) ((Rows_runningStamps St) &&& ((jlshl (1 : Int64) ((Rows_stamps St) x1.toNatClampNeg)) ^^^ (-1 : Int64))) ((Rows_doneStamps St) ||| (jlshl (1 : Int64) ((Rows_stamps St) x1.toNatClampNeg))) (Rows_goneStamps St) (upd (Rows_stamps St) x1.toNatClampNeg (-2 : Int32)) (vp_updL (Rows_held St) x1.toNatClampNeg (0 : Int64)) (Rows_rowsOf St) (Rows_values St) (Rows_froms St) (Rows_tills St) (Rows_made St)))) else none) else none) else none)))
set_option maxHeartbeats 4000000 in
set_option maxRecDepth 100000 in
theorem c_X6_endWriter (l : Launch) (D : va_G) (cy : Nat → ClassId) (ht : Nat → Nat) (St : SRows) (x1 : Int32) (x2 : Int32) (r : Int32 × SRows) (hf : f_X6_endWriter St x1 x2 = some r) : zCI l yX6_endWriter cX6_endWriter 4 (some FieldType.int) 1 21 D (zty cy) [.ref (ht 0), .int x1, .int x2] (wRows ht cy St) (wRows ht cy r.2) r.1 := by
  refine zCI_of (by decide +kernel) (Nat.le_of_ble_eq_true rfl) ?_
  intro p e s m below meth c A ls C hP hD hS hl
  generalize hargs : ([.ref (ht 0), .int x1, .int x2] : List Value).toArray = args at C ⊢
  have C : zX p s m meth c cX6_endWriter 4 args RX6 (some FieldType.int) A D (zty cy) := C
  obtain ⟨hx, hb, hr, hts, hown, hlocks, hml, hA, hK⟩ := id C
  have hl : lv_has ls 4 [(0, .ref (ht 0)), (1, .int x1), (2, .int x2)] := hl
  generalize hH : s.heap = H at hP ⊢
  have hS : va_S A s.heap H [] := by rw [← hH]; exact hS
  generalize ([] : List Loc) = locs at hS ⊢
  refine lv_aload_n hx hb dX6_endWriter_0 rfl (lv_at hl 0 rfl) ?_
  refine lv_iload_n hx hb dX6_endWriter_1 rfl (lv_at hl 1 rfl) ?_
  obtain ⟨q1, hc, hf⟩ := zbd hf
  refine z_cVi0 (As := [.int x1]) (rest := []) C (c_X6_runs l D cy ht St x1 q1 hc) gV_X6_X6_runs hd_X6_runs ⟨Nat.le_of_ble_eq_true rfl, Nat.le_of_ble_eq_true rfl⟩ ⟨Nat.le_refl _, Nat.le_refl _⟩ (va_recv hK hP (ci := 3) (q0 := 0) rfl rfl) hP hD hS hl.1 (Nat.le_of_ble_eq_true rfl) dX6_endWriter_2 (fun H locs hP hD hS => ?_)
  have hP : va_P D vwCl (wRows ht cy St) H := hP
  have hD : va_D A (wRows ht cy St) := hD
  refine z_if_ne (tgt := 11) hx hb dX6_endWriter_5 (by decide) hf (fun hf => ?_) (fun hf => ?_)
  · refine lv_aload_n hx hb dX6_endWriter_11 rfl (lv_at hl 0 rfl) ?_
    refine va_get (D := D) (ci := 3) (v := .ref (ht 1)) (C := RX6) (T := TX6) (N := 16) hx hb hts in_X6 hown hK hP 0 rfl rfl 9 (by decide) (hts _ q1_67) (fun _ h9 => h9) rfl dX6_endWriter_12 ?_
    refine lv_iload_n hx hb dX6_endWriter_15 rfl (lv_at hl 1 rfl) ?_
    refine z_iald (f := (Rows_stamps St)) hx hb hK hP 1 0 rfl rfl dX6_endWriter_16 hf (fun hf => ?_)
    refine lv_istore_n (lv' := [(3, .int ((Rows_stamps St) x1.toNatClampNeg)), (0, .ref (ht 0)), (1, .int x1), (2, .int x2)]) hx hb dX6_endWriter_17 rfl hl (by decide) rfl (fun ls hl => ?_)
    refine lv_aload_n hx hb dX6_endWriter_18 rfl (lv_at hl 1 rfl) ?_
    refine va_get (D := D) (ci := 3) (v := .ref (ht 1)) (C := RX6) (T := TX6) (N := 16) hx hb hts in_X6 hown hK hP 0 rfl rfl 9 (by decide) (hts _ q1_67) (fun _ h9 => h9) rfl dX6_endWriter_19 ?_
    refine lv_iload_n hx hb dX6_endWriter_22 rfl (lv_at hl 2 rfl) ?_
    refine lv_bipush (v := (-2 : Int32)) hx hb dX6_endWriter_23 (by decide) ?_
    refine z_iast (f := (Rows_stamps St)) (w2 := vRows ht cy (Rows_ring St) (Rows_rowCount St) (Rows_crash St) (Rows_nextStamp St) (Rows_count St) (Rows_lostSlots St) (Rows_runningStamps St) (Rows_doneStamps St) (Rows_goneStamps St) (upd (Rows_stamps St) x1.toNatClampNeg (-2 : Int32)) (Rows_held St) (Rows_rowsOf St) (Rows_values St) (Rows_froms St) (Rows_tills St) (Rows_made St)) hx hb hK hP hD hS 1 0 rfl rfl dX6_endWriter_25 hf rfl (fun hf H locs hP hD hS => ?_)
    refine lv_aload_n hx hb dX6_endWriter_26 rfl (lv_at hl 1 rfl) ?_
    refine va_get (D := D) (ci := 3) (v := .ref (ht 2)) (C := RX6) (T := TX6) (N := 16) hx hb hts in_X6 hown hK hP 0 rfl rfl 10 (by decide) (hts _ q1_68) (fun _ h9 => h9) rfl dX6_endWriter_27 ?_
    refine lv_iload_n hx hb dX6_endWriter_30 rfl (lv_at hl 2 rfl) ?_
    refine lv_lconst (v := (0 : Int64)) hx hb dX6_endWriter_31 (by decide) ?_
    refine z_last (f := (Rows_held St)) (w2 := vRows ht cy (Rows_ring St) (Rows_rowCount St) (Rows_crash St) (Rows_nextStamp St) (Rows_count St) (Rows_lostSlots St) (Rows_runningStamps St) (Rows_doneStamps St) (Rows_goneStamps St) (upd (Rows_stamps St) x1.toNatClampNeg (-2 : Int32)) (vp_updL (Rows_held St) x1.toNatClampNeg (0 : Int64)) (Rows_rowsOf St) (Rows_values St) (Rows_froms St) (Rows_tills St) (Rows_made St)) hx hb hK hP hD hS 2 1 rfl rfl dX6_endWriter_32 hf rfl (fun hf H locs hP hD hS => ?_)
    refine lv_aload_n hx hb dX6_endWriter_33 rfl (lv_at hl 1 rfl) ?_
    refine lv_dup hx hb dX6_endWriter_34 rfl ?_
    refine va_get (D := D) (ci := 3) (v := .long (Rows_runningStamps St)) (C := RX6) (T := TX6) (N := 16) hx hb hts in_X6 hown hK hP 0 rfl rfl 6 (by decide) (hts _ q1_64) (fun _ h9 => h9) rfl dX6_endWriter_35 ?_
    refine lv_lconst (v := (1 : Int64)) hx hb dX6_endWriter_38 (by decide) ?_
    refine lv_iload_n hx hb dX6_endWriter_39 rfl (lv_at hl 0 rfl) ?_
    refine lv_lshl (v := (jlshl (1 : Int64) ((Rows_stamps St) x1.toNatClampNeg))) hx hb dX6_endWriter_40 rfl ?_
    refine lv_ldc2 (v := (-1 : Int64)) hx hb hown (hts _ q3_46) dX6_endWriter_41 ?_
    refine lv_lxor hx hb dX6_endWriter_44 ?_
    refine lv_land hx hb dX6_endWriter_45 ?_
    refine z_put (w2 := vRows ht cy (Rows_ring St) (Rows_rowCount St) (Rows_crash St) (Rows_nextStamp St) (Rows_count St) (Rows_lostSlots St) ((Rows_runningStamps St) &&& ((jlshl (1 : Int64) ((Rows_stamps St) x1.toNatClampNeg)) ^^^ (-1 : Int64))) (Rows_doneStamps St) (Rows_goneStamps St) (upd (Rows_stamps St) x1.toNatClampNeg (-2 : Int32)) (vp_updL (Rows_held St) x1.toNatClampNeg (0 : Int64)) (Rows_rowsOf St) (Rows_values St) (Rows_froms St) (Rows_tills St) (Rows_made St)) hx hb hts in_X6 tyX6 tyX6_ok nmX6 hown hK hP hD hS 0 rfl rfl 6 (by decide) (hts _ q1_64) (fun _ h9 => h9) rfl rfl rfl (Nat.le_of_ble_eq_true rfl) dX6_endWriter_46 rfl (fun H locs hP hD hS => ?_)
    refine lv_iload_n hx hb dX6_endWriter_49 rfl (lv_at hl 3 rfl) ?_
    refine z_if_eq (tgt := 68) hx hb dX6_endWriter_50 (by decide) hf (fun hf => ?_) (fun hf => ?_)
    · refine lv_aload_n hx hb dX6_endWriter_68 rfl (lv_at hl 1 rfl) ?_
      refine lv_dup hx hb dX6_endWriter_69 rfl ?_
      refine va_get (D := D) (ci := 3) (v := .long (Rows_goneStamps St)) (C := RX6) (T := TX6) (N := 16) hx hb hts in_X6 hown hK hP 0 rfl rfl 8 (by decide) (hts _ q1_66) (fun _ h9 => h9) rfl dX6_endWriter_70 ?_
      refine lv_lconst (v := (1 : Int64)) hx hb dX6_endWriter_73 (by decide) ?_
      refine lv_iload_n hx hb dX6_endWriter_74 rfl (lv_at hl 0 rfl) ?_
      refine lv_lshl (v := (jlshl (1 : Int64) ((Rows_stamps St) x1.toNatClampNeg))) hx hb dX6_endWriter_75 rfl ?_
      refine lv_lor hx hb dX6_endWriter_76 ?_
      refine z_put (w2 := vRows ht cy (Rows_ring St) (Rows_rowCount St) (Rows_crash St) (Rows_nextStamp St) (Rows_count St) (Rows_lostSlots St) ((Rows_runningStamps St) &&& ((jlshl (1 : Int64) ((Rows_stamps St) x1.toNatClampNeg)) ^^^ (-1 : Int64))) (Rows_doneStamps St) ((Rows_goneStamps St) ||| (jlshl (1 : Int64) ((Rows_stamps St) x1.toNatClampNeg))) (upd (Rows_stamps St) x1.toNatClampNeg (-2 : Int32)) (vp_updL (Rows_held St) x1.toNatClampNeg (0 : Int64)) (Rows_rowsOf St) (Rows_values St) (Rows_froms St) (Rows_tills St) (Rows_made St)) hx hb hts in_X6 tyX6 tyX6_ok nmX6 hown hK hP hD hS 0 rfl rfl 8 (by decide) (hts _ q1_66) (fun _ h9 => h9) rfl rfl rfl (Nat.le_of_ble_eq_true rfl) dX6_endWriter_77 rfl (fun H locs hP hD hS => ?_)
      refine lv_iload_n hx hb dX6_endWriter_80 rfl (lv_at hl 0 rfl) ?_
      obtain rfl := Option.some.inj hf
      rw [← wRows_mk ht] at hP hD
      exact z_iret (v := ((Rows_stamps St) x1.toNatClampNeg)) C hP hD hS dX6_endWriter_81
    · refine lv_aload_n hx hb dX6_endWriter_53 rfl (lv_at hl 1 rfl) ?_
      refine lv_dup hx hb dX6_endWriter_54 rfl ?_
      refine va_get (D := D) (ci := 3) (v := .long (Rows_doneStamps St)) (C := RX6) (T := TX6) (N := 16) hx hb hts in_X6 hown hK hP 0 rfl rfl 7 (by decide) (hts _ q1_65) (fun _ h9 => h9) rfl dX6_endWriter_55 ?_
      refine lv_lconst (v := (1 : Int64)) hx hb dX6_endWriter_58 (by decide) ?_
      refine lv_iload_n hx hb dX6_endWriter_59 rfl (lv_at hl 0 rfl) ?_
      refine lv_lshl (v := (jlshl (1 : Int64) ((Rows_stamps St) x1.toNatClampNeg))) hx hb dX6_endWriter_60 rfl ?_
      refine lv_lor hx hb dX6_endWriter_61 ?_
      refine z_put (w2 := vRows ht cy (Rows_ring St) (Rows_rowCount St) (Rows_crash St) (Rows_nextStamp St) (Rows_count St) (Rows_lostSlots St) ((Rows_runningStamps St) &&& ((jlshl (1 : Int64) ((Rows_stamps St) x1.toNatClampNeg)) ^^^ (-1 : Int64))) ((Rows_doneStamps St) ||| (jlshl (1 : Int64) ((Rows_stamps St) x1.toNatClampNeg))) (Rows_goneStamps St) (upd (Rows_stamps St) x1.toNatClampNeg (-2 : Int32)) (vp_updL (Rows_held St) x1.toNatClampNeg (0 : Int64)) (Rows_rowsOf St) (Rows_values St) (Rows_froms St) (Rows_tills St) (Rows_made St)) hx hb hts in_X6 tyX6 tyX6_ok nmX6 hown hK hP hD hS 0 rfl rfl 7 (by decide) (hts _ q1_65) (fun _ h9 => h9) rfl rfl rfl (Nat.le_of_ble_eq_true rfl) dX6_endWriter_62 rfl (fun H locs hP hD hS => ?_)
      refine lv_goto (tgt := 80) hx hb dX6_endWriter_65 (by decide) ?_
      refine lv_iload_n hx hb dX6_endWriter_80 rfl (lv_at hl 0 rfl) ?_
      obtain rfl := Option.some.inj hf
      rw [← wRows_mk ht] at hP hD
      exact z_iret (v := ((Rows_stamps St) x1.toNatClampNeg)) C hP hD hS dX6_endWriter_81
  · refine lv_bipush (v := (-2 : Int32)) hx hb dX6_endWriter_8 (by decide) ?_
    obtain rfl := Option.some.inj hf
    exact z_iret (v := (-2 : Int32)) C hP hD hS dX6_endWriter_10
def b_X6_clearDead_18 (k18 : SRows → Int64 → Int32 → Int32 → Int32 → Option (Int32 × SRows)) (St : SRows) (v1 : Int64) (v3 : Int32) (v4 : Int32) (v5 : Int32) : Option (Int32 × SRows) :=
  (if v3 ≤ v5 then
    some ((v3 - v4), (mkRows (Rows_ring St) (Rows_rowCount St) (Rows_crash St) (Rows_nextStamp St) v4 (Rows_lostSlots St) (Rows_runningStamps St) (Rows_doneStamps St) (Rows_goneStamps St) (Rows_stamps St) (Rows_held St) (Rows_rowsOf St) (Rows_values St) (Rows_froms St) (Rows_tills St) (Rows_made St)))
    else
    (f_X6_madeAt St v5).bind (fun q1 =>
      (f_X6_isVersion St q1).bind (fun q2 =>
        (if q2 = 0 then
          (k18 St v1 v3 v4 (v5 + (1 : Int32)))
          else
          (f_X6_isDead St q1 (Rows_goneStamps St) v1).bind (fun q3 =>
            (if q3 = 0 then
              (if zib v4 48 then (k18 (mkRows (Rows_ring St) (Rows_rowCount St) (Rows_crash St) (Rows_nextStamp St) (Rows_count St) (Rows_lostSlots St) (Rows_runningStamps St) (Rows_doneStamps St) (Rows_goneStamps St) (Rows_stamps St) (Rows_held St) (Rows_rowsOf St) (Rows_values St) (Rows_froms St) (Rows_tills St) (upd (Rows_made St) v4.toNatClampNeg q1)) v1 v3 (v4 + (1 : Int32)) (v5 + (1 : Int32))) else none)
              else
              (if zib q1 48 then (k18 (mkRows (Rows_ring St) (Rows_rowCount St) (Rows_crash St) (Rows_nextStamp St) (Rows_count St) (Rows_lostSlots St) (Rows_runningStamps St) (Rows_doneStamps St) (Rows_goneStamps St) (Rows_stamps St) (Rows_held St) (upd (Rows_rowsOf St) q1.toNatClampNeg (-2 : Int32)) (Rows_values St) (Rows_froms St) (Rows_tills St) (Rows_made St)) v1 v3 v4 (v5 + (1 : Int32))) else none)))))))
set_option maxHeartbeats 4000000 in
set_option maxRecDepth 100000 in
theorem w_X6_clearDead_18 {p : Program} {e : Env} {s : State} {m : MethodId} {below : List Frame} {meth : Method} {c : Code} {A : Nat → Prop} {D : va_G} {cy : Nat → ClassId} {args : Array Value} {r : Int32 × SRows} (l : Launch) (ht : Nat → Nat) (C : zX p s m meth c cX6_clearDead 7 args RX6 (some FieldType.int) A D (zty cy)) :
    ∀ (n : Nat) (St : SRows) (v1 : Int64) (v3 : Int32) (v4 : Int32) (v5 : Int32) (H : Heap) (locs : List Loc) (ls : Array Slot), zl5 (b_X6_clearDead_18) n St v1 v3 v4 v5 = some r → va_P D vwCl (wRows ht cy St) H → va_D A (wRows ht cy St) → va_S A s.heap H locs → lv_has ls 7 [(0, .ref (ht 0)), (1, .long v1), (3, .int v3), (4, .int v4), (5, .int v5)] → W p l e (zRm 3 70) s m args below meth c H locs 0 0 (MQ below (zQI D (zty cy) A (wRows ht cy r.2) r.1) args s 0 0 A) (F0 m 18 ls []) := by
  obtain ⟨hx, hb, hr, hts, hown, hlocks, hml, hA, hK⟩ := id C
  intro n
  induction n with
  | zero => intro St v1 v3 v4 v5 H locs ls hf; exact zno hf
  | succ n ih =>
    intro St v1 v3 v4 v5 H locs ls hf hP hD hS hl
    have hf : b_X6_clearDead_18 (zl5 (b_X6_clearDead_18) n) St v1 v3 v4 v5 = some r := hf
    have K18 := ih
    refine lv_iload hx hb dX6_clearDead_18 (lv_at hl 4 rfl) ?_
    refine lv_iload_n hx hb dX6_clearDead_20 rfl (lv_at hl 2 rfl) ?_
    refine z_icmp_ge (tgt := 88) hx hb dX6_clearDead_21 (by decide) hf (fun hf => ?_) (fun hf => ?_)
    · refine lv_aload_n hx hb dX6_clearDead_88 rfl (lv_at hl 0 rfl) ?_
      refine lv_iload hx hb dX6_clearDead_89 (lv_at hl 3 rfl) ?_
      refine z_put (w2 := vRows ht cy (Rows_ring St) (Rows_rowCount St) (Rows_crash St) (Rows_nextStamp St) v4 (Rows_lostSlots St) (Rows_runningStamps St) (Rows_doneStamps St) (Rows_goneStamps St) (Rows_stamps St) (Rows_held St) (Rows_rowsOf St) (Rows_values St) (Rows_froms St) (Rows_tills St) (Rows_made St)) hx hb hts in_X6 tyX6 tyX6_ok nmX6 hown hK hP hD hS 0 rfl rfl 4 (by decide) (hts _ q1_61) (fun _ h9 => h9) rfl rfl rfl (Nat.le_of_ble_eq_true rfl) dX6_clearDead_91 rfl (fun H locs hP hD hS => ?_)
      refine lv_iload_n hx hb dX6_clearDead_94 rfl (lv_at hl 2 rfl) ?_
      refine lv_iload hx hb dX6_clearDead_95 (lv_at hl 3 rfl) ?_
      refine lv_isub hx hb dX6_clearDead_97 ?_
      obtain rfl := Option.some.inj hf
      rw [← wRows_mk ht] at hP hD
      exact z_iret (v := (v3 - v4)) C hP hD hS dX6_clearDead_98
    · refine lv_aload_n hx hb dX6_clearDead_24 rfl (lv_at hl 0 rfl) ?_
      refine lv_iload hx hb dX6_clearDead_25 (lv_at hl 4 rfl) ?_
      obtain ⟨q1, hc, hf⟩ := zbd hf
      refine z_cVi0 (As := [.int v5]) (rest := []) C (c_X6_madeAt l D cy ht St v5 q1 hc) gV_X6_X6_madeAt hd_X6_madeAt ⟨Nat.le_of_ble_eq_true rfl, Nat.le_of_ble_eq_true rfl⟩ ⟨Nat.le_refl _, Nat.le_refl _⟩ (va_recv hK hP (ci := 3) (q0 := 0) rfl rfl) hP hD hS hl.1 (Nat.le_of_ble_eq_true rfl) dX6_clearDead_27 (fun H locs hP hD hS => ?_)
      have hP : va_P D vwCl (wRows ht cy St) H := hP
      have hD : va_D A (wRows ht cy St) := hD
      refine lv_istore (lv' := [(6, .int q1), (0, .ref (ht 0)), (1, .long v1), (3, .int v3), (4, .int v4), (5, .int v5)]) hx hb dX6_clearDead_30 hl (by decide) rfl (fun ls hl => ?_)
      refine lv_aload_n hx hb dX6_clearDead_32 rfl (lv_at hl 1 rfl) ?_
      refine lv_iload hx hb dX6_clearDead_33 (lv_at hl 0 rfl) ?_
      obtain ⟨q2, hc, hf⟩ := zbd hf
      refine z_cVi0 (As := [.int q1]) (rest := []) C (c_X6_isVersion l D cy ht St q1 q2 hc) gV_X6_X6_isVersion hd_X6_isVersion ⟨Nat.le_of_ble_eq_true rfl, Nat.le_of_ble_eq_true rfl⟩ ⟨Nat.le_refl _, Nat.le_refl _⟩ (va_recv hK hP (ci := 3) (q0 := 0) rfl rfl) hP hD hS hl.1 (Nat.le_of_ble_eq_true rfl) dX6_clearDead_35 (fun H locs hP hD hS => ?_)
      have hP : va_P D vwCl (wRows ht cy St) H := hP
      have hD : va_D A (wRows ht cy St) := hD
      refine z_if_ne (tgt := 44) hx hb dX6_clearDead_38 (by decide) hf (fun hf => ?_) (fun hf => ?_)
      · refine lv_aload_n hx hb dX6_clearDead_44 rfl (lv_at hl 1 rfl) ?_
        refine lv_iload hx hb dX6_clearDead_45 (lv_at hl 0 rfl) ?_
        refine lv_aload_n hx hb dX6_clearDead_47 rfl (lv_at hl 1 rfl) ?_
        refine va_get (D := D) (ci := 3) (v := .long (Rows_goneStamps St)) (C := RX6) (T := TX6) (N := 16) hx hb hts in_X6 hown hK hP 0 rfl rfl 8 (by decide) (hts _ q1_66) (fun _ h9 => h9) rfl dX6_clearDead_48 ?_
        refine lv_lload_n hx hb dX6_clearDead_51 rfl (lv_at hl 2 rfl) ?_
        obtain ⟨q3, hc, hf⟩ := zbd hf
        refine z_cVi0 (As := [.int q1, .long (Rows_goneStamps St), .long v1]) (rest := []) C (c_X6_isDead l D cy ht St q1 (Rows_goneStamps St) v1 q3 hc) gV_X6_X6_isDead hd_X6_isDead ⟨Nat.le_of_ble_eq_true rfl, Nat.le_of_ble_eq_true rfl⟩ ⟨Nat.le_refl _, Nat.le_refl _⟩ (va_recv hK hP (ci := 3) (q0 := 0) rfl rfl) hP hD hS hl.1 (Nat.le_of_ble_eq_true rfl) dX6_clearDead_52 (fun H locs hP hD hS => ?_)
        have hP : va_P D vwCl (wRows ht cy St) H := hP
        have hD : va_D A (wRows ht cy St) := hD
        refine z_if_eq (tgt := 70) hx hb dX6_clearDead_55 (by decide) hf (fun hf => ?_) (fun hf => ?_)
        · refine lv_aload_n hx hb dX6_clearDead_70 rfl (lv_at hl 1 rfl) ?_
          refine va_get (D := D) (ci := 3) (v := .ref (ht 7)) (C := RX6) (T := TX6) (N := 16) hx hb hts in_X6 hown hK hP 0 rfl rfl 15 (by decide) (hts _ q1_73) (fun _ h9 => h9) rfl dX6_clearDead_71 ?_
          refine lv_iload hx hb dX6_clearDead_74 (lv_at hl 4 rfl) ?_
          refine lv_iload hx hb dX6_clearDead_76 (lv_at hl 0 rfl) ?_
          refine z_iast (f := (Rows_made St)) (w2 := vRows ht cy (Rows_ring St) (Rows_rowCount St) (Rows_crash St) (Rows_nextStamp St) (Rows_count St) (Rows_lostSlots St) (Rows_runningStamps St) (Rows_doneStamps St) (Rows_goneStamps St) (Rows_stamps St) (Rows_held St) (Rows_rowsOf St) (Rows_values St) (Rows_froms St) (Rows_tills St) (upd (Rows_made St) v4.toNatClampNeg q1)) hx hb hK hP hD hS 7 0 rfl rfl dX6_clearDead_78 hf rfl (fun hf H locs hP hD hS => ?_)
          refine lv_iinc (v := (v4 + (1 : Int32))) (lv' := [(4, .int (v4 + (1 : Int32))), (6, .int q1), (0, .ref (ht 0)), (1, .long v1), (3, .int v3), (5, .int v5)]) hx hb dX6_clearDead_79 hl (k := 4) rfl rfl (by decide) rfl (fun ls hl => ?_)
          refine lv_iinc (v := (v5 + (1 : Int32))) (lv' := [(5, .int (v5 + (1 : Int32))), (4, .int (v4 + (1 : Int32))), (6, .int q1), (0, .ref (ht 0)), (1, .long v1), (3, .int v3)]) hx hb dX6_clearDead_82 hl (k := 5) rfl rfl (by decide) rfl (fun ls hl => ?_)
          refine lv_goto (tgt := 18) hx hb dX6_clearDead_85 (by decide) ?_
          rw [← wRows_mk ht] at hP hD
          exact K18 (mkRows (Rows_ring St) (Rows_rowCount St) (Rows_crash St) (Rows_nextStamp St) (Rows_count St) (Rows_lostSlots St) (Rows_runningStamps St) (Rows_doneStamps St) (Rows_goneStamps St) (Rows_stamps St) (Rows_held St) (Rows_rowsOf St) (Rows_values St) (Rows_froms St) (Rows_tills St) (upd (Rows_made St) v4.toNatClampNeg q1)) v1 v3 (v4 + (1 : Int32)) (v5 + (1 : Int32)) H locs ls hf hP hD hS (lv_sub hl [3, 4, 5, 1, 0] rfl)
        · refine lv_aload_n hx hb dX6_clearDead_58 rfl (lv_at hl 1 rfl) ?_
          refine va_get (D := D) (ci := 3) (v := .ref (ht 3)) (C := RX6) (T := TX6) (N := 16) hx hb hts in_X6 hown hK hP 0 rfl rfl 11 (by decide) (hts _ q1_69) (fun _ h9 => h9) rfl dX6_clearDead_59 ?_
          refine lv_iload hx hb dX6_clearDead_62 (lv_at hl 0 rfl) ?_
          refine lv_bipush (v := (-2 : Int32)) hx hb dX6_clearDead_64 (by decide) ?_
          refine z_iast (f := (Rows_rowsOf St)) (w2 := vRows ht cy (Rows_ring St) (Rows_rowCount St) (Rows_crash St) (Rows_nextStamp St) (Rows_count St) (Rows_lostSlots St) (Rows_runningStamps St) (Rows_doneStamps St) (Rows_goneStamps St) (Rows_stamps St) (Rows_held St) (upd (Rows_rowsOf St) q1.toNatClampNeg (-2 : Int32)) (Rows_values St) (Rows_froms St) (Rows_tills St) (Rows_made St)) hx hb hK hP hD hS 3 0 rfl rfl dX6_clearDead_66 hf rfl (fun hf H locs hP hD hS => ?_)
          refine lv_goto (tgt := 82) hx hb dX6_clearDead_67 (by decide) ?_
          refine lv_iinc (v := (v5 + (1 : Int32))) (lv' := [(5, .int (v5 + (1 : Int32))), (6, .int q1), (0, .ref (ht 0)), (1, .long v1), (3, .int v3), (4, .int v4)]) hx hb dX6_clearDead_82 hl (k := 5) rfl rfl (by decide) rfl (fun ls hl => ?_)
          refine lv_goto (tgt := 18) hx hb dX6_clearDead_85 (by decide) ?_
          rw [← wRows_mk ht] at hP hD
          exact K18 (mkRows (Rows_ring St) (Rows_rowCount St) (Rows_crash St) (Rows_nextStamp St) (Rows_count St) (Rows_lostSlots St) (Rows_runningStamps St) (Rows_doneStamps St) (Rows_goneStamps St) (Rows_stamps St) (Rows_held St) (upd (Rows_rowsOf St) q1.toNatClampNeg (-2 : Int32)) (Rows_values St) (Rows_froms St) (Rows_tills St) (Rows_made St)) v1 v3 v4 (v5 + (1 : Int32)) H locs ls hf hP hD hS (lv_sub hl [2, 3, 4, 5, 0] rfl)
      · refine lv_goto (tgt := 82) hx hb dX6_clearDead_41 (by decide) ?_
        refine lv_iinc (v := (v5 + (1 : Int32))) (lv' := [(5, .int (v5 + (1 : Int32))), (6, .int q1), (0, .ref (ht 0)), (1, .long v1), (3, .int v3), (4, .int v4)]) hx hb dX6_clearDead_82 hl (k := 5) rfl rfl (by decide) rfl (fun ls hl => ?_)
        refine lv_goto (tgt := 18) hx hb dX6_clearDead_85 (by decide) ?_
        exact K18 St v1 v3 v4 (v5 + (1 : Int32)) H locs ls hf hP hD hS (lv_sub hl [2, 3, 4, 5, 0] rfl)
def f_X6_clearDead (St : SRows) : Option (Int32 × SRows) :=
  (f_X6_settledWithout St (-2 : Int32)).bind (fun q4 =>
    (zl5 (b_X6_clearDead_18) FU St q4 (Rows_count St) (0 : Int32) (0 : Int32)))
set_option maxHeartbeats 4000000 in
set_option maxRecDepth 100000 in
theorem c_X6_clearDead (l : Launch) (D : va_G) (cy : Nat → ClassId) (ht : Nat → Nat) (St : SRows) (r : Int32 × SRows) (hf : f_X6_clearDead St = some r) : zCI l yX6_clearDead cX6_clearDead 7 (some FieldType.int) 3 70 D (zty cy) [.ref (ht 0)] (wRows ht cy St) (wRows ht cy r.2) r.1 := by
  refine zCI_of (by decide +kernel) (Nat.le_of_ble_eq_true rfl) ?_
  intro p e s m below meth c A ls C hP hD hS hl
  generalize hargs : ([.ref (ht 0)] : List Value).toArray = args at C ⊢
  have C : zX p s m meth c cX6_clearDead 7 args RX6 (some FieldType.int) A D (zty cy) := C
  obtain ⟨hx, hb, hr, hts, hown, hlocks, hml, hA, hK⟩ := id C
  have hl : lv_has ls 7 [(0, .ref (ht 0))] := hl
  generalize hH : s.heap = H at hP ⊢
  have hS : va_S A s.heap H [] := by rw [← hH]; exact hS
  generalize ([] : List Loc) = locs at hS ⊢
  refine lv_aload_n hx hb dX6_clearDead_0 rfl (lv_at hl 0 rfl) ?_
  refine lv_bipush (v := (-2 : Int32)) hx hb dX6_clearDead_1 (by decide) ?_
  obtain ⟨q4, hc, hf⟩ := zbd hf
  refine z_cVl0 (As := [.int (-2 : Int32)]) (rest := []) C (c_X6_settledWithout l D cy ht St (-2 : Int32) q4 hc) gV_X6_X6_settledWithout hd_X6_settledWithout ⟨Nat.le_of_ble_eq_true rfl, Nat.le_of_ble_eq_true rfl⟩ ⟨Nat.le_refl _, Nat.le_refl _⟩ (va_recv hK hP (ci := 3) (q0 := 0) rfl rfl) hP hD hS hl.1 (Nat.le_of_ble_eq_true rfl) dX6_clearDead_3 (fun H locs hP hD hS => ?_)
  have hP : va_P D vwCl (wRows ht cy St) H := hP
  have hD : va_D A (wRows ht cy St) := hD
  refine lv_lstore_n (lv' := [(1, .long q4), (0, .ref (ht 0))]) hx hb dX6_clearDead_6 rfl hl (by decide) rfl (fun ls hl => ?_)
  refine lv_aload_n hx hb dX6_clearDead_7 rfl (lv_at hl 1 rfl) ?_
  refine va_get (D := D) (ci := 3) (v := .int (Rows_count St)) (C := RX6) (T := TX6) (N := 16) hx hb hts in_X6 hown hK hP 0 rfl rfl 4 (by decide) (hts _ q1_61) (fun _ h9 => h9) rfl dX6_clearDead_8 ?_
  refine lv_istore_n (lv' := [(3, .int (Rows_count St)), (1, .long q4), (0, .ref (ht 0))]) hx hb dX6_clearDead_11 rfl hl (by decide) rfl (fun ls hl => ?_)
  refine lv_iconst (v := (0 : Int32)) hx hb dX6_clearDead_12 (by decide) ?_
  refine lv_istore (lv' := [(4, .int (0 : Int32)), (3, .int (Rows_count St)), (1, .long q4), (0, .ref (ht 0))]) hx hb dX6_clearDead_13 hl (by decide) rfl (fun ls hl => ?_)
  refine lv_iconst (v := (0 : Int32)) hx hb dX6_clearDead_15 (by decide) ?_
  refine lv_istore (lv' := [(5, .int (0 : Int32)), (4, .int (0 : Int32)), (3, .int (Rows_count St)), (1, .long q4), (0, .ref (ht 0))]) hx hb dX6_clearDead_16 hl (by decide) rfl (fun ls hl => ?_)
  exact w_X6_clearDead_18 l ht C FU St q4 (Rows_count St) (0 : Int32) (0 : Int32) H locs ls hf hP hD hS (lv_sub hl [4, 3, 2, 1, 0] rfl)
def b_X6_freezeAll_74 (k12 : SRows → Int64 → Int32 → Int32 → Option (Int32 × SRows)) (St : SRows) (v1 : Int64) (v3 : Int32) (v4 : Int32) (v5 : Int32) (v6 : Int32) : Option (Int32 × SRows) :=
  (if v5 = 0 then
    (if v6 = 0 then
      (k12 St v1 (v3 + (0 : Int32)) (v4 + (1 : Int32)))
      else
      (k12 St v1 (v3 + (1 : Int32)) (v4 + (1 : Int32))))
    else
    (k12 St v1 (v3 + (1 : Int32)) (v4 + (1 : Int32))))
set_option maxHeartbeats 4000000 in
set_option maxRecDepth 100000 in
theorem w_X6_freezeAll_74 {p : Program} {e : Env} {s : State} {m : MethodId} {below : List Frame} {meth : Method} {c : Code} {A : Nat → Prop} {D : va_G} {cy : Nat → ClassId} {args : Array Value} {r : Int32 × SRows} (l : Launch) (ht : Nat → Nat) {k12 : SRows → Int64 → Int32 → Int32 → Option (Int32 × SRows)} (C : zX p s m meth c cX6_freezeAll 7 args RX6 (some FieldType.int) A D (zty cy))
    (K12 : ∀ (St : SRows) (v1 : Int64) (v3 : Int32) (v4 : Int32) (H : Heap) (locs : List Loc) (ls : Array Slot), k12 St v1 v3 v4 = some r → va_P D vwCl (wRows ht cy St) H → va_D A (wRows ht cy St) → va_S A s.heap H locs → lv_has ls 7 [(0, .ref (ht 0)), (1, .long v1), (3, .int v3), (4, .int v4)] → W p l e (zRm 3 70) s m args below meth c H locs 0 0 (MQ below (zQI D (zty cy) A (wRows ht cy r.2) r.1) args s 0 0 A) (F0 m 12 ls [])) :
    ∀ (St : SRows) (v1 : Int64) (v3 : Int32) (v4 : Int32) (v5 : Int32) (v6 : Int32) (H : Heap) (locs : List Loc) (ls : Array Slot), b_X6_freezeAll_74 k12 St v1 v3 v4 v5 v6 = some r → va_P D vwCl (wRows ht cy St) H → va_D A (wRows ht cy St) → va_S A s.heap H locs → lv_has ls 7 [(0, .ref (ht 0)), (1, .long v1), (3, .int v3), (4, .int v4), (5, .int v5), (6, .int v6)] → W p l e (zRm 3 70) s m args below meth c H locs 0 0 (MQ below (zQI D (zty cy) A (wRows ht cy r.2) r.1) args s 0 0 A) (F0 m 74 ls []) := by
  obtain ⟨hx, hb, hr, hts, hown, hlocks, hml, hA, hK⟩ := id C
  intro St v1 v3 v4 v5 v6 H locs ls hf hP hD hS hl
  refine lv_iload_n hx hb dX6_freezeAll_74 rfl (lv_at hl 2 rfl) ?_
  refine lv_iload hx hb dX6_freezeAll_75 (lv_at hl 4 rfl) ?_
  refine z_if_ne (tgt := 85) hx hb dX6_freezeAll_77 (by decide) hf (fun hf => ?_) (fun hf => ?_)
  · refine lv_iconst (v := (1 : Int32)) hx hb dX6_freezeAll_85 (by decide) ?_
    refine lv_goto (tgt := 90) hx hb dX6_freezeAll_86 (by decide) ?_
    refine lv_iadd hx hb dX6_freezeAll_90 ?_
    refine lv_istore_n (lv' := [(3, .int (v3 + (1 : Int32))), (0, .ref (ht 0)), (1, .long v1), (4, .int v4), (5, .int v5), (6, .int v6)]) hx hb dX6_freezeAll_91 rfl hl (by decide) rfl (fun ls hl => ?_)
    refine lv_iinc (v := (v4 + (1 : Int32))) (lv' := [(4, .int (v4 + (1 : Int32))), (3, .int (v3 + (1 : Int32))), (0, .ref (ht 0)), (1, .long v1), (5, .int v5), (6, .int v6)]) hx hb dX6_freezeAll_92 hl (k := 3) rfl rfl (by decide) rfl (fun ls hl => ?_)
    refine lv_goto (tgt := 12) hx hb dX6_freezeAll_95 (by decide) ?_
    exact K12 St v1 (v3 + (1 : Int32)) (v4 + (1 : Int32)) H locs ls hf hP hD hS (lv_sub hl [2, 3, 1, 0] rfl)
  · refine lv_iload hx hb dX6_freezeAll_80 (lv_at hl 5 rfl) ?_
    refine z_if_eq (tgt := 89) hx hb dX6_freezeAll_82 (by decide) hf (fun hf => ?_) (fun hf => ?_)
    · refine lv_iconst (v := (0 : Int32)) hx hb dX6_freezeAll_89 (by decide) ?_
      refine lv_iadd hx hb dX6_freezeAll_90 ?_
      refine lv_istore_n (lv' := [(3, .int (v3 + (0 : Int32))), (0, .ref (ht 0)), (1, .long v1), (4, .int v4), (5, .int v5), (6, .int v6)]) hx hb dX6_freezeAll_91 rfl hl (by decide) rfl (fun ls hl => ?_)
      refine lv_iinc (v := (v4 + (1 : Int32))) (lv' := [(4, .int (v4 + (1 : Int32))), (3, .int (v3 + (0 : Int32))), (0, .ref (ht 0)), (1, .long v1), (5, .int v5), (6, .int v6)]) hx hb dX6_freezeAll_92 hl (k := 3) rfl rfl (by decide) rfl (fun ls hl => ?_)
      refine lv_goto (tgt := 12) hx hb dX6_freezeAll_95 (by decide) ?_
      exact K12 St v1 (v3 + (0 : Int32)) (v4 + (1 : Int32)) H locs ls hf hP hD hS (lv_sub hl [2, 3, 1, 0] rfl)
    · refine lv_iconst (v := (1 : Int32)) hx hb dX6_freezeAll_85 (by decide) ?_
      refine lv_goto (tgt := 90) hx hb dX6_freezeAll_86 (by decide) ?_
      refine lv_iadd hx hb dX6_freezeAll_90 ?_
      refine lv_istore_n (lv' := [(3, .int (v3 + (1 : Int32))), (0, .ref (ht 0)), (1, .long v1), (4, .int v4), (5, .int v5), (6, .int v6)]) hx hb dX6_freezeAll_91 rfl hl (by decide) rfl (fun ls hl => ?_)
      refine lv_iinc (v := (v4 + (1 : Int32))) (lv' := [(4, .int (v4 + (1 : Int32))), (3, .int (v3 + (1 : Int32))), (0, .ref (ht 0)), (1, .long v1), (5, .int v5), (6, .int v6)]) hx hb dX6_freezeAll_92 hl (k := 3) rfl rfl (by decide) rfl (fun ls hl => ?_)
      refine lv_goto (tgt := 12) hx hb dX6_freezeAll_95 (by decide) ?_
      exact K12 St v1 (v3 + (1 : Int32)) (v4 + (1 : Int32)) H locs ls hf hP hD hS (lv_sub hl [2, 3, 1, 0] rfl)
def b_X6_freezeAll_12 (k12 : SRows → Int64 → Int32 → Int32 → Option (Int32 × SRows)) (St : SRows) (v1 : Int64) (v3 : Int32) (v4 : Int32) : Option (Int32 × SRows) :=
  (if (48 : Int32) ≤ v4 then
    some (v3, St)
    else
    (f_X6_fromOf St v4).bind (fun q1 =>
      (f_X6_holds v1 q1).bind (fun q2 =>
        (f_X6_tillOf St v4).bind (fun q3 =>
          (f_X6_holds (Rows_goneStamps St) q3).bind (fun q4 =>
            (if q2 = 0 then
              (if q4 = 0 then
                (b_X6_freezeAll_74 k12 St v1 v3 v4 q2 q4)
                else
                (if zib v4 48 then (b_X6_freezeAll_74 k12 (mkRows (Rows_ring St) (Rows_rowCount St) (Rows_crash St) (Rows_nextStamp St) (Rows_count St) (Rows_lostSlots St) (Rows_runningStamps St) (Rows_doneStamps St) (Rows_goneStamps St) (Rows_stamps St) (Rows_held St) (Rows_rowsOf St) (Rows_values St) (Rows_froms St) (upd (Rows_tills St) v4.toNatClampNeg (-2 : Int32)) (Rows_made St)) v1 v3 v4 q2 q4) else none))
              else
              (if zib v4 48 then (if q4 = 0 then
                  (b_X6_freezeAll_74 k12 (mkRows (Rows_ring St) (Rows_rowCount St) (Rows_crash St) (Rows_nextStamp St) (Rows_count St) (Rows_lostSlots St) (Rows_runningStamps St) (Rows_doneStamps St) (Rows_goneStamps St) (Rows_stamps St) (Rows_held St) (Rows_rowsOf St) (Rows_values St) (upd (Rows_froms St) v4.toNatClampNeg (-2 : Int32)) (Rows_tills St) (Rows_made St)) v1 v3 v4 q2 q4)
                  else
                  (if zib v4 48 then (b_X6_freezeAll_74 k12 (mkRows (Rows_ring St) (Rows_rowCount St) (Rows_crash St) (Rows_nextStamp St) (Rows_count St) (Rows_lostSlots St) (Rows_runningStamps St) (Rows_doneStamps St) (Rows_goneStamps St) (Rows_stamps St) (Rows_held St) (Rows_rowsOf St) (Rows_values St) (upd (Rows_froms St) v4.toNatClampNeg (-2 : Int32)) (upd (Rows_tills St) v4.toNatClampNeg (-2 : Int32)) (Rows_made St)) v1 v3 v4 q2 q4) else none)) else none)))))))
set_option maxHeartbeats 4000000 in
set_option maxRecDepth 100000 in
theorem w_X6_freezeAll_12 {p : Program} {e : Env} {s : State} {m : MethodId} {below : List Frame} {meth : Method} {c : Code} {A : Nat → Prop} {D : va_G} {cy : Nat → ClassId} {args : Array Value} {r : Int32 × SRows} (l : Launch) (ht : Nat → Nat) (C : zX p s m meth c cX6_freezeAll 7 args RX6 (some FieldType.int) A D (zty cy)) :
    ∀ (n : Nat) (St : SRows) (v1 : Int64) (v3 : Int32) (v4 : Int32) (H : Heap) (locs : List Loc) (ls : Array Slot), zl4 (b_X6_freezeAll_12) n St v1 v3 v4 = some r → va_P D vwCl (wRows ht cy St) H → va_D A (wRows ht cy St) → va_S A s.heap H locs → lv_has ls 7 [(0, .ref (ht 0)), (1, .long v1), (3, .int v3), (4, .int v4)] → W p l e (zRm 3 70) s m args below meth c H locs 0 0 (MQ below (zQI D (zty cy) A (wRows ht cy r.2) r.1) args s 0 0 A) (F0 m 12 ls []) := by
  obtain ⟨hx, hb, hr, hts, hown, hlocks, hml, hA, hK⟩ := id C
  intro n
  induction n with
  | zero => intro St v1 v3 v4 H locs ls hf; exact zno hf
  | succ n ih =>
    intro St v1 v3 v4 H locs ls hf hP hD hS hl
    have hf : b_X6_freezeAll_12 (zl4 (b_X6_freezeAll_12) n) St v1 v3 v4 = some r := hf
    have K12 := ih
    refine lv_iload hx hb dX6_freezeAll_12 (lv_at hl 3 rfl) ?_
    refine lv_bipush (v := (48 : Int32)) hx hb dX6_freezeAll_14 (by decide) ?_
    refine z_icmp_ge (tgt := 98) hx hb dX6_freezeAll_16 (by decide) hf (fun hf => ?_) (fun hf => ?_)
    · refine lv_iload_n hx hb dX6_freezeAll_98 rfl (lv_at hl 2 rfl) ?_
      obtain rfl := Option.some.inj hf
      exact z_iret (v := v3) C hP hD hS dX6_freezeAll_99
    · refine lv_lload_n hx hb dX6_freezeAll_19 rfl (lv_at hl 1 rfl) ?_
      refine lv_aload_n hx hb dX6_freezeAll_20 rfl (lv_at hl 0 rfl) ?_
      refine lv_iload hx hb dX6_freezeAll_21 (lv_at hl 3 rfl) ?_
      obtain ⟨q1, hc, hf⟩ := zbd hf
      refine z_cVi0 (As := [.int v4]) (rest := [.long v1]) C (c_X6_fromOf l D cy ht St v4 q1 hc) gV_X6_X6_fromOf hd_X6_fromOf ⟨Nat.le_of_ble_eq_true rfl, Nat.le_of_ble_eq_true rfl⟩ ⟨Nat.le_refl _, Nat.le_refl _⟩ (va_recv hK hP (ci := 3) (q0 := 0) rfl rfl) hP hD hS hl.1 (Nat.le_of_ble_eq_true rfl) dX6_freezeAll_23 (fun H locs hP hD hS => ?_)
      have hP : va_P D vwCl (wRows ht cy St) H := hP
      have hD : va_D A (wRows ht cy St) := hD
      obtain ⟨q2, hc, hf⟩ := zbd hf
      refine z_cSiE (As := [.long v1, .int q1]) (rest := []) C (c_X6_holds l D cy v1 q1 q2 hc) gS_X6_X6_holds hd_X6_holds ⟨Nat.le_of_ble_eq_true rfl, Nat.le_of_ble_eq_true rfl⟩ ⟨Nat.le_refl _, Nat.le_refl _⟩ hP hD hS hl.1 (Nat.le_of_ble_eq_true rfl) dX6_freezeAll_26 (fun H locs hP hD hS => ?_)
      refine lv_istore (lv' := [(5, .int q2), (0, .ref (ht 0)), (1, .long v1), (3, .int v3), (4, .int v4)]) hx hb dX6_freezeAll_29 hl (by decide) rfl (fun ls hl => ?_)
      refine lv_aload_n hx hb dX6_freezeAll_31 rfl (lv_at hl 1 rfl) ?_
      refine va_get (D := D) (ci := 3) (v := .long (Rows_goneStamps St)) (C := RX6) (T := TX6) (N := 16) hx hb hts in_X6 hown hK hP 0 rfl rfl 8 (by decide) (hts _ q1_66) (fun _ h9 => h9) rfl dX6_freezeAll_32 ?_
      refine lv_aload_n hx hb dX6_freezeAll_35 rfl (lv_at hl 1 rfl) ?_
      refine lv_iload hx hb dX6_freezeAll_36 (lv_at hl 4 rfl) ?_
      obtain ⟨q3, hc, hf⟩ := zbd hf
      refine z_cVi0 (As := [.int v4]) (rest := [.long (Rows_goneStamps St)]) C (c_X6_tillOf l D cy ht St v4 q3 hc) gV_X6_X6_tillOf hd_X6_tillOf ⟨Nat.le_of_ble_eq_true rfl, Nat.le_of_ble_eq_true rfl⟩ ⟨Nat.le_refl _, Nat.le_refl _⟩ (va_recv hK hP (ci := 3) (q0 := 0) rfl rfl) hP hD hS hl.1 (Nat.le_of_ble_eq_true rfl) dX6_freezeAll_38 (fun H locs hP hD hS => ?_)
      have hP : va_P D vwCl (wRows ht cy St) H := hP
      have hD : va_D A (wRows ht cy St) := hD
      obtain ⟨q4, hc, hf⟩ := zbd hf
      refine z_cSiE (As := [.long (Rows_goneStamps St), .int q3]) (rest := []) C (c_X6_holds l D cy (Rows_goneStamps St) q3 q4 hc) gS_X6_X6_holds hd_X6_holds ⟨Nat.le_of_ble_eq_true rfl, Nat.le_of_ble_eq_true rfl⟩ ⟨Nat.le_refl _, Nat.le_refl _⟩ hP hD hS hl.1 (Nat.le_of_ble_eq_true rfl) dX6_freezeAll_41 (fun H locs hP hD hS => ?_)
      refine lv_istore (lv' := [(6, .int q4), (5, .int q2), (0, .ref (ht 0)), (1, .long v1), (3, .int v3), (4, .int v4)]) hx hb dX6_freezeAll_44 hl (by decide) rfl (fun ls hl => ?_)
      refine lv_iload hx hb dX6_freezeAll_46 (lv_at hl 1 rfl) ?_
      refine z_if_eq (tgt := 60) hx hb dX6_freezeAll_48 (by decide) hf (fun hf => ?_) (fun hf => ?_)
      · refine lv_iload hx hb dX6_freezeAll_60 (lv_at hl 0 rfl) ?_
        refine z_if_eq (tgt := 74) hx hb dX6_freezeAll_62 (by decide) hf (fun hf => ?_) (fun hf => ?_)
        · exact w_X6_freezeAll_74 l ht C K12 St v1 v3 v4 q2 q4 H locs ls hf hP hD hS (lv_sub hl [2, 3, 4, 5, 1, 0] rfl)
        · refine lv_aload_n hx hb dX6_freezeAll_65 rfl (lv_at hl 2 rfl) ?_
          refine va_get (D := D) (ci := 3) (v := .ref (ht 6)) (C := RX6) (T := TX6) (N := 16) hx hb hts in_X6 hown hK hP 0 rfl rfl 14 (by decide) (hts _ q1_72) (fun _ h9 => h9) rfl dX6_freezeAll_66 ?_
          refine lv_iload hx hb dX6_freezeAll_69 (lv_at hl 5 rfl) ?_
          refine lv_bipush (v := (-2 : Int32)) hx hb dX6_freezeAll_71 (by decide) ?_
          refine z_iast (f := (Rows_tills St)) (w2 := vRows ht cy (Rows_ring St) (Rows_rowCount St) (Rows_crash St) (Rows_nextStamp St) (Rows_count St) (Rows_lostSlots St) (Rows_runningStamps St) (Rows_doneStamps St) (Rows_goneStamps St) (Rows_stamps St) (Rows_held St) (Rows_rowsOf St) (Rows_values St) (Rows_froms St) (upd (Rows_tills St) v4.toNatClampNeg (-2 : Int32)) (Rows_made St)) hx hb hK hP hD hS 6 0 rfl rfl dX6_freezeAll_73 hf rfl (fun hf H locs hP hD hS => ?_)
          rw [← wRows_mk ht] at hP hD
          exact w_X6_freezeAll_74 l ht C K12 (mkRows (Rows_ring St) (Rows_rowCount St) (Rows_crash St) (Rows_nextStamp St) (Rows_count St) (Rows_lostSlots St) (Rows_runningStamps St) (Rows_doneStamps St) (Rows_goneStamps St) (Rows_stamps St) (Rows_held St) (Rows_rowsOf St) (Rows_values St) (Rows_froms St) (upd (Rows_tills St) v4.toNatClampNeg (-2 : Int32)) (Rows_made St)) v1 v3 v4 q2 q4 H locs ls hf hP hD hS (lv_sub hl [2, 3, 4, 5, 1, 0] rfl)
      · refine lv_aload_n hx hb dX6_freezeAll_51 rfl (lv_at hl 2 rfl) ?_
        refine va_get (D := D) (ci := 3) (v := .ref (ht 5)) (C := RX6) (T := TX6) (N := 16) hx hb hts in_X6 hown hK hP 0 rfl rfl 13 (by decide) (hts _ q1_71) (fun _ h9 => h9) rfl dX6_freezeAll_52 ?_
        refine lv_iload hx hb dX6_freezeAll_55 (lv_at hl 5 rfl) ?_
        refine lv_bipush (v := (-2 : Int32)) hx hb dX6_freezeAll_57 (by decide) ?_
        refine z_iast (f := (Rows_froms St)) (w2 := vRows ht cy (Rows_ring St) (Rows_rowCount St) (Rows_crash St) (Rows_nextStamp St) (Rows_count St) (Rows_lostSlots St) (Rows_runningStamps St) (Rows_doneStamps St) (Rows_goneStamps St) (Rows_stamps St) (Rows_held St) (Rows_rowsOf St) (Rows_values St) (upd (Rows_froms St) v4.toNatClampNeg (-2 : Int32)) (Rows_tills St) (Rows_made St)) hx hb hK hP hD hS 5 0 rfl rfl dX6_freezeAll_59 hf rfl (fun hf H locs hP hD hS => ?_)
        refine lv_iload hx hb dX6_freezeAll_60 (lv_at hl 0 rfl) ?_
        refine z_if_eq (tgt := 74) hx hb dX6_freezeAll_62 (by decide) hf (fun hf => ?_) (fun hf => ?_)
        · rw [← wRows_mk ht] at hP hD
          exact w_X6_freezeAll_74 l ht C K12 (mkRows (Rows_ring St) (Rows_rowCount St) (Rows_crash St) (Rows_nextStamp St) (Rows_count St) (Rows_lostSlots St) (Rows_runningStamps St) (Rows_doneStamps St) (Rows_goneStamps St) (Rows_stamps St) (Rows_held St) (Rows_rowsOf St) (Rows_values St) (upd (Rows_froms St) v4.toNatClampNeg (-2 : Int32)) (Rows_tills St) (Rows_made St)) v1 v3 v4 q2 q4 H locs ls hf hP hD hS (lv_sub hl [2, 3, 4, 5, 1, 0] rfl)
        · refine lv_aload_n hx hb dX6_freezeAll_65 rfl (lv_at hl 2 rfl) ?_
          refine va_get (D := D) (ci := 3) (v := .ref (ht 6)) (C := RX6) (T := TX6) (N := 16) hx hb hts in_X6 hown hK hP 0 rfl rfl 14 (by decide) (hts _ q1_72) (fun _ h9 => h9) rfl dX6_freezeAll_66 ?_
          refine lv_iload hx hb dX6_freezeAll_69 (lv_at hl 5 rfl) ?_
          refine lv_bipush (v := (-2 : Int32)) hx hb dX6_freezeAll_71 (by decide) ?_
          refine z_iast (f := (Rows_tills St)) (w2 := vRows ht cy (Rows_ring St) (Rows_rowCount St) (Rows_crash St) (Rows_nextStamp St) (Rows_count St) (Rows_lostSlots St) (Rows_runningStamps St) (Rows_doneStamps St) (Rows_goneStamps St) (Rows_stamps St) (Rows_held St) (Rows_rowsOf St) (Rows_values St) (upd (Rows_froms St) v4.toNatClampNeg (-2 : Int32)) (upd (Rows_tills St) v4.toNatClampNeg (-2 : Int32)) (Rows_made St)) hx hb hK hP hD hS 6 0 rfl rfl dX6_freezeAll_73 hf rfl (fun hf H locs hP hD hS => ?_)
          rw [← wRows_mk ht] at hP hD
          exact w_X6_freezeAll_74 l ht C K12 (mkRows (Rows_ring St) (Rows_rowCount St) (Rows_crash St) (Rows_nextStamp St) (Rows_count St) (Rows_lostSlots St) (Rows_runningStamps St) (Rows_doneStamps St) (Rows_goneStamps St) (Rows_stamps St) (Rows_held St) (Rows_rowsOf St) (Rows_values St) (upd (Rows_froms St) v4.toNatClampNeg (-2 : Int32)) (upd (Rows_tills St) v4.toNatClampNeg (-2 : Int32)) (Rows_made St)) v1 v3 v4 q2 q4 H locs ls hf hP hD hS (lv_sub hl [2, 3, 4, 5, 1, 0] rfl)
def f_X6_freezeAll (St : SRows) : Option (Int32 × SRows) :=
  (f_X6_settledWithout St (-2 : Int32)).bind (fun q5 =>
    (zl4 (b_X6_freezeAll_12) FU St q5 (0 : Int32) (0 : Int32)))
set_option maxHeartbeats 4000000 in
set_option maxRecDepth 100000 in
theorem c_X6_freezeAll (l : Launch) (D : va_G) (cy : Nat → ClassId) (ht : Nat → Nat) (St : SRows) (r : Int32 × SRows) (hf : f_X6_freezeAll St = some r) : zCI l yX6_freezeAll cX6_freezeAll 7 (some FieldType.int) 3 70 D (zty cy) [.ref (ht 0)] (wRows ht cy St) (wRows ht cy r.2) r.1 := by
  refine zCI_of (by decide +kernel) (Nat.le_of_ble_eq_true rfl) ?_
  intro p e s m below meth c A ls C hP hD hS hl
  generalize hargs : ([.ref (ht 0)] : List Value).toArray = args at C ⊢
  have C : zX p s m meth c cX6_freezeAll 7 args RX6 (some FieldType.int) A D (zty cy) := C
  obtain ⟨hx, hb, hr, hts, hown, hlocks, hml, hA, hK⟩ := id C
  have hl : lv_has ls 7 [(0, .ref (ht 0))] := hl
  generalize hH : s.heap = H at hP ⊢
  have hS : va_S A s.heap H [] := by rw [← hH]; exact hS
  generalize ([] : List Loc) = locs at hS ⊢
  refine lv_aload_n hx hb dX6_freezeAll_0 rfl (lv_at hl 0 rfl) ?_
  refine lv_bipush (v := (-2 : Int32)) hx hb dX6_freezeAll_1 (by decide) ?_
  obtain ⟨q5, hc, hf⟩ := zbd hf
  refine z_cVl0 (As := [.int (-2 : Int32)]) (rest := []) C (c_X6_settledWithout l D cy ht St (-2 : Int32) q5 hc) gV_X6_X6_settledWithout hd_X6_settledWithout ⟨Nat.le_of_ble_eq_true rfl, Nat.le_of_ble_eq_true rfl⟩ ⟨Nat.le_refl _, Nat.le_refl _⟩ (va_recv hK hP (ci := 3) (q0 := 0) rfl rfl) hP hD hS hl.1 (Nat.le_of_ble_eq_true rfl) dX6_freezeAll_3 (fun H locs hP hD hS => ?_)
  have hP : va_P D vwCl (wRows ht cy St) H := hP
  have hD : va_D A (wRows ht cy St) := hD
  refine lv_lstore_n (lv' := [(1, .long q5), (0, .ref (ht 0))]) hx hb dX6_freezeAll_6 rfl hl (by decide) rfl (fun ls hl => ?_)
  refine lv_iconst (v := (0 : Int32)) hx hb dX6_freezeAll_7 (by decide) ?_
  refine lv_istore_n (lv' := [(3, .int (0 : Int32)), (1, .long q5), (0, .ref (ht 0))]) hx hb dX6_freezeAll_8 rfl hl (by decide) rfl (fun ls hl => ?_)
  refine lv_iconst (v := (0 : Int32)) hx hb dX6_freezeAll_9 (by decide) ?_
  refine lv_istore (lv' := [(4, .int (0 : Int32)), (3, .int (0 : Int32)), (1, .long q5), (0, .ref (ht 0))]) hx hb dX6_freezeAll_10 hl (by decide) rfl (fun ls hl => ?_)
  exact w_X6_freezeAll_12 l ht C FU St q5 (0 : Int32) (0 : Int32) H locs ls hf hP hD hS (lv_sub hl [3, 2, 1, 0] rfl)
