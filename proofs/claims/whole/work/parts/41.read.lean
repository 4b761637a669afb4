theorem hd_X2_addSeen : yX2_addSeen.cls = RX2 ∧ yX2_addSeen.cls ≠ "java/lang/invoke/MethodHandle" ∧ yX2_addSeen.cls ≠ "java/lang/invoke/VarHandle" ∧ (parseMethodDescriptor yX2_addSeen.desc).map (fun d => d.parameters.length) = some 2 := by decide +kernel
theorem gV_X5_X2_addSeen : GoodIn WT (wsV RX5 197 RX2 yX2_addSeen (.code yX2_addSeen cX2_addSeen 3 none :: WT)) := gzV q2_233 q2_234 q2_235 q1_5 q2_236
theorem hd_X2_isRowSeen : yX2_isRowSeen.cls = RX2 ∧ yX2_isRowSeen.cls ≠ "java/lang/invoke/MethodHandle" ∧ yX2_isRowSeen.cls ≠ "java/lang/invoke/VarHandle" ∧ (parseMethodDescriptor yX2_isRowSeen.desc).map (fun d => d.parameters.length) = some 1 := by decide +kernel
theorem gV_X5_X2_isRowSeen : GoodIn WT (wsV RX5 194 RX2 yX2_isRowSeen (.code yX2_isRowSeen cX2_isRowSeen 3 (some FieldType.boolean) :: WT)) := gzV q2_229 q2_230 q2_231 q1_5 q2_232
theorem hd_X2_startAnew : yX2_startAnew.cls = RX2 ∧ yX2_startAnew.cls ≠ "java/lang/invoke/MethodHandle" ∧ yX2_startAnew.cls ≠ "java/lang/invoke/VarHandle" ∧ (parseMethodDescriptor yX2_startAnew.desc).map (fun d => d.parameters.length) = some 0 := by decide +kernel
theorem gV_X5_X2_startAnew : GoodIn WT (wsV RX5 63 RX2 yX2_startAnew (.code yX2_startAnew cX2_startAnew 1 none :: WT)) := gzV q2_68 q2_69 q2_70 q1_5 q2_71
theorem hd_X5_addWriter : yX5_addWriter.cls = RX5 ∧ yX5_addWriter.cls ≠ "java/lang/invoke/MethodHandle" ∧ yX5_addWriter.cls ≠ "java/lang/invoke/VarHandle" ∧ (parseMethodDescriptor yX5_addWriter.desc).map (fun d => d.parameters.length) = some 0 := by decide +kernel
theorem gV_X5_X5_addWriter : GoodIn WT (wsV RX5 210 RX5 yX5_addWriter (.code yX5_addWriter cX5_addWriter 1 (some FieldType.boolean) :: WT)) := gzV q3_38 q3_40 s_X5_addWriter q1_2 q3_41
theorem hd_X5_doAct : yX5_doAct.cls = RX5 ∧ yX5_doAct.cls ≠ "java/lang/invoke/MethodHandle" ∧ yX5_doAct.cls ≠ "java/lang/invoke/VarHandle" ∧ (parseMethodDescriptor yX5_doAct.desc).map (fun d => d.parameters.length) = some 0 := by decide +kernel
theorem gV_X5_X5_doAct : GoodIn WT (wsV RX5 73 RX5 yX5_doAct (.code yX5_doAct cX5_doAct 2 (some FieldType.boolean) :: WT)) := gzV q2_237 q2_239 s_X5_doAct q1_2 q3_0
theorem hd_X5_endNamed : yX5_endNamed.cls = RX5 ∧ yX5_endNamed.cls ≠ "java/lang/invoke/MethodHandle" ∧ yX5_endNamed.cls ≠ "java/lang/invoke/VarHandle" ∧ (parseMethodDescriptor yX5_endNamed.desc).map (fun d => d.parameters.length) = some 1 := by decide +kernel
theorem gV_X5_X5_endNamed : GoodIn WT (wsV RX5 230 RX5 yX5_endNamed (.code yX5_endNamed cX5_endNamed 2 (some FieldType.boolean) :: WT)) := gzV q3_129 q3_131 s_X5_endNamed q1_2 q3_132
theorem hd_X5_isStored : yX5_isStored.cls = RX5 ∧ yX5_isStored.cls ≠ "java/lang/invoke/MethodHandle" ∧ yX5_isStored.cls ≠ "java/lang/invoke/VarHandle" ∧ (parseMethodDescriptor yX5_isStored.desc).map (fun d => d.parameters.length) = some 0 := by decide +kernel
theorem gV_X5_X5_isStored : GoodIn WT (wsV RX5 126 RX5 yX5_isStored (.code yX5_isStored cX5_isStored 1 (some FieldType.boolean) :: WT)) := gzV q2_163 q2_165 s_X5_isStored q1_2 q2_166
theorem hd_X5_isUnsure : yX5_isUnsure.cls = RX5 ∧ yX5_isUnsure.cls ≠ "java/lang/invoke/MethodHandle" ∧ yX5_isUnsure.cls ≠ "java/lang/invoke/VarHandle" ∧ (parseMethodDescriptor yX5_isUnsure.desc).map (fun d => d.parameters.length) = some 1 := by decide +kernel
theorem gV_X5_X5_isUnsure : GoodIn WT (wsV RX5 185 RX5 yX5_isUnsure (.code yX5_isUnsure cX5_isUnsure 3 (some FieldType.boolean) :: WT)) := gzV q2_221 q2_223 s_X5_isUnsure q1_2 q2_224
theorem hd_X5_readBegin : yX5_readBegin.cls = RX5 ∧ yX5_readBegin.cls ≠ "java/lang/invoke/MethodHandle" ∧ yX5_readBegin.cls ≠ "java/lang/invoke/VarHandle" ∧ (parseMethodDescriptor yX5_readBegin.desc).map (fun d => d.parameters.length) = some 0 := by decide +kernel
theorem gV_X5_X5_readBegin : GoodIn WT (wsV RX5 141 RX5 yX5_readBegin (.code yX5_readBegin cX5_readBegin 1 (some FieldType.boolean) :: WT)) := gzV q2_197 q2_199 s_X5_readBegin q1_2 q2_200
theorem hd_X5_readHead : yX5_readHead.cls = RX5 ∧ yX5_readHead.cls ≠ "java/lang/invoke/MethodHandle" ∧ yX5_readHead.cls ≠ "java/lang/invoke/VarHandle" ∧ (parseMethodDescriptor yX5_readHead.desc).map (fun d => d.parameters.length) = some 0 := by decide +kernel
theorem gV_X5_X5_readHead : GoodIn WT (wsV RX5 129 RX5 yX5_readHead (.code yX5_readHead cX5_readHead 4 (some FieldType.boolean) :: WT)) := gzV q2_167 q2_169 s_X5_readHead q1_2 q2_170
theorem hd_X5_readLine : yX5_readLine.cls = RX5 ∧ yX5_readLine.cls ≠ "java/lang/invoke/MethodHandle" ∧ yX5_readLine.cls ≠ "java/lang/invoke/VarHandle" ∧ (parseMethodDescriptor yX5_readLine.desc).map (fun d => d.parameters.length) = some 0 := by decide +kernel
theorem gV_X5_X5_readLine : GoodIn WT (wsV RX5 69 RX5 yX5_readLine (.code yX5_readLine cX5_readLine 1 (some FieldType.boolean) :: WT)) := gzV q2_93 q2_95 s_X5_readLine q1_2 q2_96
theorem hd_X5_readSeen : yX5_readSeen.cls = RX5 ∧ yX5_readSeen.cls ≠ "java/lang/invoke/MethodHandle" ∧ yX5_readSeen.cls ≠ "java/lang/invoke/VarHandle" ∧ (parseMethodDescriptor yX5_readSeen.desc).map (fun d => d.parameters.length) = some 0 := by decide +kernel
theorem gV_X5_X5_readSeen : GoodIn WT (wsV RX5 160 RX5 yX5_readSeen (.code yX5_readSeen cX5_readSeen 1 (some FieldType.boolean) :: WT)) := gzV q2_225 q2_227 s_X5_readSeen q1_2 q2_228
theorem hd_X5_readUnsure : yX5_readUnsure.cls = RX5 ∧ yX5_readUnsure.cls ≠ "java/lang/invoke/MethodHandle" ∧ yX5_readUnsure.cls ≠ "java/lang/invoke/VarHandle" ∧ (parseMethodDescriptor yX5_readUnsure.desc).map (fun d => d.parameters.length) = some 0 := by decide +kernel
theorem gV_X5_X5_readUnsure : GoodIn WT (wsV RX5 157 RX5 yX5_readUnsure (.code yX5_readUnsure cX5_readUnsure 1 (some FieldType.boolean) :: WT)) := gzV q2_217 q2_219 s_X5_readUnsure q1_2 q2_220
theorem hd_X5_slotNamed : yX5_slotNamed.cls = RX5 ∧ yX5_slotNamed.cls ≠ "java/lang/invoke/MethodHandle" ∧ yX5_slotNamed.cls ≠ "java/lang/invoke/VarHandle" ∧ (parseMethodDescriptor yX5_slotNamed.desc).map (fun d => d.parameters.length) = some 1 := by decide +kernel
theorem gV_X5_X5_slotNamed : GoodIn WT (wsV RX5 188 RX5 yX5_slotNamed (.code yX5_slotNamed cX5_slotNamed 2 (some FieldType.int) :: WT)) := gzV q2_209 q2_211 s_X5_slotNamed q1_2 q2_212
theorem hd_X5_takeLineEnd : yX5_takeLineEnd.cls = RX5 ∧ yX5_takeLineEnd.cls ≠ "java/lang/invoke/MethodHandle" ∧ yX5_takeLineEnd.cls ≠ "java/lang/invoke/VarHandle" ∧ (parseMethodDescriptor yX5_takeLineEnd.desc).map (fun d => d.parameters.length) = some 0 := by decide +kernel
theorem gV_X5_X5_takeLineEnd : GoodIn WT (wsV RX5 154 RX5 yX5_takeLineEnd (.code yX5_takeLineEnd cX5_takeLineEnd 1 (some FieldType.boolean) :: WT)) := gzV q2_185 q2_187 s_X5_takeLineEnd q1_2 q2_188
theorem hd_X5_takeName : yX5_takeName.cls = RX5 ∧ yX5_takeName.cls ≠ "java/lang/invoke/MethodHandle" ∧ yX5_takeName.cls ≠ "java/lang/invoke/VarHandle" ∧ (parseMethodDescriptor yX5_takeName.desc).map (fun d => d.parameters.length) = some 0 := by decide +kernel
theorem gV_X5_X5_takeName : GoodIn WT (wsV RX5 175 RX5 yX5_takeName (.code yX5_takeName cX5_takeName 2 (some FieldType.boolean) :: WT)) := gzV q2_201 q2_203 s_X5_takeName q1_2 q2_204
theorem hd_X5_takeRow : yX5_takeRow.cls = RX5 ∧ yX5_takeRow.cls ≠ "java/lang/invoke/MethodHandle" ∧ yX5_takeRow.cls ≠ "java/lang/invoke/VarHandle" ∧ (parseMethodDescriptor yX5_takeRow.desc).map (fun d => d.parameters.length) = some 0 := by decide +kernel
theorem gV_X5_X5_takeRow : GoodIn WT (wsV RX5 147 RX5 yX5_takeRow (.code yX5_takeRow cX5_takeRow 2 (some FieldType.boolean) :: WT)) := gzV q2_213 q2_215 s_X5_takeRow q1_2 q2_216
theorem hd_X5_takeRunning : yX5_takeRunning.cls = RX5 ∧ yX5_takeRunning.cls ≠ "java/lang/invoke/MethodHandle" ∧ yX5_takeRunning.cls ≠ "java/lang/invoke/VarHandle" ∧ (parseMethodDescriptor yX5_takeRunning.desc).map (fun d => d.parameters.length) = some 0 := by decide +kernel
theorem gV_X5_X5_takeRunning : GoodIn WT (wsV RX5 144 RX5 yX5_takeRunning (.code yX5_takeRunning cX5_takeRunning 1 (some FieldType.boolean) :: WT)) := gzV q2_205 q2_207 s_X5_takeRunning q1_2 q2_208
theorem hd_X5_takeText : yX5_takeText.cls = RX5 ∧ yX5_takeText.cls ≠ "java/lang/invoke/MethodHandle" ∧ yX5_takeText.cls ≠ "java/lang/invoke/VarHandle" ∧ (parseMethodDescriptor yX5_takeText.desc).map (fun d => d.parameters.length) = some 1 := by decide +kernel
theorem gV_X5_X5_takeText : GoodIn WT (wsV RX5 164 RX5 yX5_takeText (.code yX5_takeText cX5_takeText 2 (some FieldType.boolean) :: WT)) := gzV q2_172 q2_174 s_X5_takeText q1_2 q2_175
theorem hd_X5_tellUnsure : yX5_tellUnsure.cls = RX5 ∧ yX5_tellUnsure.cls ≠ "java/lang/invoke/MethodHandle" ∧ yX5_tellUnsure.cls ≠ "java/lang/invoke/VarHandle" ∧ (parseMethodDescriptor yX5_tellUnsure.desc).map (fun d => d.parameters.length) = some 0 := by decide +kernel
theorem gV_X5_X5_tellUnsure : GoodIn WT (wsV RX5 83 RX5 yX5_tellUnsure (.code yX5_tellUnsure cX5_tellUnsure 2 none :: WT)) := gzV q3_157 q3_159 s_X5_tellUnsure q1_2 q3_160
theorem hd_X6_canBegin : yX6_canBegin.cls = RX6 ∧ yX6_canBegin.cls ≠ "java/lang/invoke/MethodHandle" ∧ yX6_canBegin.cls ≠ "java/lang/invoke/VarHandle" ∧ (parseMethodDescriptor yX6_canBegin.desc).map (fun d => d.parameters.length) = some 0 := by decide +kernel
theorem gV_X5_X6_canBegin : GoodIn WT (wsV RX5 207 RX6 yX6_canBegin (.code yX6_canBegin cX6_canBegin 1 (some FieldType.boolean) :: WT)) := gzV q3_1 q3_2 q3_3 q1_3 q3_4
theorem hd_X6_clearDead : yX6_clearDead.cls = RX6 ∧ yX6_clearDead.cls ≠ "java/lang/invoke/MethodHandle" ∧ yX6_clearDead.cls ≠ "java/lang/invoke/VarHandle" ∧ (parseMethodDescriptor yX6_clearDead.desc).map (fun d => d.parameters.length) = some 0 := by decide +kernel
theorem gV_X5_X6_clearDead : GoodIn WT (wsV RX5 234 RX6 yX6_clearDead (.code yX6_clearDead cX6_clearDead 7 (some FieldType.int) :: WT)) := gzV q3_137 q3_138 q3_139 q1_3 q3_140
theorem hd_X6_dropTrouble : yX6_dropTrouble.cls = RX6 ∧ yX6_dropTrouble.cls ≠ "java/lang/invoke/MethodHandle" ∧ yX6_dropTrouble.cls ≠ "java/lang/invoke/VarHandle" ∧ (parseMethodDescriptor yX6_dropTrouble.desc).map (fun d => d.parameters.length) = some 2 := by decide +kernel
theorem gV_X5_X6_dropTrouble : GoodIn WT (wsV RX5 221 RX6 yX6_dropTrouble (.code yX6_dropTrouble cX6_dropTrouble 4 (some FieldType.int) :: WT)) := gzV q3_119 q3_120 q3_121 q1_3 q3_122
theorem hd_X6_dropValue : yX6_dropValue.cls = RX6 ∧ yX6_dropValue.cls ≠ "java/lang/invoke/MethodHandle" ∧ yX6_dropValue.cls ≠ "java/lang/invoke/VarHandle" ∧ (parseMethodDescriptor yX6_dropValue.desc).map (fun d => d.parameters.length) = some 2 := by decide +kernel
theorem gV_X5_X6_dropValue : GoodIn WT (wsV RX5 224 RX6 yX6_dropValue (.code yX6_dropValue cX6_dropValue 4 (some FieldType.int) :: WT)) := gzV q3_123 q3_124 q3_125 q1_3 q3_126
theorem hd_X6_freezeAll : yX6_freezeAll.cls = RX6 ∧ yX6_freezeAll.cls ≠ "java/lang/invoke/MethodHandle" ∧ yX6_freezeAll.cls ≠ "java/lang/invoke/VarHandle" ∧ (parseMethodDescriptor yX6_freezeAll.desc).map (fun d => d.parameters.length) = some 0 := by decide +kernel
theorem gV_X5_X6_freezeAll : GoodIn WT (wsV RX5 237 RX6 yX6_freezeAll (.code yX6_freezeAll cX6_freezeAll 7 (some FieldType.int) :: WT)) := gzV q3_153 q3_154 q3_155 q1_3 q3_156
theorem hd_X6_putTrouble : yX6_putTrouble.cls = RX6 ∧ yX6_putTrouble.cls ≠ "java/lang/invoke/MethodHandle" ∧ yX6_putTrouble.cls ≠ "java/lang/invoke/VarHandle" ∧ (parseMethodDescriptor yX6_putTrouble.desc).map (fun d => d.parameters.length) = some 2 := by decide +kernel
theorem gV_X5_X6_putTrouble : GoodIn WT (wsV RX5 213 RX6 yX6_putTrouble (.code yX6_putTrouble cX6_putTrouble 4 (some FieldType.int) :: WT)) := gzV q3_47 q3_48 q3_49 q1_3 q3_50
theorem hd_X6_putValue : yX6_putValue.cls = RX6 ∧ yX6_putValue.cls ≠ "java/lang/invoke/MethodHandle" ∧ yX6_putValue.cls ≠ "java/lang/invoke/VarHandle" ∧ (parseMethodDescriptor yX6_putValue.desc).map (fun d => d.parameters.length) = some 3 := by decide +kernel
theorem gV_X5_X6_putValue : GoodIn WT (wsV RX5 217 RX6 yX6_putValue (.code yX6_putValue cX6_putValue 5 (some FieldType.int) :: WT)) := gzV q3_111 q3_112 q3_113 q1_3 q3_114
theorem hd_X6_startAnew : yX6_startAnew.cls = RX6 ∧ yX6_startAnew.cls ≠ "java/lang/invoke/MethodHandle" ∧ yX6_startAnew.cls ≠ "java/lang/invoke/VarHandle" ∧ (parseMethodDescriptor yX6_startAnew.desc).map (fun d => d.parameters.length) = some 4 := by decide +kernel
theorem gV_X5_X6_startAnew : GoodIn WT (wsV RX5 59 RX6 yX6_startAnew (.code yX6_startAnew cX6_startAnew 5 none :: WT)) := gzV q2_61 q2_62 q2_63 q1_3 q2_64
theorem hd_X7_isText : yX7_isText.cls = RX7 ∧ yX7_isText.cls ≠ "java/lang/invoke/MethodHandle" ∧ yX7_isText.cls ≠ "java/lang/invoke/VarHandle" ∧ (parseMethodDescriptor yX7_isText.desc).map (fun d => d.parameters.length) = some 1 := by decide +kernel
theorem gV_X5_X7_isText : GoodIn WT (wsV RX5 201 RX7 yX7_isText (.code yX7_isText cX7_isText 3 (some FieldType.boolean) :: WT)) := gzV q2_177 q2_104 q2_105 q1_6 q2_106
theorem hd_X7_reserved : yX7_reserved.cls = RX7 ∧ yX7_reserved.cls ≠ "java/lang/invoke/MethodHandle" ∧ yX7_reserved.cls ≠ "java/lang/invoke/VarHandle" ∧ (parseMethodDescriptor yX7_reserved.desc).map (fun d => d.parameters.length) = some 0 := by decide +kernel
theorem gV_X5_X7_reserved : GoodIn WT (wsV RX5 110 RX7 yX7_reserved (.code yX7_reserved cX7_reserved 2 (some (FieldType.object "StampedRows$Word")) :: WT)) := gzV q2_97 q2_98 q2_99 q1_6 q2_100
theorem hd_X7_startText : yX7_startText.cls = RX7 ∧ yX7_startText.cls ≠ "java/lang/invoke/MethodHandle" ∧ yX7_startText.cls ≠ "java/lang/invoke/VarHandle" ∧ (parseMethodDescriptor yX7_startText.desc).map (fun d => d.parameters.length) = some 1 := by decide +kernel
theorem gV_X5_X7_startText : GoodIn WT (wsV RX5 65 RX7 yX7_startText (.code yX7_startText cX7_startText 2 none :: WT)) := gzV q2_72 q2_73 q2_74 q1_6 q2_75
theorem hd_J0_charAt_5068e : yJ0_charAt_5068e.cls = RJ0 ∧ yJ0_charAt_5068e.cls ≠ "java/lang/invoke/MethodHandle" ∧ yJ0_charAt_5068e.cls ≠ "java/lang/invoke/VarHandle" ∧ (parseMethodDescriptor yJ0_charAt_5068e.desc).map (fun d => d.parameters.length) = some 1 := by decide +kernel
theorem gV_X7_J0_charAt_5068e : GoodIn WT (wsV RX7 59 RJ0 yJ0_charAt_5068e (.code yJ0_charAt_5068e cJ0_charAt_5068e 2 (some FieldType.char) :: WT)) := gzV q2_117 q2_118 q2_119 q1_10 q2_120
theorem hd_J0_length_8abf5 : yJ0_length_8abf5.cls = RJ0 ∧ yJ0_length_8abf5.cls ≠ "java/lang/invoke/MethodHandle" ∧ yJ0_length_8abf5.cls ≠ "java/lang/invoke/VarHandle" ∧ (parseMethodDescriptor yJ0_length_8abf5.desc).map (fun d => d.parameters.length) = some 0 := by decide +kernel
theorem gV_X7_J0_length_8abf5 : GoodIn WT (wsV RX7 54 RJ0 yJ0_length_8abf5 (.code yJ0_length_8abf5 cJ0_length_8abf5 1 (some FieldType.int) :: WT)) := gzV q2_107 q2_108 q2_109 q1_10 q2_110
theorem gV_X7_X7_isText : GoodIn WT (wsV RX7 73 RX7 yX7_isText (.code yX7_isText cX7_isText 3 (some FieldType.boolean) :: WT)) := gzV q2_103 q2_104 q2_105 q1_6 q2_106
def b_X7_isText_28 (St : STape) (x1 : Nat) (k28 : Int32 → Option (Int32)) (v2 : Int32) : Option (Int32) :=
  (if x1 < 15 then (f_J0_length_8abf5 x1).bind (fun q2 =>
      (if q2 ≤ v2 then
        some (1 : Int32)
        else
        (if (Tape_length St) ≤ ((Tape_start St) + v2) then
          some (1 : Int32)
          else
          (if x1 < 15 then (f_J0_charAt_5068e x1 v2).bind (fun q4 =>
              (if zib ((Tape_start St) + v2) 900 then (if q4 = ((Tape_bytes St) ((Tape_start St) + v2).toNatClampNeg) then
                  (k28 (v2 + (1 : Int32)))
                  else
                  some (0 : Int32)) else none)) else none)))) else none)
set_option maxHeartbeats 4000000 in
set_option maxRecDepth 100000 in
theorem w_X7_isText_28 {p : Program} {e : Env} {s : State} {m : MethodId} {below : List Frame} {meth : Method} {c : Code} {A : Nat → Prop} {D : va_G} {cy : Nat → ClassId} {args : Array Value} {r : Int32} (l : Launch) (E : zEn) (ht : Nat → Nat) (St : STape) (x1 : Nat) (C : zX p s m meth c cX7_isText 3 args RX7 (some FieldType.boolean) A D (zty cy)) (hE : zE E A s s.heap) :
    ∀ (n : Nat) (v2 : Int32) (H : Heap) (locs : List Loc) (ls : Array Slot), zl1 (b_X7_isText_28 St x1) n v2 = some r → va_P D vwCl (wTape ht cy St) H → va_D A (wTape ht cy St) → va_S A s.heap H locs → lv_has ls 3 [(0, .ref (ht 0)), (1, .ref (E.1 x1)), (2, .int v2)] → W p l e (zRm 4 85) s m args below meth c H locs 0 0 (MQ below (zQI D (zty cy) A (wTape ht cy St) r) args s 0 0 A) (F0 m 28 ls []) := by
  obtain ⟨hx, hb, hr, hts, hown, hlocks, hml, hA, hK⟩ := id C
  intro n
  induction n with
  | zero => intro v2 H locs ls hf; exact zno hf
  | succ n ih =>
    intro v2 H locs ls hf hP hD hS hl
    have hf : b_X7_isText_28 St x1 (zl1 (b_X7_isText_28 St x1) n) v2 = some r := hf
    have K28 := ih
    refine lv_iload_n hx hb dX7_isText_28 rfl (lv_at hl 2 rfl) ?_
    refine lv_aload_n hx hb dX7_isText_29 rfl (lv_at hl 1 rfl) ?_
    obtain ⟨hs1, hf⟩ := zgd hf
    obtain ⟨q2, hc, hf⟩ := zbd hf
    refine z_cVisE (As := []) (rest := [.int v2]) C hE (c_J0_length_8abf5 l D cy E x1 q2 hc) gV_X7_J0_length_8abf5 hd_J0_length_8abf5 ⟨Nat.le_of_ble_eq_true rfl, Nat.le_of_ble_eq_true rfl⟩ ⟨Nat.le_refl _, Nat.le_refl _⟩ (vk_recv hE.1 hs1 hS) hP hD hS hl.1 (Nat.le_of_ble_eq_true rfl) dX7_isText_30 (fun H locs hP hD hS => ?_)
    refine z_icmp_ge (tgt := 76) hx hb dX7_isText_33 (by decide) hf (fun hf => ?_) (fun hf => ?_)
    · refine lv_iconst (v := (1 : Int32)) hx hb dX7_isText_76 (by decide) ?_
      obtain rfl := Option.some.inj hf
      exact z_zret (v := (1 : Int32)) C rfl hP hD hS dX7_isText_77
    · refine lv_aload_n hx hb dX7_isText_36 rfl (lv_at hl 0 rfl) ?_
      refine va_get (D := D) (ci := 4) (v := .int (Tape_start St)) (C := RX7) (T := TX7) (N := 7) hx hb hts in_X7 hown hK hP 0 rfl rfl 2 (by decide) (hts _ q1_155) (fun _ h9 => h9) rfl dX7_isText_37 ?_
      refine lv_iload_n hx hb dX7_isText_40 rfl (lv_at hl 2 rfl) ?_
      refine lv_iadd hx hb dX7_isText_41 ?_
      refine lv_aload_n hx hb dX7_isText_42 rfl (lv_at hl 0 rfl) ?_
      refine va_get (D := D) (ci := 4) (v := .int (Tape_length St)) (C := RX7) (T := TX7) (N := 7) hx hb hts in_X7 hown hK hP 0 rfl rfl 5 (by decide) (hts _ q1_159) (fun _ h9 => h9) rfl dX7_isText_43 ?_
      refine z_icmp_ge (tgt := 76) hx hb dX7_isText_46 (by decide) hf (fun hf => ?_) (fun hf => ?_)
      · refine lv_iconst (v := (1 : Int32)) hx hb dX7_isText_76 (by decide) ?_
        obtain rfl := Option.some.inj hf
        exact z_zret (v := (1 : Int32)) C rfl hP hD hS dX7_isText_77
      · refine lv_aload_n hx hb dX7_isText_49 rfl (lv_at hl 1 rfl) ?_
        refine lv_iload_n hx hb dX7_isText_50 rfl (lv_at hl 2 rfl) ?_
        obtain ⟨hs3, hf⟩ := zgd hf
        obtain ⟨q4, hc, hf⟩ := zbd hf
        refine z_cVisE (As := [.int v2]) (rest := []) C hE (c_J0_charAt_5068e l D cy E x1 v2 q4 hc) gV_X7_J0_charAt_5068e hd_J0_charAt_5068e ⟨Nat.le_of_ble_eq_true rfl, Nat.le_of_ble_eq_true rfl⟩ ⟨Nat.le_refl _, Nat.le_refl _⟩ (vk_recv hE.1 hs3 hS) hP hD hS hl.1 (Nat.le_of_ble_eq_true rfl) dX7_isText_51 (fun H locs hP hD hS => ?_)
        refine lv_aload_n hx hb dX7_isText_54 rfl (lv_at hl 0 rfl) ?_
        refine va_get (D := D) (ci := 4) (v := .ref (ht 1)) (C := RX7) (T := TX7) (N := 7) hx hb hts in_X7 hown hK hP 0 rfl rfl 6 (by decide) (hts _ q1_160) (fun _ h9 => h9) rfl dX7_isText_55 ?_
        refine lv_aload_n hx hb dX7_isText_58 rfl (lv_at hl 0 rfl) ?_
        refine va_get (D := D) (ci := 4) (v := .int (Tape_start St)) (C := RX7) (T := TX7) (N := 7) hx hb hts in_X7 hown hK hP 0 rfl rfl 2 (by decide) (hts _ q1_155) (fun _ h9 => h9) rfl dX7_isText_59 ?_
        refine lv_iload_n hx hb dX7_isText_62 rfl (lv_at hl 2 rfl) ?_
        refine lv_iadd hx hb dX7_isText_63 ?_
        refine z_bald (f := (Tape_bytes St)) hx hb hK hP 1 2 rfl rfl dX7_isText_64 hf (fun hf => ?_)
        refine z_icmp_eq (tgt := 70) hx hb dX7_isText_65 (by decide) hf (fun hf => ?_) (fun hf => ?_)
        · refine lv_iinc (v := (v2 + (1 : Int32))) (lv' := [(2, .int (v2 + (1 : Int32))), (0, .ref (ht 0)), (1, .ref (E.1 x1))]) hx hb dX7_isText_70 hl (k := 2) rfl rfl (by decide) rfl (fun ls hl => ?_)
          refine lv_goto (tgt := 28) hx hb dX7_isText_73 (by decide) ?_
          exact K28 (v2 + (1 : Int32)) H locs ls hf hP hD hS (lv_sub hl [1, 2, 0] rfl)
        · refine lv_iconst (v := (0 : Int32)) hx hb dX7_isText_68 (by decide) ?_
          obtain rfl := Option.some.inj hf
          exact z_zret (v := (0 : Int32)) C rfl hP hD hS dX7_isText_69
def f_X7_isText (St : STape) (x1 : Nat) : Option (Int32) :=
  (if (Tape_kind St) = (1 : Int32) then
    (if x1 < 15 then (f_J0_length_8abf5 x1).bind (fun q6 =>
        (if q6 = ((Tape_after St) - (Tape_start St)) then
          (zl1 (b_X7_isText_28 St x1) FU (0 : Int32))
          else
          some (0 : Int32))) else none)
    else
    some (0 : Int32))
set_option maxHeartbeats 4000000 in
set_option maxRecDepth 100000 in
theorem c_X7_isText (l : Launch) (D : va_G) (cy : Nat → ClassId) (E : zEn) (ht : Nat → Nat) (St : STape) (x1 : Nat) (r : Int32) (hf : f_X7_isText St x1 = some r) : zCIs l yX7_isText cX7_isText 3 (some FieldType.boolean) 4 85 D (zty cy) E [.ref (ht 0), .ref (E.1 x1)] (wTape ht cy St) (wTape ht cy St) r := by
  refine zCIs_of (by decide +kernel) (Nat.le_of_ble_eq_true rfl) ?_
  intro p e s m below meth c A ls C hE hP hD hS hl
  generalize hargs : ([.ref (ht 0), .ref (E.1 x1)] : List Value).toArray = args at C ⊢
  have C : zX p s m meth c cX7_isText 3 args RX7 (some FieldType.boolean) A D (zty cy) := C
  obtain ⟨hx, hb, hr, hts, hown, hlocks, hml, hA, hK⟩ := id C
  have hl : lv_has ls 3 [(0, .ref (ht 0)), (1, .ref (E.1 x1))] := hl
  generalize hH : s.heap = H at hP ⊢
  have hS : va_S A s.heap H [] := by rw [← hH]; exact hS
  generalize ([] : List Loc) = locs at hS ⊢
  refine lv_aload_n hx hb dX7_isText_0 rfl (lv_at hl 0 rfl) ?_
  refine va_get (D := D) (ci := 4) (v := .int (Tape_kind St)) (C := RX7) (T := TX7) (N := 7) hx hb hts in_X7 hown hK hP 0 rfl rfl 1 (by decide) (hts _ q1_153) (fun _ h9 => h9) rfl dX7_isText_1 ?_
  refine lv_iconst (v := (1 : Int32)) hx hb dX7_isText_4 (by decide) ?_
  refine z_icmp_ne (tgt := 24) hx hb dX7_isText_5 (by decide) hf (fun hf => ?_) (fun hf => ?_)
  · refine lv_iconst (v := (0 : Int32)) hx hb dX7_isText_24 (by decide) ?_
    obtain rfl := Option.some.inj hf
    exact z_zret (v := (0 : Int32)) C rfl hP hD hS dX7_isText_25
  · refine lv_aload_n hx hb dX7_isText_8 rfl (lv_at hl 1 rfl) ?_
    obtain ⟨hs5, hf⟩ := zgd hf
    obtain ⟨q6, hc, hf⟩ := zbd hf
    refine z_cVisE (As := []) (rest := []) C hE (c_J0_length_8abf5 l D cy E x1 q6 hc) gV_X7_J0_length_8abf5 hd_J0_length_8abf5 ⟨Nat.le_of_ble_eq_true rfl, Nat.le_of_ble_eq_true rfl⟩ ⟨Nat.le_refl _, Nat.le_refl _⟩ (vk_recv hE.1 hs5 hS) hP hD hS hl.1 (Nat.le_of_ble_eq_true rfl) dX7_isText_9 (fun H locs hP hD hS => ?_)
    refine lv_aload_n hx hb dX7_isText_12 rfl (lv_at hl 0 rfl) ?_
    refine va_get (D := D) (ci := 4) (v := .int (Tape_after St)) (C := RX7) (T := TX7) (N := 7) hx hb hts in_X7 hown hK hP 0 rfl rfl 4 (by decide) (hts _ q1_158) (fun _ h9 => h9) rfl dX7_isText_13 ?_
    refine lv_aload_n hx hb dX7_isText_16 rfl (lv_at hl 0 rfl) ?_
    refine va_get (D := D) (ci := 4) (v := .int (Tape_start St)) (C := RX7) (T := TX7) (N := 7) hx hb hts in_X7 hown hK hP 0 rfl rfl 2 (by decide) (hts _ q1_155) (fun _ h9 => h9) rfl dX7_isText_17 ?_
    refine lv_isub hx hb dX7_isText_20 ?_
    refine z_icmp_eq (tgt := 26) hx hb dX7_isText_21 (by decide) hf (fun hf => ?_) (fun hf => ?_)
    · refine lv_iconst (v := (0 : Int32)) hx hb dX7_isText_26 (by decide) ?_
      refine lv_istore_n (lv' := [(2, .int (0 : Int32)), (0, .ref (ht 0)), (1, .ref (E.1 x1))]) hx hb dX7_isText_27 rfl hl (by decide) rfl (fun ls hl => ?_)
      exact w_X7_isText_28 l E ht St x1 C hE FU (0 : Int32) H locs ls hf hP hD hS (lv_sub hl [1, 2, 0] rfl)
    · refine lv_iconst (v := (0 : Int32)) hx hb dX7_isText_24 (by decide) ?_
      obtain rfl := Option.some.inj hf
      exact z_zret (v := (0 : Int32)) C rfl hP hD hS dX7_isText_25
def b_X7_reserved_2 (St : STape) (k2 : Int32 → Option ((Option Nat))) (v1 : Int32) : Option ((Option Nat)) :=
  (if (11 : Int32) ≤ v1 then
    some (none : Option Nat)
    else
    (if zib v1 11 then (f_X7_isText St v1.toNatClampNeg).bind (fun q2 =>
        (if q2 = 0 then
          (k2 (v1 + (1 : Int32)))
          else
          (if zib v1 11 then some (some (v1.toNatClampNeg)) else none))) else none))
set_option maxHeartbeats 4000000 in
set_option maxRecDepth 100000 in
theorem w_X7_reserved_2 {p : Program} {e : Env} {s : State} {m : MethodId} {below : List Frame} {meth : Method} {c : Code} {A : Nat → Prop} {D : va_G} {cy : Nat → ClassId} {args : Array Value} {r : (Option Nat)} (l : Launch) (E : zEn) (ht : Nat → Nat) (St : STape) (C : zX p s m meth c cX7_reserved 2 args RX7 (some (FieldType.object "StampedRows$Word")) A D (zty cy)) (hE : zE E A s s.heap) :
    ∀ (n : Nat) (v1 : Int32) (H : Heap) (locs : List Loc) (ls : Array Slot), zl1 (b_X7_reserved_2 St) n v1 = some r → va_P D vwCl (wTape ht cy St) H → va_D A (wTape ht cy St) → va_S A s.heap H locs → lv_has ls 2 [(0, .ref (ht 0)), (1, .int v1)] → W p l e (zRm 5 107) s m args below meth c H locs 0 0 (MQ below (zQE E.2.2.1 D (zty cy) A (wTape ht cy St) r) args s 0 0 A) (F0 m 2 ls []) := by
  obtain ⟨hx, hb, hr, hts, hown, hlocks, hml, hA, hK⟩ := id C
  intro n
  induction n with
  | zero => intro v1 H locs ls hf; exact zno hf
  | succ n ih =>
    intro v1 H locs ls hf hP hD hS hl
    have hf : b_X7_reserved_2 St (zl1 (b_X7_reserved_2 St) n) v1 = some r := hf
    have K2 := ih
    refine lv_iload_n hx hb dX7_reserved_2 rfl (lv_at hl 1 rfl) ?_
    refine va_getsN hx hb hE.2.2.2.1 hS hown (va_Nw.use rfl hE.2.2.2.2.2.2.2.2.2.2) (fun _ h9 => h9) dX7_reserved_3 ?_
    refine va_tlen (v := (11 : Int32)) hx hb hE.2.2.2.2.1 hS rfl dX7_reserved_6 ?_
    refine z_icmp_ge (tgt := 37) hx hb dX7_reserved_7 (by decide) hf (fun hf => ?_) (fun hf => ?_)
    · refine lv_null hx hb dX7_reserved_37 ?_
      obtain rfl := Option.some.inj hf
      exact z_eret (E := E) (v := (none : Option Nat)) C hP hD hS dX7_reserved_38
    · refine lv_aload_n hx hb dX7_reserved_10 rfl (lv_at hl 0 rfl) ?_
      refine va_getsN hx hb hE.2.2.2.1 hS hown (va_Nw.use rfl hE.2.2.2.2.2.2.2.2.2.2) (fun _ h9 => h9) dX7_reserved_11 ?_
      refine lv_iload_n hx hb dX7_reserved_14 rfl (lv_at hl 1 rfl) ?_
      obtain ⟨hz1, hf⟩ := zgd hf
      refine vb_tq (v := .ref (E.2.2.1 v1.toNatClampNeg)) hx hb hE.2.2.2.2.1 hS hz1 rfl dX7_reserved_15 ?_
      refine va_getX (i := v1.toNatClampNeg) hx hb hE.2.2.1 (zib_lt hz1) hS hown (hts _ q9_60) (fun _ h9 => h9) dX7_reserved_16 ?_
      obtain ⟨q2, hc, hf⟩ := zbd hf
      refine z_cVis0 (As := [.ref (E.1 v1.toNatClampNeg)]) (rest := []) C hE (c_X7_isText l D cy E ht St v1.toNatClampNeg q2 hc) gV_X7_X7_isText hd_X7_isText ⟨Nat.le_of_ble_eq_true rfl, Nat.le_of_ble_eq_true rfl⟩ ⟨Nat.le_refl _, Nat.le_refl _⟩ (va_recv hK hP (ci := 4) (q0 := 0) rfl rfl) hP hD hS hl.1 (Nat.le_of_ble_eq_true rfl) dX7_reserved_19 (fun H locs hP hD hS => ?_)
      have hP : va_P D vwCl (wTape ht cy St) H := hP
      have hD : va_D A (wTape ht cy St) := hD
      refine z_if_eq (tgt := 31) hx hb dX7_reserved_22 (by decide) hf (fun hf => ?_) (fun hf => ?_)
      · refine lv_iinc (v := (v1 + (1 : Int32))) (lv' := [(1, .int (v1 + (1 : Int32))), (0, .ref (ht 0))]) hx hb dX7_reserved_31 hl (k := 1) rfl rfl (by decide) rfl (fun ls hl => ?_)
        refine lv_goto (tgt := 2) hx hb dX7_reserved_34 (by decide) ?_
        exact K2 (v1 + (1 : Int32)) H locs ls hf hP hD hS (lv_sub hl [1, 0] rfl)
      · refine va_getsN hx hb hE.2.2.2.1 hS hown (va_Nw.use rfl hE.2.2.2.2.2.2.2.2.2.2) (fun _ h9 => h9) dX7_reserved_25 ?_
        refine lv_iload_n hx hb dX7_reserved_28 rfl (lv_at hl 1 rfl) ?_
        obtain ⟨hz3, hf⟩ := zgd hf
        refine vb_tq (v := .ref (E.2.2.1 v1.toNatClampNeg)) hx hb hE.2.2.2.2.1 hS hz3 rfl dX7_reserved_29 ?_
        obtain rfl := Option.some.inj hf
        exact z_eret (E := E) (v := (some (v1.toNatClampNeg))) C hP hD hS dX7_reserved_30
def f_X7_reserved (St : STape) : Option ((Option Nat)) :=
  (zl1 (b_X7_reserved_2 St) FU (0 : Int32))
set_option maxHeartbeats 4000000 in
set_option maxRecDepth 100000 in
theorem c_X7_reserved (l : Launch) (D : va_G) (cy : Nat → ClassId) (E : zEn) (ht : Nat → Nat) (St : STape) (r : (Option Nat)) (hf : f_X7_reserved St = some r) : zCEs l yX7_reserved cX7_reserved 2 (some (FieldType.object "StampedRows$Word")) 5 107 D (zty cy) E [.ref (ht 0)] (wTape ht cy St) (wTape ht cy St) r := by
  refine zCEs_of (by decide +kernel) (Nat.le_of_ble_eq_true rfl) ?_
  intro p e s m below meth c A ls C hE hP hD hS hl
  generalize hargs : ([.ref (ht 0)] : List Value).toArray = args at C ⊢
  have C : zX p s m meth c cX7_reserved 2 args RX7 (some (FieldType.object "StampedRows$Word")) A D (zty cy) := C
  obtain ⟨hx, hb, hr, hts, hown, hlocks, hml, hA, hK⟩ := id C
  have hl : lv_has ls 2 [(0, .ref (ht 0))] := hl
  generalize hH : s.heap = H at hP ⊢
  have hS : va_S A s.heap H [] := by rw [← hH]; exact hS
  generalize ([] : List Loc) = locs at hS ⊢
  refine lv_iconst (v := (0 : Int32)) hx hb dX7_reserved_0 (by decide) ?_
  refine lv_istore_n (lv' := [(1, .int (0 : Int32)), (0, .ref (ht 0))]) hx hb dX7_reserved_1 rfl hl (by decide) rfl (fun ls hl => ?_)
  exact w_X7_reserved_2 l E ht St C hE FU (0 : Int32) H locs ls hf hP hD hS (lv_sub hl [1, 0] rfl)
def f_X5_takeText (St : SRd) (St_tape : STape) (x1 : Nat) : Option (Int32 × SRd × STape) :=
  (f_X7_advance St_tape).bind (fun q1 =>
    (f_X7_isText q1 x1).bind (fun q2 =>
      (if q2 = 0 then
        (f_X5_fail St q1 (1 : Int32)).bind (fun q3 =>
          (if q3.1 = 0 then
            some ((0 : Int32), q3.2, q1)
            else
            some ((1 : Int32), q3.2, q1)))
        else
        some ((1 : Int32), St, q1))))
set_option maxHeartbeats 4000000 in
set_option maxRecDepth 100000 in
theorem c_X5_takeText (l : Launch) (D : va_G) (cy : Nat → ClassId) (E : zEn) (ht : Nat → Nat) (ht_rows : Nat → Nat) (ht_evidence : Nat → Nat) (ht_tape : Nat → Nat) (St : SRd) (St_tape : STape) (x1 : Nat) (r : Int32 × SRd × STape) (hf : f_X5_takeText St St_tape x1 = some r) : zCIs l yX5_takeText cX5_takeText 2 (some FieldType.boolean) 5 107 D (zty cy) E [.ref (ht 0), .ref (E.1 x1)] (wRd ht (ht_rows 0) (ht_evidence 0) (ht_tape 0) E.2.2.1 cy St ++ (wTape ht_tape cy St_tape)) (wRd ht (ht_rows 0) (ht_evidence 0) (ht_tape 0) E.2.2.1 cy r.2.1 ++ (wTape ht_tape cy r.2.2)) r.1 := by
  refine zCIs_of (by decide +kernel) (Nat.le_of_ble_eq_true rfl) ?_
  intro p e s m below meth c A ls C hE hP hD hS hl
  generalize hargs : ([.ref (ht 0), .ref (E.1 x1)] : List Value).toArray = args at C ⊢
  have C : zX p s m meth c cX5_takeText 2 args RX5 (some FieldType.boolean) A D (zty cy) := C
  obtain ⟨hx, hb, hr, hts, hown, hlocks, hml, hA, hK⟩ := id C
  have hl : lv_has ls 2 [(0, .ref (ht 0)), (1, .ref (E.1 x1))] := hl
  generalize hH : s.heap = H at hP ⊢
  have hS : va_S A s.heap H [] := by rw [← hH]; exact hS
  generalize ([] : List Loc) = locs at hS ⊢
  refine lv_aload_n hx hb dX5_takeText_0 rfl (lv_at hl 0 rfl) ?_
  refine va_get (D := D) (ci := 2) (v := .ref (ht_tape 0)) (C := RX5) (T := TX5) (N := 15) hx hb hts in_X5 hown hK hP 0 rfl rfl 4 (by decide) (hts _ q1_185) (fun _ h9 => h9) rfl dX5_takeText_1 ?_
  obtain ⟨q1, hc, hf⟩ := zbd hf
  refine z_cVv (As := []) (rest := []) C (c_X7_advance l D cy ht_tape St_tape q1 hc) gV_X5_X7_advance hd_X7_advance ⟨Nat.le_of_ble_eq_true rfl, Nat.le_of_ble_eq_true rfl⟩ ⟨Nat.le_refl _, Nat.le_refl _⟩ (va_recv hK hP (ci := 4) (q0 := 5) rfl rfl) hP hD hS (w2 := wRd ht (ht_rows 0) (ht_evidence 0) (ht_tape 0) E.2.2.1 cy St ++ (wTape ht_tape cy q1)) [5, 6] [0, 1, 2, 3, 4] [0, 1, 2, 3, 4, 5, 6] rfl rfl rfl rfl rfl rfl (by decide) hl.1 (Nat.le_of_ble_eq_true rfl) dX5_takeText_4 (fun H locs hP hD hS => ?_)
  refine lv_aload_n hx hb dX5_takeText_7 rfl (lv_at hl 0 rfl) ?_
  refine va_get (D := D) (ci := 2) (v := .ref (ht_tape 0)) (C := RX5) (T := TX5) (N := 15) hx hb hts in_X5 hown hK hP 0 rfl rfl 4 (by decide) (hts _ q1_185) (fun _ h9 => h9) rfl dX5_takeText_8 ?_
  refine lv_aload_n hx hb dX5_takeText_11 rfl (lv_at hl 1 rfl) ?_
  obtain ⟨q2, hc, hf⟩ := zbd hf
  refine z_cVis (As := [.ref (E.1 x1)]) (rest := []) C hE (c_X7_isText l D cy E ht_tape q1 x1 q2 hc) gV_X5_X7_isText hd_X7_isText ⟨Nat.le_of_ble_eq_true rfl, Nat.le_of_ble_eq_true rfl⟩ ⟨Nat.le_refl _, Nat.le_refl _⟩ (va_recv hK hP (ci := 4) (q0 := 5) rfl rfl) hP hD hS (w2 := wRd ht (ht_rows 0) (ht_evidence 0) (ht_tape 0) E.2.2.1 cy St ++ (wTape ht_tape cy q1)) [5, 6] [0, 1, 2, 3, 4] [0, 1, 2, 3, 4, 5, 6] rfl rfl rfl rfl rfl rfl (by decide) hl.1 (Nat.le_of_ble_eq_true rfl) dX5_takeText_12 (fun H locs hP hD hS => ?_)
  refine z_if_ne (tgt := 26) hx hb dX5_takeText_15 (by decide) hf (fun hf => ?_) (fun hf => ?_)
  · refine lv_iconst (v := (1 : Int32)) hx hb dX5_takeText_26 (by decide) ?_
    refine lv_goto (tgt := 31) hx hb dX5_takeText_27 (by decide) ?_
    obtain rfl := Option.some.inj hf
    exact z_zret (v := (1 : Int32)) C rfl hP hD hS dX5_takeText_31
  · refine lv_aload_n hx hb dX5_takeText_18 rfl (lv_at hl 0 rfl) ?_
    refine lv_iconst (v := (1 : Int32)) hx hb dX5_takeText_19 (by decide) ?_
    obtain ⟨q3, hc, hf⟩ := zbd hf
    refine z_cVi0 (As := [.int (1 : Int32)]) (rest := []) C (c_X5_fail l D cy ht ht_rows ht_evidence ht_tape E.2.2.1 St q1 (1 : Int32) q3 hc) gV_X5_X5_fail hd_X5_fail ⟨Nat.le_of_ble_eq_true rfl, Nat.le_of_ble_eq_true rfl⟩ ⟨Nat.le_refl _, Nat.le_refl _⟩ (va_recv hK hP (ci := 2) (q0 := 0) rfl rfl) hP hD hS hl.1 (Nat.le_of_ble_eq_true rfl) dX5_takeText_20 (fun H locs hP hD hS => ?_)
    have hP : va_P D vwCl (wRd ht (ht_rows 0) (ht_evidence 0) (ht_tape 0) E.2.2.1 cy q3.2 ++ (wTape ht_tape cy q1)) H := hP
    have hD : va_D A (wRd ht (ht_rows 0) (ht_evidence 0) (ht_tape 0) E.2.2.1 cy q3.2 ++ (wTape ht_tape cy q1)) := hD
    refine z_if_eq (tgt := 30) hx hb dX5_takeText_23 (by decide) hf (fun hf => ?_) (fun hf => ?_)
    · refine lv_iconst (v := (0 : Int32)) hx hb dX5_takeText_30 (by decide) ?_
      obtain rfl := Option.some.inj hf
      exact z_zret (v := (0 : Int32)) C rfl hP hD hS dX5_takeText_31
    · refine lv_iconst (v := (1 : Int32)) hx hb dX5_takeText_26 (by decide) ?_
      refine lv_goto (tgt := 31) hx hb dX5_takeText_27 (by decide) ?_
      obtain rfl := Option.some.inj hf
      exact z_zret (v := (1 : Int32)) C rfl hP hD hS dX5_takeText_31
def f_X5_readHead (St : SRd) (St_rows : SRows) (St_tape : STape) : Option (Int32 × SRd × SRows × STape) :=
  (f_X5_takeText St St_tape 11).bind (fun q1 =>
    (if q1.1 = 0 then
      some ((0 : Int32), q1.2.1, St_rows, q1.2.2)
      else
      (f_X5_takeWhole q1.2.1 q1.2.2 (8 : Int32) (64 : Int32)).bind (fun q2 =>
        (if q2.1 = 0 then
          some ((0 : Int32), q2.2.1, St_rows, q2.2.2)
          else
          (if ((Rd_whole q2.2.1) - (Rd_whole q2.2.1) / (2 : Int32) * (2 : Int32)) = 0 then
            (f_X5_takeText q2.2.1 q2.2.2 12).bind (fun q3 =>
              (if q3.1 = 0 then
                some ((0 : Int32), q3.2.1, St_rows, q3.2.2)
                else
                (f_X5_takeWhole q3.2.1 q3.2.2 (1 : Int32) (8 : Int32)).bind (fun q4 =>
                  (if q4.1 = 0 then
                    some ((0 : Int32), q4.2.1, St_rows, q4.2.2)
                    else
                    (f_X5_takeText q4.2.1 q4.2.2 13).bind (fun q5 =>
                      (if q5.1 = 0 then
                        some ((0 : Int32), q5.2.1, St_rows, q5.2.2)
                        else
                        (f_X5_takeWhole q5.2.1 q5.2.2 (0 : Int32) ((Rd_whole q2.2.1) - (1 : Int32))).bind (fun q6 =>
                          (if q6.1 = 0 then
                            some ((0 : Int32), q6.2.1, St_rows, q6.2.2)
                            else
                            (f_X5_takeText q6.2.1 q6.2.2 14).bind (fun q7 =>
                              (if q7.1 = 0 then
                                some ((0 : Int32), q7.2.1, St_rows, q7.2.2)
                                else
                                (f_X5_takeWhole q7.2.1 q7.2.2 (0 : Int32) (100 : Int32)).bind (fun q8 =>
                                  (if q8.1 = 0 then
                                    some ((0 : Int32), q8.2.1, St_rows, q8.2.2)
                                    else
                                    (f_X5_takeLineEnd q8.2.1 q8.2.2).bind (fun q9 =>
                                      (if q9.1 = 0 then
                                        some ((0 : Int32), q9.2.1, St_rows, q9.2.2)
                                        else
                                        (f_X6_startAnew St_rows (Rd_whole q2.2.1) (Rd_whole q4.2.1) (Rd_whole q6.2.1) (Rd_whole q9.2.1)).bind (fun q10 =>
                                          some ((1 : Int32), q9.2.1, q10, q9.2.2))))))))))))))))
            else
            (f_X5_fail q2.2.1 q2.2.2 (4 : Int32)).bind (fun q11 =>
              (if zbo q11.1 then some (q11.1, q11.2, St_rows, q2.2.2) else none)))))))
set_option maxHeartbeats 4000000 in
set_option maxRecDepth 100000 in
theorem c_X5_readHead (l : Launch) (D : va_G) (cy : Nat → ClassId) (E : zEn) (ht : Nat → Nat) (ht_rows : Nat → Nat) (ht_evidence : Nat → Nat) (ht_tape : Nat → Nat) (St : SRd) (St_rows : SRows) (St_tape : STape) (r : Int32 × SRd × SRows × STape) (hf : f_X5_readHead St St_rows St_tape = some r) : zCIs l yX5_readHead cX5_readHead 4 (some FieldType.boolean) 6 128 D (zty cy) E [.ref (ht 0)] (wRd ht (ht_rows 0) (ht_evidence 0) (ht_tape 0) E.2.2.1 cy St ++ (wRows ht_rows cy St_rows ++ (wTape ht_tape cy St_tape))) (wRd ht (ht_rows 0) (ht_evidence 0) (ht_tape 0) E.2.2.1 cy r.2.1 ++ (wRows ht_rows cy r.2.2.1 ++ (wTape ht_tape cy r.2.2.2))) r.1 := by
  refine zCIs_of (by decide +kernel) (Nat.le_of_ble_eq_true rfl) ?_
  intro p e s m below meth c A ls C hE hP hD hS hl
  generalize hargs : ([.ref (ht 0)] : List Value).toArray = args at C ⊢
  have C : zX p s m meth c cX5_readHead 4 args RX5 (some FieldType.boolean) A D (zty cy) := C
  obtain ⟨hx, hb, hr, hts, hown, hlocks, hml, hA, hK⟩ := id C
  have hl : lv_has ls 4 [(0, .ref (ht 0))] := hl
  generalize hH : s.heap = H at hP ⊢
  have hS : va_S A s.heap H [] := by rw [← hH]; exact hS
  generalize ([] : List Loc) = locs at hS ⊢
  refine lv_aload_n hx hb dX5_readHead_0 rfl (lv_at hl 0 rfl) ?_
  refine va_ldcS hx hb hown (hE.2.2.2.2.2.2.2.2.2.1 ("StampedRows$Reader", 163, "ring", 11) (by decide)) dX5_readHead_1 ?_
  obtain ⟨q1, hc, hf⟩ := zbd hf
  refine z_cVis (As := [.ref (E.1 11)]) (rest := []) C hE (c_X5_takeText l D cy E ht ht_rows ht_evidence ht_tape St St_tape 11 q1 hc) gV_X5_X5_takeText hd_X5_takeText ⟨Nat.le_of_ble_eq_true rfl, Nat.le_of_ble_eq_true rfl⟩ ⟨Nat.le_refl _, Nat.le_refl _⟩ (va_recv hK hP (ci := 2) (q0 := 0) rfl rfl) hP hD hS (w2 := wRd ht (ht_rows 0) (ht_evidence 0) (ht_tape 0) E.2.2.1 cy q1.2.1 ++ (wRows ht_rows cy St_rows ++ (wTape ht_tape cy q1.2.2))) [0, 1, 2, 3, 4, 13, 14] [5, 6, 7, 8, 9, 10, 11, 12] [8, 9, 10, 11, 12, 0, 1, 2, 3, 4, 5, 6, 7, 13, 14] rfl rfl rfl rfl rfl rfl (by decide) hl.1 (Nat.le_of_ble_eq_true rfl) dX5_readHead_3 (fun H locs hP hD hS => ?_)
  refine z_if_eq (tgt := 20) hx hb dX5_readHead_6 (by decide) hf (fun hf => ?_) (fun hf => ?_)
  · refine lv_iconst (v := (0 : Int32)) hx hb dX5_readHead_20 (by decide) ?_
    obtain rfl := Option.some.inj hf
    exact z_zret (v := (0 : Int32)) C rfl hP hD hS dX5_readHead_21
  · refine lv_aload_n hx hb dX5_readHead_9 rfl (lv_at hl 0 rfl) ?_
    refine lv_bipush (v := (8 : Int32)) hx hb dX5_readHead_10 (by decide) ?_
    refine lv_bipush (v := (64 : Int32)) hx hb dX5_readHead_12 (by decide) ?_
    obtain ⟨q2, hc, hf⟩ := zbd hf
    refine z_cVi (As := [.int (8 : Int32), .int (64 : Int32)]) (rest := []) C (c_X5_takeWhole l D cy ht ht_rows ht_evidence ht_tape E.2.2.1 q1.2.1 q1.2.2 (8 : Int32) (64 : Int32) q2 hc) gV_X5_X5_takeWhole hd_X5_takeWhole ⟨Nat.le_of_ble_eq_true rfl, Nat.le_of_ble_eq_true rfl⟩ ⟨Nat.le_refl _, Nat.le_refl _⟩ (va_recv hK hP (ci := 2) (q0 := 0) rfl rfl) hP hD hS (w2 := wRd ht (ht_rows 0) (ht_evidence 0) (ht_tape 0) E.2.2.1 cy q2.2.1 ++ (wRows ht_rows cy St_rows ++ (wTape ht_tape cy q2.2.2))) [0, 1, 2, 3, 4, 13, 14] [5, 6, 7, 8, 9, 10, 11, 12] [8, 9, 10, 11, 12, 0, 1, 2, 3, 4, 5, 6, 7, 13, 14] rfl rfl rfl rfl rfl rfl (by decide) hl.1 (Nat.le_of_ble_eq_true rfl) dX5_readHead_14 (fun H locs hP hD hS => ?_)
    refine z_if_ne (tgt := 22) hx hb dX5_readHead_17 (by decide) hf (fun hf => ?_) (fun hf => ?_)
    · refine lv_aload_n hx hb dX5_readHead_22 rfl (lv_at hl 0 rfl) ?_
      refine va_get (D := D) (ci := 2) (v := .int (Rd_whole q2.2.1)) (C := RX5) (T := TX5) (N := 15) hx hb hts in_X5 hown hK hP 0 rfl rfl 14 (by decide) (hts _ q1_196) (fun _ h9 => h9) rfl dX5_readHead_23 ?_
      refine lv_istore_n (lv' := [(1, .int (Rd_whole q2.2.1)), (0, .ref (ht 0))]) hx hb dX5_readHead_26 rfl hl (by decide) rfl (fun ls hl => ?_)
      refine lv_iload_n hx hb dX5_readHead_27 rfl (lv_at hl 0 rfl) ?_
      refine lv_iconst (v := (2 : Int32)) hx hb dX5_readHead_28 (by decide) ?_
      refine lv_irem hx hb dX5_readHead_29 (by decide) ?_
      refine z_if_eq (tgt := 39) hx hb dX5_readHead_30 (by decide) hf (fun hf => ?_) (fun hf => ?_)
      · refine lv_aload_n hx hb dX5_readHead_39 rfl (lv_at hl 1 rfl) ?_
        refine va_ldcS hx hb hown (hE.2.2.2.2.2.2.2.2.2.1 ("StampedRows$Reader", 171, "rows", 12) (by decide)) dX5_readHead_40 ?_
        obtain ⟨q3, hc, hf⟩ := zbd hf
        refine z_cVis (As := [.ref (E.1 12)]) (rest := []) C hE (c_X5_takeText l D cy E ht ht_rows ht_evidence ht_tape q2.2.1 q2.2.2 12 q3 hc) gV_X5_X5_takeText hd_X5_takeText ⟨Nat.le_of_ble_eq_true rfl, Nat.le_of_ble_eq_true rfl⟩ ⟨Nat.le_refl _, Nat.le_refl _⟩ (va_recv hK hP (ci := 2) (q0 := 0) rfl rfl) hP hD hS (w2 := wRd ht (ht_rows 0) (ht_evidence 0) (ht_tape 0) E.2.2.1 cy q3.2.1 ++ (wRows ht_rows cy St_rows ++ (wTape ht_tape cy q3.2.2))) [0, 1, 2, 3, 4, 13, 14] [5, 6, 7, 8, 9, 10, 11, 12] [8, 9, 10, 11, 12, 0, 1, 2, 3, 4, 5, 6, 7, 13, 14] rfl rfl rfl rfl rfl rfl (by decide) hl.1 (Nat.le_of_ble_eq_true rfl) dX5_readHead_42 (fun H locs hP hD hS => ?_)
        refine z_if_eq (tgt := 58) hx hb dX5_readHead_45 (by decide) hf (fun hf => ?_) (fun hf => ?_)
        · refine lv_iconst (v := (0 : Int32)) hx hb dX5_readHead_58 (by decide) ?_
          obtain rfl := Option.some.inj hf
          exact z_zret (v := (0 : Int32)) C rfl hP hD hS dX5_readHead_59
        · refine lv_aload_n hx hb dX5_readHead_48 rfl (lv_at hl 1 rfl) ?_
          refine lv_iconst (v := (1 : Int32)) hx hb dX5_readHead_49 (by decide) ?_
          refine lv_bipush (v := (8 : Int32)) hx hb dX5_readHead_50 (by decide) ?_
          obtain ⟨q4, hc, hf⟩ := zbd hf
          refine z_cVi (As := [.int (1 : Int32), .int (8 : Int32)]) (rest := []) C (c_X5_takeWhole l D cy ht ht_rows ht_evidence ht_tape E.2.2.1 q3.2.1 q3.2.2 (1 : Int32) (8 : Int32) q4 hc) gV_X5_X5_takeWhole hd_X5_takeWhole ⟨Nat.le_of_ble_eq_true rfl, Nat.le_of_ble_eq_true rfl⟩ ⟨Nat.le_refl _, Nat.le_refl _⟩ (va_recv hK hP (ci := 2) (q0 := 0) rfl rfl) hP hD hS (w2 := wRd ht (ht_rows 0) (ht_evidence 0) (ht_tape 0) E.2.2.1 cy q4.2.1 ++ (wRows ht_rows cy St_rows ++ (wTape ht_tape cy q4.2.2))) [0, 1, 2, 3, 4, 13, 14] [5, 6, 7, 8, 9, 10, 11, 12] [8, 9, 10, 11, 12, 0, 1, 2, 3, 4, 5, 6, 7, 13, 14] rfl rfl rfl rfl rfl rfl (by decide) hl.1 (Nat.le_of_ble_eq_true rfl) dX5_readHead_52 (fun H locs hP hD hS => ?_)
          refine z_if_ne (tgt := 60) hx hb dX5_readHead_55 (by decide) hf (fun hf => ?_) (fun hf => ?_)
          · refine lv_aload_n hx hb dX5_readHead_60 rfl (lv_at hl 1 rfl) ?_
            refine va_get (D := D) (ci := 2) (v := .int (Rd_whole q4.2.1)) (C := RX5) (T := TX5) (N := 15) hx hb hts in_X5 hown hK hP 0 rfl rfl 14 (by decide) (hts _ q1_196) (fun _ h9 => h9) rfl dX5_readHead_61 ?_
            refine lv_istore_n (lv' := [(2, .int (Rd_whole q4.2.1)), (1, .int (Rd_whole q2.2.1)), (0, .ref (ht 0))]) hx hb dX5_readHead_64 rfl hl (by decide) rfl (fun ls hl => ?_)
            refine lv_aload_n hx hb dX5_readHead_65 rfl (lv_at hl 2 rfl) ?_
            refine va_ldcS hx hb hown (hE.2.2.2.2.2.2.2.2.2.1 ("StampedRows$Reader", 172, "start", 13) (by decide)) dX5_readHead_66 ?_
            obtain ⟨q5, hc, hf⟩ := zbd hf
            refine z_cVis (As := [.ref (E.1 13)]) (rest := []) C hE (c_X5_takeText l D cy E ht ht_rows ht_evidence ht_tape q4.2.1 q4.2.2 13 q5 hc) gV_X5_X5_takeText hd_X5_takeText ⟨Nat.le_of_ble_eq_true rfl, Nat.le_of_ble_eq_true rfl⟩ ⟨Nat.le_refl _, Nat.le_refl _⟩ (va_recv hK hP (ci := 2) (q0 := 0) rfl rfl) hP hD hS (w2 := wRd ht (ht_rows 0) (ht_evidence 0) (ht_tape 0) E.2.2.1 cy q5.2.1 ++ (wRows ht_rows cy St_rows ++ (wTape ht_tape cy q5.2.2))) [0, 1, 2, 3, 4, 13, 14] [5, 6, 7, 8, 9, 10, 11, 12] [8, 9, 10, 11, 12, 0, 1, 2, 3, 4, 5, 6, 7, 13, 14] rfl rfl rfl rfl rfl rfl (by decide) hl.1 (Nat.le_of_ble_eq_true rfl) dX5_readHead_68 (fun H locs hP hD hS => ?_)
            refine z_if_eq (tgt := 85) hx hb dX5_readHead_71 (by decide) hf (fun hf => ?_) (fun hf => ?_)
            · refine lv_iconst (v := (0 : Int32)) hx hb dX5_readHead_85 (by decide) ?_
              obtain rfl := Option.some.inj hf
              exact z_zret (v := (0 : Int32)) C rfl hP hD hS dX5_readHead_86
            · refine lv_aload_n hx hb dX5_readHead_74 rfl (lv_at hl 2 rfl) ?_
              refine lv_iconst (v := (0 : Int32)) hx hb dX5_readHead_75 (by decide) ?_
              refine lv_iload_n hx hb dX5_readHead_76 rfl (lv_at hl 1 rfl) ?_
              refine lv_iconst (v := (1 : Int32)) hx hb dX5_readHead_77 (by decide) ?_
              refine lv_isub hx hb dX5_readHead_78 ?_
              obtain ⟨q6, hc, hf⟩ := zbd hf
              refine z_cVi (As := [.int (0 : Int32), .int ((Rd_whole q2.2.1) - (1 : Int32))]) (rest := []) C (c_X5_takeWhole l D cy ht ht_rows ht_evidence ht_tape E.2.2.1 q5.2.1 q5.2.2 (0 : Int32) ((Rd_whole q2.2.1) - (1 : Int32)) q6 hc) gV_X5_X5_takeWhole hd_X5_takeWhole ⟨Nat.le_of_ble_eq_true rfl, Nat.le_of_ble_eq_true rfl⟩ ⟨Nat.le_refl _, Nat.le_refl _⟩ (va_recv hK hP (ci := 2) (q0 := 0) rfl rfl) hP hD hS (w2 := wRd ht (ht_rows 0) (ht_evidence 0) (ht_tape 0) E.2.2.1 cy q6.2.1 ++ (wRows ht_rows cy St_rows ++ (wTape ht_tape cy q6.2.2))) [0, 1, 2, 3, 4, 13, 14] [5, 6, 7, 8, 9, 10, 11, 12] [8, 9, 10, 11, 12, 0, 1, 2, 3, 4, 5, 6, 7, 13, 14] rfl rfl rfl rfl rfl rfl (by decide) hl.1 (Nat.le_of_ble_eq_true rfl) dX5_readHead_79 (fun H locs hP hD hS => ?_)
              refine z_if_ne (tgt := 87) hx hb dX5_readHead_82 (by decide) hf (fun hf => ?_) (fun hf => ?_)
              · refine lv_aload_n hx hb dX5_readHead_87 rfl (lv_at hl 2 rfl) ?_
                refine va_get (D := D) (ci := 2) (v := .int (Rd_whole q6.2.1)) (C := RX5) (T := TX5) (N := 15) hx hb hts in_X5 hown hK hP 0 rfl rfl 14 (by decide) (hts _ q1_196) (fun _ h9 => h9) rfl dX5_readHead_88 ?_
                refine lv_istore_n (lv' := [(3, .int (Rd_whole q6.2.1)), (2, .int (Rd_whole q4.2.1)), (1, .int (Rd_whole q2.2.1)), (0, .ref (ht 0))]) hx hb dX5_readHead_91 rfl hl (by decide) rfl (fun ls hl => ?_)
                refine lv_aload_n hx hb dX5_readHead_92 rfl (lv_at hl 3 rfl) ?_
                refine va_ldcS hx hb hown (hE.2.2.2.2.2.2.2.2.2.1 ("StampedRows$Reader", 173, "crash", 14) (by decide)) dX5_readHead_93 ?_
                obtain ⟨q7, hc, hf⟩ := zbd hf
                refine z_cVis (As := [.ref (E.1 14)]) (rest := []) C hE (c_X5_takeText l D cy E ht ht_rows ht_evidence ht_tape q6.2.1 q6.2.2 14 q7 hc) gV_X5_X5_takeText hd_X5_takeText ⟨Nat.le_of_ble_eq_true rfl, Nat.le_of_ble_eq_true rfl⟩ ⟨Nat.le_refl _, Nat.le_refl _⟩ (va_recv hK hP (ci := 2) (q0 := 0) rfl rfl) hP hD hS (w2 := wRd ht (ht_rows 0) (ht_evidence 0) (ht_tape 0) E.2.2.1 cy q7.2.1 ++ (wRows ht_rows cy St_rows ++ (wTape ht_tape cy q7.2.2))) [0, 1, 2, 3, 4, 13, 14] [5, 6, 7, 8, 9, 10, 11, 12] [8, 9, 10, 11, 12, 0, 1, 2, 3, 4, 5, 6, 7, 13, 14] rfl rfl rfl rfl rfl rfl (by decide) hl.1 (Nat.le_of_ble_eq_true rfl) dX5_readHead_95 (fun H locs hP hD hS => ?_)
                refine z_if_eq (tgt := 118) hx hb dX5_readHead_98 (by decide) hf (fun hf => ?_) (fun hf => ?_)
                · refine lv_iconst (v := (0 : Int32)) hx hb dX5_readHead_118 (by decide) ?_
                  obtain rfl := Option.some.inj hf
                  exact z_zret (v := (0 : Int32)) C rfl hP hD hS dX5_readHead_119
                · refine lv_aload_n hx hb dX5_readHead_101 rfl (lv_at hl 3 rfl) ?_
                  refine lv_iconst (v := (0 : Int32)) hx hb dX5_readHead_102 (by decide) ?_
                  refine lv_bipush (v := (100 : Int32)) hx hb dX5_readHead_103 (by decide) ?_
                  obtain ⟨q8, hc, hf⟩ := zbd hf
                  refine z_cVi (As := [.int (0 : Int32), .int (100 : Int32)]) (rest := []) C (c_X5_takeWhole l D cy ht ht_rows ht_evidence ht_tape E.2.2.1 q7.2.1 q7.2.2 (0 : Int32) (100 : Int32) q8 hc) gV_X5_X5_takeWhole hd_X5_takeWhole ⟨Nat.le_of_ble_eq_true rfl, Nat.le_of_ble_eq_true rfl⟩ ⟨Nat.le_refl _, Nat.le_refl _⟩ (va_recv hK hP (ci := 2) (q0 := 0) rfl rfl) hP hD hS (w2 := wRd ht (ht_rows 0) (ht_evidence 0) (ht_tape 0) E.2.2.1 cy q8.2.1 ++ (wRows ht_rows cy St_rows ++ (wTape ht_tape cy q8.2.2))) [0, 1, 2, 3, 4, 13, 14] [5, 6, 7, 8, 9, 10, 11, 12] [8, 9, 10, 11, 12, 0, 1, 2, 3, 4, 5, 6, 7, 13, 14] rfl rfl rfl rfl rfl rfl (by decide) hl.1 (Nat.le_of_ble_eq_true rfl) dX5_readHead_105 (fun H locs hP hD hS => ?_)
                  refine z_if_eq (tgt := 118) hx hb dX5_readHead_108 (by decide) hf (fun hf => ?_) (fun hf => ?_)
                  · refine lv_iconst (v := (0 : Int32)) hx hb dX5_readHead_118 (by decide) ?_
                    obtain rfl := Option.some.inj hf
                    exact z_zret (v := (0 : Int32)) C rfl hP hD hS dX5_readHead_119
                  · refine lv_aload_n hx hb dX5_readHead_111 rfl (lv_at hl 3 rfl) ?_
                    obtain ⟨q9, hc, hf⟩ := zbd hf
                    refine z_cVi (As := []) (rest := []) C (c_X5_takeLineEnd l D cy ht ht_rows ht_evidence ht_tape E.2.2.1 q8.2.1 q8.2.2 q9 hc) gV_X5_X5_takeLineEnd hd_X5_takeLineEnd ⟨Nat.le_of_ble_eq_true rfl, Nat.le_of_ble_eq_true rfl⟩ ⟨Nat.le_refl _, Nat.le_refl _⟩ (va_recv hK hP (ci := 2) (q0 := 0) rfl rfl) hP hD hS (w2 := wRd ht (ht_rows 0) (ht_evidence 0) (ht_tape 0) E.2.2.1 cy q9.2.1 ++ (wRows ht_rows cy St_rows ++ (wTape ht_tape cy q9.2.2))) [0, 1, 2, 3, 4, 13, 14] [5, 6, 7, 8, 9, 10, 11, 12] [8, 9, 10, 11, 12, 0, 1, 2, 3, 4, 5, 6, 7, 13, 14] rfl rfl rfl rfl rfl rfl (by decide) hl.1 (Nat.le_of_ble_eq_true rfl) dX5_readHead_112 (fun H locs hP hD hS => ?_)
                    refine z_if_ne (tgt := 120) hx hb dX5_readHead_115 (by decide) hf (fun hf => ?_) (fun hf => ?_)
                    · refine lv_aload_n hx hb dX5_readHead_120 rfl (lv_at hl 3 rfl) ?_
                      refine va_get (D := D) (ci := 2) (v := .ref (ht_rows 0)) (C := RX5) (T := TX5) (N := 15) hx hb hts in_X5 hown hK hP 0 rfl rfl 2 (by decide) (hts _ q1_181) (fun _ h9 => h9) rfl dX5_readHead_121 ?_
                      refine lv_iload_n hx hb dX5_readHead_124 rfl (lv_at hl 2 rfl) ?_
                      refine lv_iload_n hx hb dX5_readHead_125 rfl (lv_at hl 1 rfl) ?_
                      refine lv_iload_n hx hb dX5_readHead_126 rfl (lv_at hl 0 rfl) ?_
                      refine lv_aload_n hx hb dX5_readHead_127 rfl (lv_at hl 3 rfl) ?_
                      refine va_get (D := D) (ci := 2) (v := .int (Rd_whole q9.2.1)) (C := RX5) (T := TX5) (N := 15) hx hb hts in_X5 hown hK hP 0 rfl rfl 14 (by decide) (hts _ q1_196) (fun _ h9 => h9) rfl dX5_readHead_128 ?_
                      obtain ⟨q10, hc, hf⟩ := zbd hf
                      refine z_cVv (As := [.int (Rd_whole q2.2.1), .int (Rd_whole q4.2.1), .int (Rd_whole q6.2.1), .int (Rd_whole q9.2.1)]) (rest := []) C (c_X6_startAnew l D cy ht_rows St_rows (Rd_whole q2.2.1) (Rd_whole q4.2.1) (Rd_whole q6.2.1) (Rd_whole q9.2.1) q10 hc) gV_X5_X6_startAnew hd_X6_startAnew ⟨Nat.le_of_ble_eq_true rfl, Nat.le_of_ble_eq_true rfl⟩ ⟨Nat.le_refl _, Nat.le_refl _⟩ (va_recv hK hP (ci := 3) (q0 := 5) rfl rfl) hP hD hS (w2 := wRd ht (ht_rows 0) (ht_evidence 0) (ht_tape 0) E.2.2.1 cy q9.2.1 ++ (wRows ht_rows cy q10 ++ (wTape ht_tape cy q9.2.2))) [5, 6, 7, 8, 9, 10, 11, 12] [0, 1, 2, 3, 4, 13, 14] [0, 1, 2, 3, 4, 7, 8, 9, 10, 11, 12, 13, 14, 5, 6] rfl rfl rfl rfl rfl rfl (by decide) hl.1 (Nat.le_of_ble_eq_true rfl) dX5_readHead_131 (fun H locs hP hD hS => ?_)
                      refine lv_iconst (v := (1 : Int32)) hx hb dX5_readHead_134 (by decide) ?_
                      obtain rfl := Option.some.inj hf
                      exact z_zret (v := (1 : Int32)) C rfl hP hD hS dX5_readHead_135
                    · refine lv_iconst (v := (0 : Int32)) hx hb dX5_readHead_118 (by decide) ?_
                      obtain rfl := Option.some.inj hf
                      exact z_zret (v := (0 : Int32)) C rfl hP hD hS dX5_readHead_119
              · refine lv_iconst (v := (0 : Int32)) hx hb dX5_readHead_85 (by decide) ?_
                obtain rfl := Option.some.inj hf
                exact z_zret (v := (0 : Int32)) C rfl hP hD hS dX5_readHead_86
          · refine lv_iconst (v := (0 : Int32)) hx hb dX5_readHead_58 (by decide) ?_
            obtain rfl := Option.some.inj hf
            exact z_zret (v := (0 : Int32)) C rfl hP hD hS dX5_readHead_59
      · refine lv_aload_n hx hb dX5_readHead_33 rfl (lv_at hl 1 rfl) ?_
        refine lv_iconst (v := (4 : Int32)) hx hb dX5_readHead_34 (by decide) ?_
        obtain ⟨q11, hc, hf⟩ := zbd hf
        refine z_cVi (As := [.int (4 : Int32)]) (rest := []) C (c_X5_fail l D cy ht ht_rows ht_evidence ht_tape E.2.2.1 q2.2.1 q2.2.2 (4 : Int32) q11 hc) gV_X5_X5_fail hd_X5_fail ⟨Nat.le_of_ble_eq_true rfl, Nat.le_of_ble_eq_true rfl⟩ ⟨Nat.le_refl _, Nat.le_refl _⟩ (va_recv hK hP (ci := 2) (q0 := 0) rfl rfl) hP hD hS (w2 := wRd ht (ht_rows 0) (ht_evidence 0) (ht_tape 0) E.2.2.1 cy q11.2 ++ (wRows ht_rows cy St_rows ++ (wTape ht_tape cy q2.2.2))) [0, 1, 2, 3, 4, 13, 14] [5, 6, 7, 8, 9, 10, 11, 12] [8, 9, 10, 11, 12, 0, 1, 2, 3, 4, 5, 6, 7, 13, 14] rfl rfl rfl rfl rfl rfl (by decide) hl.1 (Nat.le_of_ble_eq_true rfl) dX5_readHead_35 (fun H locs hP hD hS => ?_)
        obtain ⟨hz, hf⟩ := zgd hf
        obtain rfl := Option.some.inj hf
        exact z_zret (v := q11.1) C (zbo_n hz) hP hD hS dX5_readHead_38
    · refine lv_iconst (v := (0 : Int32)) hx hb dX5_readHead_20 (by decide) ?_
      obtain rfl := Option.some.inj hf
      exact z_zret (v := (0 : Int32)) C rfl hP hD hS dX5_readHead_21
def f_X5_readSeen (St : SRd) (St_evidence : SEv) (St_rows : SRows) (St_tape : STape) : Option (Int32 × SRd × SEv × STape) :=
  (f_X5_takeRow St St_rows St_tape).bind (fun q1 =>
    (if q1.1 = 0 then
      some ((0 : Int32), q1.2.1, St_evidence, q1.2.2)
      else
      (f_X2_isRowSeen St_evidence (Rd_row q1.2.1)).bind (fun q2 =>
        (if q2 = 0 then
          (f_X7_advance q1.2.2).bind (fun q3 =>
            (f_X7_reserved q3).bind (fun q4 =>
              (if q4.getD 0 < 11 then (if q4 = some 10 then
                  (f_X2_addSeen St_evidence (Rd_row q1.2.1) (-2 : Int32)).bind (fun q8 =>
                    (f_X5_takeLineEnd q1.2.1 q3).bind (fun q9 =>
                      (if zbo q9.1 then some (q9.1, q9.2.1, q8, q9.2.2) else none)))
                  else
                  (if (Tape_kind q3) = (2 : Int32) then
                    (f_X2_addSeen St_evidence (Rd_row q1.2.1) ((Tape_value q3).toInt32)).bind (fun q6 =>
                      (f_X5_takeLineEnd q1.2.1 q3).bind (fun q7 =>
                        (if zbo q7.1 then some (q7.1, q7.2.1, q6, q7.2.2) else none)))
                    else
                    (f_X5_fail q1.2.1 q3 (1 : Int32)).bind (fun q5 =>
                      (if zbo q5.1 then some (q5.1, q5.2, St_evidence, q3) else none)))) else none)))
          else
          (f_X5_fail q1.2.1 q1.2.2 (3 : Int32)).bind (fun q10 =>
            (if zbo q10.1 then some (q10.1, q10.2, St_evidence, q1.2.2) else none))))))
set_option maxHeartbeats 4000000 in
set_option maxRecDepth 100000 in
theorem c_X5_readSeen (l : Launch) (D : va_G) (cy : Nat → ClassId) (E : zEn) (ht : Nat → Nat) (ht_rows : Nat → Nat) (ht_evidence : Nat → Nat) (ht_tape : Nat → Nat) (St : SRd) (St_evidence : SEv) (St_rows : SRows) (St_tape : STape) (r : Int32 × SRd × SEv × STape) (hf : f_X5_readSeen St St_evidence St_rows St_tape = some r) : zCIs l yX5_readSeen cX5_readSeen 1 (some FieldType.boolean) 6 128 D (zty cy) E [.ref (ht 0)] (wRd ht (ht_rows 0) (ht_evidence 0) (ht_tape 0) E.2.2.1 cy St ++ (wEv ht_evidence cy St_evidence ++ (wRows ht_rows cy St_rows ++ (wTape ht_tape cy St_tape)))) (wRd ht (ht_rows 0) (ht_evidence 0) (ht_tape 0) E.2.2.1 cy r.2.1 ++ (wEv ht_evidence cy r.2.2.1 ++ (wRows ht_rows cy St_rows ++ (wTape ht_tape cy r.2.2.2)))) r.1 := by
  refine zCIs_of (by decide +kernel) (Nat.le_of_ble_eq_true rfl) ?_
  intro p e s m below meth c A ls C hE hP hD hS hl
  generalize hargs : ([.ref (ht 0)] : List Value).toArray = args at C ⊢
  have C : zX p s m meth c cX5_readSeen 1 args RX5 (some FieldType.boolean) A D (zty cy) := C
  obtain ⟨hx, hb, hr, hts, hown, hlocks, hml, hA, hK⟩ := id C
  have hl : lv_has ls 1 [(0, .ref (ht 0))] := hl
  generalize hH : s.heap = H at hP ⊢
  have hS : va_S A s.heap H [] := by rw [← hH]; exact hS
  generalize ([] : List Loc) = locs at hS ⊢
  refine lv_aload_n hx hb dX5_readSeen_0 rfl (lv_at hl 0 rfl) ?_
  obtain ⟨q1, hc, hf⟩ := zbd hf
  refine z_cVi (As := []) (rest := []) C (c_X5_takeRow l D cy ht ht_rows ht_evidence ht_tape E.2.2.1 St St_rows St_tape q1 hc) gV_X5_X5_takeRow hd_X5_takeRow ⟨Nat.le_of_ble_eq_true rfl, Nat.le_of_ble_eq_true rfl⟩ ⟨Nat.le_refl _, Nat.le_refl _⟩ (va_recv hK hP (ci := 2) (q0 := 0) rfl rfl) hP hD hS (w2 := wRd ht (ht_rows 0) (ht_evidence 0) (ht_tape 0) E.2.2.1 cy q1.2.1 ++ (wEv ht_evidence cy St_evidence ++ (wRows ht_rows cy St_rows ++ (wTape ht_tape cy q1.2.2)))) [0, 1, 2, 3, 4, 10, 11, 12, 13, 14, 15, 16, 17, 18, 19] [5, 6, 7, 8, 9] [5, 6, 7, 8, 9, 0, 1, 2, 3, 4, 10, 11, 12, 13, 14, 15, 16, 17, 18, 19] rfl rfl rfl rfl rfl rfl (by decide) hl.1 (Nat.le_of_ble_eq_true rfl) dX5_readSeen_1 (fun H locs hP hD hS => ?_)
  refine z_if_ne (tgt := 9) hx hb dX5_readSeen_4 (by decide) hf (fun hf => ?_) (fun hf => ?_)
  · refine lv_aload_n hx hb dX5_readSeen_9 rfl (lv_at hl 0 rfl) ?_
    refine va_get (D := D) (ci := 2) (v := .ref (ht_evidence 0)) (C := RX5) (T := TX5) (N := 15) hx hb hts in_X5 hown hK hP 0 rfl rfl 3 (by decide) (hts _ q1_183) (fun _ h9 => h9) rfl dX5_readSeen_10 ?_
    refine lv_aload_n hx hb dX5_readSeen_13 rfl (lv_at hl 0 rfl) ?_
    refine va_get (D := D) (ci := 2) (v := .int (Rd_row q1.2.1)) (C := RX5) (T := TX5) (N := 15) hx hb hts in_X5 hown hK hP 0 rfl rfl 13 (by decide) (hts _ q1_195) (fun _ h9 => h9) rfl dX5_readSeen_14 ?_
    obtain ⟨q2, hc, hf⟩ := zbd hf
    refine z_cVi (As := [.int (Rd_row q1.2.1)]) (rest := []) C (c_X2_isRowSeen l D cy ht_evidence St_evidence (Rd_row q1.2.1) q2 hc) gV_X5_X2_isRowSeen hd_X2_isRowSeen ⟨Nat.le_of_ble_eq_true rfl, Nat.le_of_ble_eq_true rfl⟩ ⟨Nat.le_refl _, Nat.le_refl _⟩ (va_recv hK hP (ci := 0) (q0 := 5) rfl rfl) hP hD hS (w2 := wRd ht (ht_rows 0) (ht_evidence 0) (ht_tape 0) E.2.2.1 cy q1.2.1 ++ (wEv ht_evidence cy St_evidence ++ (wRows ht_rows cy St_rows ++ (wTape ht_tape cy q1.2.2)))) [5, 6, 7, 8, 9] [0, 1, 2, 3, 4, 10, 11, 12, 13, 14, 15, 16, 17, 18, 19] [0, 1, 2, 3, 4, 15, 16, 17, 18, 19, 5, 6, 7, 8, 9, 10, 11, 12, 13, 14] rfl rfl rfl rfl rfl rfl (by decide) hl.1 (Nat.le_of_ble_eq_true rfl) dX5_readSeen_17 (fun H locs hP hD hS => ?_)
    refine z_if_eq (tgt := 29) hx hb dX5_readSeen_20 (by decide) hf (fun hf => ?_) (fun hf => ?_)
    · refine lv_aload_n hx hb dX5_readSeen_29 rfl (lv_at hl 0 rfl) ?_
      refine va_get (D := D) (ci := 2) (v := .ref (ht_tape 0)) (C := RX5) (T := TX5) (N := 15) hx hb hts in_X5 hown hK hP 0 rfl rfl 4 (by decide) (hts _ q1_185) (fun _ h9 => h9) rfl dX5_readSeen_30 ?_
      obtain ⟨q3, hc, hf⟩ := zbd hf
      refine z_cVv (As := []) (rest := []) C (c_X7_advance l D cy ht_tape q1.2.2 q3 hc) gV_X5_X7_advance hd_X7_advance ⟨Nat.le_of_ble_eq_true rfl, Nat.le_of_ble_eq_true rfl⟩ ⟨Nat.le_refl _, Nat.le_refl _⟩ (va_recv hK hP (ci := 4) (q0 := 18) rfl rfl) hP hD hS (w2 := wRd ht (ht_rows 0) (ht_evidence 0) (ht_tape 0) E.2.2.1 cy q1.2.1 ++ (wEv ht_evidence cy St_evidence ++ (wRows ht_rows cy St_rows ++ (wTape ht_tape cy q3)))) [18, 19] [0, 1, 2, 3, 4, 5, 6, 7, 8, 9, 10, 11, 12, 13, 14, 15, 16, 17] [0, 1, 2, 3, 4, 5, 6, 7, 8, 9, 10, 11, 12, 13, 14, 15, 16, 17, 18, 19] rfl rfl rfl rfl rfl rfl (by decide) hl.1 (Nat.le_of_ble_eq_true rfl) dX5_readSeen_33 (fun H locs hP hD hS => ?_)
      refine lv_aload_n hx hb dX5_readSeen_36 rfl (lv_at hl 0 rfl) ?_
      refine va_get (D := D) (ci := 2) (v := .ref (ht_tape 0)) (C := RX5) (T := TX5) (N := 15) hx hb hts in_X5 hown hK hP 0 rfl rfl 4 (by decide) (hts _ q1_185) (fun _ h9 => h9) rfl dX5_readSeen_37 ?_
      obtain ⟨q4, hc, hf⟩ := zbd hf
      refine z_cVes (As := []) (rest := []) C hE (c_X7_reserved l D cy E ht_tape q3 q4 hc) gV_X5_X7_reserved hd_X7_reserved ⟨Nat.le_of_ble_eq_true rfl, Nat.le_of_ble_eq_true rfl⟩ ⟨Nat.le_refl _, Nat.le_refl _⟩ (va_recv hK hP (ci := 4) (q0 := 18) rfl rfl) hP hD hS (w2 := wRd ht (ht_rows 0) (ht_evidence 0) (ht_tape 0) E.2.2.1 cy q1.2.1 ++ (wEv ht_evidence cy St_evidence ++ (wRows ht_rows cy St_rows ++ (wTape ht_tape cy q3)))) [18, 19] [0, 1, 2, 3, 4, 5, 6, 7, 8, 9, 10, 11, 12, 13, 14, 15, 16, 17] [0, 1, 2, 3, 4, 5, 6, 7, 8, 9, 10, 11, 12, 13, 14, 15, 16, 17, 18, 19] rfl rfl rfl rfl rfl rfl (by decide) hl.1 (Nat.le_of_ble_eq_true rfl) dX5_readSeen_40 (fun H locs hP hD hS => ?_)
      refine va_gets (v := .ref (E.2.2.1 10)) hx hb (hE.2.1.1 10 (by decide)).1 hS hown (hts _ q2_155) (fun _ h9 => h9) dX5_readSeen_43 ?_
      refine z_acmp_ne (tgt := 65) hx hb hE dX5_readSeen_46 (by decide) (by decide) hf (fun hf => ?_) (fun hf => ?_)
      · refine lv_aload_n hx hb dX5_readSeen_65 rfl (lv_at hl 0 rfl) ?_
        refine va_get (D := D) (ci := 2) (v := .ref (ht_tape 0)) (C := RX5) (T := TX5) (N := 15) hx hb hts in_X5 hown hK hP 0 rfl rfl 4 (by decide) (hts _ q1_185) (fun _ h9 => h9) rfl dX5_readSeen_66 ?_
        refine va_get (D := D) (ci := 4) (v := .int (Tape_kind q3)) (C := RX7) (T := TX7) (N := 7) hx hb hts in_X7 hown hK hP 18 rfl rfl 1 (by decide) (hts _ q1_152) (fun _ h9 => h9) rfl dX5_readSeen_69 ?_
        refine lv_iconst (v := (2 : Int32)) hx hb dX5_readSeen_72 (by decide) ?_
        refine z_icmp_ne (tgt := 98) hx hb dX5_readSeen_73 (by decide) hf (fun hf => ?_) (fun hf => ?_)
        · refine lv_aload_n hx hb dX5_readSeen_98 rfl (lv_at hl 0 rfl) ?_
          refine lv_iconst (v := (1 : Int32)) hx hb dX5_readSeen_99 (by decide) ?_
          obtain ⟨q5, hc, hf⟩ := zbd hf
          refine z_cVi (As := [.int (1 : Int32)]) (rest := []) C (c_X5_fail l D cy ht ht_rows ht_evidence ht_tape E.2.2.1 q1.2.1 q3 (1 : Int32) q5 hc) gV_X5_X5_fail hd_X5_fail ⟨Nat.le_of_ble_eq_true rfl, Nat.le_of_ble_eq_true rfl⟩ ⟨Nat.le_refl _, Nat.le_refl _⟩ (va_recv hK hP (ci := 2) (q0 := 0) rfl rfl) hP hD hS (w2 := wRd ht (ht_rows 0) (ht_evidence 0) (ht_tape 0) E.2.2.1 cy q5.2 ++ (wEv ht_evidence cy St_evidence ++ (wRows ht_rows cy St_rows ++ (wTape ht_tape cy q3)))) [0, 1, 2, 3, 4, 18, 19] [5, 6, 7, 8, 9, 10, 11, 12, 13, 14, 15, 16, 17] [13, 14, 15, 16, 17, 0, 1, 2, 3, 4, 5, 6, 7, 8, 9, 10, 11, 12, 18, 19] rfl rfl rfl rfl rfl rfl (by decide) hl.1 (Nat.le_of_ble_eq_true rfl) dX5_readSeen_100 (fun H locs hP hD hS => ?_)
          obtain ⟨hz, hf⟩ := zgd hf
          obtain rfl := Option.some.inj hf
          exact z_zret (v := q5.1) C (zbo_n hz) hP hD hS dX5_readSeen_103
        · refine lv_aload_n hx hb dX5_readSeen_76 rfl (lv_at hl 0 rfl) ?_
          refine va_get (D := D) (ci := 2) (v := .ref (ht_evidence 0)) (C := RX5) (T := TX5) (N := 15) hx hb hts in_X5 hown hK hP 0 rfl rfl 3 (by decide) (hts _ q1_183) (fun _ h9 => h9) rfl dX5_readSeen_77 ?_
          refine lv_aload_n hx hb dX5_readSeen_80 rfl (lv_at hl 0 rfl) ?_
          refine va_get (D := D) (ci := 2) (v := .int (Rd_row q1.2.1)) (C := RX5) (T := TX5) (N := 15) hx hb hts in_X5 hown hK hP 0 rfl rfl 13 (by decide) (hts _ q1_195) (fun _ h9 => h9) rfl dX5_readSeen_81 ?_
          refine lv_aload_n hx hb dX5_readSeen_84 rfl (lv_at hl 0 rfl) ?_
          refine va_get (D := D) (ci := 2) (v := .ref (ht_tape 0)) (C := RX5) (T := TX5) (N := 15) hx hb hts in_X5 hown hK hP 0 rfl rfl 4 (by decide) (hts _ q1_185) (fun _ h9 => h9) rfl dX5_readSeen_85 ?_
          refine va_get (D := D) (ci := 4) (v := .long (Tape_value q3)) (C := RX7) (T := TX7) (N := 7) hx hb hts in_X7 hown hK hP 18 rfl rfl 3 (by decide) (hts _ q1_157) (fun _ h9 => h9) rfl dX5_readSeen_88 ?_
          refine lv_l2i (v := (Tape_value q3).toInt32) hx hb dX5_readSeen_91 rfl ?_
          obtain ⟨q6, hc, hf⟩ := zbd hf
          refine z_cVv (As := [.int (Rd_row q1.2.1), .int ((Tape_value q3).toInt32)]) (rest := []) C (c_X2_addSeen l D cy ht_evidence St_evidence (Rd_row q1.2.1) ((Tape_value q3).toInt32) q6 hc) gV_X5_X2_addSeen hd_X2_addSeen ⟨Nat.le_of_ble_eq_true rfl, Nat.le_of_ble_eq_true rfl⟩ ⟨Nat.le_refl _, Nat.le_refl _⟩ (va_recv hK hP (ci := 0) (q0 := 5) rfl rfl) hP hD hS (w2 := wRd ht (ht_rows 0) (ht_evidence 0) (ht_tape 0) E.2.2.1 cy q1.2.1 ++ (wEv ht_evidence cy q6 ++ (wRows ht_rows cy St_rows ++ (wTape ht_tape cy q3)))) [5, 6, 7, 8, 9] [0, 1, 2, 3, 4, 10, 11, 12, 13, 14, 15, 16, 17, 18, 19] [0, 1, 2, 3, 4, 15, 16, 17, 18, 19, 5, 6, 7, 8, 9, 10, 11, 12, 13, 14] rfl rfl rfl rfl rfl rfl (by decide) hl.1 (Nat.le_of_ble_eq_true rfl) dX5_readSeen_92 (fun H locs hP hD hS => ?_)
          refine lv_goto (tgt := 104) hx hb dX5_readSeen_95 (by decide) ?_
          refine lv_aload_n hx hb dX5_readSeen_104 rfl (lv_at hl 0 rfl) ?_
          obtain ⟨q7, hc, hf⟩ := zbd hf
          refine z_cVi (As := []) (rest := []) C (c_X5_takeLineEnd l D cy ht ht_rows ht_evidence ht_tape E.2.2.1 q1.2.1 q3 q7 hc) gV_X5_X5_takeLineEnd hd_X5_takeLineEnd ⟨Nat.le_of_ble_eq_true rfl, Nat.le_of_ble_eq_true rfl⟩ ⟨Nat.le_refl _, Nat.le_refl _⟩ (va_recv hK hP (ci := 2) (q0 := 0) rfl rfl) hP hD hS (w2 := wRd ht (ht_rows 0) (ht_evidence 0) (ht_tape 0) E.2.2.1 cy q7.2.1 ++ (wEv ht_evidence cy q6 ++ (wRows ht_rows cy St_rows ++ (wTape ht_tape cy q7.2.2)))) [0, 1, 2, 3, 4, 18, 19] [5, 6, 7, 8, 9, 10, 11, 12, 13, 14, 15, 16, 17] [13, 14, 15, 16, 17, 0, 1, 2, 3, 4, 5, 6, 7, 8, 9, 10, 11, 12, 18, 19] rfl rfl rfl rfl rfl rfl (by decide) hl.1 (Nat.le_of_ble_eq_true rfl) dX5_readSeen_105 (fun H locs hP hD hS => ?_)
          obtain ⟨hz, hf⟩ := zgd hf
          obtain rfl := Option.some.inj hf
          exact z_zret (v := q7.1) C (zbo_n hz) hP hD hS dX5_readSeen_108
      · refine lv_aload_n hx hb dX5_readSeen_49 rfl (lv_at hl 0 rfl) ?_
        refine va_get (D := D) (ci := 2) (v := .ref (ht_evidence 0)) (C := RX5) (T := TX5) (N := 15) hx hb hts in_X5 hown hK hP 0 rfl rfl 3 (by decide) (hts _ q1_183) (fun _ h9 => h9) rfl dX5_readSeen_50 ?_
        refine lv_aload_n hx hb dX5_readSeen_53 rfl (lv_at hl 0 rfl) ?_
        refine va_get (D := D) (ci := 2) (v := .int (Rd_row q1.2.1)) (C := RX5) (T := TX5) (N := 15) hx hb hts in_X5 hown hK hP 0 rfl rfl 13 (by decide) (hts _ q1_195) (fun _ h9 => h9) rfl dX5_readSeen_54 ?_
        refine lv_bipush (v := (-2 : Int32)) hx hb dX5_readSeen_57 (by decide) ?_
        obtain ⟨q8, hc, hf⟩ := zbd hf
        refine z_cVv (As := [.int (Rd_row q1.2.1), .int (-2 : Int32)]) (rest := []) C (c_X2_addSeen l D cy ht_evidence St_evidence (Rd_row q1.2.1) (-2 : Int32) q8 hc) gV_X5_X2_addSeen hd_X2_addSeen ⟨Nat.le_of_ble_eq_true rfl, Nat.le_of_ble_eq_true rfl⟩ ⟨Nat.le_refl _, Nat.le_refl _⟩ (va_recv hK hP (ci := 0) (q0 := 5) rfl rfl) hP hD hS (w2 := wRd ht (ht_rows 0) (ht_evidence 0) (ht_tape 0) E.2.2.1 cy q1.2.1 ++ (wEv ht_evidence cy q8 ++ (wRows ht_rows cy St_rows ++ (wTape ht_tape cy q3)))) [5, 6, 7, 8, 9] [0, 1, 2, 3, 4, 10, 11, 12, 13, 14, 15, 16, 17, 18, 19] [0, 1, 2, 3, 4, 15, 16, 17, 18, 19, 5, 6, 7, 8, 9, 10, 11, 12, 13, 14] rfl rfl rfl rfl rfl rfl (by decide) hl.1 (Nat.le_of_ble_eq_true rfl) dX5_readSeen_59 (fun H locs hP hD hS => ?_)
        refine lv_goto (tgt := 104) hx hb dX5_readSeen_62 (by decide) ?_
        refine lv_aload_n hx hb dX5_readSeen_104 rfl (lv_at hl 0 rfl) ?_
        obtain ⟨q9, hc, hf⟩ := zbd hf
        refine z_cVi (As := []) (rest := []) C (c_X5_takeLineEnd l D cy ht ht_rows ht_evidence ht_tape E.2.2.1 q1.2.1 q3 q9 hc) gV_X5_X5_takeLineEnd hd_X5_takeLineEnd ⟨Nat.le_of_ble_eq_true rfl, Nat.le_of_ble_eq_true rfl⟩ ⟨Nat.le_refl _, Nat.le_refl _⟩ (va_recv hK hP (ci := 2) (q0 := 0) rfl rfl) hP hD hS (w2 := wRd ht (ht_rows 0) (ht_evidence 0) (ht_tape 0) E.2.2.1 cy q9.2.1 ++ (wEv ht_evidence cy q8 ++ (wRows ht_rows cy St_rows ++ (wTape ht_tape cy q9.2.2)))) [0, 1, 2, 3, 4, 18, 19] [5, 6, 7, 8, 9, 10, 11, 12, 13, 14, 15, 16, 17] [13, 14, 15, 16, 17, 0, 1, 2, 3, 4, 5, 6, 7, 8, 9, 10, 11, 12, 18, 19] rfl rfl rfl rfl rfl rfl (by decide) hl.1 (Nat.le_of_ble_eq_true rfl) dX5_readSeen_105 (fun H locs hP hD hS => ?_)
        obtain ⟨hz, hf⟩ := zgd hf
        obtain rfl := Option.some.inj hf
        exact z_zret (v := q9.1) C (zbo_n hz) hP hD hS dX5_readSeen_108
    · refine lv_aload_n hx hb dX5_readSeen_23 rfl (lv_at hl 0 rfl) ?_
      refine lv_iconst (v := (3 : Int32)) hx hb dX5_readSeen_24 (by decide) ?_
      obtain ⟨q10, hc, hf⟩ := zbd hf
      refine z_cVi (As := [.int (3 : Int32)]) (rest := []) C (c_X5_fail l D cy ht ht_rows ht_evidence ht_tape E.2.2.1 q1.2.1 q1.2.2 (3 : Int32) q10 hc) gV_X5_X5_fail hd_X5_fail ⟨Nat.le_of_ble_eq_true rfl, Nat.le_of_ble_eq_true rfl⟩ ⟨Nat.le_refl _, Nat.le_refl _⟩ (va_recv hK hP (ci := 2) (q0 := 0) rfl rfl) hP hD hS (w2 := wRd ht (ht_rows 0) (ht_evidence 0) (ht_tape 0) E.2.2.1 cy q10.2 ++ (wEv ht_evidence cy St_evidence ++ (wRows ht_rows cy St_rows ++ (wTape ht_tape cy q1.2.2)))) [0, 1, 2, 3, 4, 18, 19] [5, 6, 7, 8, 9, 10, 11, 12, 13, 14, 15, 16, 17] [13, 14, 15, 16, 17, 0, 1, 2, 3, 4, 5, 6, 7, 8, 9, 10, 11, 12, 18, 19] rfl rfl rfl rfl rfl rfl (by decide) hl.1 (Nat.le_of_ble_eq_true rfl) dX5_readSeen_25 (fun H locs hP hD hS => ?_)
      obtain ⟨hz, hf⟩ := zgd hf
      obtain rfl := Option.some.inj hf
      exact z_zret (v := q10.1) C (zbo_n hz) hP hD hS dX5_readSeen_28
  · refine lv_iconst (v := (0 : Int32)) hx hb dX5_readSeen_7 (by decide) ?_
    obtain rfl := Option.some.inj hf
    exact z_zret (v := (0 : Int32)) C rfl hP hD hS dX5_readSeen_8
def b_X5_takeName_42 (k42 : SRd → STape → Int32 → Option (Int32 × SRd × STape)) (St : SRd) (St_tape : STape) (v1 : Int32) : Option (Int32 × SRd × STape) :=
  (if (Rd_nameCount St) ≤ v1 then
    some ((1 : Int32), St, St_tape)
    else
    (if (12 : Int32) ≤ v1 then
      some ((1 : Int32), St, St_tape)
      else
      (if zib v1 12 then (if (lg_cmp ((Rd_names St) v1.toNatClampNeg) (Tape_value St_tape)) = 0 then
          (k42 (mkRd (Rd_fault St) (Rd_place St) (Rd_nameCount St) (Rd_names St) (Rd_nameStamps St) (Rd_nameSlots St) (Rd_unsureNames St) (Rd_unsureCount St) (Rd_head St) v1 (Rd_row St) (Rd_whole St)) St_tape (v1 + (1 : Int32)))
          else
          (k42 St St_tape (v1 + (1 : Int32)))) else none)))
set_option maxHeartbeats 4000000 in
set_option maxRecDepth 100000 in
theorem w_X5_takeName_42 {p : Program} {e : Env} {s : State} {m : MethodId} {below : List Frame} {meth : Method} {c : Code} {A : Nat → Prop} {D : va_G} {cy : Nat → ClassId} {args : Array Value} {r : Int32 × SRd × STape} (l : Launch) (E : zEn) (ht : Nat → Nat) (ht_rows : Nat → Nat) (ht_evidence : Nat → Nat) (ht_tape : Nat → Nat) (C : zX p s m meth c cX5_takeName 2 args RX5 (some FieldType.boolean) A D (zty cy)) (hE : zE E A s s.heap) :
    ∀ (n : Nat) (St : SRd) (St_tape : STape) (v1 : Int32) (H : Heap) (locs : List Loc) (ls : Array Slot), zl3 (b_X5_takeName_42) n St St_tape v1 = some r → va_P D vwCl (wRd ht (ht_rows 0) (ht_evidence 0) (ht_tape 0) E.2.2.1 cy St ++ (wTape ht_tape cy St_tape)) H → va_D A (wRd ht (ht_rows 0) (ht_evidence 0) (ht_tape 0) E.2.2.1 cy St ++ (wTape ht_tape cy St_tape)) → va_S A s.heap H locs → lv_has ls 2 [(0, .ref (ht 0)), (1, .int v1)] → W p l e (zRm 6 128) s m args below meth c H locs 0 0 (MQ below (zQI D (zty cy) A (wRd ht (ht_rows 0) (ht_evidence 0) (ht_tape 0) E.2.2.1 cy r.2.1 ++ (wTape ht_tape cy r.2.2)) r.1) args s 0 0 A) (F0 m 42 ls []) := by
  obtain ⟨hx, hb, hr, hts, hown, hlocks, hml, hA, hK⟩ := id C
  intro n
  induction n with
  | zero => intro St St_tape v1 H locs ls hf; exact zno hf
  | succ n ih =>
    intro St St_tape v1 H locs ls hf hP hD hS hl
    have hf : b_X5_takeName_42 (zl3 (b_X5_takeName_42) n) St St_tape v1 = some r := hf
    have K42 := ih
    refine lv_iload_n hx hb dX5_takeName_42 rfl (lv_at hl 1 rfl) ?_
    refine lv_aload_n hx hb dX5_takeName_43 rfl (lv_at hl 0 rfl) ?_
    refine va_get (D := D) (ci := 2) (v := .int (Rd_nameCount St)) (C := RX5) (T := TX5) (N := 15) hx hb hts in_X5 hown hK hP 0 rfl rfl 5 (by decide) (hts _ q1_187) (fun _ h9 => h9) rfl dX5_takeName_44 ?_
    refine z_icmp_ge (tgt := 84) hx hb dX5_takeName_47 (by decide) hf (fun hf => ?_) (fun hf => ?_)
    · refine lv_iconst (v := (1 : Int32)) hx hb dX5_takeName_84 (by decide) ?_
      obtain rfl := Option.some.inj hf
      exact z_zret (v := (1 : Int32)) C rfl hP hD hS dX5_takeName_85
    · refine lv_iload_n hx hb dX5_takeName_50 rfl (lv_at hl 1 rfl) ?_
      refine lv_bipush (v := (12 : Int32)) hx hb dX5_takeName_51 (by decide) ?_
      refine z_icmp_ge (tgt := 84) hx hb dX5_takeName_53 (by decide) hf (fun hf => ?_) (fun hf => ?_)
      · refine lv_iconst (v := (1 : Int32)) hx hb dX5_takeName_84 (by decide) ?_
        obtain rfl := Option.some.inj hf
        exact z_zret (v := (1 : Int32)) C rfl hP hD hS dX5_takeName_85
      · refine lv_aload_n hx hb dX5_takeName_56 rfl (lv_at hl 0 rfl) ?_
        refine va_get (D := D) (ci := 2) (v := .ref (ht 1)) (C := RX5) (T := TX5) (N := 15) hx hb hts in_X5 hown hK hP 0 rfl rfl 6 (by decide) (hts _ q1_188) (fun _ h9 => h9) rfl dX5_takeName_57 ?_
        refine lv_iload_n hx hb dX5_takeName_60 rfl (lv_at hl 1 rfl) ?_
        refine z_lald (f := (Rd_names St)) hx hb hK hP 1 1 rfl rfl dX5_takeName_61 hf (fun hf => ?_)
        refine lv_aload_n hx hb dX5_takeName_62 rfl (lv_at hl 0 rfl) ?_
        refine va_get (D := D) (ci := 2) (v := .ref (ht_tape 0)) (C := RX5) (T := TX5) (N := 15) hx hb hts in_X5 hown hK hP 0 rfl rfl 4 (by decide) (hts _ q1_185) (fun _ h9 => h9) rfl dX5_takeName_63 ?_
        refine va_get (D := D) (ci := 4) (v := .long (Tape_value St_tape)) (C := RX7) (T := TX7) (N := 7) hx hb hts in_X7 hown hK hP 5 rfl rfl 3 (by decide) (hts _ q1_157) (fun _ h9 => h9) rfl dX5_takeName_66 ?_
        refine W.lcmp hx hb dX5_takeName_69 ?_
        refine z_if_ne (tgt := 78) hx hb dX5_takeName_70 (by decide) hf (fun hf => ?_) (fun hf => ?_)
        · refine lv_iinc (v := (v1 + (1 : Int32))) (lv' := [(1, .int (v1 + (1 : Int32))), (0, .ref (ht 0))]) hx hb dX5_takeName_78 hl (k := 1) rfl rfl (by decide) rfl (fun ls hl => ?_)
          refine lv_goto (tgt := 42) hx hb dX5_takeName_81 (by decide) ?_
          exact K42 St St_tape (v1 + (1 : Int32)) H locs ls hf hP hD hS (lv_sub hl [1, 0] rfl)
        · refine lv_aload_n hx hb dX5_takeName_73 rfl (lv_at hl 0 rfl) ?_
          refine lv_iload_n hx hb dX5_takeName_74 rfl (lv_at hl 1 rfl) ?_
          refine z_put (w2 := vRd ht (ht_rows 0) (ht_evidence 0) (ht_tape 0) E.2.2.1 cy (Rd_fault St) (Rd_place St) (Rd_nameCount St) (Rd_names St) (Rd_nameStamps St) (Rd_nameSlots St) (Rd_unsureNames St) (Rd_unsureCount St) (Rd_head St) v1 (Rd_row St) (Rd_whole St) ++ (wTape ht_tape cy St_tape)) hx hb hts in_X5 tyX5 tyX5_ok nmX5 hown hK hP hD hS 0 rfl rfl 12 (by decide) (hts _ q1_194) (fun _ h9 => h9) rfl rfl rfl (Nat.le_of_ble_eq_true rfl) dX5_takeName_75 rfl (fun H locs hP hD hS => ?_)
          refine lv_iinc (v := (v1 + (1 : Int32))) (lv' := [(1, .int (v1 + (1 : Int32))), (0, .ref (ht 0))]) hx hb dX5_takeName_78 hl (k := 1) rfl rfl (by decide) rfl (fun ls hl => ?_)
          refine lv_goto (tgt := 42) hx hb dX5_takeName_81 (by decide) ?_
          rw [← wRd_mk ht] at hP hD
          exact K42 (mkRd (Rd_fault St) (Rd_place St) (Rd_nameCount St) (Rd_names St) (Rd_nameStamps St) (Rd_nameSlots St) (Rd_unsureNames St) (Rd_unsureCount St) (Rd_head St) v1 (Rd_row St) (Rd_whole St)) St_tape (v1 + (1 : Int32)) H locs ls hf hP hD hS (lv_sub hl [1, 0] rfl)
def f_X5_takeName (St : SRd) (St_tape : STape) : Option (Int32 × SRd × STape) :=
  (f_X7_advance St_tape).bind (fun q1 =>
    (if (Tape_kind q1) = (1 : Int32) then
      (f_X7_reserved q1).bind (fun q3 =>
        (if q3 = none then
          (zl3 (b_X5_takeName_42) FU (mkRd (Rd_fault St) (Rd_place St) (Rd_nameCount St) (Rd_names St) (Rd_nameStamps St) (Rd_nameSlots St) (Rd_unsureNames St) (Rd_unsureCount St) (Rd_head St) (-2 : Int32) (Rd_row St) (Rd_whole St)) q1 (0 : Int32))
          else
          (f_X5_fail St q1 (1 : Int32)).bind (fun q4 =>
            (if zbo q4.1 then some (q4.1, q4.2, q1) else none))))
      else
      (f_X5_fail St q1 (1 : Int32)).bind (fun q2 =>
        (if zbo q2.1 then some (q2.1, q2.2, q1) else none))))
set_option maxHeartbeats 4000000 in
set_option maxRecDepth 100000 in
theorem c_X5_takeName (l : Launch) (D : va_G) (cy : Nat → ClassId) (E : zEn) (ht : Nat → Nat) (ht_rows : Nat → Nat) (ht_evidence : Nat → Nat) (ht_tape : Nat → Nat) (St : SRd) (St_tape : STape) (r : Int32 × SRd × STape) (hf : f_X5_takeName St St_tape = some r) : zCIs l yX5_takeName cX5_takeName 2 (some FieldType.boolean) 6 128 D (zty cy) E [.ref (ht 0)] (wRd ht (ht_rows 0) (ht_evidence 0) (ht_tape 0) E.2.2.1 cy St ++ (wTape ht_tape cy St_tape)) (wRd ht (ht_rows 0) (ht_evidence 0) (ht_tape 0) E.2.2.1 cy r.2.1 ++ (wTape ht_tape cy r.2.2)) r.1 := by
  refine zCIs_of (by decide +kernel) (Nat.le_of_ble_eq_true rfl) ?_
  intro p e s m below meth c A ls C hE hP hD hS hl
  generalize hargs : ([.ref (ht 0)] : List Value).toArray = args at C ⊢
  have C : zX p s m meth c cX5_takeName 2 args RX5 (some FieldType.boolean) A D (zty cy) := C
  obtain ⟨hx, hb, hr, hts, hown, hlocks, hml, hA, hK⟩ := id C
  have hl : lv_has ls 2 [(0, .ref (ht 0))] := hl
  generalize hH : s.heap = H at hP ⊢
  have hS : va_S A s.heap H [] := by rw [← hH]; exact hS
  generalize ([] : List Loc) = locs at hS ⊢
  refine lv_aload_n hx hb dX5_takeName_0 rfl (lv_at hl 0 rfl) ?_
  refine va_get (D := D) (ci := 2) (v := .ref (ht_tape 0)) (C := RX5) (T := TX5) (N := 15) hx hb hts in_X5 hown hK hP 0 rfl rfl 4 (by decide) (hts _ q1_185) (fun _ h9 => h9) rfl dX5_takeName_1 ?_
  obtain ⟨q1, hc, hf⟩ := zbd hf
  refine z_cVv (As := []) (rest := []) C (c_X7_advance l D cy ht_tape St_tape q1 hc) gV_X5_X7_advance hd_X7_advance ⟨Nat.le_of_ble_eq_true rfl, Nat.le_of_ble_eq_true rfl⟩ ⟨Nat.le_refl _, Nat.le_refl _⟩ (va_recv hK hP (ci := 4) (q0 := 5) rfl rfl) hP hD hS (w2 := wRd ht (ht_rows 0) (ht_evidence 0) (ht_tape 0) E.2.2.1 cy St ++ (wTape ht_tape cy q1)) [5, 6] [0, 1, 2, 3, 4] [0, 1, 2, 3, 4, 5, 6] rfl rfl rfl rfl rfl rfl (by decide) hl.1 (Nat.le_of_ble_eq_true rfl) dX5_takeName_4 (fun H locs hP hD hS => ?_)
  refine lv_aload_n hx hb dX5_takeName_7 rfl (lv_at hl 0 rfl) ?_
  refine va_get (D := D) (ci := 2) (v := .ref (ht_tape 0)) (C := RX5) (T := TX5) (N := 15) hx hb hts in_X5 hown hK hP 0 rfl rfl 4 (by decide) (hts _ q1_185) (fun _ h9 => h9) rfl dX5_takeName_8 ?_
  refine va_get (D := D) (ci := 4) (v := .int (Tape_kind q1)) (C := RX7) (T := TX7) (N := 7) hx hb hts in_X7 hown hK hP 5 rfl rfl 1 (by decide) (hts _ q1_152) (fun _ h9 => h9) rfl dX5_takeName_11 ?_
  refine lv_iconst (v := (1 : Int32)) hx hb dX5_takeName_14 (by decide) ?_
  refine z_icmp_ne (tgt := 28) hx hb dX5_takeName_15 (by decide) hf (fun hf => ?_) (fun hf => ?_)
  · refine lv_aload_n hx hb dX5_takeName_28 rfl (lv_at hl 0 rfl) ?_
    refine lv_iconst (v := (1 : Int32)) hx hb dX5_takeName_29 (by decide) ?_
    obtain ⟨q2, hc, hf⟩ := zbd hf
    refine z_cVi0 (As := [.int (1 : Int32)]) (rest := []) C (c_X5_fail l D cy ht ht_rows ht_evidence ht_tape E.2.2.1 St q1 (1 : Int32) q2 hc) gV_X5_X5_fail hd_X5_fail ⟨Nat.le_of_ble_eq_true rfl, Nat.le_of_ble_eq_true rfl⟩ ⟨Nat.le_refl _, Nat.le_refl _⟩ (va_recv hK hP (ci := 2) (q0 := 0) rfl rfl) hP hD hS hl.1 (Nat.le_of_ble_eq_true rfl) dX5_takeName_30 (fun H locs hP hD hS => ?_)
    have hP : va_P D vwCl (wRd ht (ht_rows 0) (ht_evidence 0) (ht_tape 0) E.2.2.1 cy q2.2 ++ (wTape ht_tape cy q1)) H := hP
    have hD : va_D A (wRd ht (ht_rows 0) (ht_evidence 0) (ht_tape 0) E.2.2.1 cy q2.2 ++ (wTape ht_tape cy q1)) := hD
    obtain ⟨hz, hf⟩ := zgd hf
    obtain rfl := Option.some.inj hf
    exact z_zret (v := q2.1) C (zbo_n hz) hP hD hS dX5_takeName_33
  · refine lv_aload_n hx hb dX5_takeName_18 rfl (lv_at hl 0 rfl) ?_
    refine va_get (D := D) (ci := 2) (v := .ref (ht_tape 0)) (C := RX5) (T := TX5) (N := 15) hx hb hts in_X5 hown hK hP 0 rfl rfl 4 (by decide) (hts _ q1_185) (fun _ h9 => h9) rfl dX5_takeName_19 ?_
    obtain ⟨q3, hc, hf⟩ := zbd hf
    refine z_cVes (As := []) (rest := []) C hE (c_X7_reserved l D cy E ht_tape q1 q3 hc) gV_X5_X7_reserved hd_X7_reserved ⟨Nat.le_of_ble_eq_true rfl, Nat.le_of_ble_eq_true rfl⟩ ⟨Nat.le_refl _, Nat.le_refl _⟩ (va_recv hK hP (ci := 4) (q0 := 5) rfl rfl) hP hD hS (w2 := wRd ht (ht_rows 0) (ht_evidence 0) (ht_tape 0) E.2.2.1 cy St ++ (wTape ht_tape cy q1)) [5, 6] [0, 1, 2, 3, 4] [0, 1, 2, 3, 4, 5, 6] rfl rfl rfl rfl rfl rfl (by decide) hl.1 (Nat.le_of_ble_eq_true rfl) dX5_takeName_22 (fun H locs hP hD hS => ?_)
    refine z_ifnull (tgt := 34) hx hb dX5_takeName_25 (by decide) hf (fun hf => ?_) (fun hf => ?_)
    · refine lv_aload_n hx hb dX5_takeName_34 rfl (lv_at hl 0 rfl) ?_
      refine lv_bipush (v := (-2 : Int32)) hx hb dX5_takeName_35 (by decide) ?_
      refine z_put (w2 := vRd ht (ht_rows 0) (ht_evidence 0) (ht_tape 0) E.2.2.1 cy (Rd_fault St) (Rd_place St) (Rd_nameCount St) (Rd_names St) (Rd_nameStamps St) (Rd_nameSlots St) (Rd_unsureNames St) (Rd_unsureCount St) (Rd_head St) (-2 : Int32) (Rd_row St) (Rd_whole St) ++ (wTape ht_tape cy q1)) hx hb hts in_X5 tyX5 tyX5_ok nmX5 hown hK hP hD hS 0 rfl rfl 12 (by decide) (hts _ q1_194) (fun _ h9 => h9) rfl rfl rfl (Nat.le_of_ble_eq_true rfl) dX5_takeName_37 rfl (fun H locs hP hD hS => ?_)
      refine lv_iconst (v := (0 : Int32)) hx hb dX5_takeName_40 (by decide) ?_
      refine lv_istore_n (lv' := [(1, .int (0 : Int32)), (0, .ref (ht 0))]) hx hb dX5_takeName_41 rfl hl (by decide) rfl (fun ls hl => ?_)
      rw [← wRd_mk ht] at hP hD
      exact w_X5_takeName_42 l E ht ht_rows ht_evidence ht_tape C hE FU (mkRd (Rd_fault St) (Rd_place St) (Rd_nameCount St) (Rd_names St) (Rd_nameStamps St) (Rd_nameSlots St) (Rd_unsureNames St) (Rd_unsureCount St) (Rd_head St) (-2 : Int32) (Rd_row St) (Rd_whole St)) q1 (0 : Int32) H locs ls hf hP hD hS (lv_sub hl [1, 0] rfl)
    · refine lv_aload_n hx hb dX5_takeName_28 rfl (lv_at hl 0 rfl) ?_
      refine lv_iconst (v := (1 : Int32)) hx hb dX5_takeName_29 (by decide) ?_
      obtain ⟨q4, hc, hf⟩ := zbd hf
      refine z_cVi0 (As := [.int (1 : Int32)]) (rest := []) C (c_X5_fail l D cy ht ht_rows ht_evidence ht_tape E.2.2.1 St q1 (1 : Int32) q4 hc) gV_X5_X5_fail hd_X5_fail ⟨Nat.le_of_ble_eq_true rfl, Nat.le_of_ble_eq_true rfl⟩ ⟨Nat.le_refl _, Nat.le_refl _⟩ (va_recv hK hP (ci := 2) (q0 := 0) rfl rfl) hP hD hS hl.1 (Nat.le_of_ble_eq_true rfl) dX5_takeName_30 (fun H locs hP hD hS => ?_)
      have hP : va_P D vwCl (wRd ht (ht_rows 0) (ht_evidence 0) (ht_tape 0) E.2.2.1 cy q4.2 ++ (wTape ht_tape cy q1)) H := hP
      have hD : va_D A (wRd ht (ht_rows 0) (ht_evidence 0) (ht_tape 0) E.2.2.1 cy q4.2 ++ (wTape ht_tape cy q1)) := hD
      obtain ⟨hz, hf⟩ := zgd hf
      obtain rfl := Option.some.inj hf
      exact z_zret (v := q4.1) C (zbo_n hz) hP hD hS dX5_takeName_33
def f_X5_readUnsure (St : SRd) (St_tape : STape) : Option (Int32 × SRd × STape) :=
  (if (Rd_unsureCount St) < (4 : Int32) then
    (f_X5_takeName St St_tape).bind (fun q1 =>
      (if q1.1 = 0 then
        some ((0 : Int32), q1.2.1, q1.2.2)
        else
        (if (Rd_name q1.2.1) = (-2 : Int32) then
          (f_X5_fail q1.2.1 q1.2.2 (2 : Int32)).bind (fun q7 =>
            (if zbo q7.1 then some (q7.1, q7.2, q1.2.2) else none))
          else
          (f_X5_isUnsure q1.2.1 (Rd_name q1.2.1)).bind (fun q2 =>
            (if q2 = 0 then
              (f_X5_slotNamed q1.2.1 (Rd_name q1.2.1)).bind (fun q3 =>
                (if q3 = (-2 : Int32) then
                  (if zib (Rd_unsureCount q1.2.1) 4 then (f_X5_takeLineEnd (mkRd (Rd_fault q1.2.1) (Rd_place q1.2.1) (Rd_nameCount q1.2.1) (Rd_names q1.2.1) (Rd_nameStamps q1.2.1) (Rd_nameSlots q1.2.1) (upd (Rd_unsureNames q1.2.1) (Rd_unsureCount q1.2.1).toNatClampNeg (Rd_name q1.2.1)) ((Rd_unsureCount q1.2.1) + (1 : Int32)) (Rd_head q1.2.1) (Rd_name q1.2.1) (Rd_row q1.2.1) (Rd_whole q1.2.1)) q1.2.2).bind (fun q4 =>
                      (if zbo q4.1 then some (q4.1, q4.2.1, q4.2.2) else none)) else none)
                  else
                  (f_X5_fail q1.2.1 q1.2.2 (7 : Int32)).bind (fun q5 =>
                    (if zbo q5.1 then some (q5.1, q5.2, q1.2.2) else none))))
              else
              (f_X5_fail q1.2.1 q1.2.2 (3 : Int32)).bind (fun q6 =>
                (if zbo q6.1 then some (q6.1, q6.2, q1.2.2) else none)))))))
    else
    (f_X5_fail St St_tape (5 : Int32)).bind (fun q8 =>
      (if zbo q8.1 then some (q8.1, q8.2, St_tape) else none)))
set_option maxHeartbeats 4000000 in
set_option maxRecDepth 100000 in
theorem c_X5_readUnsure (l : Launch) (D : va_G) (cy : Nat → ClassId) (E : zEn) (ht : Nat → Nat) (ht_rows : Nat → Nat) (ht_evidence : Nat → Nat) (ht_tape : Nat → Nat) (St : SRd) (St_tape : STape) (r : Int32 × SRd × STape) (hf : f_X5_readUnsure St St_tape = some r) : zCIs l yX5_readUnsure cX5_readUnsure 1 (some FieldType.boolean) 7 149 D (zty cy) E [.ref (ht 0)] (wRd ht (ht_rows 0) (ht_evidence 0) (ht_tape 0) E.2.2.1 cy St ++ (wTape ht_tape cy St_tape)) (wRd ht (ht_rows 0) (ht_evidence 0) (ht_tape 0) E.2.2.1 cy r.2.1 ++ (wTape ht_tape cy r.2.2)) r.1 := by
  refine zCIs_of (by decide +kernel) (Nat.le_of_ble_eq_true rfl) ?_
  intro p e s m below meth c A ls C hE hP hD hS hl
  generalize hargs : ([.ref (ht 0)] : List Value).toArray = args at C ⊢
  have C : zX p s m meth c cX5_readUnsure 1 args RX5 (some FieldType.boolean) A D (zty cy) := C
  obtain ⟨hx, hb, hr, hts, hown, hlocks, hml, hA, hK⟩ := id C
  have hl : lv_has ls 1 [(0, .ref (ht 0))] := hl
  generalize hH : s.heap = H at hP ⊢
  have hS : va_S A s.heap H [] := by rw [← hH]; exact hS
  generalize ([] : List Loc) = locs at hS ⊢
  refine lv_aload_n hx hb dX5_readUnsure_0 rfl (lv_at hl 0 rfl) ?_
  refine va_get (D := D) (ci := 2) (v := .int (Rd_unsureCount St)) (C := RX5) (T := TX5) (N := 15) hx hb hts in_X5 hown hK hP 0 rfl rfl 10 (by decide) (hts _ q1_192) (fun _ h9 => h9) rfl dX5_readUnsure_1 ?_
  refine lv_iconst (v := (4 : Int32)) hx hb dX5_readUnsure_4 (by decide) ?_
  refine z_icmp_lt (tgt := 14) hx hb dX5_readUnsure_5 (by decide) hf (fun hf => ?_) (fun hf => ?_)
  · refine lv_aload_n hx hb dX5_readUnsure_14 rfl (lv_at hl 0 rfl) ?_
    obtain ⟨q1, hc, hf⟩ := zbd hf
    refine z_cVis0 (As := []) (rest := []) C hE (c_X5_takeName l D cy E ht ht_rows ht_evidence ht_tape St St_tape q1 hc) gV_X5_X5_takeName hd_X5_takeName ⟨Nat.le_of_ble_eq_true rfl, Nat.le_of_ble_eq_true rfl⟩ ⟨Nat.le_refl _, Nat.le_refl _⟩ (va_recv hK hP (ci := 2) (q0 := 0) rfl rfl) hP hD hS hl.1 (Nat.le_of_ble_eq_true rfl) dX5_readUnsure_15 (fun H locs hP hD hS => ?_)
    have hP : va_P D vwCl (wRd ht (ht_rows 0) (ht_evidence 0) (ht_tape 0) E.2.2.1 cy q1.2.1 ++ (wTape ht_tape cy q1.2.2)) H := hP
    have hD : va_D A (wRd ht (ht_rows 0) (ht_evidence 0) (ht_tape 0) E.2.2.1 cy q1.2.1 ++ (wTape ht_tape cy q1.2.2)) := hD
    refine z_if_ne (tgt := 23) hx hb dX5_readUnsure_18 (by decide) hf (fun hf => ?_) (fun hf => ?_)
    · refine lv_aload_n hx hb dX5_readUnsure_23 rfl (lv_at hl 0 rfl) ?_
      refine va_get (D := D) (ci := 2) (v := .int (Rd_name q1.2.1)) (C := RX5) (T := TX5) (N := 15) hx hb hts in_X5 hown hK hP 0 rfl rfl 12 (by decide) (hts _ q1_194) (fun _ h9 => h9) rfl dX5_readUnsure_24 ?_
      refine lv_bipush (v := (-2 : Int32)) hx hb dX5_readUnsure_27 (by decide) ?_
      refine z_icmp_ne (tgt := 38) hx hb dX5_readUnsure_29 (by decide) hf (fun hf => ?_) (fun hf => ?_)
      · refine lv_aload_n hx hb dX5_readUnsure_38 rfl (lv_at hl 0 rfl) ?_
        refine lv_aload_n hx hb dX5_readUnsure_39 rfl (lv_at hl 0 rfl) ?_
        refine va_get (D := D) (ci := 2) (v := .int (Rd_name q1.2.1)) (C := RX5) (T := TX5) (N := 15) hx hb hts in_X5 hown hK hP 0 rfl rfl 12 (by decide) (hts _ q1_194) (fun _ h9 => h9) rfl dX5_readUnsure_40 ?_
        obtain ⟨q2, hc, hf⟩ := zbd hf
        refine z_cVi (As := [.int (Rd_name q1.2.1)]) (rest := []) C (c_X5_isUnsure l D cy ht ht_rows ht_evidence ht_tape E.2.2.1 q1.2.1 (Rd_name q1.2.1) q2 hc) gV_X5_X5_isUnsure hd_X5_isUnsure ⟨Nat.le_of_ble_eq_true rfl, Nat.le_of_ble_eq_true rfl⟩ ⟨Nat.le_refl _, Nat.le_refl _⟩ (va_recv hK hP (ci := 2) (q0 := 0) rfl rfl) hP hD hS (w2 := wRd ht (ht_rows 0) (ht_evidence 0) (ht_tape 0) E.2.2.1 cy q1.2.1 ++ (wTape ht_tape cy q1.2.2)) [0, 1, 2, 3, 4] [5, 6] [2, 3, 4, 5, 6, 0, 1] rfl rfl rfl rfl rfl rfl (by decide) hl.1 (Nat.le_of_ble_eq_true rfl) dX5_readUnsure_43 (fun H locs hP hD hS => ?_)
        refine z_if_eq (tgt := 55) hx hb dX5_readUnsure_46 (by decide) hf (fun hf => ?_) (fun hf => ?_)
        · refine lv_aload_n hx hb dX5_readUnsure_55 rfl (lv_at hl 0 rfl) ?_
          refine lv_aload_n hx hb dX5_readUnsure_56 rfl (lv_at hl 0 rfl) ?_
          refine va_get (D := D) (ci := 2) (v := .int (Rd_name q1.2.1)) (C := RX5) (T := TX5) (N := 15) hx hb hts in_X5 hown hK hP 0 rfl rfl 12 (by decide) (hts _ q1_194) (fun _ h9 => h9) rfl dX5_readUnsure_57 ?_
          obtain ⟨q3, hc, hf⟩ := zbd hf
          refine z_cVi (As := [.int (Rd_name q1.2.1)]) (rest := []) C (c_X5_slotNamed l D cy ht ht_rows ht_evidence ht_tape E.2.2.1 q1.2.1 (Rd_name q1.2.1) q3 hc) gV_X5_X5_slotNamed hd_X5_slotNamed ⟨Nat.le_of_ble_eq_true rfl, Nat.le_of_ble_eq_true rfl⟩ ⟨Nat.le_refl _, Nat.le_refl _⟩ (va_recv hK hP (ci := 2) (q0 := 0) rfl rfl) hP hD hS (w2 := wRd ht (ht_rows 0) (ht_evidence 0) (ht_tape 0) E.2.2.1 cy q1.2.1 ++ (wTape ht_tape cy q1.2.2)) [0, 1, 2, 3, 4] [5, 6] [2, 3, 4, 5, 6, 0, 1] rfl rfl rfl rfl rfl rfl (by decide) hl.1 (Nat.le_of_ble_eq_true rfl) dX5_readUnsure_60 (fun H locs hP hD hS => ?_)
          refine lv_bipush (v := (-2 : Int32)) hx hb dX5_readUnsure_63 (by decide) ?_
          refine z_icmp_eq (tgt := 75) hx hb dX5_readUnsure_65 (by decide) hf (fun hf => ?_) (fun hf => ?_)
          · refine lv_aload_n hx hb dX5_readUnsure_75 rfl (lv_at hl 0 rfl) ?_
            refine va_get (D := D) (ci := 2) (v := .ref (ht 4)) (C := RX5) (T := TX5) (N := 15) hx hb hts in_X5 hown hK hP 0 rfl rfl 9 (by decide) (hts _ q1_191) (fun _ h9 => h9) rfl dX5_readUnsure_76 ?_
            refine lv_aload_n hx hb dX5_readUnsure_79 rfl (lv_at hl 0 rfl) ?_
            refine va_get (D := D) (ci := 2) (v := .int (Rd_unsureCount q1.2.1)) (C := RX5) (T := TX5) (N := 15) hx hb hts in_X5 hown hK hP 0 rfl rfl 10 (by decide) (hts _ q1_192) (fun _ h9 => h9) rfl dX5_readUnsure_80 ?_
            refine lv_aload_n hx hb dX5_readUnsure_83 rfl (lv_at hl 0 rfl) ?_
            refine va_get (D := D) (ci := 2) (v := .int (Rd_name q1.2.1)) (C := RX5) (T := TX5) (N := 15) hx hb hts in_X5 hown hK hP 0 rfl rfl 12 (by decide) (hts _ q1_194) (fun _ h9 => h9) rfl dX5_readUnsure_84 ?_
            refine z_iast (f := (Rd_unsureNames q1.2.1)) (w2 := vRd ht (ht_rows 0) (ht_evidence 0) (ht_tape 0) E.2.2.1 cy (Rd_fault q1.2.1) (Rd_place q1.2.1) (Rd_nameCount q1.2.1) (Rd_names q1.2.1) (Rd_nameStamps q1.2.1) (Rd_nameSlots q1.2.1) (upd (Rd_unsureNames q1.2.1) (Rd_unsureCount q1.2.1).toNatClampNeg (Rd_name q1.2.1)) (Rd_unsureCount q1.2.1) (Rd_head q1.2.1) (Rd_name q1.2.1) (Rd_row q1.2.1) (Rd_whole q1.2.1) ++ (wTape ht_tape cy q1.2.2)) hx hb hK hP hD hS 4 0 rfl rfl dX5_readUnsure_87 hf rfl (fun hf H locs hP hD hS => ?_)
            refine lv_aload_n hx hb dX5_readUnsure_88 rfl (lv_at hl 0 rfl) ?_
            refine lv_dup hx hb dX5_readUnsure_89 rfl ?_
            refine va_get (D := D) (ci := 2) (v := .int (Rd_unsureCount q1.2.1)) (C := RX5) (T := TX5) (N := 15) hx hb hts in_X5 hown hK hP 0 rfl rfl 10 (by decide) (hts _ q1_192) (fun _ h9 => h9) rfl dX5_readUnsure_90 ?_
            refine lv_iconst (v := (1 : Int32)) hx hb dX5_readUnsure_93 (by decide) ?_
            refine lv_iadd hx hb dX5_readUnsure_94 ?_
            refine z_put (w2 := vRd ht (ht_rows 0) (ht_evidence 0) (ht_tape 0) E.2.2.1 cy (Rd_fault q1.2.1) (Rd_place q1.2.1) (Rd_nameCount q1.2.1) (Rd_names q1.2.1) (Rd_nameStamps q1.2.1) (Rd_nameSlots q1.2.1) (upd (Rd_unsureNames q1.2.1) (Rd_unsureCount q1.2.1).toNatClampNeg (Rd_name q1.2.1)) ((Rd_unsureCount q1.2.1) + (1 : Int32)) (Rd_head q1.2.1) (Rd_name q1.2.1) (Rd_row q1.2.1) (Rd_whole q1.2.1) ++ (wTape ht_tape cy q1.2.2)) hx hb hts in_X5 tyX5 tyX5_ok nmX5 hown hK hP hD hS 0 rfl rfl 10 (by decide) (hts _ q1_192) (fun _ h9 => h9) rfl rfl rfl (Nat.le_of_ble_eq_true rfl) dX5_readUnsure_95 rfl (fun H locs hP hD hS => ?_)
            refine lv_aload_n hx hb dX5_readUnsure_98 rfl (lv_at hl 0 rfl) ?_
            obtain ⟨q4, hc, hf⟩ := zbd hf
            rw [← wRd_mk ht] at hP hD
            refine z_cVi0 (As := []) (rest := []) C (c_X5_takeLineEnd l D cy ht ht_rows ht_evidence ht_tape E.2.2.1 (mkRd (Rd_fault q1.2.1) (Rd_place q1.2.1) (Rd_nameCount q1.2.1) (Rd_names q1.2.1) (Rd_nameStamps q1.2.1) (Rd_nameSlots q1.2.1) (upd (Rd_unsureNames q1.2.1) (Rd_unsureCount q1.2.1).toNatClampNeg (Rd_name q1.2.1)) ((Rd_unsureCount q1.2.1) + (1 : Int32)) (Rd_head q1.2.1) (Rd_name q1.2.1) (Rd_row q1.2.1) (Rd_whole q1.2.1)) q1.2.2 q4 hc) gV_X5_X5_takeLineEnd hd_X5_takeLineEnd ⟨Nat.le_of_ble_eq_true rfl, Nat.le_of_ble_eq_true rfl⟩ ⟨Nat.le_refl _, Nat.le_refl _⟩ (va_recv hK hP (ci := 2) (q0 := 0) rfl rfl) hP hD hS hl.1 (Nat.le_of_ble_eq_true rfl) dX5_readUnsure_99 (fun H locs hP hD hS => ?_)
            have hP : va_P D vwCl (wRd ht (ht_rows 0) (ht_evidence 0) (ht_tape 0) E.2.2.1 cy q4.2.1 ++ (wTape ht_tape cy q4.2.2)) H := hP
            have hD : va_D A (wRd ht (ht_rows 0) (ht_evidence 0) (ht_tape 0) E.2.2.1 cy q4.2.1 ++ (wTape ht_tape cy q4.2.2)) := hD
            obtain ⟨hz, hf⟩ := zgd hf
            obtain rfl := Option.some.inj hf
            exact z_zret (v := q4.1) C (zbo_n hz) hP hD hS dX5_readUnsure_102
          · refine lv_aload_n hx hb dX5_readUnsure_68 rfl (lv_at hl 0 rfl) ?_
            refine lv_bipush (v := (7 : Int32)) hx hb dX5_readUnsure_69 (by decide) ?_
            obtain ⟨q5, hc, hf⟩ := zbd hf
            refine z_cVi0 (As := [.int (7 : Int32)]) (rest := []) C (c_X5_fail l D cy ht ht_rows ht_evidence ht_tape E.2.2.1 q1.2.1 q1.2.2 (7 : Int32) q5 hc) gV_X5_X5_fail hd_X5_fail ⟨Nat.le_of_ble_eq_true rfl, Nat.le_of_ble_eq_true rfl⟩ ⟨Nat.le_refl _, Nat.le_refl _⟩ (va_recv hK hP (ci := 2) (q0 := 0) rfl rfl) hP hD hS hl.1 (Nat.le_of_ble_eq_true rfl) dX5_readUnsure_71 (fun H locs hP hD hS => ?_)
            have hP : va_P D vwCl (wRd ht (ht_rows 0) (ht_evidence 0) (ht_tape 0) E.2.2.1 cy q5.2 ++ (wTape ht_tape cy q1.2.2)) H := hP
            have hD : va_D A (wRd ht (ht_rows 0) (ht_evidence 0) (ht_tape 0) E.2.2.1 cy q5.2 ++ (wTape ht_tape cy q1.2.2)) := hD
            obtain ⟨hz, hf⟩ := zgd hf
            obtain rfl := Option.some.inj hf
            exact z_zret (v := q5.1) C (zbo_n hz) hP hD hS dX5_readUnsure_74
        · refine lv_aload_n hx hb dX5_readUnsure_49 rfl (lv_at hl 0 rfl) ?_
          refine lv_iconst (v := (3 : Int32)) hx hb dX5_readUnsure_50 (by decide) ?_
          obtain ⟨q6, hc, hf⟩ := zbd hf
          refine z_cVi0 (As := [.int (3 : Int32)]) (rest := []) C (c_X5_fail l D cy ht ht_rows ht_evidence ht_tape E.2.2.1 q1.2.1 q1.2.2 (3 : Int32) q6 hc) gV_X5_X5_fail hd_X5_fail ⟨Nat.le_of_ble_eq_true rfl, Nat.le_of_ble_eq_true rfl⟩ ⟨Nat.le_refl _, Nat.le_refl _⟩ (va_recv hK hP (ci := 2) (q0 := 0) rfl rfl) hP hD hS hl.1 (Nat.le_of_ble_eq_true rfl) dX5_readUnsure_51 (fun H locs hP hD hS => ?_)
          have hP : va_P D vwCl (wRd ht (ht_rows 0) (ht_evidence 0) (ht_tape 0) E.2.2.1 cy q6.2 ++ (wTape ht_tape cy q1.2.2)) H := hP
          have hD : va_D A (wRd ht (ht_rows 0) (ht_evidence 0) (ht_tape 0) E.2.2.1 cy q6.2 ++ (wTape ht_tape cy q1.2.2)) := hD
          obtain ⟨hz, hf⟩ := zgd hf
          obtain rfl := Option.some.inj hf
          exact z_zret (v := q6.1) C (zbo_n hz) hP hD hS dX5_readUnsure_54
      · refine lv_aload_n hx hb dX5_readUnsure_32 rfl (lv_at hl 0 rfl) ?_
        refine lv_iconst (v := (2 : Int32)) hx hb dX5_readUnsure_33 (by decide) ?_
        obtain ⟨q7, hc, hf⟩ := zbd hf
        refine z_cVi0 (As := [.int (2 : Int32)]) (rest := []) C (c_X5_fail l D cy ht ht_rows ht_evidence ht_tape E.2.2.1 q1.2.1 q1.2.2 (2 : Int32) q7 hc) gV_X5_X5_fail hd_X5_fail ⟨Nat.le_of_ble_eq_true rfl, Nat.le_of_ble_eq_true rfl⟩ ⟨Nat.le_refl _, Nat.le_refl _⟩ (va_recv hK hP (ci := 2) (q0 := 0) rfl rfl) hP hD hS hl.1 (Nat.le_of_ble_eq_true rfl) dX5_readUnsure_34 (fun H locs hP hD hS => ?_)
        have hP : va_P D vwCl (wRd ht (ht_rows 0) (ht_evidence 0) (ht_tape 0) E.2.2.1 cy q7.2 ++ (wTape ht_tape cy q1.2.2)) H := hP
        have hD : va_D A (wRd ht (ht_rows 0) (ht_evidence 0) (ht_tape 0) E.2.2.1 cy q7.2 ++ (wTape ht_tape cy q1.2.2)) := hD
        obtain ⟨hz, hf⟩ := zgd hf
        obtain rfl := Option.some.inj hf
        exact z_zret (v := q7.1) C (zbo_n hz) hP hD hS dX5_readUnsure_37
    · refine lv_iconst (v := (0 : Int32)) hx hb dX5_readUnsure_21 (by decide) ?_
      obtain rfl := Option.some.inj hf
      exact z_zret (v := (0 : Int32)) C rfl hP hD hS dX5_readUnsure_22
  · refine lv_aload_n hx hb dX5_readUnsure_8 rfl (lv_at hl 0 rfl) ?_
    refine lv_iconst (v := (5 : Int32)) hx hb dX5_readUnsure_9 (by decide) ?_
    obtain ⟨q8, hc, hf⟩ := zbd hf
    refine z_cVi0 (As := [.int (5 : Int32)]) (rest := []) C (c_X5_fail l D cy ht ht_rows ht_evidence ht_tape E.2.2.1 St St_tape (5 : Int32) q8 hc) gV_X5_X5_fail hd_X5_fail ⟨Nat.le_of_ble_eq_true rfl, Nat.le_of_ble_eq_true rfl⟩ ⟨Nat.le_refl _, Nat.le_refl _⟩ (va_recv hK hP (ci := 2) (q0 := 0) rfl rfl) hP hD hS hl.1 (Nat.le_of_ble_eq_true rfl) dX5_readUnsure_10 (fun H locs hP hD hS => ?_)
    have hP : va_P D vwCl (wRd ht (ht_rows 0) (ht_evidence 0) (ht_tape 0) E.2.2.1 cy q8.2 ++ (wTape ht_tape cy St_tape)) H := hP
    have hD : va_D A (wRd ht (ht_rows 0) (ht_evidence 0) (ht_tape 0) E.2.2.1 cy q8.2 ++ (wTape ht_tape cy St_tape)) := hD
    obtain ⟨hz, hf⟩ := zgd hf
    obtain rfl := Option.some.inj hf
    exact z_zret (v := q8.1) C (zbo_n hz) hP hD hS dX5_readUnsure_13
def f_X5_takeRunning (St : SRd) (St_tape : STape) : Option (Int32 × SRd × STape) :=
  (f_X5_takeName St St_tape).bind (fun q1 =>
    (if q1.1 = 0 then
      some ((0 : Int32), q1.2.1, q1.2.2)
      else
      (if (Rd_name q1.2.1) = (-2 : Int32) then
        (f_X5_fail q1.2.1 q1.2.2 (2 : Int32)).bind (fun q4 =>
          (if zbo q4.1 then some (q4.1, q4.2, q1.2.2) else none))
        else
        (f_X5_slotNamed q1.2.1 (Rd_name q1.2.1)).bind (fun q2 =>
          (if q2 = (-2 : Int32) then
            (f_X5_fail q1.2.1 q1.2.2 (7 : Int32)).bind (fun q3 =>
              (if q3.1 = 0 then
                some ((0 : Int32), q3.2, q1.2.2)
                else
                some ((1 : Int32), q3.2, q1.2.2)))
            else
            some ((1 : Int32), q1.2.1, q1.2.2))))))
set_option maxHeartbeats 4000000 in
set_option maxRecDepth 100000 in
theorem c_X5_takeRunning (l : Launch) (D : va_G) (cy : Nat → ClassId) (E : zEn) (ht : Nat → Nat) (ht_rows : Nat → Nat) (ht_evidence : Nat → Nat) (ht_tape : Nat → Nat) (St : SRd) (St_tape : STape) (r : Int32 × SRd × STape) (hf : f_X5_takeRunning St St_tape = some r) : zCIs l yX5_takeRunning cX5_takeRunning 1 (some FieldType.boolean) 7 149 D (zty cy) E [.ref (ht 0)] (wRd ht (ht_rows 0) (ht_evidence 0) (ht_tape 0) E.2.2.1 cy St ++ (wTape ht_tape cy St_tape)) (wRd ht (ht_rows 0) (ht_evidence 0) (ht_tape 0) E.2.2.1 cy r.2.1 ++ (wTape ht_tape cy r.2.2)) r.1 := by
  refine zCIs_of (by decide +kernel) (Nat.le_of_ble_eq_true rfl) ?_
  intro p e s m below meth c A ls C hE hP hD hS hl
  generalize hargs : ([.ref (ht 0)] : List Value).toArray = args at C ⊢
  have C : zX p s m meth c cX5_takeRunning 1 args RX5 (some FieldType.boolean) A D (zty cy) := C
  obtain ⟨hx, hb, hr, hts, hown, hlocks, hml, hA, hK⟩ := id C
  have hl : lv_has ls 1 [(0, .ref (ht 0))] := hl
  generalize hH : s.heap = H at hP ⊢
  have hS : va_S A s.heap H [] := by rw [← hH]; exact hS
  generalize ([] : List Loc) = locs at hS ⊢
  refine lv_aload_n hx hb dX5_takeRunning_0 rfl (lv_at hl 0 rfl) ?_
  obtain ⟨q1, hc, hf⟩ := zbd hf
  refine z_cVis0 (As := []) (rest := []) C hE (c_X5_takeName l D cy E ht ht_rows ht_evidence ht_tape St St_tape q1 hc) gV_X5_X5_takeName hd_X5_takeName ⟨Nat.le_of_ble_eq_true rfl, Nat.le_of_ble_eq_true rfl⟩ ⟨Nat.le_refl _, Nat.le_refl _⟩ (va_recv hK hP (ci := 2) (q0 := 0) rfl rfl) hP hD hS hl.1 (Nat.le_of_ble_eq_true rfl) dX5_takeRunning_1 (fun H locs hP hD hS => ?_)
  have hP : va_P D vwCl (wRd ht (ht_rows 0) (ht_evidence 0) (ht_tape 0) E.2.2.1 cy q1.2.1 ++ (wTape ht_tape cy q1.2.2)) H := hP
  have hD : va_D A (wRd ht (ht_rows 0) (ht_evidence 0) (ht_tape 0) E.2.2.1 cy q1.2.1 ++ (wTape ht_tape cy q1.2.2)) := hD
  refine z_if_ne (tgt := 9) hx hb dX5_takeRunning_4 (by decide) hf (fun hf => ?_) (fun hf => ?_)
  · refine lv_aload_n hx hb dX5_takeRunning_9 rfl (lv_at hl 0 rfl) ?_
    refine va_get (D := D) (ci := 2) (v := .int (Rd_name q1.2.1)) (C := RX5) (T := TX5) (N := 15) hx hb hts in_X5 hown hK hP 0 rfl rfl 12 (by decide) (hts _ q1_194) (fun _ h9 => h9) rfl dX5_takeRunning_10 ?_
    refine lv_bipush (v := (-2 : Int32)) hx hb dX5_takeRunning_13 (by decide) ?_
    refine z_icmp_ne (tgt := 24) hx hb dX5_takeRunning_15 (by decide) hf (fun hf => ?_) (fun hf => ?_)
    · refine lv_aload_n hx hb dX5_takeRunning_24 rfl (lv_at hl 0 rfl) ?_
      refine lv_aload_n hx hb dX5_takeRunning_25 rfl (lv_at hl 0 rfl) ?_
      refine va_get (D := D) (ci := 2) (v := .int (Rd_name q1.2.1)) (C := RX5) (T := TX5) (N := 15) hx hb hts in_X5 hown hK hP 0 rfl rfl 12 (by decide) (hts _ q1_194) (fun _ h9 => h9) rfl dX5_takeRunning_26 ?_
      obtain ⟨q2, hc, hf⟩ := zbd hf
      refine z_cVi (As := [.int (Rd_name q1.2.1)]) (rest := []) C (c_X5_slotNamed l D cy ht ht_rows ht_evidence ht_tape E.2.2.1 q1.2.1 (Rd_name q1.2.1) q2 hc) gV_X5_X5_slotNamed hd_X5_slotNamed ⟨Nat.le_of_ble_eq_true rfl, Nat.le_of_ble_eq_true rfl⟩ ⟨Nat.le_refl _, Nat.le_refl _⟩ (va_recv hK hP (ci := 2) (q0 := 0) rfl rfl) hP hD hS (w2 := wRd ht (ht_rows 0) (ht_evidence 0) (ht_tape 0) E.2.2.1 cy q1.2.1 ++ (wTape ht_tape cy q1.2.2)) [0, 1, 2, 3, 4] [5, 6] [2, 3, 4, 5, 6, 0, 1] rfl rfl rfl rfl rfl rfl (by decide) hl.1 (Nat.le_of_ble_eq_true rfl) dX5_takeRunning_29 (fun H locs hP hD hS => ?_)
      refine lv_bipush (v := (-2 : Int32)) hx hb dX5_takeRunning_32 (by decide) ?_
      refine z_icmp_ne (tgt := 46) hx hb dX5_takeRunning_34 (by decide) hf (fun hf => ?_) (fun hf => ?_)
      · refine lv_iconst (v := (1 : Int32)) hx hb dX5_takeRunning_46 (by decide) ?_
        refine lv_goto (tgt := 51) hx hb dX5_takeRunning_47 (by decide) ?_
        obtain rfl := Option.some.inj hf
        exact z_zret (v := (1 : Int32)) C rfl hP hD hS dX5_takeRunning_51
      · refine lv_aload_n hx hb dX5_takeRunning_37 rfl (lv_at hl 0 rfl) ?_
        refine lv_bipush (v := (7 : Int32)) hx hb dX5_takeRunning_38 (by decide) ?_
        obtain ⟨q3, hc, hf⟩ := zbd hf
        refine z_cVi0 (As := [.int (7 : Int32)]) (rest := []) C (c_X5_fail l D cy ht ht_rows ht_evidence ht_tape E.2.2.1 q1.2.1 q1.2.2 (7 : Int32) q3 hc) gV_X5_X5_fail hd_X5_fail ⟨Nat.le_of_ble_eq_true rfl, Nat.le_of_ble_eq_true rfl⟩ ⟨Nat.le_refl _, Nat.le_refl _⟩ (va_recv hK hP (ci := 2) (q0 := 0) rfl rfl) hP hD hS hl.1 (Nat.le_of_ble_eq_true rfl) dX5_takeRunning_40 (fun H locs hP hD hS => ?_)
        have hP : va_P D vwCl (wRd ht (ht_rows 0) (ht_evidence 0) (ht_tape 0) E.2.2.1 cy q3.2 ++ (wTape ht_tape cy q1.2.2)) H := hP
        have hD : va_D A (wRd ht (ht_rows 0) (ht_evidence 0) (ht_tape 0) E.2.2.1 cy q3.2 ++ (wTape ht_tape cy q1.2.2)) := hD
        refine z_if_eq (tgt := 50) hx hb dX5_takeRunning_43 (by decide) hf (fun hf => ?_) (fun hf => ?_)
        · refine lv_iconst (v := (0 : Int32)) hx hb dX5_takeRunning_50 (by decide) ?_
          obtain rfl := Option.some.inj hf
          exact z_zret (v := (0 : Int32)) C rfl hP hD hS dX5_takeRunning_51
        · refine lv_iconst (v := (1 : Int32)) hx hb dX5_takeRunning_46 (by decide) ?_
          refine lv_goto (tgt := 51) hx hb dX5_takeRunning_47 (by decide) ?_
          obtain rfl := Option.some.inj hf
          exact z_zret (v := (1 : Int32)) C rfl hP hD hS dX5_takeRunning_51
    · refine lv_aload_n hx hb dX5_takeRunning_18 rfl (lv_at hl 0 rfl) ?_
      refine lv_iconst (v := (2 : Int32)) hx hb dX5_takeRunning_19 (by decide) ?_
      obtain ⟨q4, hc, hf⟩ := zbd hf
      refine z_cVi0 (As := [.int (2 : Int32)]) (rest := []) C (c_X5_fail l D cy ht ht_rows ht_evidence ht_tape E.2.2.1 q1.2.1 q1.2.2 (2 : Int32) q4 hc) gV_X5_X5_fail hd_X5_fail ⟨Nat.le_of_ble_eq_true rfl, Nat.le_of_ble_eq_true rfl⟩ ⟨Nat.le_refl _, Nat.le_refl _⟩ (va_recv hK hP (ci := 2) (q0 := 0) rfl rfl) hP hD hS hl.1 (Nat.le_of_ble_eq_true rfl) dX5_takeRunning_20 (fun H locs hP hD hS => ?_)
      have hP : va_P D vwCl (wRd ht (ht_rows 0) (ht_evidence 0) (ht_tape 0) E.2.2.1 cy q4.2 ++ (wTape ht_tape cy q1.2.2)) H := hP
      have hD : va_D A (wRd ht (ht_rows 0) (ht_evidence 0) (ht_tape 0) E.2.2.1 cy q4.2 ++ (wTape ht_tape cy q1.2.2)) := hD
      obtain ⟨hz, hf⟩ := zgd hf
      obtain rfl := Option.some.inj hf
      exact z_zret (v := q4.1) C (zbo_n hz) hP hD hS dX5_takeRunning_23
  · refine lv_iconst (v := (0 : Int32)) hx hb dX5_takeRunning_7 (by decide) ?_
    obtain rfl := Option.some.inj hf
    exact z_zret (v := (0 : Int32)) C rfl hP hD hS dX5_takeRunning_8
def f_X5_readBegin (St : SRd) (St_tape : STape) : Option (Int32 × SRd × STape) :=
  (if (Rd_nameCount St) < (12 : Int32) then
    (f_X5_takeName St St_tape).bind (fun q1 =>
      (if q1.1 = 0 then
        some ((0 : Int32), q1.2.1, q1.2.2)
        else
        (if (Rd_name q1.2.1) = (-2 : Int32) then
          (if zib (Rd_nameCount q1.2.1) 12 then (f_X5_takeLineEnd (mkRd (Rd_fault q1.2.1) (Rd_place q1.2.1) (Rd_nameCount q1.2.1) (vp_updL (Rd_names q1.2.1) (Rd_nameCount q1.2.1).toNatClampNeg (Tape_value q1.2.2)) (Rd_nameStamps q1.2.1) (Rd_nameSlots q1.2.1) (Rd_unsureNames q1.2.1) (Rd_unsureCount q1.2.1) (Rd_head q1.2.1) (Rd_name q1.2.1) (Rd_row q1.2.1) (Rd_whole q1.2.1)) q1.2.2).bind (fun q2 =>
              (if zbo q2.1 then some (q2.1, q2.2.1, q2.2.2) else none)) else none)
          else
          (f_X5_fail q1.2.1 q1.2.2 (3 : Int32)).bind (fun q3 =>
            (if zbo q3.1 then some (q3.1, q3.2, q1.2.2) else none)))))
    else
    (f_X5_fail St St_tape (5 : Int32)).bind (fun q4 =>
      (if zbo q4.1 then some (q4.1, q4.2, St_tape) else none)))
set_option maxHeartbeats 4000000 in
set_option maxRecDepth 100000 in
theorem c_X5_readBegin (l : Launch) (D : va_G) (cy : Nat → ClassId) (E : zEn) (ht : Nat → Nat) (ht_rows : Nat → Nat) (ht_evidence : Nat → Nat) (ht_tape : Nat → Nat) (St : SRd) (St_tape : STape) (r : Int32 × SRd × STape) (hf : f_X5_readBegin St St_tape = some r) : zCIs l yX5_readBegin cX5_readBegin 1 (some FieldType.boolean) 7 149 D (zty cy) E [.ref (ht 0)] (wRd ht (ht_rows 0) (ht_evidence 0) (ht_tape 0) E.2.2.1 cy St ++ (wTape ht_tape cy St_tape)) (wRd ht (ht_rows 0) (ht_evidence 0) (ht_tape 0) E.2.2.1 cy r.2.1 ++ (wTape ht_tape cy r.2.2)) r.1 := by
  refine zCIs_of (by decide +kernel) (Nat.le_of_ble_eq_true rfl) ?_
  intro p e s m below meth c A ls C hE hP hD hS hl
  generalize hargs : ([.ref (ht 0)] : List Value).toArray = args at C ⊢
  have C : zX p s m meth c cX5_readBegin 1 args RX5 (some FieldType.boolean) A D (zty cy) := C
  obtain ⟨hx, hb, hr, hts, hown, hlocks, hml, hA, hK⟩ := id C
  have hl : lv_has ls 1 [(0, .ref (ht 0))] := hl
  generalize hH : s.heap = H at hP ⊢
  have hS : va_S A s.heap H [] := by rw [← hH]; exact hS
  generalize ([] : List Loc) = locs at hS ⊢
  refine lv_aload_n hx hb dX5_readBegin_0 rfl (lv_at hl 0 rfl) ?_
  refine va_get (D := D) (ci := 2) (v := .int (Rd_nameCount St)) (C := RX5) (T := TX5) (N := 15) hx hb hts in_X5 hown hK hP 0 rfl rfl 5 (by decide) (hts _ q1_187) (fun _ h9 => h9) rfl dX5_readBegin_1 ?_
  refine lv_bipush (v := (12 : Int32)) hx hb dX5_readBegin_4 (by decide) ?_
  refine z_icmp_lt (tgt := 15) hx hb dX5_readBegin_6 (by decide) hf (fun hf => ?_) (fun hf => ?_)
  · refine lv_aload_n hx hb dX5_readBegin_15 rfl (lv_at hl 0 rfl) ?_
    obtain ⟨q1, hc, hf⟩ := zbd hf
    refine z_cVis0 (As := []) (rest := []) C hE (c_X5_takeName l D cy E ht ht_rows ht_evidence ht_tape St St_tape q1 hc) gV_X5_X5_takeName hd_X5_takeName ⟨Nat.le_of_ble_eq_true rfl, Nat.le_of_ble_eq_true rfl⟩ ⟨Nat.le_refl _, Nat.le_refl _⟩ (va_recv hK hP (ci := 2) (q0 := 0) rfl rfl) hP hD hS hl.1 (Nat.le_of_ble_eq_true rfl) dX5_readBegin_16 (fun H locs hP hD hS => ?_)
    have hP : va_P D vwCl (wRd ht (ht_rows 0) (ht_evidence 0) (ht_tape 0) E.2.2.1 cy q1.2.1 ++ (wTape ht_tape cy q1.2.2)) H := hP
    have hD : va_D A (wRd ht (ht_rows 0) (ht_evidence 0) (ht_tape 0) E.2.2.1 cy q1.2.1 ++ (wTape ht_tape cy q1.2.2)) := hD
    refine z_if_ne (tgt := 24) hx hb dX5_readBegin_19 (by decide) hf (fun hf => ?_) (fun hf => ?_)
    · refine lv_aload_n hx hb dX5_readBegin_24 rfl (lv_at hl 0 rfl) ?_
      refine va_get (D := D) (ci := 2) (v := .int (Rd_name q1.2.1)) (C := RX5) (T := TX5) (N := 15) hx hb hts in_X5 hown hK hP 0 rfl rfl 12 (by decide) (hts _ q1_194) (fun _ h9 => h9) rfl dX5_readBegin_25 ?_
      refine lv_bipush (v := (-2 : Int32)) hx hb dX5_readBegin_28 (by decide) ?_
      refine z_icmp_eq (tgt := 39) hx hb dX5_readBegin_30 (by decide) hf (fun hf => ?_) (fun hf => ?_)
      · refine lv_aload_n hx hb dX5_readBegin_39 rfl (lv_at hl 0 rfl) ?_
        refine va_get (D := D) (ci := 2) (v := .ref (ht 1)) (C := RX5) (T := TX5) (N := 15) hx hb hts in_X5 hown hK hP 0 rfl rfl 6 (by decide) (hts _ q1_188) (fun _ h9 => h9) rfl dX5_readBegin_40 ?_
        refine lv_aload_n hx hb dX5_readBegin_43 rfl (lv_at hl 0 rfl) ?_
        refine va_get (D := D) (ci := 2) (v := .int (Rd_nameCount q1.2.1)) (C := RX5) (T := TX5) (N := 15) hx hb hts in_X5 hown hK hP 0 rfl rfl 5 (by decide) (hts _ q1_187) (fun _ h9 => h9) rfl dX5_readBegin_44 ?_
        refine lv_aload_n hx hb dX5_readBegin_47 rfl (lv_at hl 0 rfl) ?_
        refine va_get (D := D) (ci := 2) (v := .ref (ht_tape 0)) (C := RX5) (T := TX5) (N := 15) hx hb hts in_X5 hown hK hP 0 rfl rfl 4 (by decide) (hts _ q1_185) (fun _ h9 => h9) rfl dX5_readBegin_48 ?_
        refine va_get (D := D) (ci := 4) (v := .long (Tape_value q1.2.2)) (C := RX7) (T := TX7) (N := 7) hx hb hts in_X7 hown hK hP 5 rfl rfl 3 (by decide) (hts _ q1_157) (fun _ h9 => h9) rfl dX5_readBegin_51 ?_
        refine z_last (f := (Rd_names q1.2.1)) (w2 := vRd ht (ht_rows 0) (ht_evidence 0) (ht_tape 0) E.2.2.1 cy (Rd_fault q1.2.1) (Rd_place q1.2.1) (Rd_nameCount q1.2.1) (vp_updL (Rd_names q1.2.1) (Rd_nameCount q1.2.1).toNatClampNeg (Tape_value q1.2.2)) (Rd_nameStamps q1.2.1) (Rd_nameSlots q1.2.1) (Rd_unsureNames q1.2.1) (Rd_unsureCount q1.2.1) (Rd_head q1.2.1) (Rd_name q1.2.1) (Rd_row q1.2.1) (Rd_whole q1.2.1) ++ (wTape ht_tape cy q1.2.2)) hx hb hK hP hD hS 1 1 rfl rfl dX5_readBegin_54 hf rfl (fun hf H locs hP hD hS => ?_)
        refine lv_aload_n hx hb dX5_readBegin_55 rfl (lv_at hl 0 rfl) ?_
        obtain ⟨q2, hc, hf⟩ := zbd hf
        rw [← wRd_mk ht] at hP hD
        refine z_cVi0 (As := []) (rest := []) C (c_X5_takeLineEnd l D cy ht ht_rows ht_evidence ht_tape E.2.2.1 (mkRd (Rd_fault q1.2.1) (Rd_place q1.2.1) (Rd_nameCount q1.2.1) (vp_updL (Rd_names q1.2.1) (Rd_nameCount q1.2.1).toNatClampNeg (Tape_value q1.2.2)) (Rd_nameStamps q1.2.1) (Rd_nameSlots q1.2.1) (Rd_unsureNames q1.2.1) (Rd_unsureCount q1.2.1) (Rd_head q1.2.1) (Rd_name q1.2.1) (Rd_row q1.2.1) (Rd_whole q1.2.1)) q1.2.2 q2 hc) gV_X5_X5_takeLineEnd hd_X5_takeLineEnd ⟨Nat.le_of_ble_eq_true rfl, Nat.le_of_ble_eq_true rfl⟩ ⟨Nat.le_refl _, Nat.le_refl _⟩ (va_recv hK hP (ci := 2) (q0 := 0) rfl rfl) hP hD hS hl.1 (Nat.le_of_ble_eq_true rfl) dX5_readBegin_56 (fun H locs hP hD hS => ?_)
        have hP : va_P D vwCl (wRd ht (ht_rows 0) (ht_evidence 0) (ht_tape 0) E.2.2.1 cy q2.2.1 ++ (wTape ht_tape cy q2.2.2)) H := hP
        have hD : va_D A (wRd ht (ht_rows 0) (ht_evidence 0) (ht_tape 0) E.2.2.1 cy q2.2.1 ++ (wTape ht_tape cy q2.2.2)) := hD
        obtain ⟨hz, hf⟩ := zgd hf
        obtain rfl := Option.some.inj hf
        exact z_zret (v := q2.1) C (zbo_n hz) hP hD hS dX5_readBegin_59
      · refine lv_aload_n hx hb dX5_readBegin_33 rfl (lv_at hl 0 rfl) ?_
        refine lv_iconst (v := (3 : Int32)) hx hb dX5_readBegin_34 (by decide) ?_
        obtain ⟨q3, hc, hf⟩ := zbd hf
        refine z_cVi0 (As := [.int (3 : Int32)]) (rest := []) C (c_X5_fail l D cy ht ht_rows ht_evidence ht_tape E.2.2.1 q1.2.1 q1.2.2 (3 : Int32) q3 hc) gV_X5_X5_fail hd_X5_fail ⟨Nat.le_of_ble_eq_true rfl, Nat.le_of_ble_eq_true rfl⟩ ⟨Nat.le_refl _, Nat.le_refl _⟩ (va_recv hK hP (ci := 2) (q0 := 0) rfl rfl) hP hD hS hl.1 (Nat.le_of_ble_eq_true rfl) dX5_readBegin_35 (fun H locs hP hD hS => ?_)
        have hP : va_P D vwCl (wRd ht (ht_rows 0) (ht_evidence 0) (ht_tape 0) E.2.2.1 cy q3.2 ++ (wTape ht_tape cy q1.2.2)) H := hP
        have hD : va_D A (wRd ht (ht_rows 0) (ht_evidence 0) (ht_tape 0) E.2.2.1 cy q3.2 ++ (wTape ht_tape cy q1.2.2)) := hD
        obtain ⟨hz, hf⟩ := zgd hf
        obtain rfl := Option.some.inj hf
        exact z_zret (v := q3.1) C (zbo_n hz) hP hD hS dX5_readBegin_38
    · refine lv_iconst (v := (0 : Int32)) hx hb dX5_readBegin_22 (by decide) ?_
      obtain rfl := Option.some.inj hf
      exact z_zret (v := (0 : Int32)) C rfl hP hD hS dX5_readBegin_23
  · refine lv_aload_n hx hb dX5_readBegin_9 rfl (lv_at hl 0 rfl) ?_
    refine lv_iconst (v := (5 : Int32)) hx hb dX5_readBegin_10 (by decide) ?_
    obtain ⟨q4, hc, hf⟩ := zbd hf
    refine z_cVi0 (As := [.int (5 : Int32)]) (rest := []) C (c_X5_fail l D cy ht ht_rows ht_evidence ht_tape E.2.2.1 St St_tape (5 : Int32) q4 hc) gV_X5_X5_fail hd_X5_fail ⟨Nat.le_of_ble_eq_true rfl, Nat.le_of_ble_eq_true rfl⟩ ⟨Nat.le_refl _, Nat.le_refl _⟩ (va_recv hK hP (ci := 2) (q0 := 0) rfl rfl) hP hD hS hl.1 (Nat.le_of_ble_eq_true rfl) dX5_readBegin_11 (fun H locs hP hD hS => ?_)
    have hP : va_P D vwCl (wRd ht (ht_rows 0) (ht_evidence 0) (ht_tape 0) E.2.2.1 cy q4.2 ++ (wTape ht_tape cy St_tape)) H := hP
    have hD : va_D A (wRd ht (ht_rows 0) (ht_evidence 0) (ht_tape 0) E.2.2.1 cy q4.2 ++ (wTape ht_tape cy St_tape)) := hD
    obtain ⟨hz, hf⟩ := zgd hf
    obtain rfl := Option.some.inj hf
    exact z_zret (v := q4.1) C (zbo_n hz) hP hD hS dX5_readBegin_14
def b_X5_readLine_202 (St : SRd) (St_evidence : SEv) (St_rows : SRows) (St_tape : STape) : Option (Int32 × SRd × SEv × SRows × STape) :=
  (f_X5_takeRunning St St_tape).bind (fun q1 =>
    (if q1.1 = 0 then
      some ((0 : Int32), q1.2.1, St_evidence, St_rows, q1.2.2)
      else
      (f_X5_takeLineEnd q1.2.1 q1.2.2).bind (fun q2 =>
        (if q2.1 = 0 then
          some ((0 : Int32), q2.2.1, St_evidence, St_rows, q2.2.2)
          else
          some ((1 : Int32), q2.2.1, St_evidence, St_rows, q2.2.2)))))
set_option maxHeartbeats 4000000 in
set_option maxRecDepth 100000 in
theorem w_X5_readLine_202 {p : Program} {e : Env} {s : State} {m : MethodId} {below : List Frame} {meth : Method} {c : Code} {A : Nat → Prop} {D : va_G} {cy : Nat → ClassId} {args : Array Value} {r : Int32 × SRd × SEv × SRows × STape} (l : Launch) (E : zEn) (ht : Nat → Nat) (ht_rows : Nat → Nat) (ht_evidence : Nat → Nat) (ht_tape : Nat → Nat) (C : zX p s m meth c cX5_readLine 1 args RX5 (some FieldType.boolean) A D (zty cy)) (hE : zE E A s s.heap) :
    ∀ (St : SRd) (St_evidence : SEv) (St_rows : SRows) (St_tape : STape) (H : Heap) (locs : List Loc) (ls : Array Slot), b_X5_readLine_202 St St_evidence St_rows St_tape = some r → va_P D vwCl (wRd ht (ht_rows 0) (ht_evidence 0) (ht_tape 0) E.2.2.1 cy St ++ (wEv ht_evidence cy St_evidence ++ (wRows ht_rows cy St_rows ++ (wTape ht_tape cy St_tape)))) H → va_D A (wRd ht (ht_rows 0) (ht_evidence 0) (ht_tape 0) E.2.2.1 cy St ++ (wEv ht_evidence cy St_evidence ++ (wRows ht_rows cy St_rows ++ (wTape ht_tape cy St_tape)))) → va_S A s.heap H locs → lv_has ls 1 [(0, .ref (ht 0))] → W p l e (zRm 8 169) s m args below meth c H locs 0 0 (MQ below (zQI D (zty cy) A (wRd ht (ht_rows 0) (ht_evidence 0) (ht_tape 0) E.2.2.1 cy r.2.1 ++ (wEv ht_evidence cy r.2.2.1 ++ (wRows ht_rows cy r.2.2.2.1 ++ (wTape ht_tape cy r.2.2.2.2)))) r.1) args s 0 0 A) (F0 m 202 ls []) := by
  obtain ⟨hx, hb, hr, hts, hown, hlocks, hml, hA, hK⟩ := id C
  intro St St_evidence St_rows St_tape H locs ls hf hP hD hS hl
  refine lv_aload_n hx hb dX5_readLine_202 rfl (lv_at hl 0 rfl) ?_
  obtain ⟨q1, hc, hf⟩ := zbd hf
  refine z_cVis (As := []) (rest := []) C hE (c_X5_takeRunning l D cy E ht ht_rows ht_evidence ht_tape St St_tape q1 hc) gV_X5_X5_takeRunning hd_X5_takeRunning ⟨Nat.le_of_ble_eq_true rfl, Nat.le_of_ble_eq_true rfl⟩ ⟨Nat.le_refl _, Nat.le_refl _⟩ (va_recv hK hP (ci := 2) (q0 := 0) rfl rfl) hP hD hS (w2 := wRd ht (ht_rows 0) (ht_evidence 0) (ht_tape 0) E.2.2.1 cy q1.2.1 ++ (wEv ht_evidence cy St_evidence ++ (wRows ht_rows cy St_rows ++ (wTape ht_tape cy q1.2.2)))) [0, 1, 2, 3, 4, 18, 19] [5, 6, 7, 8, 9, 10, 11, 12, 13, 14, 15, 16, 17] [13, 14, 15, 16, 17, 0, 1, 2, 3, 4, 5, 6, 7, 8, 9, 10, 11, 12, 18, 19] rfl rfl rfl rfl rfl rfl (by decide) hl.1 (Nat.le_of_ble_eq_true rfl) dX5_readLine_203 (fun H locs hP hD hS => ?_)
  refine z_if_eq (tgt := 220) hx hb dX5_readLine_206 (by decide) hf (fun hf => ?_) (fun hf => ?_)
  · refine lv_iconst (v := (0 : Int32)) hx hb dX5_readLine_220 (by decide) ?_
    obtain rfl := Option.some.inj hf
    exact z_zret (v := (0 : Int32)) C rfl hP hD hS dX5_readLine_221
  · refine lv_aload_n hx hb dX5_readLine_209 rfl (lv_at hl 0 rfl) ?_
    obtain ⟨q2, hc, hf⟩ := zbd hf
    refine z_cVi (As := []) (rest := []) C (c_X5_takeLineEnd l D cy ht ht_rows ht_evidence ht_tape E.2.2.1 q1.2.1 q1.2.2 q2 hc) gV_X5_X5_takeLineEnd hd_X5_takeLineEnd ⟨Nat.le_of_ble_eq_true rfl, Nat.le_of_ble_eq_true rfl⟩ ⟨Nat.le_refl _, Nat.le_refl _⟩ (va_recv hK hP (ci := 2) (q0 := 0) rfl rfl) hP hD hS (w2 := wRd ht (ht_rows 0) (ht_evidence 0) (ht_tape 0) E.2.2.1 cy q2.2.1 ++ (wEv ht_evidence cy St_evidence ++ (wRows ht_rows cy St_rows ++ (wTape ht_tape cy q2.2.2)))) [0, 1, 2, 3, 4, 18, 19] [5, 6, 7, 8, 9, 10, 11, 12, 13, 14, 15, 16, 17] [13, 14, 15, 16, 17, 0, 1, 2, 3, 4, 5, 6, 7, 8, 9, 10, 11, 12, 18, 19] rfl rfl rfl rfl rfl rfl (by decide) hl.1 (Nat.le_of_ble_eq_true rfl) dX5_readLine_210 (fun H locs hP hD hS => ?_)
    refine z_if_eq (tgt := 220) hx hb dX5_readLine_213 (by decide) hf (fun hf => ?_) (fun hf => ?_)
    · refine lv_iconst (v := (0 : Int32)) hx hb dX5_readLine_220 (by decide) ?_
      obtain rfl := Option.some.inj hf
      exact z_zret (v := (0 : Int32)) C rfl hP hD hS dX5_readLine_221
    · refine lv_iconst (v := (1 : Int32)) hx hb dX5_readLine_216 (by decide) ?_
      refine lv_goto (tgt := 221) hx hb dX5_readLine_217 (by decide) ?_
      obtain rfl := Option.some.inj hf
      exact z_zret (v := (1 : Int32)) C rfl hP hD hS dX5_readLine_221
def f_X5_readLine (St : SRd) (St_evidence : SEv) (St_rows : SRows) (St_tape : STape) : Option (Int32 × SRd × SEv × SRows × STape) :=
  (f_X7_reserved St_tape).bind (fun q3 =>
    (if q3 = none then
      (f_X5_fail (mkRd (Rd_fault St) (Rd_place St) (Rd_nameCount St) (Rd_names St) (Rd_nameStamps St) (Rd_nameSlots St) (Rd_unsureNames St) (Rd_unsureCount St) q3 (Rd_name St) (Rd_row St) (Rd_whole St)) St_tape (1 : Int32)).bind (fun q4 =>
        (if zbo q4.1 then some (q4.1, q4.2, St_evidence, St_rows, St_tape) else none))
      else
      (if q3.getD 0 < 11 then (if q3 = some 10 then
          (f_X5_fail (mkRd (Rd_fault St) (Rd_place St) (Rd_nameCount St) (Rd_names St) (Rd_nameStamps St) (Rd_nameSlots St) (Rd_unsureNames St) (Rd_unsureCount St) q3 (Rd_name St) (Rd_row St) (Rd_whole St)) St_tape (1 : Int32)).bind (fun q22 =>
            (if zbo q22.1 then some (q22.1, q22.2, St_evidence, St_rows, St_tape) else none))
          else
          (if q3.getD 0 < 11 then (if q3 = some 0 then
              (f_X5_isStored (mkRd (Rd_fault St) (Rd_place St) (Rd_nameCount St) (Rd_names St) (Rd_nameStamps St) (Rd_nameSlots St) (Rd_unsureNames St) (Rd_unsureCount St) q3 (Rd_name St) (Rd_row St) (Rd_whole St)) St_rows).bind (fun q19 =>
                (if q19 = 0 then
                  (f_X5_readHead (mkRd (Rd_fault St) (Rd_place St) (Rd_nameCount St) (Rd_names St) (Rd_nameStamps St) (Rd_nameSlots St) (Rd_unsureNames St) (Rd_unsureCount St) q3 (Rd_name St) (Rd_row St) (Rd_whole St)) St_rows St_tape).bind (fun q20 =>
                    (if zbo q20.1 then some (q20.1, q20.2.1, St_evidence, q20.2.2.1, q20.2.2.2) else none))
                  else
                  (f_X5_fail (mkRd (Rd_fault St) (Rd_place St) (Rd_nameCount St) (Rd_names St) (Rd_nameStamps St) (Rd_nameSlots St) (Rd_unsureNames St) (Rd_unsureCount St) q3 (Rd_name St) (Rd_row St) (Rd_whole St)) St_tape (3 : Int32)).bind (fun q21 =>
                    (if zbo q21.1 then some (q21.1, q21.2, St_evidence, St_rows, St_tape) else none))))
              else
              (f_X5_isStored (mkRd (Rd_fault St) (Rd_place St) (Rd_nameCount St) (Rd_names St) (Rd_nameStamps St) (Rd_nameSlots St) (Rd_unsureNames St) (Rd_unsureCount St) q3 (Rd_name St) (Rd_row St) (Rd_whole St)) St_rows).bind (fun q5 =>
                (if q5 = 0 then
                  (f_X5_fail (mkRd (Rd_fault St) (Rd_place St) (Rd_nameCount St) (Rd_names St) (Rd_nameStamps St) (Rd_nameSlots St) (Rd_unsureNames St) (Rd_unsureCount St) q3 (Rd_name St) (Rd_row St) (Rd_whole St)) St_tape (6 : Int32)).bind (fun q18 =>
                    (if zbo q18.1 then some (q18.1, q18.2, St_evidence, St_rows, St_tape) else none))
                  else
                  (if q3.getD 11 < 11 then (f_Jx29ce0_ordinal_8abf5 (q3.getD 0)).bind (fun q6 =>
                      (if zib q6 11 then (if (swM.getD q6.toNatClampNeg 0) = 1 then
                          (f_X5_readBegin (mkRd (Rd_fault St) (Rd_place St) (Rd_nameCount St) (Rd_names St) (Rd_nameStamps St) (Rd_nameSlots St) (Rd_unsureNames St) (Rd_unsureCount St) q3 (Rd_name St) (Rd_row St) (Rd_whole St)) St_tape).bind (fun q7 =>
                            (if zbo q7.1 then some (q7.1, q7.2.1, St_evidence, St_rows, q7.2.2) else none))
                          else
                          (if (swM.getD q6.toNatClampNeg 0) = 2 then
                            (f_X5_takeRunning (mkRd (Rd_fault St) (Rd_place St) (Rd_nameCount St) (Rd_names St) (Rd_nameStamps St) (Rd_nameSlots St) (Rd_unsureNames St) (Rd_unsureCount St) q3 (Rd_name St) (Rd_row St) (Rd_whole St)) St_tape).bind (fun q8 =>
                              (if q8.1 = 0 then
                                some ((0 : Int32), q8.2.1, St_evidence, St_rows, q8.2.2)
                                else
                                (f_X5_takeRow q8.2.1 St_rows q8.2.2).bind (fun q9 =>
                                  (if q9.1 = 0 then
                                    some ((0 : Int32), q9.2.1, St_evidence, St_rows, q9.2.2)
                                    else
                                    (f_X5_takeWhole q9.2.1 q9.2.2 (0 : Int32) (999 : Int32)).bind (fun q10 =>
                                      (if q10.1 = 0 then
                                        some ((0 : Int32), q10.2.1, St_evidence, St_rows, q10.2.2)
                                        else
                                        (f_X5_takeLineEnd q10.2.1 q10.2.2).bind (fun q11 =>
                                          (if q11.1 = 0 then
                                          some ((0 : Int32), q11.2.1, St_evidence, St_rows, q11.2.2)
                                          else
                                          some ((1 : Int32), q11.2.1, St_evidence, St_rows, q11.2.2)))))))))
                            else
                            (if (swM.getD q6.toNatClampNeg 0) = 3 then
                              (f_X5_takeRunning (mkRd (Rd_fault St) (Rd_place St) (Rd_nameCount St) (Rd_names St) (Rd_nameStamps St) (Rd_nameSlots St) (Rd_unsureNames St) (Rd_unsureCount St) q3 (Rd_name St) (Rd_row St) (Rd_whole St)) St_tape).bind (fun q12 =>
                                (if q12.1 = 0 then
                                  some ((0 : Int32), q12.2.1, St_evidence, St_rows, q12.2.2)
                                  else
                                  (f_X5_takeRow q12.2.1 St_rows q12.2.2).bind (fun q13 =>
                                    (if q13.1 = 0 then
                                      some ((0 : Int32), q13.2.1, St_evidence, St_rows, q13.2.2)
                                      else
                                      (f_X5_takeLineEnd q13.2.1 q13.2.2).bind (fun q14 =>
                                        (if q14.1 = 0 then
                                          some ((0 : Int32), q14.2.1, St_evidence, St_rows, q14.2.2)
                                          else
                                          some ((1 : Int32), q14.2.1, St_evidence, St_rows, q14.2.2)))))))
                              else
                              (if (swM.getD q6.toNatClampNeg 0) = 4 then
                                (b_X5_readLine_202 (mkRd (Rd_fault St) (Rd_place St) (Rd_nameCount St) (Rd_names St) (Rd_nameStamps St) (Rd_nameSlots St) (Rd_unsureNames St) (Rd_unsureCount St) q3 (Rd_name St) (Rd_row St) (Rd_whole St)) St_evidence St_rows St_tape)
                                else
                                (if (swM.getD q6.toNatClampNeg 0) = 5 then
                                  (b_X5_readLine_202 (mkRd (Rd_fault St) (Rd_place St) (Rd_nameCount St) (Rd_names St) (Rd_nameStamps St) (Rd_nameSlots St) (Rd_unsureNames St) (Rd_unsureCount St) q3 (Rd_name St) (Rd_row St) (Rd_whole St)) St_evidence St_rows St_tape)
                                  else
                                  (if (swM.getD q6.toNatClampNeg 0) = 6 then
                                    (f_X5_readUnsure (mkRd (Rd_fault St) (Rd_place St) (Rd_nameCount St) (Rd_names St) (Rd_nameStamps St) (Rd_nameSlots St) (Rd_unsureNames St) (Rd_unsureCount St) q3 (Rd_name St) (Rd_row St) (Rd_whole St)) St_tape).bind (fun q15 =>
                                      (if zbo q15.1 then some (q15.1, q15.2.1, St_evidence, St_rows, q15.2.2) else none))
                                    else
                                    (if (swM.getD q6.toNatClampNeg 0) = 7 then
                                      (f_X5_readSeen (mkRd (Rd_fault St) (Rd_place St) (Rd_nameCount St) (Rd_names St) (Rd_nameStamps St) (Rd_nameSlots St) (Rd_unsureNames St) (Rd_unsureCount St) q3 (Rd_name St) (Rd_row St) (Rd_whole St)) St_evidence St_rows St_tape).bind (fun q16 =>
                                        (if zbo q16.1 then some (q16.1, q16.2.1, q16.2.2.1, St_rows, q16.2.2.2) else none))
                                      else
                                      (f_X5_takeLineEnd (mkRd (Rd_fault St) (Rd_place St) (Rd_nameCount St) (Rd_names St) (Rd_nameStamps St) (Rd_nameSlots St) (Rd_unsureNames St) (Rd_unsureCount St) q3 (Rd_name St) (Rd_row St) (Rd_whole St)) St_tape).bind (fun q17 =>
                                        (if zbo q17.1 then some (q17.1, q17.2.1, St_evidence, St_rows, q17.2.2) else none))))))))) else none)) else none)))) else none)) else none)))
set_option maxHeartbeats 4000000 in
set_option maxRecDepth 100000 in
theorem c_X5_readLine (l : Launch) (D : va_G) (cy : Nat → ClassId) (E : zEn) (ht : Nat → Nat) (ht_rows : Nat → Nat) (ht_evidence : Nat → Nat) (ht_tape : Nat → Nat) (St : SRd) (St_evidence : SEv) (St_rows : SRows) (St_tape : STape) (r : Int32 × SRd × SEv × SRows × STape) (hf : f_X5_readLine St St_evidence St_rows St_tape = some r) : zCIs l yX5_readLine cX5_readLine 1 (some FieldType.boolean) 8 169 D (zty cy) E [.ref (ht 0)] (wRd ht (ht_rows 0) (ht_evidence 0) (ht_tape 0) E.2.2.1 cy St ++ (wEv ht_evidence cy St_evidence ++ (wRows ht_rows cy St_rows ++ (wTape ht_tape cy St_tape)))) (wRd ht (ht_rows 0) (ht_evidence 0) (ht_tape 0) E.2.2.1 cy r.2.1 ++ (wEv ht_evidence cy r.2.2.1 ++ (wRows ht_rows cy r.2.2.2.1 ++ (wTape ht_tape cy r.2.2.2.2)))) r.1 := by
  refine zCIs_of (by decide +kernel) (Nat.le_of_ble_eq_true rfl) ?_
  intro p e s m below meth c A ls C hE hP hD hS hl
  generalize hargs : ([.ref (ht 0)] : List Value).toArray = args at C ⊢
  have C : zX p s m meth c cX5_readLine 1 args RX5 (some FieldType.boolean) A D (zty cy) := C
  obtain ⟨hx, hb, hr, hts, hown, hlocks, hml, hA, hK⟩ := id C
  have hl : lv_has ls 1 [(0, .ref (ht 0))] := hl
  generalize hH : s.heap = H at hP ⊢
  have hS : va_S A s.heap H [] := by rw [← hH]; exact hS
  generalize ([] : List Loc) = locs at hS ⊢
  refine lv_aload_n hx hb dX5_readLine_0 rfl (lv_at hl 0 rfl) ?_
  refine lv_aload_n hx hb dX5_readLine_1 rfl (lv_at hl 0 rfl) ?_
  refine va_get (D := D) (ci := 2) (v := .ref (ht_tape 0)) (C := RX5) (T := TX5) (N := 15) hx hb hts in_X5 hown hK hP 0 rfl rfl 4 (by decide) (hts _ q1_185) (fun _ h9 => h9) rfl dX5_readLine_2 ?_
  obtain ⟨q3, hc, hf⟩ := zbd hf
  refine z_cVes (As := []) (rest := [.ref (ht 0)]) C hE (c_X7_reserved l D cy E ht_tape St_tape q3 hc) gV_X5_X7_reserved hd_X7_reserved ⟨Nat.le_of_ble_eq_true rfl, Nat.le_of_ble_eq_true rfl⟩ ⟨Nat.le_refl _, Nat.le_refl _⟩ (va_recv hK hP (ci := 4) (q0 := 18) rfl rfl) hP hD hS (w2 := wRd ht (ht_rows 0) (ht_evidence 0) (ht_tape 0) E.2.2.1 cy St ++ (wEv ht_evidence cy St_evidence ++ (wRows ht_rows cy St_rows ++ (wTape ht_tape cy St_tape)))) [18, 19] [0, 1, 2, 3, 4, 5, 6, 7, 8, 9, 10, 11, 12, 13, 14, 15, 16, 17] [0, 1, 2, 3, 4, 5, 6, 7, 8, 9, 10, 11, 12, 13, 14, 15, 16, 17, 18, 19] rfl rfl rfl rfl rfl rfl (by decide) hl.1 (Nat.le_of_ble_eq_true rfl) dX5_readLine_5 (fun H locs hP hD hS => ?_)
  refine z_put (w2 := vRd ht (ht_rows 0) (ht_evidence 0) (ht_tape 0) E.2.2.1 cy (Rd_fault St) (Rd_place St) (Rd_nameCount St) (Rd_names St) (Rd_nameStamps St) (Rd_nameSlots St) (Rd_unsureNames St) (Rd_unsureCount St) q3 (Rd_name St) (Rd_row St) (Rd_whole St) ++ (wEv ht_evidence cy St_evidence ++ (wRows ht_rows cy St_rows ++ (wTape ht_tape cy St_tape)))) hx hb hts in_X5 tyX5 tyX5_ok nmX5 hown hK hP hD hS 0 rfl rfl 11 (by decide) (hts _ q1_193) (fun _ h9 => h9) rfl (zre_n _ _ _) (zre_f _ _ _) (Nat.le_of_ble_eq_true rfl) dX5_readLine_8 rfl (fun H locs hP hD hS => ?_)
  refine lv_aload_n hx hb dX5_readLine_11 rfl (lv_at hl 0 rfl) ?_
  refine va_get (D := D) (ci := 2) (v := va_re E.2.2.1 q3) (C := RX5) (T := TX5) (N := 15) hx hb hts in_X5 hown hK hP 0 rfl rfl 11 (by decide) (hts _ q1_193) (fun _ h9 => h9) rfl dX5_readLine_12 ?_
  refine z_ifnull (tgt := 28) hx hb dX5_readLine_15 (by decide) hf (fun hf => ?_) (fun hf => ?_)
  · refine lv_aload_n hx hb dX5_readLine_28 rfl (lv_at hl 0 rfl) ?_
    refine lv_iconst (v := (1 : Int32)) hx hb dX5_readLine_29 (by decide) ?_
    obtain ⟨q4, hc, hf⟩ := zbd hf
    rw [← wRd_mk ht] at hP hD
    refine z_cVi (As := [.int (1 : Int32)]) (rest := []) C (c_X5_fail l D cy ht ht_rows ht_evidence ht_tape E.2.2.1 (mkRd (Rd_fault St) (Rd_place St) (Rd_nameCount St) (Rd_names St) (Rd_nameStamps St) (Rd_nameSlots St) (Rd_unsureNames St) (Rd_unsureCount St) q3 (Rd_name St) (Rd_row St) (Rd_whole St)) St_tape (1 : Int32) q4 hc) gV_X5_X5_fail hd_X5_fail ⟨Nat.le_of_ble_eq_true rfl, Nat.le_of_ble_eq_true rfl⟩ ⟨Nat.le_refl _, Nat.le_refl _⟩ (va_recv hK hP (ci := 2) (q0 := 0) rfl rfl) hP hD hS (w2 := wRd ht (ht_rows 0) (ht_evidence 0) (ht_tape 0) E.2.2.1 cy q4.2 ++ (wEv ht_evidence cy St_evidence ++ (wRows ht_rows cy St_rows ++ (wTape ht_tape cy St_tape)))) [0, 1, 2, 3, 4, 18, 19] [5, 6, 7, 8, 9, 10, 11, 12, 13, 14, 15, 16, 17] [13, 14, 15, 16, 17, 0, 1, 2, 3, 4, 5, 6, 7, 8, 9, 10, 11, 12, 18, 19] rfl rfl rfl rfl rfl rfl (by decide) hl.1 (Nat.le_of_ble_eq_true rfl) dX5_readLine_30 (fun H locs hP hD hS => ?_)
    obtain ⟨hz, hf⟩ := zgd hf
    obtain rfl := Option.some.inj hf
    exact z_zret (v := q4.1) C (zbo_n hz) hP hD hS dX5_readLine_33
  · refine lv_aload_n hx hb dX5_readLine_18 rfl (lv_at hl 0 rfl) ?_
    refine va_get (D := D) (ci := 2) (v := va_re E.2.2.1 q3) (C := RX5) (T := TX5) (N := 15) hx hb hts in_X5 hown hK hP 0 rfl rfl 11 (by decide) (hts _ q1_193) (fun _ h9 => h9) rfl dX5_readLine_19 ?_
    refine va_gets (v := .ref (E.2.2.1 10)) hx hb (hE.2.1.1 10 (by decide)).1 hS hown (hts _ q2_155) (fun _ h9 => h9) dX5_readLine_22 ?_
    refine z_acmp_ne (tgt := 34) hx hb hE dX5_readLine_25 (by decide) (by decide) hf (fun hf => ?_) (fun hf => ?_)
    · refine lv_aload_n hx hb dX5_readLine_34 rfl (lv_at hl 0 rfl) ?_
      refine va_get (D := D) (ci := 2) (v := va_re E.2.2.1 q3) (C := RX5) (T := TX5) (N := 15) hx hb hts in_X5 hown hK hP 0 rfl rfl 11 (by decide) (hts _ q1_193) (fun _ h9 => h9) rfl dX5_readLine_35 ?_
      refine va_gets (v := .ref (E.2.2.1 0)) hx hb (hE.2.1.1 0 (by decide)).1 hS hown (hts _ q2_161) (fun _ h9 => h9) dX5_readLine_38 ?_
      refine z_acmp_ne (tgt := 64) hx hb hE dX5_readLine_41 (by decide) (by decide) hf (fun hf => ?_) (fun hf => ?_)
      · refine lv_aload_n hx hb dX5_readLine_64 rfl (lv_at hl 0 rfl) ?_
        obtain ⟨q5, hc, hf⟩ := zbd hf
        rw [← wRd_mk ht] at hP hD
        refine z_cVi (As := []) (rest := []) C (c_X5_isStored l D cy ht ht_rows ht_evidence ht_tape E.2.2.1 (mkRd (Rd_fault St) (Rd_place St) (Rd_nameCount St) (Rd_names St) (Rd_nameStamps St) (Rd_nameSlots St) (Rd_unsureNames St) (Rd_unsureCount St) q3 (Rd_name St) (Rd_row St) (Rd_whole St)) St_rows q5 hc) gV_X5_X5_isStored hd_X5_isStored ⟨Nat.le_of_ble_eq_true rfl, Nat.le_of_ble_eq_true rfl⟩ ⟨Nat.le_refl _, Nat.le_refl _⟩ (va_recv hK hP (ci := 2) (q0 := 0) rfl rfl) hP hD hS (w2 := wRd ht (ht_rows 0) (ht_evidence 0) (ht_tape 0) E.2.2.1 cy (mkRd (Rd_fault St) (Rd_place St) (Rd_nameCount St) (Rd_names St) (Rd_nameStamps St) (Rd_nameSlots St) (Rd_unsureNames St) (Rd_unsureCount St) q3 (Rd_name St) (Rd_row St) (Rd_whole St)) ++ (wEv ht_evidence cy St_evidence ++ (wRows ht_rows cy St_rows ++ (wTape ht_tape cy St_tape)))) [0, 1, 2, 3, 4, 10, 11, 12, 13, 14, 15, 16, 17] [5, 6, 7, 8, 9, 18, 19] [7, 8, 9, 10, 11, 0, 1, 2, 3, 4, 12, 13, 14, 15, 16, 17, 18, 19, 5, 6] rfl rfl rfl rfl rfl rfl (by decide) hl.1 (Nat.le_of_ble_eq_true rfl) dX5_readLine_65 (fun H locs hP hD hS => ?_)
        rw [wRd_mk ht] at hP hD
        refine z_if_ne (tgt := 78) hx hb dX5_readLine_68 (by decide) hf (fun hf => ?_) (fun hf => ?_)
        · refine va_gets hx hb hE.2.2.2.2.2.1 hS hown (hts _ q2_189) (fun _ h9 => h9) dX5_readLine_78 ?_
          refine lv_aload_n hx hb dX5_readLine_81 rfl (lv_at hl 0 rfl) ?_
          refine va_get (D := D) (ci := 2) (v := va_re E.2.2.1 q3) (C := RX5) (T := TX5) (N := 15) hx hb hts in_X5 hown hK hP 0 rfl rfl 11 (by decide) (hts _ q1_193) (fun _ h9 => h9) rfl dX5_readLine_82 ?_
          obtain ⟨hg, hf⟩ := zgd hf
          obtain ⟨q6, hc, hf⟩ := zbd hf
          rw [(zre (ad := E.2.2.1) hg).1]
          refine z_ord (rest := [.ref E.2.2.2.2]) C hE (c_Jx29ce0_ordinal_8abf5 l D cy E (q3.getD 0) q6 hc) gU_ord_X5 ⟨Nat.le_of_ble_eq_true rfl, Nat.le_of_ble_eq_true rfl⟩ ⟨Nat.le_refl _, Nat.le_refl _⟩ (zre (ad := E.2.2.1) hg).2 hP hD hS hl.1 (Nat.le_of_ble_eq_true rfl) dX5_readLine_85 (fun H locs hP hD hS => ?_)
          obtain ⟨hg, hf⟩ := zgd hf
          refine va_ti (v := .int (swM.getD q6.toNatClampNeg 0)) hx hb hE.2.2.2.2.2.2.1 hS hg rfl dX5_readLine_88 ?_
          rcases zsw hf with ⟨hq0, hf⟩ | ⟨hq0, hf⟩
          · rw [hq0]
            refine lv_tableIn (tgt := 132) hx hb dX5_readLine_89 (by decide) (by decide) rfl (by decide) ?_
            refine lv_aload_n hx hb dX5_readLine_132 rfl (lv_at hl 0 rfl) ?_
            obtain ⟨q7, hc, hf⟩ := zbd hf
            rw [← wRd_mk ht] at hP hD
            refine z_cVis (As := []) (rest := []) C hE (c_X5_readBegin l D cy E ht ht_rows ht_evidence ht_tape (mkRd (Rd_fault St) (Rd_place St) (Rd_nameCount St) (Rd_names St) (Rd_nameStamps St) (Rd_nameSlots St) (Rd_unsureNames St) (Rd_unsureCount St) q3 (Rd_name St) (Rd_row St) (Rd_whole St)) St_tape q7 hc) gV_X5_X5_readBegin hd_X5_readBegin ⟨Nat.le_of_ble_eq_true rfl, Nat.le_of_ble_eq_true rfl⟩ ⟨Nat.le_refl _, Nat.le_refl _⟩ (va_recv hK hP (ci := 2) (q0 := 0) rfl rfl) hP hD hS (w2 := wRd ht (ht_rows 0) (ht_evidence 0) (ht_tape 0) E.2.2.1 cy q7.2.1 ++ (wEv ht_evidence cy St_evidence ++ (wRows ht_rows cy St_rows ++ (wTape ht_tape cy q7.2.2)))) [0, 1, 2, 3, 4, 18, 19] [5, 6, 7, 8, 9, 10, 11, 12, 13, 14, 15, 16, 17] [13, 14, 15, 16, 17, 0, 1, 2, 3, 4, 5, 6, 7, 8, 9, 10, 11, 12, 18, 19] rfl rfl rfl rfl rfl rfl (by decide) hl.1 (Nat.le_of_ble_eq_true rfl) dX5_readLine_133 (fun H locs hP hD hS => ?_)
            obtain ⟨hz, hf⟩ := zgd hf
            obtain rfl := Option.some.inj hf
            exact z_zret (v := q7.1) C (zbo_n hz) hP hD hS dX5_readLine_136
          ·
            rcases zsw hf with ⟨hq1, hf⟩ | ⟨hq1, hf⟩
            · rw [hq1]
              refine lv_tableIn (tgt := 137) hx hb dX5_readLine_89 (by decide) (by decide) rfl (by decide) ?_
              refine lv_aload_n hx hb dX5_readLine_137 rfl (lv_at hl 0 rfl) ?_
              obtain ⟨q8, hc, hf⟩ := zbd hf
              rw [← wRd_mk ht] at hP hD
              refine z_cVis (As := []) (rest := []) C hE (c_X5_takeRunning l D cy E ht ht_rows ht_evidence ht_tape (mkRd (Rd_fault St) (Rd_place St) (Rd_nameCount St) (Rd_names St) (Rd_nameStamps St) (Rd_nameSlots St) (Rd_unsureNames St) (Rd_unsureCount St) q3 (Rd_name St) (Rd_row St) (Rd_whole St)) St_tape q8 hc) gV_X5_X5_takeRunning hd_X5_takeRunning ⟨Nat.le_of_ble_eq_true rfl, Nat.le_of_ble_eq_true rfl⟩ ⟨Nat.le_refl _, Nat.le_refl _⟩ (va_recv hK hP (ci := 2) (q0 := 0) rfl rfl) hP hD hS (w2 := wRd ht (ht_rows 0) (ht_evidence 0) (ht_tape 0) E.2.2.1 cy q8.2.1 ++ (wEv ht_evidence cy St_evidence ++ (wRows ht_rows cy St_rows ++ (wTape ht_tape cy q8.2.2)))) [0, 1, 2, 3, 4, 18, 19] [5, 6, 7, 8, 9, 10, 11, 12, 13, 14, 15, 16, 17] [13, 14, 15, 16, 17, 0, 1, 2, 3, 4, 5, 6, 7, 8, 9, 10, 11, 12, 18, 19] rfl rfl rfl rfl rfl rfl (by decide) hl.1 (Nat.le_of_ble_eq_true rfl) dX5_readLine_138 (fun H locs hP hD hS => ?_)
              refine z_if_eq (tgt := 173) hx hb dX5_readLine_141 (by decide) hf (fun hf => ?_) (fun hf => ?_)
              · refine lv_iconst (v := (0 : Int32)) hx hb dX5_readLine_173 (by decide) ?_
                obtain rfl := Option.some.inj hf
                exact z_zret (v := (0 : Int32)) C rfl hP hD hS dX5_readLine_174
              · refine lv_aload_n hx hb dX5_readLine_144 rfl (lv_at hl 0 rfl) ?_
                obtain ⟨q9, hc, hf⟩ := zbd hf
                refine z_cVi (As := []) (rest := []) C (c_X5_takeRow l D cy ht ht_rows ht_evidence ht_tape E.2.2.1 q8.2.1 St_rows q8.2.2 q9 hc) gV_X5_X5_takeRow hd_X5_takeRow ⟨Nat.le_of_ble_eq_true rfl, Nat.le_of_ble_eq_true rfl⟩ ⟨Nat.le_refl _, Nat.le_refl _⟩ (va_recv hK hP (ci := 2) (q0 := 0) rfl rfl) hP hD hS (w2 := wRd ht (ht_rows 0) (ht_evidence 0) (ht_tape 0) E.2.2.1 cy q9.2.1 ++ (wEv ht_evidence cy St_evidence ++ (wRows ht_rows cy St_rows ++ (wTape ht_tape cy q9.2.2)))) [0, 1, 2, 3, 4, 10, 11, 12, 13, 14, 15, 16, 17, 18, 19] [5, 6, 7, 8, 9] [5, 6, 7, 8, 9, 0, 1, 2, 3, 4, 10, 11, 12, 13, 14, 15, 16, 17, 18, 19] rfl rfl rfl rfl rfl rfl (by decide) hl.1 (Nat.le_of_ble_eq_true rfl) dX5_readLine_145 (fun H locs hP hD hS => ?_)
                refine z_if_eq (tgt := 173) hx hb dX5_readLine_148 (by decide) hf (fun hf => ?_) (fun hf => ?_)
                · refine lv_iconst (v := (0 : Int32)) hx hb dX5_readLine_173 (by decide) ?_
                  obtain rfl := Option.some.inj hf
                  exact z_zret (v := (0 : Int32)) C rfl hP hD hS dX5_readLine_174
                · refine lv_aload_n hx hb dX5_readLine_151 rfl (lv_at hl 0 rfl) ?_
                  refine lv_iconst (v := (0 : Int32)) hx hb dX5_readLine_152 (by decide) ?_
                  refine lv_sipush (v := (999 : Int32)) hx hb dX5_readLine_153 (by decide) ?_
                  obtain ⟨q10, hc, hf⟩ := zbd hf
                  refine z_cVi (As := [.int (0 : Int32), .int (999 : Int32)]) (rest := []) C (c_X5_takeWhole l D cy ht ht_rows ht_evidence ht_tape E.2.2.1 q9.2.1 q9.2.2 (0 : Int32) (999 : Int32) q10 hc) gV_X5_X5_takeWhole hd_X5_takeWhole ⟨Nat.le_of_ble_eq_true rfl, Nat.le_of_ble_eq_true rfl⟩ ⟨Nat.le_refl _, Nat.le_refl _⟩ (va_recv hK hP (ci := 2) (q0 := 0) rfl rfl) hP hD hS (w2 := wRd ht (ht_rows 0) (ht_evidence 0) (ht_tape 0) E.2.2.1 cy q10.2.1 ++ (wEv ht_evidence cy St_evidence ++ (wRows ht_rows cy St_rows ++ (wTape ht_tape cy q10.2.2)))) [0, 1, 2, 3, 4, 18, 19] [5, 6, 7, 8, 9, 10, 11, 12, 13, 14, 15, 16, 17] [13, 14, 15, 16, 17, 0, 1, 2, 3, 4, 5, 6, 7, 8, 9, 10, 11, 12, 18, 19] rfl rfl rfl rfl rfl rfl (by decide) hl.1 (Nat.le_of_ble_eq_true rfl) dX5_readLine_156 (fun H locs hP hD hS => ?_)
                  refine z_if_eq (tgt := 173) hx hb dX5_readLine_159 (by decide) hf (fun hf => ?_) (fun hf => ?_)
                  · refine lv_iconst (v := (0 : Int32)) hx hb dX5_readLine_173 (by decide) ?_
                    obtain rfl := Option.some.inj hf
                    exact z_zret (v := (0 : Int32)) C rfl hP hD hS dX5_readLine_174
                  · refine lv_aload_n hx hb dX5_readLine_162 rfl (lv_at hl 0 rfl) ?_
                    obtain ⟨q11, hc, hf⟩ := zbd hf
                    refine z_cVi (As := []) (rest := []) C (c_X5_takeLineEnd l D cy ht ht_rows ht_evidence ht_tape E.2.2.1 q10.2.1 q10.2.2 q11 hc) gV_X5_X5_takeLineEnd hd_X5_takeLineEnd ⟨Nat.le_of_ble_eq_true rfl, Nat.le_of_ble_eq_true rfl⟩ ⟨Nat.le_refl _, Nat.le_refl _⟩ (va_recv hK hP (ci := 2) (q0 := 0) rfl rfl) hP hD hS (w2 := wRd ht (ht_rows 0) (ht_evidence 0) (ht_tape 0) E.2.2.1 cy q11.2.1 ++ (wEv ht_evidence cy St_evidence ++ (wRows ht_rows cy St_rows ++ (wTape ht_tape cy q11.2.2)))) [0, 1, 2, 3, 4, 18, 19] [5, 6, 7, 8, 9, 10, 11, 12, 13, 14, 15, 16, 17] [13, 14, 15, 16, 17, 0, 1, 2, 3, 4, 5, 6, 7, 8, 9, 10, 11, 12, 18, 19] rfl rfl rfl rfl rfl rfl (by decide) hl.1 (Nat.le_of_ble_eq_true rfl) dX5_readLine_163 (fun H locs hP hD hS => ?_)
                    refine z_if_eq (tgt := 173) hx hb dX5_readLine_166 (by decide) hf (fun hf => ?_) (fun hf => ?_)
                    · refine lv_iconst (v := (0 : Int32)) hx hb dX5_readLine_173 (by decide) ?_
                      obtain rfl := Option.some.inj hf
                      exact z_zret (v := (0 : Int32)) C rfl hP hD hS dX5_readLine_174
                    · refine lv_iconst (v := (1 : Int32)) hx hb dX5_readLine_169 (by decide) ?_
                      refine lv_goto (tgt := 174) hx hb dX5_readLine_170 (by decide) ?_
                      obtain rfl := Option.some.inj hf
                      exact z_zret (v := (1 : Int32)) C rfl hP hD hS dX5_readLine_174
            ·
              rcases zsw hf with ⟨hq2, hf⟩ | ⟨hq2, hf⟩
              · rw [hq2]
                refine lv_tableIn (tgt := 175) hx hb dX5_readLine_89 (by decide) (by decide) rfl (by decide) ?_
                refine lv_aload_n hx hb dX5_readLine_175 rfl (lv_at hl 0 rfl) ?_
                obtain ⟨q12, hc, hf⟩ := zbd hf
                rw [← wRd_mk ht] at hP hD
                refine z_cVis (As := []) (rest := []) C hE (c_X5_takeRunning l D cy E ht ht_rows ht_evidence ht_tape (mkRd (Rd_fault St) (Rd_place St) (Rd_nameCount St) (Rd_names St) (Rd_nameStamps St) (Rd_nameSlots St) (Rd_unsureNames St) (Rd_unsureCount St) q3 (Rd_name St) (Rd_row St) (Rd_whole St)) St_tape q12 hc) gV_X5_X5_takeRunning hd_X5_takeRunning ⟨Nat.le_of_ble_eq_true rfl, Nat.le_of_ble_eq_true rfl⟩ ⟨Nat.le_refl _, Nat.le_refl _⟩ (va_recv hK hP (ci := 2) (q0 := 0) rfl rfl) hP hD hS (w2 := wRd ht (ht_rows 0) (ht_evidence 0) (ht_tape 0) E.2.2.1 cy q12.2.1 ++ (wEv ht_evidence cy St_evidence ++ (wRows ht_rows cy St_rows ++ (wTape ht_tape cy q12.2.2)))) [0, 1, 2, 3, 4, 18, 19] [5, 6, 7, 8, 9, 10, 11, 12, 13, 14, 15, 16, 17] [13, 14, 15, 16, 17, 0, 1, 2, 3, 4, 5, 6, 7, 8, 9, 10, 11, 12, 18, 19] rfl rfl rfl rfl rfl rfl (by decide) hl.1 (Nat.le_of_ble_eq_true rfl) dX5_readLine_176 (fun H locs hP hD hS => ?_)
                refine z_if_eq (tgt := 200) hx hb dX5_readLine_179 (by decide) hf (fun hf => ?_) (fun hf => ?_)
                · refine lv_iconst (v := (0 : Int32)) hx hb dX5_readLine_200 (by decide) ?_
                  obtain rfl := Option.some.inj hf
                  exact z_zret (v := (0 : Int32)) C rfl hP hD hS dX5_readLine_201
                · refine lv_aload_n hx hb dX5_readLine_182 rfl (lv_at hl 0 rfl) ?_
                  obtain ⟨q13, hc, hf⟩ := zbd hf
                  refine z_cVi (As := []) (rest := []) C (c_X5_takeRow l D cy ht ht_rows ht_evidence ht_tape E.2.2.1 q12.2.1 St_rows q12.2.2 q13 hc) gV_X5_X5_takeRow hd_X5_takeRow ⟨Nat.le_of_ble_eq_true rfl, Nat.le_of_ble_eq_true rfl⟩ ⟨Nat.le_refl _, Nat.le_refl _⟩ (va_recv hK hP (ci := 2) (q0 := 0) rfl rfl) hP hD hS (w2 := wRd ht (ht_rows 0) (ht_evidence 0) (ht_tape 0) E.2.2.1 cy q13.2.1 ++ (wEv ht_evidence cy St_evidence ++ (wRows ht_rows cy St_rows ++ (wTape ht_tape cy q13.2.2)))) [0, 1, 2, 3, 4, 10, 11, 12, 13, 14, 15, 16, 17, 18, 19] [5, 6, 7, 8, 9] [5, 6, 7, 8, 9, 0, 1, 2, 3, 4, 10, 11, 12, 13, 14, 15, 16, 17, 18, 19] rfl rfl rfl rfl rfl rfl (by decide) hl.1 (Nat.le_of_ble_eq_true rfl) dX5_readLine_183 (fun H locs hP hD hS => ?_)
                  refine z_if_eq (tgt := 200) hx hb dX5_readLine_186 (by decide) hf (fun hf => ?_) (fun hf => ?_)
                  · refine lv_iconst (v := (0 : Int32)) hx hb dX5_readLine_200 (by decide) ?_
                    obtain rfl := Option.some.inj hf
                    exact z_zret (v := (0 : Int32)) C rfl hP hD hS dX5_readLine_201
                  · refine lv_aload_n hx hb dX5_readLine_189 rfl (lv_at hl 0 rfl) ?_
                    obtain ⟨q14, hc, hf⟩ := zbd hf
                    refine z_cVi (As := []) (rest := []) C (c_X5_takeLineEnd l D cy ht ht_rows ht_evidence ht_tape E.2.2.1 q13.2.1 q13.2.2 q14 hc) gV_X5_X5_takeLineEnd hd_X5_takeLineEnd ⟨Nat.le_of_ble_eq_true rfl, Nat.le_of_ble_eq_true rfl⟩ ⟨Nat.le_refl _, Nat.le_refl _⟩ (va_recv hK hP (ci := 2) (q0 := 0) rfl rfl) hP hD hS (w2 := wRd ht (ht_rows 0) (ht_evidence 0) (ht_tape 0) E.2.2.1 cy q14.2.1 ++ (wEv ht_evidence cy St_evidence ++ (wRows ht_rows cy St_rows ++ (wTape ht_tape cy q14.2.2)))) [0, 1, 2, 3, 4, 18, 19] [5, 6, 7, 8, 9, 10, 11, 12, 13, 14, 15, 16, 17] [13, 14, 15, 16, 17, 0, 1, 2, 3, 4, 5, 6, 7, 8, 9, 10, 11, 12, 18, 19] rfl rfl rfl rfl rfl rfl (by decide) hl.1 (Nat.le_of_ble_eq_true rfl) dX5_readLine_190 (fun H locs hP hD hS => ?_)
                    refine z_if_eq (tgt := 200) hx hb dX5_readLine_193 (by decide) hf (fun hf => ?_) (fun hf => ?_)
                    · refine lv_iconst (v := (0 : Int32)) hx hb dX5_readLine_200 (by decide) ?_
                      obtain rfl := Option.some.inj hf
                      exact z_zret (v := (0 : Int32)) C rfl hP hD hS dX5_readLine_201
                    · refine lv_iconst (v := (1 : Int32)) hx hb dX5_readLine_196 (by decide) ?_
                      refine lv_goto (tgt := 201) hx hb dX5_readLine_197 (by decide) ?_
                      obtain rfl := Option.some.inj hf
                      exact z_zret (v := (1 : Int32)) C rfl hP hD hS dX5_readLine_201
              ·
                rcases zsw hf with ⟨hq3, hf⟩ | ⟨hq3, hf⟩
                · rw [hq3]
                  refine lv_tableIn (tgt := 202) hx hb dX5_readLine_89 (by decide) (by decide) rfl (by decide) ?_
                  rw [← wRd_mk ht] at hP hD
                  exact w_X5_readLine_202 l E ht ht_rows ht_evidence ht_tape C hE (mkRd (Rd_fault St) (Rd_place St) (Rd_nameCount St) (Rd_names St) (Rd_nameStamps St) (Rd_nameSlots St) (Rd_unsureNames St) (Rd_unsureCount St) q3 (Rd_name St) (Rd_row St) (Rd_whole St)) St_evidence St_rows St_tape H locs ls hf hP hD hS (lv_sub hl [0] rfl)
                ·
                  rcases zsw hf with ⟨hq4, hf⟩ | ⟨hq4, hf⟩
                  · rw [hq4]
                    refine lv_tableIn (tgt := 202) hx hb dX5_readLine_89 (by decide) (by decide) rfl (by decide) ?_
                    rw [← wRd_mk ht] at hP hD
                    exact w_X5_readLine_202 l E ht ht_rows ht_evidence ht_tape C hE (mkRd (Rd_fault St) (Rd_place St) (Rd_nameCount St) (Rd_names St) (Rd_nameStamps St) (Rd_nameSlots St) (Rd_unsureNames St) (Rd_unsureCount St) q3 (Rd_name St) (Rd_row St) (Rd_whole St)) St_evidence St_rows St_tape H locs ls hf hP hD hS (lv_sub hl [0] rfl)
                  ·
                    rcases zsw hf with ⟨hq5, hf⟩ | ⟨hq5, hf⟩
                    · rw [hq5]
                      refine lv_tableIn (tgt := 222) hx hb dX5_readLine_89 (by decide) (by decide) rfl (by decide) ?_
                      refine lv_aload_n hx hb dX5_readLine_222 rfl (lv_at hl 0 rfl) ?_
                      obtain ⟨q15, hc, hf⟩ := zbd hf
                      rw [← wRd_mk ht] at hP hD
                      refine z_cVis (As := []) (rest := []) C hE (c_X5_readUnsure l D cy E ht ht_rows ht_evidence ht_tape (mkRd (Rd_fault St) (Rd_place St) (Rd_nameCount St) (Rd_names St) (Rd_nameStamps St) (Rd_nameSlots St) (Rd_unsureNames St) (Rd_unsureCount St) q3 (Rd_name St) (Rd_row St) (Rd_whole St)) St_tape q15 hc) gV_X5_X5_readUnsure hd_X5_readUnsure ⟨Nat.le_of_ble_eq_true rfl, Nat.le_of_ble_eq_true rfl⟩ ⟨Nat.le_refl _, Nat.le_refl _⟩ (va_recv hK hP (ci := 2) (q0 := 0) rfl rfl) hP hD hS (w2 := wRd ht (ht_rows 0) (ht_evidence 0) (ht_tape 0) E.2.2.1 cy q15.2.1 ++ (wEv ht_evidence cy St_evidence ++ (wRows ht_rows cy St_rows ++ (wTape ht_tape cy q15.2.2)))) [0, 1, 2, 3, 4, 18, 19] [5, 6, 7, 8, 9, 10, 11, 12, 13, 14, 15, 16, 17] [13, 14, 15, 16, 17, 0, 1, 2, 3, 4, 5, 6, 7, 8, 9, 10, 11, 12, 18, 19] rfl rfl rfl rfl rfl rfl (by decide) hl.1 (Nat.le_of_ble_eq_true rfl) dX5_readLine_223 (fun H locs hP hD hS => ?_)
                      obtain ⟨hz, hf⟩ := zgd hf
                      obtain rfl := Option.some.inj hf
                      exact z_zret (v := q15.1) C (zbo_n hz) hP hD hS dX5_readLine_226
                    ·
                      rcases zsw hf with ⟨hq6, hf⟩ | ⟨hq6, hf⟩
                      · rw [hq6]
                        refine lv_tableIn (tgt := 227) hx hb dX5_readLine_89 (by decide) (by decide) rfl (by decide) ?_
                        refine lv_aload_n hx hb dX5_readLine_227 rfl (lv_at hl 0 rfl) ?_
                        obtain ⟨q16, hc, hf⟩ := zbd hf
                        rw [← wRd_mk ht] at hP hD
                        refine z_cVis0 (As := []) (rest := []) C hE (c_X5_readSeen l D cy E ht ht_rows ht_evidence ht_tape (mkRd (Rd_fault St) (Rd_place St) (Rd_nameCount St) (Rd_names St) (Rd_nameStamps St) (Rd_nameSlots St) (Rd_unsureNames St) (Rd_unsureCount St) q3 (Rd_name St) (Rd_row St) (Rd_whole St)) St_evidence St_rows St_tape q16 hc) gV_X5_X5_readSeen hd_X5_readSeen ⟨Nat.le_of_ble_eq_true rfl, Nat.le_of_ble_eq_true rfl⟩ ⟨Nat.le_refl _, Nat.le_refl _⟩ (va_recv hK hP (ci := 2) (q0 := 0) rfl rfl) hP hD hS hl.1 (Nat.le_of_ble_eq_true rfl) dX5_readLine_228 (fun H locs hP hD hS => ?_)
                        have hP : va_P D vwCl (wRd ht (ht_rows 0) (ht_evidence 0) (ht_tape 0) E.2.2.1 cy q16.2.1 ++ (wEv ht_evidence cy q16.2.2.1 ++ (wRows ht_rows cy St_rows ++ (wTape ht_tape cy q16.2.2.2)))) H := hP
                        have hD : va_D A (wRd ht (ht_rows 0) (ht_evidence 0) (ht_tape 0) E.2.2.1 cy q16.2.1 ++ (wEv ht_evidence cy q16.2.2.1 ++ (wRows ht_rows cy St_rows ++ (wTape ht_tape cy q16.2.2.2)))) := hD
                        obtain ⟨hz, hf⟩ := zgd hf
                        obtain rfl := Option.some.inj hf
                        exact z_zret (v := q16.1) C (zbo_n hz) hP hD hS dX5_readLine_231
                      · refine lv_tableOut (tgt := 232) hx hb dX5_readLine_89 (zsw_out7_1 hq0 hq1 hq2 hq3 hq4 hq5 hq6) (by decide) ?_
                        refine lv_aload_n hx hb dX5_readLine_232 rfl (lv_at hl 0 rfl) ?_
                        obtain ⟨q17, hc, hf⟩ := zbd hf
                        rw [← wRd_mk ht] at hP hD
                        refine z_cVi (As := []) (rest := []) C (c_X5_takeLineEnd l D cy ht ht_rows ht_evidence ht_tape E.2.2.1 (mkRd (Rd_fault St) (Rd_place St) (Rd_nameCount St) (Rd_names St) (Rd_nameStamps St) (Rd_nameSlots St) (Rd_unsureNames St) (Rd_unsureCount St) q3 (Rd_name St) (Rd_row St) (Rd_whole St)) St_tape q17 hc) gV_X5_X5_takeLineEnd hd_X5_takeLineEnd ⟨Nat.le_of_ble_eq_true rfl, Nat.le_of_ble_eq_true rfl⟩ ⟨Nat.le_refl _, Nat.le_refl _⟩ (va_recv hK hP (ci := 2) (q0 := 0) rfl rfl) hP hD hS (w2 := wRd ht (ht_rows 0) (ht_evidence 0) (ht_tape 0) E.2.2.1 cy q17.2.1 ++ (wEv ht_evidence cy St_evidence ++ (wRows ht_rows cy St_rows ++ (wTape ht_tape cy q17.2.2)))) [0, 1, 2, 3, 4, 18, 19] [5, 6, 7, 8, 9, 10, 11, 12, 13, 14, 15, 16, 17] [13, 14, 15, 16, 17, 0, 1, 2, 3, 4, 5, 6, 7, 8, 9, 10, 11, 12, 18, 19] rfl rfl rfl rfl rfl rfl (by decide) hl.1 (Nat.le_of_ble_eq_true rfl) dX5_readLine_233 (fun H locs hP hD hS => ?_)
                        obtain ⟨hz, hf⟩ := zgd hf
                        obtain rfl := Option.some.inj hf
                        exact z_zret (v := q17.1) C (zbo_n hz) hP hD hS dX5_readLine_236
        · refine lv_aload_n hx hb dX5_readLine_71 rfl (lv_at hl 0 rfl) ?_
          refine lv_bipush (v := (6 : Int32)) hx hb dX5_readLine_72 (by decide) ?_
          obtain ⟨q18, hc, hf⟩ := zbd hf
          rw [← wRd_mk ht] at hP hD
          refine z_cVi (As := [.int (6 : Int32)]) (rest := []) C (c_X5_fail l D cy ht ht_rows ht_evidence ht_tape E.2.2.1 (mkRd (Rd_fault St) (Rd_place St) (Rd_nameCount St) (Rd_names St) (Rd_nameStamps St) (Rd_nameSlots St) (Rd_unsureNames St) (Rd_unsureCount St) q3 (Rd_name St) (Rd_row St) (Rd_whole St)) St_tape (6 : Int32) q18 hc) gV_X5_X5_fail hd_X5_fail ⟨Nat.le_of_ble_eq_true rfl, Nat.le_of_ble_eq_true rfl⟩ ⟨Nat.le_refl _, Nat.le_refl _⟩ (va_recv hK hP (ci := 2) (q0 := 0) rfl rfl) hP hD hS (w2 := wRd ht (ht_rows 0) (ht_evidence 0) (ht_tape 0) E.2.2.1 cy q18.2 ++ (wEv ht_evidence cy St_evidence ++ (wRows ht_rows cy St_rows ++ (wTape ht_tape cy St_tape)))) [0, 1, 2, 3, 4, 18, 19] [5, 6, 7, 8, 9, 10, 11, 12, 13, 14, 15, 16, 17] [13, 14, 15, 16, 17, 0, 1, 2, 3, 4, 5, 6, 7, 8, 9, 10, 11, 12, 18, 19] rfl rfl rfl rfl rfl rfl (by decide) hl.1 (Nat.le_of_ble_eq_true rfl) dX5_readLine_74 (fun H locs hP hD hS => ?_)
          obtain ⟨hz, hf⟩ := zgd hf
          obtain rfl := Option.some.inj hf
          exact z_zret (v := q18.1) C (zbo_n hz) hP hD hS dX5_readLine_77
      · refine lv_aload_n hx hb dX5_readLine_44 rfl (lv_at hl 0 rfl) ?_
        obtain ⟨q19, hc, hf⟩ := zbd hf
        rw [← wRd_mk ht] at hP hD
        refine z_cVi (As := []) (rest := []) C (c_X5_isStored l D cy ht ht_rows ht_evidence ht_tape E.2.2.1 (mkRd (Rd_fault St) (Rd_place St) (Rd_nameCount St) (Rd_names St) (Rd_nameStamps St) (Rd_nameSlots St) (Rd_unsureNames St) (Rd_unsureCount St) q3 (Rd_name St) (Rd_row St) (Rd_whole St)) St_rows q19 hc) gV_X5_X5_isStored hd_X5_isStored ⟨Nat.le_of_ble_eq_true rfl, Nat.le_of_ble_eq_true rfl⟩ ⟨Nat.le_refl _, Nat.le_refl _⟩ (va_recv hK hP (ci := 2) (q0 := 0) rfl rfl) hP hD hS (w2 := wRd ht (ht_rows 0) (ht_evidence 0) (ht_tape 0) E.2.2.1 cy (mkRd (Rd_fault St) (Rd_place St) (Rd_nameCount St) (Rd_names St) (Rd_nameStamps St) (Rd_nameSlots St) (Rd_unsureNames St) (Rd_unsureCount St) q3 (Rd_name St) (Rd_row St) (Rd_whole St)) ++ (wEv ht_evidence cy St_evidence ++ (wRows ht_rows cy St_rows ++ (wTape ht_tape cy St_tape)))) [0, 1, 2, 3, 4, 10, 11, 12, 13, 14, 15, 16, 17] [5, 6, 7, 8, 9, 18, 19] [7, 8, 9, 10, 11, 0, 1, 2, 3, 4, 12, 13, 14, 15, 16, 17, 18, 19, 5, 6] rfl rfl rfl rfl rfl rfl (by decide) hl.1 (Nat.le_of_ble_eq_true rfl) dX5_readLine_45 (fun H locs hP hD hS => ?_)
        rw [wRd_mk ht] at hP hD
        refine z_if_eq (tgt := 59) hx hb dX5_readLine_48 (by decide) hf (fun hf => ?_) (fun hf => ?_)
        · refine lv_aload_n hx hb dX5_readLine_59 rfl (lv_at hl 0 rfl) ?_
          obtain ⟨q20, hc, hf⟩ := zbd hf
          rw [← wRd_mk ht] at hP hD
          refine z_cVis (As := []) (rest := []) C hE (c_X5_readHead l D cy E ht ht_rows ht_evidence ht_tape (mkRd (Rd_fault St) (Rd_place St) (Rd_nameCount St) (Rd_names St) (Rd_nameStamps St) (Rd_nameSlots St) (Rd_unsureNames St) (Rd_unsureCount St) q3 (Rd_name St) (Rd_row St) (Rd_whole St)) St_rows St_tape q20 hc) gV_X5_X5_readHead hd_X5_readHead ⟨Nat.le_of_ble_eq_true rfl, Nat.le_of_ble_eq_true rfl⟩ ⟨Nat.le_refl _, Nat.le_refl _⟩ (va_recv hK hP (ci := 2) (q0 := 0) rfl rfl) hP hD hS (w2 := wRd ht (ht_rows 0) (ht_evidence 0) (ht_tape 0) E.2.2.1 cy q20.2.1 ++ (wEv ht_evidence cy St_evidence ++ (wRows ht_rows cy q20.2.2.1 ++ (wTape ht_tape cy q20.2.2.2)))) [0, 1, 2, 3, 4, 10, 11, 12, 13, 14, 15, 16, 17, 18, 19] [5, 6, 7, 8, 9] [5, 6, 7, 8, 9, 0, 1, 2, 3, 4, 10, 11, 12, 13, 14, 15, 16, 17, 18, 19] rfl rfl rfl rfl rfl rfl (by decide) hl.1 (Nat.le_of_ble_eq_true rfl) dX5_readLine_60 (fun H locs hP hD hS => ?_)
          obtain ⟨hz, hf⟩ := zgd hf
          obtain rfl := Option.some.inj hf
          exact z_zret (v := q20.1) C (zbo_n hz) hP hD hS dX5_readLine_63
        · refine lv_aload_n hx hb dX5_readLine_51 rfl (lv_at hl 0 rfl) ?_
          refine lv_iconst (v := (3 : Int32)) hx hb dX5_readLine_52 (by decide) ?_
          obtain ⟨q21, hc, hf⟩ := zbd hf
          rw [← wRd_mk ht] at hP hD
          refine z_cVi (As := [.int (3 : Int32)]) (rest := []) C (c_X5_fail l D cy ht ht_rows ht_evidence ht_tape E.2.2.1 (mkRd (Rd_fault St) (Rd_place St) (Rd_nameCount St) (Rd_names St) (Rd_nameStamps St) (Rd_nameSlots St) (Rd_unsureNames St) (Rd_unsureCount St) q3 (Rd_name St) (Rd_row St) (Rd_whole St)) St_tape (3 : Int32) q21 hc) gV_X5_X5_fail hd_X5_fail ⟨Nat.le_of_ble_eq_true rfl, Nat.le_of_ble_eq_true rfl⟩ ⟨Nat.le_refl _, Nat.le_refl _⟩ (va_recv hK hP (ci := 2) (q0 := 0) rfl rfl) hP hD hS (w2 := wRd ht (ht_rows 0) (ht_evidence 0) (ht_tape 0) E.2.2.1 cy q21.2 ++ (wEv ht_evidence cy St_evidence ++ (wRows ht_rows cy St_rows ++ (wTape ht_tape cy St_tape)))) [0, 1, 2, 3, 4, 18, 19] [5, 6, 7, 8, 9, 10, 11, 12, 13, 14, 15, 16, 17] [13, 14, 15, 16, 17, 0, 1, 2, 3, 4, 5, 6, 7, 8, 9, 10, 11, 12, 18, 19] rfl rfl rfl rfl rfl rfl (by decide) hl.1 (Nat.le_of_ble_eq_true rfl) dX5_readLine_53 (fun H locs hP hD hS => ?_)
          refine lv_goto (tgt := 63) hx hb dX5_readLine_56 (by decide) ?_
          obtain ⟨hz, hf⟩ := zgd hf
          obtain rfl := Option.some.inj hf
          exact z_zret (v := q21.1) C (zbo_n hz) hP hD hS dX5_readLine_63
    · refine lv_aload_n hx hb dX5_readLine_28 rfl (lv_at hl 0 rfl) ?_
      refine lv_iconst (v := (1 : Int32)) hx hb dX5_readLine_29 (by decide) ?_
      obtain ⟨q22, hc, hf⟩ := zbd hf
      rw [← wRd_mk ht] at hP hD
      refine z_cVi (As := [.int (1 : Int32)]) (rest := []) C (c_X5_fail l D cy ht ht_rows ht_evidence ht_tape E.2.2.1 (mkRd (Rd_fault St) (Rd_place St) (Rd_nameCount St) (Rd_names St) (Rd_nameStamps St) (Rd_nameSlots St) (Rd_unsureNames St) (Rd_unsureCount St) q3 (Rd_name St) (Rd_row St) (Rd_whole St)) St_tape (1 : Int32) q22 hc) gV_X5_X5_fail hd_X5_fail ⟨Nat.le_of_ble_eq_true rfl, Nat.le_of_ble_eq_true rfl⟩ ⟨Nat.le_refl _, Nat.le_refl _⟩ (va_recv hK hP (ci := 2) (q0 := 0) rfl rfl) hP hD hS (w2 := wRd ht (ht_rows 0) (ht_evidence 0) (ht_tape 0) E.2.2.1 cy q22.2 ++ (wEv ht_evidence cy St_evidence ++ (wRows ht_rows cy St_rows ++ (wTape ht_tape cy St_tape)))) [0, 1, 2, 3, 4, 18, 19] [5, 6, 7, 8, 9, 10, 11, 12, 13, 14, 15, 16, 17] [13, 14, 15, 16, 17, 0, 1, 2, 3, 4, 5, 6, 7, 8, 9, 10, 11, 12, 18, 19] rfl rfl rfl rfl rfl rfl (by decide) hl.1 (Nat.le_of_ble_eq_true rfl) dX5_readLine_30 (fun H locs hP hD hS => ?_)
      obtain ⟨hz, hf⟩ := zgd hf
      obtain rfl := Option.some.inj hf
      exact z_zret (v := q22.1) C (zbo_n hz) hP hD hS dX5_readLine_33
def b_X5_doAct_183 (St : SRd) (St_rows : SRows) : Option (Int32 × SRd × SRows) :=
  (if (Rd_head St).getD 0 < 11 then (if (Rd_head St) = some 4 then
      (f_X5_endNamed St St_rows (1 : Int32)).bind (fun q2 =>
        (if zbo q2.1 then some (q2.1, q2.2.1, q2.2.2) else none))
      else
      (f_X5_endNamed St St_rows (0 : Int32)).bind (fun q1 =>
        (if zbo q1.1 then some (q1.1, q1.2.1, q1.2.2) else none))) else none)
set_option maxHeartbeats 4000000 in
set_option maxRecDepth 100000 in
theorem w_X5_doAct_183 {p : Program} {e : Env} {s : State} {m : MethodId} {below : List Frame} {meth : Method} {c : Code} {A : Nat → Prop} {D : va_G} {cy : Nat → ClassId} {args : Array Value} {r : Int32 × SRd × SRows} (l : Launch) (E : zEn) (ht : Nat → Nat) (ht_rows : Nat → Nat) (ht_evidence : Nat → Nat) (ht_tape : Nat → Nat) (C : zX p s m meth c cX5_doAct 2 args RX5 (some FieldType.boolean) A D (zty cy)) (hE : zE E A s s.heap) :
    ∀ (St : SRd) (St_rows : SRows) (H : Heap) (locs : List Loc) (ls : Array Slot), b_X5_doAct_183 St St_rows = some r → va_P D vwCl (wRd ht (ht_rows 0) (ht_evidence 0) (ht_tape 0) E.2.2.1 cy St ++ (wRows ht_rows cy St_rows)) H → va_D A (wRd ht (ht_rows 0) (ht_evidence 0) (ht_tape 0) E.2.2.1 cy St ++ (wRows ht_rows cy St_rows)) → va_S A s.heap H locs → lv_has ls 2 [(0, .ref (ht 0))] → W p l e (zRm 5 121) s m args below meth c H locs 0 0 (MQ below (zQI D (zty cy) A (wRd ht (ht_rows 0) (ht_evidence 0) (ht_tape 0) E.2.2.1 cy r.2.1 ++ (wRows ht_rows cy r.2.2)) r.1) args s 0 0 A) (F0 m 183 ls []) := by
  obtain ⟨hx, hb, hr, hts, hown, hlocks, hml, hA, hK⟩ := id C
  intro St St_rows H locs ls hf hP hD hS hl
  refine lv_aload_n hx hb dX5_doAct_183 rfl (lv_at hl 0 rfl) ?_
  refine lv_aload_n hx hb dX5_doAct_184 rfl (lv_at hl 0 rfl) ?_
  refine va_get (D := D) (ci := 2) (v := va_re E.2.2.1 (Rd_head St)) (C := RX5) (T := TX5) (N := 15) hx hb hts in_X5 hown hK hP 0 rfl rfl 11 (by decide) (hts _ q1_193) (fun _ h9 => h9) rfl dX5_doAct_185 ?_
  refine va_gets (v := .ref (E.2.2.1 4)) hx hb (hE.2.1.1 4 (by decide)).1 hS hown (hts _ q3_127) (fun _ h9 => h9) dX5_doAct_188 ?_
  refine z_acmp_ne (tgt := 198) hx hb hE dX5_doAct_191 (by decide) (by decide) hf (fun hf => ?_) (fun hf => ?_)
  · refine lv_iconst (v := (0 : Int32)) hx hb dX5_doAct_198 (by decide) ?_
    obtain ⟨q1, hc, hf⟩ := zbd hf
    refine z_cVi0 (As := [.int (0 : Int32)]) (rest := []) C (c_X5_endNamed l D cy ht ht_rows ht_evidence ht_tape E.2.2.1 St St_rows (0 : Int32) q1 hc) gV_X5_X5_endNamed hd_X5_endNamed ⟨Nat.le_of_ble_eq_true rfl, Nat.le_of_ble_eq_true rfl⟩ ⟨Nat.le_refl _, Nat.le_refl _⟩ (va_recv hK hP (ci := 2) (q0 := 0) rfl rfl) hP hD hS hl.1 (Nat.le_of_ble_eq_true rfl) dX5_doAct_199 (fun H locs hP hD hS => ?_)
    have hP : va_P D vwCl (wRd ht (ht_rows 0) (ht_evidence 0) (ht_tape 0) E.2.2.1 cy q1.2.1 ++ (wRows ht_rows cy q1.2.2)) H := hP
    have hD : va_D A (wRd ht (ht_rows 0) (ht_evidence 0) (ht_tape 0) E.2.2.1 cy q1.2.1 ++ (wRows ht_rows cy q1.2.2)) := hD
    obtain ⟨hz, hf⟩ := zgd hf
    obtain rfl := Option.some.inj hf
    exact z_zret (v := q1.1) C (zbo_n hz) hP hD hS dX5_doAct_202
  · refine lv_iconst (v := (1 : Int32)) hx hb dX5_doAct_194 (by decide) ?_
    refine lv_goto (tgt := 199) hx hb dX5_doAct_195 (by decide) ?_
    obtain ⟨q2, hc, hf⟩ := zbd hf
    refine z_cVi0 (As := [.int (1 : Int32)]) (rest := []) C (c_X5_endNamed l D cy ht ht_rows ht_evidence ht_tape E.2.2.1 St St_rows (1 : Int32) q2 hc) gV_X5_X5_endNamed hd_X5_endNamed ⟨Nat.le_of_ble_eq_true rfl, Nat.le_of_ble_eq_true rfl⟩ ⟨Nat.le_refl _, Nat.le_refl _⟩ (va_recv hK hP (ci := 2) (q0 := 0) rfl rfl) hP hD hS hl.1 (Nat.le_of_ble_eq_true rfl) dX5_doAct_199 (fun H locs hP hD hS => ?_)
    have hP : va_P D vwCl (wRd ht (ht_rows 0) (ht_evidence 0) (ht_tape 0) E.2.2.1 cy q2.2.1 ++ (wRows ht_rows cy q2.2.2)) H := hP
    have hD : va_D A (wRd ht (ht_rows 0) (ht_evidence 0) (ht_tape 0) E.2.2.1 cy q2.2.1 ++ (wRows ht_rows cy q2.2.2)) := hD
    obtain ⟨hz, hf⟩ := zgd hf
    obtain rfl := Option.some.inj hf
    exact z_zret (v := q2.1) C (zbo_n hz) hP hD hS dX5_doAct_202
def f_X5_doAct (St : SRd) (St_rows : SRows) : Option (Int32 × SRd × SRows) :=
  (if (Rd_head St) = none then
    some ((0 : Int32), St, St_rows)
    else
    (f_X5_slotNamed St (Rd_name St)).bind (fun q3 =>
      (if (Rd_head St).getD 11 < 11 then (f_Jx29ce0_ordinal_8abf5 ((Rd_head St).getD 0)).bind (fun q4 =>
          (if zib q4 11 then (if (swM.getD q4.toNatClampNeg 0) = 1 then
              (f_X6_canBegin St_rows).bind (fun q5 =>
                (if q5 = 0 then
                  some ((0 : Int32), St, St_rows)
                  else
                  (f_X5_addWriter St St_rows).bind (fun q6 =>
                    (if q6.1 = 0 then
                      some ((0 : Int32), q6.2.1, q6.2.2)
                      else
                      some ((1 : Int32), q6.2.1, q6.2.2)))))
              else
              (if (swM.getD q4.toNatClampNeg 0) = 2 then
                (f_X6_putTrouble St_rows q3 (Rd_row St)).bind (fun q7 =>
                  (if q7 = 0 then
                    (f_X6_putValue St_rows q3 (Rd_row St) (Rd_whole St)).bind (fun q8 =>
                      (if q8.1 = (-2 : Int32) then
                        some ((0 : Int32), St, q8.2)
                        else
                        some ((1 : Int32), St, q8.2)))
                    else
                    some ((0 : Int32), St, St_rows)))
                else
                (if (swM.getD q4.toNatClampNeg 0) = 3 then
                  (f_X6_dropTrouble St_rows q3 (Rd_row St)).bind (fun q9 =>
                    (if q9 = 0 then
                      (f_X6_dropValue St_rows q3 (Rd_row St)).bind (fun q10 =>
                        (if q10.1 = (-2 : Int32) then
                          some ((0 : Int32), St, q10.2)
                          else
                          some ((1 : Int32), St, q10.2)))
                      else
                      some ((0 : Int32), St, St_rows)))
                  else
                  (if (swM.getD q4.toNatClampNeg 0) = 4 then
                    (b_X5_doAct_183 St St_rows)
                    else
                    (if (swM.getD q4.toNatClampNeg 0) = 5 then
                      (b_X5_doAct_183 St St_rows)
                      else
                      (if (swM.getD q4.toNatClampNeg 0) = 6 then
                        some ((1 : Int32), St, St_rows)
                        else
                        (if (swM.getD q4.toNatClampNeg 0) = 7 then
                          some ((1 : Int32), St, St_rows)
                          else
                          (if (swM.getD q4.toNatClampNeg 0) = 8 then
                            (f_X6_clearDead St_rows).bind (fun q11 =>
                              (if q11.1 ≤ 0 then
                                some ((0 : Int32), St, q11.2)
                                else
                                some ((1 : Int32), St, q11.2)))
                            else
                            (if (swM.getD q4.toNatClampNeg 0) = 9 then
                              (f_X6_freezeAll St_rows).bind (fun q12 =>
                                (if q12.1 ≤ 0 then
                                  some ((0 : Int32), St, q12.2)
                                  else
                                  some ((1 : Int32), St, q12.2)))
                              else
                              some ((1 : Int32), St, St_rows)))))))))) else none)) else none)))
set_option maxHeartbeats 4000000 in
set_option maxRecDepth 100000 in
theorem c_X5_doAct (l : Launch) (D : va_G) (cy : Nat → ClassId) (E : zEn) (ht : Nat → Nat) (ht_rows : Nat → Nat) (ht_evidence : Nat → Nat) (ht_tape : Nat → Nat) (St : SRd) (St_rows : SRows) (r : Int32 × SRd × SRows) (hf : f_X5_doAct St St_rows = some r) : zCIs l yX5_doAct cX5_doAct 2 (some FieldType.boolean) 5 121 D (zty cy) E [.ref (ht 0)] (wRd ht (ht_rows 0) (ht_evidence 0) (ht_tape 0) E.2.2.1 cy St ++ (wRows ht_rows cy St_rows)) (wRd ht (ht_rows 0) (ht_evidence 0) (ht_tape 0) E.2.2.1 cy r.2.1 ++ (wRows ht_rows cy r.2.2)) r.1 := by
  refine zCIs_of (by decide +kernel) (Nat.le_of_ble_eq_true rfl) ?_
  intro p e s m below meth c A ls C hE hP hD hS hl
  generalize hargs : ([.ref (ht 0)] : List Value).toArray = args at C ⊢
  have C : zX p s m meth c cX5_doAct 2 args RX5 (some FieldType.boolean) A D (zty cy) := C
  obtain ⟨hx, hb, hr, hts, hown, hlocks, hml, hA, hK⟩ := id C
  have hl : lv_has ls 2 [(0, .ref (ht 0))] := hl
  generalize hH : s.heap = H at hP ⊢
  have hS : va_S A s.heap H [] := by rw [← hH]; exact hS
  generalize ([] : List Loc) = locs at hS ⊢
  refine lv_aload_n hx hb dX5_doAct_0 rfl (lv_at hl 0 rfl) ?_
  refine va_get (D := D) (ci := 2) (v := va_re E.2.2.1 (Rd_head St)) (C := RX5) (T := TX5) (N := 15) hx hb hts in_X5 hown hK hP 0 rfl rfl 11 (by decide) (hts _ q1_193) (fun _ h9 => h9) rfl dX5_doAct_1 ?_
  refine z_ifnonnull (tgt := 9) hx hb dX5_doAct_4 (by decide) hf (fun hf => ?_) (fun hf => ?_)
  · refine lv_aload_n hx hb dX5_doAct_9 rfl (lv_at hl 0 rfl) ?_
    refine lv_aload_n hx hb dX5_doAct_10 rfl (lv_at hl 0 rfl) ?_
    refine va_get (D := D) (ci := 2) (v := .int (Rd_name St)) (C := RX5) (T := TX5) (N := 15) hx hb hts in_X5 hown hK hP 0 rfl rfl 12 (by decide) (hts _ q1_194) (fun _ h9 => h9) rfl dX5_doAct_11 ?_
    obtain ⟨q3, hc, hf⟩ := zbd hf
    refine z_cVi (As := [.int (Rd_name St)]) (rest := []) C (c_X5_slotNamed l D cy ht ht_rows ht_evidence ht_tape E.2.2.1 St (Rd_name St) q3 hc) gV_X5_X5_slotNamed hd_X5_slotNamed ⟨Nat.le_of_ble_eq_true rfl, Nat.le_of_ble_eq_true rfl⟩ ⟨Nat.le_refl _, Nat.le_refl _⟩ (va_recv hK hP (ci := 2) (q0 := 0) rfl rfl) hP hD hS (w2 := wRd ht (ht_rows 0) (ht_evidence 0) (ht_tape 0) E.2.2.1 cy St ++ (wRows ht_rows cy St_rows)) [0, 1, 2, 3, 4] [5, 6, 7, 8, 9, 10, 11, 12] [8, 9, 10, 11, 12, 0, 1, 2, 3, 4, 5, 6, 7] rfl rfl rfl rfl rfl rfl (by decide) hl.1 (Nat.le_of_ble_eq_true rfl) dX5_doAct_14 (fun H locs hP hD hS => ?_)
    refine lv_istore_n (lv' := [(1, .int q3), (0, .ref (ht 0))]) hx hb dX5_doAct_17 rfl hl (by decide) rfl (fun ls hl => ?_)
    refine va_gets hx hb hE.2.2.2.2.2.1 hS hown (hts _ q2_189) (fun _ h9 => h9) dX5_doAct_18 ?_
    refine lv_aload_n hx hb dX5_doAct_21 rfl (lv_at hl 1 rfl) ?_
    refine va_get (D := D) (ci := 2) (v := va_re E.2.2.1 (Rd_head St)) (C := RX5) (T := TX5) (N := 15) hx hb hts in_X5 hown hK hP 0 rfl rfl 11 (by decide) (hts _ q1_193) (fun _ h9 => h9) rfl dX5_doAct_22 ?_
    obtain ⟨hg, hf⟩ := zgd hf
    obtain ⟨q4, hc, hf⟩ := zbd hf
    rw [(zre (ad := E.2.2.1) hg).1]
    refine z_ord (rest := [.ref E.2.2.2.2]) C hE (c_Jx29ce0_ordinal_8abf5 l D cy E ((Rd_head St).getD 0) q4 hc) gU_ord_X5 ⟨Nat.le_of_ble_eq_true rfl, Nat.le_of_ble_eq_true rfl⟩ ⟨Nat.le_refl _, Nat.le_refl _⟩ (zre (ad := E.2.2.1) hg).2 hP hD hS hl.1 (Nat.le_of_ble_eq_true rfl) dX5_doAct_25 (fun H locs hP hD hS => ?_)
    obtain ⟨hg, hf⟩ := zgd hf
    refine va_ti (v := .int (swM.getD q4.toNatClampNeg 0)) hx hb hE.2.2.2.2.2.2.1 hS hg rfl dX5_doAct_28 ?_
    rcases zsw hf with ⟨hq0, hf⟩ | ⟨hq0, hf⟩
    · rw [hq0]
      refine lv_tableIn (tgt := 80) hx hb dX5_doAct_29 (by decide) (by decide) rfl (by decide) ?_
      refine lv_aload_n hx hb dX5_doAct_80 rfl (lv_at hl 1 rfl) ?_
      refine va_get (D := D) (ci := 2) (v := .ref (ht_rows 0)) (C := RX5) (T := TX5) (N := 15) hx hb hts in_X5 hown hK hP 0 rfl rfl 2 (by decide) (hts _ q1_181) (fun _ h9 => h9) rfl dX5_doAct_81 ?_
      obtain ⟨q5, hc, hf⟩ := zbd hf
      refine z_cVi (As := []) (rest := []) C (c_X6_canBegin l D cy ht_rows St_rows q5 hc) gV_X5_X6_canBegin hd_X6_canBegin ⟨Nat.le_of_ble_eq_true rfl, Nat.le_of_ble_eq_true rfl⟩ ⟨Nat.le_refl _, Nat.le_refl _⟩ (va_recv hK hP (ci := 3) (q0 := 5) rfl rfl) hP hD hS (w2 := wRd ht (ht_rows 0) (ht_evidence 0) (ht_tape 0) E.2.2.1 cy St ++ (wRows ht_rows cy St_rows)) [5, 6, 7, 8, 9, 10, 11, 12] [0, 1, 2, 3, 4] [0, 1, 2, 3, 4, 5, 6, 7, 8, 9, 10, 11, 12] rfl rfl rfl rfl rfl rfl (by decide) hl.1 (Nat.le_of_ble_eq_true rfl) dX5_doAct_84 (fun H locs hP hD hS => ?_)
      refine z_if_eq (tgt := 101) hx hb dX5_doAct_87 (by decide) hf (fun hf => ?_) (fun hf => ?_)
      · refine lv_iconst (v := (0 : Int32)) hx hb dX5_doAct_101 (by decide) ?_
        obtain rfl := Option.some.inj hf
        exact z_zret (v := (0 : Int32)) C rfl hP hD hS dX5_doAct_102
      · refine lv_aload_n hx hb dX5_doAct_90 rfl (lv_at hl 1 rfl) ?_
        obtain ⟨q6, hc, hf⟩ := zbd hf
        refine z_cVi0 (As := []) (rest := []) C (c_X5_addWriter l D cy ht ht_rows ht_evidence ht_tape E.2.2.1 St St_rows q6 hc) gV_X5_X5_addWriter hd_X5_addWriter ⟨Nat.le_of_ble_eq_true rfl, Nat.le_of_ble_eq_true rfl⟩ ⟨Nat.le_refl _, Nat.le_refl _⟩ (va_recv hK hP (ci := 2) (q0 := 0) rfl rfl) hP hD hS hl.1 (Nat.le_of_ble_eq_true rfl) dX5_doAct_91 (fun H locs hP hD hS => ?_)
        have hP : va_P D vwCl (wRd ht (ht_rows 0) (ht_evidence 0) (ht_tape 0) E.2.2.1 cy q6.2.1 ++ (wRows ht_rows cy q6.2.2)) H := hP
        have hD : va_D A (wRd ht (ht_rows 0) (ht_evidence 0) (ht_tape 0) E.2.2.1 cy q6.2.1 ++ (wRows ht_rows cy q6.2.2)) := hD
        refine z_if_eq (tgt := 101) hx hb dX5_doAct_94 (by decide) hf (fun hf => ?_) (fun hf => ?_)
        · refine lv_iconst (v := (0 : Int32)) hx hb dX5_doAct_101 (by decide) ?_
          obtain rfl := Option.some.inj hf
          exact z_zret (v := (0 : Int32)) C rfl hP hD hS dX5_doAct_102
        · refine lv_iconst (v := (1 : Int32)) hx hb dX5_doAct_97 (by decide) ?_
          refine lv_goto (tgt := 102) hx hb dX5_doAct_98 (by decide) ?_
          obtain rfl := Option.some.inj hf
          exact z_zret (v := (1 : Int32)) C rfl hP hD hS dX5_doAct_102
    ·
      rcases zsw hf with ⟨hq1, hf⟩ | ⟨hq1, hf⟩
      · rw [hq1]
        refine lv_tableIn (tgt := 103) hx hb dX5_doAct_29 (by decide) (by decide) rfl (by decide) ?_
        refine lv_aload_n hx hb dX5_doAct_103 rfl (lv_at hl 1 rfl) ?_
        refine va_get (D := D) (ci := 2) (v := .ref (ht_rows 0)) (C := RX5) (T := TX5) (N := 15) hx hb hts in_X5 hown hK hP 0 rfl rfl 2 (by decide) (hts _ q1_181) (fun _ h9 => h9) rfl dX5_doAct_104 ?_
        refine lv_iload_n hx hb dX5_doAct_107 rfl (lv_at hl 0 rfl) ?_
        refine lv_aload_n hx hb dX5_doAct_108 rfl (lv_at hl 1 rfl) ?_
        refine va_get (D := D) (ci := 2) (v := .int (Rd_row St)) (C := RX5) (T := TX5) (N := 15) hx hb hts in_X5 hown hK hP 0 rfl rfl 13 (by decide) (hts _ q1_195) (fun _ h9 => h9) rfl dX5_doAct_109 ?_
        obtain ⟨q7, hc, hf⟩ := zbd hf
        refine z_cVi (As := [.int q3, .int (Rd_row St)]) (rest := []) C (c_X6_putTrouble l D cy ht_rows St_rows q3 (Rd_row St) q7 hc) gV_X5_X6_putTrouble hd_X6_putTrouble ⟨Nat.le_of_ble_eq_true rfl, Nat.le_of_ble_eq_true rfl⟩ ⟨Nat.le_refl _, Nat.le_refl _⟩ (va_recv hK hP (ci := 3) (q0 := 5) rfl rfl) hP hD hS (w2 := wRd ht (ht_rows 0) (ht_evidence 0) (ht_tape 0) E.2.2.1 cy St ++ (wRows ht_rows cy St_rows)) [5, 6, 7, 8, 9, 10, 11, 12] [0, 1, 2, 3, 4] [0, 1, 2, 3, 4, 5, 6, 7, 8, 9, 10, 11, 12] rfl rfl rfl rfl rfl rfl (by decide) hl.1 (Nat.le_of_ble_eq_true rfl) dX5_doAct_112 (fun H locs hP hD hS => ?_)
        refine z_if_ne (tgt := 143) hx hb dX5_doAct_115 (by decide) hf (fun hf => ?_) (fun hf => ?_)
        · refine lv_iconst (v := (0 : Int32)) hx hb dX5_doAct_143 (by decide) ?_
          obtain rfl := Option.some.inj hf
          exact z_zret (v := (0 : Int32)) C rfl hP hD hS dX5_doAct_144
        · refine lv_aload_n hx hb dX5_doAct_118 rfl (lv_at hl 1 rfl) ?_
          refine va_get (D := D) (ci := 2) (v := .ref (ht_rows 0)) (C := RX5) (T := TX5) (N := 15) hx hb hts in_X5 hown hK hP 0 rfl rfl 2 (by decide) (hts _ q1_181) (fun _ h9 => h9) rfl dX5_doAct_119 ?_
          refine lv_iload_n hx hb dX5_doAct_122 rfl (lv_at hl 0 rfl) ?_
          refine lv_aload_n hx hb dX5_doAct_123 rfl (lv_at hl 1 rfl) ?_
          refine va_get (D := D) (ci := 2) (v := .int (Rd_row St)) (C := RX5) (T := TX5) (N := 15) hx hb hts in_X5 hown hK hP 0 rfl rfl 13 (by decide) (hts _ q1_195) (fun _ h9 => h9) rfl dX5_doAct_124 ?_
          refine lv_aload_n hx hb dX5_doAct_127 rfl (lv_at hl 1 rfl) ?_
          refine va_get (D := D) (ci := 2) (v := .int (Rd_whole St)) (C := RX5) (T := TX5) (N := 15) hx hb hts in_X5 hown hK hP 0 rfl rfl 14 (by decide) (hts _ q1_196) (fun _ h9 => h9) rfl dX5_doAct_128 ?_
          obtain ⟨q8, hc, hf⟩ := zbd hf
          refine z_cVi (As := [.int q3, .int (Rd_row St), .int (Rd_whole St)]) (rest := []) C (c_X6_putValue l D cy ht_rows St_rows q3 (Rd_row St) (Rd_whole St) q8 hc) gV_X5_X6_putValue hd_X6_putValue ⟨Nat.le_of_ble_eq_true rfl, Nat.le_of_ble_eq_true rfl⟩ ⟨Nat.le_refl _, Nat.le_refl _⟩ (va_recv hK hP (ci := 3) (q0 := 5) rfl rfl) hP hD hS (w2 := wRd ht (ht_rows 0) (ht_evidence 0) (ht_tape 0) E.2.2.1 cy St ++ (wRows ht_rows cy q8.2)) [5, 6, 7, 8, 9, 10, 11, 12] [0, 1, 2, 3, 4] [0, 1, 2, 3, 4, 5, 6, 7, 8, 9, 10, 11, 12] rfl rfl rfl rfl rfl rfl (by decide) hl.1 (Nat.le_of_ble_eq_true rfl) dX5_doAct_131 (fun H locs hP hD hS => ?_)
          refine lv_bipush (v := (-2 : Int32)) hx hb dX5_doAct_134 (by decide) ?_
          refine z_icmp_eq (tgt := 143) hx hb dX5_doAct_136 (by decide) hf (fun hf => ?_) (fun hf => ?_)
          · refine lv_iconst (v := (0 : Int32)) hx hb dX5_doAct_143 (by decide) ?_
            obtain rfl := Option.some.inj hf
            exact z_zret (v := (0 : Int32)) C rfl hP hD hS dX5_doAct_144
          · refine lv_iconst (v := (1 : Int32)) hx hb dX5_doAct_139 (by decide) ?_
            refine lv_goto (tgt := 144) hx hb dX5_doAct_140 (by decide) ?_
            obtain rfl := Option.some.inj hf
            exact z_zret (v := (1 : Int32)) C rfl hP hD hS dX5_doAct_144
      ·
        rcases zsw hf with ⟨hq2, hf⟩ | ⟨hq2, hf⟩
        · rw [hq2]
          refine lv_tableIn (tgt := 145) hx hb dX5_doAct_29 (by decide) (by decide) rfl (by decide) ?_
          refine lv_aload_n hx hb dX5_doAct_145 rfl (lv_at hl 1 rfl) ?_
          refine va_get (D := D) (ci := 2) (v := .ref (ht_rows 0)) (C := RX5) (T := TX5) (N := 15) hx hb hts in_X5 hown hK hP 0 rfl rfl 2 (by decide) (hts _ q1_181) (fun _ h9 => h9) rfl dX5_doAct_146 ?_
          refine lv_iload_n hx hb dX5_doAct_149 rfl (lv_at hl 0 rfl) ?_
          refine lv_aload_n hx hb dX5_doAct_150 rfl (lv_at hl 1 rfl) ?_
          refine va_get (D := D) (ci := 2) (v := .int (Rd_row St)) (C := RX5) (T := TX5) (N := 15) hx hb hts in_X5 hown hK hP 0 rfl rfl 13 (by decide) (hts _ q1_195) (fun _ h9 => h9) rfl dX5_doAct_151 ?_
          obtain ⟨q9, hc, hf⟩ := zbd hf
          refine z_cVi (As := [.int q3, .int (Rd_row St)]) (rest := []) C (c_X6_dropTrouble l D cy ht_rows St_rows q3 (Rd_row St) q9 hc) gV_X5_X6_dropTrouble hd_X6_dropTrouble ⟨Nat.le_of_ble_eq_true rfl, Nat.le_of_ble_eq_true rfl⟩ ⟨Nat.le_refl _, Nat.le_refl _⟩ (va_recv hK hP (ci := 3) (q0 := 5) rfl rfl) hP hD hS (w2 := wRd ht (ht_rows 0) (ht_evidence 0) (ht_tape 0) E.2.2.1 cy St ++ (wRows ht_rows cy St_rows)) [5, 6, 7, 8, 9, 10, 11, 12] [0, 1, 2, 3, 4] [0, 1, 2, 3, 4, 5, 6, 7, 8, 9, 10, 11, 12] rfl rfl rfl rfl rfl rfl (by decide) hl.1 (Nat.le_of_ble_eq_true rfl) dX5_doAct_154 (fun H locs hP hD hS => ?_)
          refine z_if_ne (tgt := 181) hx hb dX5_doAct_157 (by decide) hf (fun hf => ?_) (fun hf => ?_)
          · refine lv_iconst (v := (0 : Int32)) hx hb dX5_doAct_181 (by decide) ?_
            obtain rfl := Option.some.inj hf
            exact z_zret (v := (0 : Int32)) C rfl hP hD hS dX5_doAct_182
          · refine lv_aload_n hx hb dX5_doAct_160 rfl (lv_at hl 1 rfl) ?_
            refine va_get (D := D) (ci := 2) (v := .ref (ht_rows 0)) (C := RX5) (T := TX5) (N := 15) hx hb hts in_X5 hown hK hP 0 rfl rfl 2 (by decide) (hts _ q1_181) (fun _ h9 => h9) rfl dX5_doAct_161 ?_
            refine lv_iload_n hx hb dX5_doAct_164 rfl (lv_at hl 0 rfl) ?_
            refine lv_aload_n hx hb dX5_doAct_165 rfl (lv_at hl 1 rfl) ?_
            refine va_get (D := D) (ci := 2) (v := .int (Rd_row St)) (C := RX5) (T := TX5) (N := 15) hx hb hts in_X5 hown hK hP 0 rfl rfl 13 (by decide) (hts _ q1_195) (fun _ h9 => h9) rfl dX5_doAct_166 ?_
            obtain ⟨q10, hc, hf⟩ := zbd hf
            refine z_cVi (As := [.int q3, .int (Rd_row St)]) (rest := []) C (c_X6_dropValue l D cy ht_rows St_rows q3 (Rd_row St) q10 hc) gV_X5_X6_dropValue hd_X6_dropValue ⟨Nat.le_of_ble_eq_true rfl, Nat.le_of_ble_eq_true rfl⟩ ⟨Nat.le_refl _, Nat.le_refl _⟩ (va_recv hK hP (ci := 3) (q0 := 5) rfl rfl) hP hD hS (w2 := wRd ht (ht_rows 0) (ht_evidence 0) (ht_tape 0) E.2.2.1 cy St ++ (wRows ht_rows cy q10.2)) [5, 6, 7, 8, 9, 10, 11, 12] [0, 1, 2, 3, 4] [0, 1, 2, 3, 4, 5, 6, 7, 8, 9, 10, 11, 12] rfl rfl rfl rfl rfl rfl (by decide) hl.1 (Nat.le_of_ble_eq_true rfl) dX5_doAct_169 (fun H locs hP hD hS => ?_)
            refine lv_bipush (v := (-2 : Int32)) hx hb dX5_doAct_172 (by decide) ?_
            refine z_icmp_eq (tgt := 181) hx hb dX5_doAct_174 (by decide) hf (fun hf => ?_) (fun hf => ?_)
            · refine lv_iconst (v := (0 : Int32)) hx hb dX5_doAct_181 (by decide) ?_
              obtain rfl := Option.some.inj hf
              exact z_zret (v := (0 : Int32)) C rfl hP hD hS dX5_doAct_182
            · refine lv_iconst (v := (1 : Int32)) hx hb dX5_doAct_177 (by decide) ?_
              refine lv_goto (tgt := 182) hx hb dX5_doAct_178 (by decide) ?_
              obtain rfl := Option.some.inj hf
              exact z_zret (v := (1 : Int32)) C rfl hP hD hS dX5_doAct_182
        ·
          rcases zsw hf with ⟨hq3, hf⟩ | ⟨hq3, hf⟩
          · rw [hq3]
            refine lv_tableIn (tgt := 183) hx hb dX5_doAct_29 (by decide) (by decide) rfl (by decide) ?_
            exact w_X5_doAct_183 l E ht ht_rows ht_evidence ht_tape C hE St St_rows H locs ls hf hP hD hS (lv_sub hl [1] rfl)
          ·
            rcases zsw hf with ⟨hq4, hf⟩ | ⟨hq4, hf⟩
            · rw [hq4]
              refine lv_tableIn (tgt := 183) hx hb dX5_doAct_29 (by decide) (by decide) rfl (by decide) ?_
              exact w_X5_doAct_183 l E ht ht_rows ht_evidence ht_tape C hE St St_rows H locs ls hf hP hD hS (lv_sub hl [1] rfl)
            ·
              rcases zsw hf with ⟨hq5, hf⟩ | ⟨hq5, hf⟩
              · rw [hq5]
                refine lv_tableIn (tgt := 235) hx hb dX5_doAct_29 (by decide) (by decide) rfl (by decide) ?_
                refine lv_iconst (v := (1 : Int32)) hx hb dX5_doAct_235 (by decide) ?_
                obtain rfl := Option.some.inj hf
                exact z_zret (v := (1 : Int32)) C rfl hP hD hS dX5_doAct_236
              ·
                rcases zsw hf with ⟨hq6, hf⟩ | ⟨hq6, hf⟩
                · rw [hq6]
                  refine lv_tableIn (tgt := 235) hx hb dX5_doAct_29 (by decide) (by decide) rfl (by decide) ?_
                  refine lv_iconst (v := (1 : Int32)) hx hb dX5_doAct_235 (by decide) ?_
                  obtain rfl := Option.some.inj hf
                  exact z_zret (v := (1 : Int32)) C rfl hP hD hS dX5_doAct_236
                ·
                  rcases zsw hf with ⟨hq7, hf⟩ | ⟨hq7, hf⟩
                  · rw [hq7]
                    refine lv_tableIn (tgt := 203) hx hb dX5_doAct_29 (by decide) (by decide) rfl (by decide) ?_
                    refine lv_aload_n hx hb dX5_doAct_203 rfl (lv_at hl 1 rfl) ?_
                    refine va_get (D := D) (ci := 2) (v := .ref (ht_rows 0)) (C := RX5) (T := TX5) (N := 15) hx hb hts in_X5 hown hK hP 0 rfl rfl 2 (by decide) (hts _ q1_181) (fun _ h9 => h9) rfl dX5_doAct_204 ?_
                    obtain ⟨q11, hc, hf⟩ := zbd hf
                    refine z_cVi (As := []) (rest := []) C (c_X6_clearDead l D cy ht_rows St_rows q11 hc) gV_X5_X6_clearDead hd_X6_clearDead ⟨Nat.le_of_ble_eq_true rfl, Nat.le_of_ble_eq_true rfl⟩ ⟨Nat.le_refl _, Nat.le_refl _⟩ (va_recv hK hP (ci := 3) (q0 := 5) rfl rfl) hP hD hS (w2 := wRd ht (ht_rows 0) (ht_evidence 0) (ht_tape 0) E.2.2.1 cy St ++ (wRows ht_rows cy q11.2)) [5, 6, 7, 8, 9, 10, 11, 12] [0, 1, 2, 3, 4] [0, 1, 2, 3, 4, 5, 6, 7, 8, 9, 10, 11, 12] rfl rfl rfl rfl rfl rfl (by decide) hl.1 (Nat.le_of_ble_eq_true rfl) dX5_doAct_207 (fun H locs hP hD hS => ?_)
                    refine z_if_le (tgt := 217) hx hb dX5_doAct_210 (by decide) hf (fun hf => ?_) (fun hf => ?_)
                    · refine lv_iconst (v := (0 : Int32)) hx hb dX5_doAct_217 (by decide) ?_
                      obtain rfl := Option.some.inj hf
                      exact z_zret (v := (0 : Int32)) C rfl hP hD hS dX5_doAct_218
                    · refine lv_iconst (v := (1 : Int32)) hx hb dX5_doAct_213 (by decide) ?_
                      refine lv_goto (tgt := 218) hx hb dX5_doAct_214 (by decide) ?_
                      obtain rfl := Option.some.inj hf
                      exact z_zret (v := (1 : Int32)) C rfl hP hD hS dX5_doAct_218
                  ·
                    rcases zsw hf with ⟨hq8, hf⟩ | ⟨hq8, hf⟩
                    · rw [hq8]
                      refine lv_tableIn (tgt := 219) hx hb dX5_doAct_29 (by decide) (by decide) rfl (by decide) ?_
                      refine lv_aload_n hx hb dX5_doAct_219 rfl (lv_at hl 1 rfl) ?_
                      refine va_get (D := D) (ci := 2) (v := .ref (ht_rows 0)) (C := RX5) (T := TX5) (N := 15) hx hb hts in_X5 hown hK hP 0 rfl rfl 2 (by decide) (hts _ q1_181) (fun _ h9 => h9) rfl dX5_doAct_220 ?_
                      obtain ⟨q12, hc, hf⟩ := zbd hf
                      refine z_cVi (As := []) (rest := []) C (c_X6_freezeAll l D cy ht_rows St_rows q12 hc) gV_X5_X6_freezeAll hd_X6_freezeAll ⟨Nat.le_of_ble_eq_true rfl, Nat.le_of_ble_eq_true rfl⟩ ⟨Nat.le_refl _, Nat.le_refl _⟩ (va_recv hK hP (ci := 3) (q0 := 5) rfl rfl) hP hD hS (w2 := wRd ht (ht_rows 0) (ht_evidence 0) (ht_tape 0) E.2.2.1 cy St ++ (wRows ht_rows cy q12.2)) [5, 6, 7, 8, 9, 10, 11, 12] [0, 1, 2, 3, 4] [0, 1, 2, 3, 4, 5, 6, 7, 8, 9, 10, 11, 12] rfl rfl rfl rfl rfl rfl (by decide) hl.1 (Nat.le_of_ble_eq_true rfl) dX5_doAct_223 (fun H locs hP hD hS => ?_)
                      refine z_if_le (tgt := 233) hx hb dX5_doAct_226 (by decide) hf (fun hf => ?_) (fun hf => ?_)
                      · refine lv_iconst (v := (0 : Int32)) hx hb dX5_doAct_233 (by decide) ?_
                        obtain rfl := Option.some.inj hf
                        exact z_zret (v := (0 : Int32)) C rfl hP hD hS dX5_doAct_234
                      · refine lv_iconst (v := (1 : Int32)) hx hb dX5_doAct_229 (by decide) ?_
                        refine lv_goto (tgt := 234) hx hb dX5_doAct_230 (by decide) ?_
                        obtain rfl := Option.some.inj hf
                        exact z_zret (v := (1 : Int32)) C rfl hP hD hS dX5_doAct_234
                    · refine lv_tableOut (tgt := 235) hx hb dX5_doAct_29 (zsw_out9_1 hq0 hq1 hq2 hq3 hq4 hq5 hq6 hq7 hq8) (by decide) ?_
                      refine lv_iconst (v := (1 : Int32)) hx hb dX5_doAct_235 (by decide) ?_
                      obtain rfl := Option.some.inj hf
                      exact z_zret (v := (1 : Int32)) C rfl hP hD hS dX5_doAct_236
  · refine lv_iconst (v := (0 : Int32)) hx hb dX5_doAct_7 (by decide) ?_
    obtain rfl := Option.some.inj hf
    exact z_zret (v := (0 : Int32)) C rfl hP hD hS dX5_doAct_8
def b_X5_readStore_49 (x1 : Int32) (k49 : SRd → SEv → SRows → STape → Int32 → Option (Int32 × SRd × SEv × SRows × STape)) (St : SRd) (St_evidence : SEv) (St_rows : SRows) (St_tape : STape) (v2 : Int32) : Option (Int32 × SRd × SEv × SRows × STape) :=
  (if x1 < v2 then
    (f_X5_fail St St_tape (1 : Int32)).bind (fun q1 =>
      (if zbo q1.1 then some (q1.1, q1.2, St_evidence, St_rows, St_tape) else none))
    else
    (f_X5_readLine St St_evidence St_rows St_tape).bind (fun q2 =>
      (if q2.1 = 0 then
        some ((0 : Int32), q2.2.1, q2.2.2.1, q2.2.2.2.1, q2.2.2.2.2)
        else
        (f_X5_doAct q2.2.1 q2.2.2.2.1).bind (fun q3 =>
          (if q3.1 = 0 then
            (f_X5_fail q3.2.1 q2.2.2.2.2 (8 : Int32)).bind (fun q6 =>
              (if zbo q6.1 then some (q6.1, q6.2, q2.2.2.1, q3.2.2, q2.2.2.2.2) else none))
            else
            (if (Tape_kind q2.2.2.2.2) = 0 then
              (f_X5_tellUnsure q3.2.1 q2.2.2.1).bind (fun q5 =>
                some ((1 : Int32), q3.2.1, q5, q3.2.2, q2.2.2.2.2))
              else
              (f_X7_advance q2.2.2.2.2).bind (fun q4 =>
                (k49 q3.2.1 q2.2.2.1 q3.2.2 q4 (v2 + (1 : Int32))))))))))
set_option maxHeartbeats 4000000 in
set_option maxRecDepth 100000 in
theorem w_X5_readStore_49 {p : Program} {e : Env} {s : State} {m : MethodId} {below : List Frame} {meth : Method} {c : Code} {A : Nat → Prop} {D : va_G} {cy : Nat → ClassId} {args : Array Value} {r : Int32 × SRd × SEv × SRows × STape} (l : Launch) (E : zEn) (ht : Nat → Nat) (ht_rows : Nat → Nat) (ht_evidence : Nat → Nat) (ht_tape : Nat → Nat) (x1 : Int32) (C : zX p s m meth c cX5_readStore 3 args RX5 (some FieldType.boolean) A D (zty cy)) (hE : zE E A s s.heap) :
    ∀ (n : Nat) (St : SRd) (St_evidence : SEv) (St_rows : SRows) (St_tape : STape) (v2 : Int32) (H : Heap) (locs : List Loc) (ls : Array Slot), zl5 (b_X5_readStore_49 x1) n St St_evidence St_rows St_tape v2 = some r → va_P D vwCl (wRd ht (ht_rows 0) (ht_evidence 0) (ht_tape 0) E.2.2.1 cy St ++ (wEv ht_evidence cy St_evidence ++ (wRows ht_rows cy St_rows ++ (wTape ht_tape cy St_tape)))) H → va_D A (wRd ht (ht_rows 0) (ht_evidence 0) (ht_tape 0) E.2.2.1 cy St ++ (wEv ht_evidence cy St_evidence ++ (wRows ht_rows cy St_rows ++ (wTape ht_tape cy St_tape)))) → va_S A s.heap H locs → lv_has ls 3 [(0, .ref (ht 0)), (1, .int x1), (2, .int v2)] → W p l e (zRm 9 189) s m args below meth c H locs 0 0 (MQ below (zQI D (zty cy) A (wRd ht (ht_rows 0) (ht_evidence 0) (ht_tape 0) E.2.2.1 cy r.2.1 ++ (wEv ht_evidence cy r.2.2.1 ++ (wRows ht_rows cy r.2.2.2.1 ++ (wTape ht_tape cy r.2.2.2.2)))) r.1) args s 0 0 A) (F0 m 49 ls []) := by
  obtain ⟨hx, hb, hr, hts, hown, hlocks, hml, hA, hK⟩ := id C
  intro n
  induction n with
  | zero => intro St St_evidence St_rows St_tape v2 H locs ls hf; exact zno hf
  | succ n ih =>
    intro St St_evidence St_rows St_tape v2 H locs ls hf hP hD hS hl
    have hf : b_X5_readStore_49 x1 (zl5 (b_X5_readStore_49 x1) n) St St_evidence St_rows St_tape v2 = some r := hf
    have K49 := ih
    refine lv_iload_n hx hb dX5_readStore_49 rfl (lv_at hl 2 rfl) ?_
    refine lv_iload_n hx hb dX5_readStore_50 rfl (lv_at hl 1 rfl) ?_
    refine z_icmp_gt (tgt := 106) hx hb dX5_readStore_51 (by decide) hf (fun hf => ?_) (fun hf => ?_)
    · refine lv_aload_n hx hb dX5_readStore_106 rfl (lv_at hl 0 rfl) ?_
      refine lv_iconst (v := (1 : Int32)) hx hb dX5_readStore_107 (by decide) ?_
      obtain ⟨q1, hc, hf⟩ := zbd hf
      refine z_cVi (As := [.int (1 : Int32)]) (rest := []) C (c_X5_fail l D cy ht ht_rows ht_evidence ht_tape E.2.2.1 St St_tape (1 : Int32) q1 hc) gV_X5_X5_fail hd_X5_fail ⟨Nat.le_of_ble_eq_true rfl, Nat.le_of_ble_eq_true rfl⟩ ⟨Nat.le_refl _, Nat.le_refl _⟩ (va_recv hK hP (ci := 2) (q0 := 0) rfl rfl) hP hD hS (w2 := wRd ht (ht_rows 0) (ht_evidence 0) (ht_tape 0) E.2.2.1 cy q1.2 ++ (wEv ht_evidence cy St_evidence ++ (wRows ht_rows cy St_rows ++ (wTape ht_tape cy St_tape)))) [0, 1, 2, 3, 4, 18, 19] [5, 6, 7, 8, 9, 10, 11, 12, 13, 14, 15, 16, 17] [13, 14, 15, 16, 17, 0, 1, 2, 3, 4, 5, 6, 7, 8, 9, 10, 11, 12, 18, 19] rfl rfl rfl rfl rfl rfl (by decide) hl.1 (Nat.le_of_ble_eq_true rfl) dX5_readStore_108 (fun H locs hP hD hS => ?_)
      obtain ⟨hz, hf⟩ := zgd hf
      obtain rfl := Option.some.inj hf
      exact z_zret (v := q1.1) C (zbo_n hz) hP hD hS dX5_readStore_111
    · refine lv_aload_n hx hb dX5_readStore_54 rfl (lv_at hl 0 rfl) ?_
      obtain ⟨q2, hc, hf⟩ := zbd hf
      refine z_cVis0 (As := []) (rest := []) C hE (c_X5_readLine l D cy E ht ht_rows ht_evidence ht_tape St St_evidence St_rows St_tape q2 hc) gV_X5_X5_readLine hd_X5_readLine ⟨Nat.le_of_ble_eq_true rfl, Nat.le_of_ble_eq_true rfl⟩ ⟨Nat.le_refl _, Nat.le_refl _⟩ (va_recv hK hP (ci := 2) (q0 := 0) rfl rfl) hP hD hS hl.1 (Nat.le_of_ble_eq_true rfl) dX5_readStore_55 (fun H locs hP hD hS => ?_)
      have hP : va_P D vwCl (wRd ht (ht_rows 0) (ht_evidence 0) (ht_tape 0) E.2.2.1 cy q2.2.1 ++ (wEv ht_evidence cy q2.2.2.1 ++ (wRows ht_rows cy q2.2.2.2.1 ++ (wTape ht_tape cy q2.2.2.2.2)))) H := hP
      have hD : va_D A (wRd ht (ht_rows 0) (ht_evidence 0) (ht_tape 0) E.2.2.1 cy q2.2.1 ++ (wEv ht_evidence cy q2.2.2.1 ++ (wRows ht_rows cy q2.2.2.2.1 ++ (wTape ht_tape cy q2.2.2.2.2)))) := hD
      refine z_if_ne (tgt := 63) hx hb dX5_readStore_58 (by decide) hf (fun hf => ?_) (fun hf => ?_)
      · refine lv_aload_n hx hb dX5_readStore_63 rfl (lv_at hl 0 rfl) ?_
        obtain ⟨q3, hc, hf⟩ := zbd hf
        refine z_cVis (As := []) (rest := []) C hE (c_X5_doAct l D cy E ht ht_rows ht_evidence ht_tape q2.2.1 q2.2.2.2.1 q3 hc) gV_X5_X5_doAct hd_X5_doAct ⟨Nat.le_of_ble_eq_true rfl, Nat.le_of_ble_eq_true rfl⟩ ⟨Nat.le_refl _, Nat.le_refl _⟩ (va_recv hK hP (ci := 2) (q0 := 0) rfl rfl) hP hD hS (w2 := wRd ht (ht_rows 0) (ht_evidence 0) (ht_tape 0) E.2.2.1 cy q3.2.1 ++ (wEv ht_evidence cy q2.2.2.1 ++ (wRows ht_rows cy q3.2.2 ++ (wTape ht_tape cy q2.2.2.2.2)))) [0, 1, 2, 3, 4, 10, 11, 12, 13, 14, 15, 16, 17] [5, 6, 7, 8, 9, 18, 19] [7, 8, 9, 10, 11, 0, 1, 2, 3, 4, 12, 13, 14, 15, 16, 17, 18, 19, 5, 6] rfl rfl rfl rfl rfl rfl (by decide) hl.1 (Nat.le_of_ble_eq_true rfl) dX5_readStore_64 (fun H locs hP hD hS => ?_)
        refine z_if_ne (tgt := 77) hx hb dX5_readStore_67 (by decide) hf (fun hf => ?_) (fun hf => ?_)
        · refine lv_aload_n hx hb dX5_readStore_77 rfl (lv_at hl 0 rfl) ?_
          refine va_get (D := D) (ci := 2) (v := .ref (ht_tape 0)) (C := RX5) (T := TX5) (N := 15) hx hb hts in_X5 hown hK hP 0 rfl rfl 4 (by decide) (hts _ q1_185) (fun _ h9 => h9) rfl dX5_readStore_78 ?_
          refine va_get (D := D) (ci := 4) (v := .int (Tape_kind q2.2.2.2.2)) (C := RX7) (T := TX7) (N := 7) hx hb hts in_X7 hown hK hP 18 rfl rfl 1 (by decide) (hts _ q1_152) (fun _ h9 => h9) rfl dX5_readStore_81 ?_
          refine z_if_ne (tgt := 93) hx hb dX5_readStore_84 (by decide) hf (fun hf => ?_) (fun hf => ?_)
          · refine lv_aload_n hx hb dX5_readStore_93 rfl (lv_at hl 0 rfl) ?_
            refine va_get (D := D) (ci := 2) (v := .ref (ht_tape 0)) (C := RX5) (T := TX5) (N := 15) hx hb hts in_X5 hown hK hP 0 rfl rfl 4 (by decide) (hts _ q1_185) (fun _ h9 => h9) rfl dX5_readStore_94 ?_
            obtain ⟨q4, hc, hf⟩ := zbd hf
            refine z_cVv (As := []) (rest := []) C (c_X7_advance l D cy ht_tape q2.2.2.2.2 q4 hc) gV_X5_X7_advance hd_X7_advance ⟨Nat.le_of_ble_eq_true rfl, Nat.le_of_ble_eq_true rfl⟩ ⟨Nat.le_refl _, Nat.le_refl _⟩ (va_recv hK hP (ci := 4) (q0 := 18) rfl rfl) hP hD hS (w2 := wRd ht (ht_rows 0) (ht_evidence 0) (ht_tape 0) E.2.2.1 cy q3.2.1 ++ (wEv ht_evidence cy q2.2.2.1 ++ (wRows ht_rows cy q3.2.2 ++ (wTape ht_tape cy q4)))) [18, 19] [0, 1, 2, 3, 4, 5, 6, 7, 8, 9, 10, 11, 12, 13, 14, 15, 16, 17] [0, 1, 2, 3, 4, 5, 6, 7, 8, 9, 10, 11, 12, 13, 14, 15, 16, 17, 18, 19] rfl rfl rfl rfl rfl rfl (by decide) hl.1 (Nat.le_of_ble_eq_true rfl) dX5_readStore_97 (fun H locs hP hD hS => ?_)
            refine lv_iinc (v := (v2 + (1 : Int32))) (lv' := [(2, .int (v2 + (1 : Int32))), (0, .ref (ht 0)), (1, .int x1)]) hx hb dX5_readStore_100 hl (k := 2) rfl rfl (by decide) rfl (fun ls hl => ?_)
            refine lv_goto (tgt := 49) hx hb dX5_readStore_103 (by decide) ?_
            exact K49 q3.2.1 q2.2.2.1 q3.2.2 q4 (v2 + (1 : Int32)) H locs ls hf hP hD hS (lv_sub hl [1, 2, 0] rfl)
          · refine lv_aload_n hx hb dX5_readStore_87 rfl (lv_at hl 0 rfl) ?_
            obtain ⟨q5, hc, hf⟩ := zbd hf
            refine z_cVv (As := []) (rest := []) C (c_X5_tellUnsure l D cy ht ht_rows ht_evidence ht_tape E.2.2.1 q3.2.1 q2.2.2.1 q5 hc) gV_X5_X5_tellUnsure hd_X5_tellUnsure ⟨Nat.le_of_ble_eq_true rfl, Nat.le_of_ble_eq_true rfl⟩ ⟨Nat.le_refl _, Nat.le_refl _⟩ (va_recv hK hP (ci := 2) (q0 := 0) rfl rfl) hP hD hS (w2 := wRd ht (ht_rows 0) (ht_evidence 0) (ht_tape 0) E.2.2.1 cy q3.2.1 ++ (wEv ht_evidence cy q5 ++ (wRows ht_rows cy q3.2.2 ++ (wTape ht_tape cy q2.2.2.2.2)))) [0, 1, 2, 3, 4, 5, 6, 7, 8, 9] [10, 11, 12, 13, 14, 15, 16, 17, 18, 19] [10, 11, 12, 13, 14, 15, 16, 17, 18, 19, 0, 1, 2, 3, 4, 5, 6, 7, 8, 9] rfl rfl rfl rfl rfl rfl (by decide) hl.1 (Nat.le_of_ble_eq_true rfl) dX5_readStore_88 (fun H locs hP hD hS => ?_)
            refine lv_iconst (v := (1 : Int32)) hx hb dX5_readStore_91 (by decide) ?_
            obtain rfl := Option.some.inj hf
            exact z_zret (v := (1 : Int32)) C rfl hP hD hS dX5_readStore_92
        · refine lv_aload_n hx hb dX5_readStore_70 rfl (lv_at hl 0 rfl) ?_
          refine lv_bipush (v := (8 : Int32)) hx hb dX5_readStore_71 (by decide) ?_
          obtain ⟨q6, hc, hf⟩ := zbd hf
          refine z_cVi (As := [.int (8 : Int32)]) (rest := []) C (c_X5_fail l D cy ht ht_rows ht_evidence ht_tape E.2.2.1 q3.2.1 q2.2.2.2.2 (8 : Int32) q6 hc) gV_X5_X5_fail hd_X5_fail ⟨Nat.le_of_ble_eq_true rfl, Nat.le_of_ble_eq_true rfl⟩ ⟨Nat.le_refl _, Nat.le_refl _⟩ (va_recv hK hP (ci := 2) (q0 := 0) rfl rfl) hP hD hS (w2 := wRd ht (ht_rows 0) (ht_evidence 0) (ht_tape 0) E.2.2.1 cy q6.2 ++ (wEv ht_evidence cy q2.2.2.1 ++ (wRows ht_rows cy q3.2.2 ++ (wTape ht_tape cy q2.2.2.2.2)))) [0, 1, 2, 3, 4, 18, 19] [5, 6, 7, 8, 9, 10, 11, 12, 13, 14, 15, 16, 17] [13, 14, 15, 16, 17, 0, 1, 2, 3, 4, 5, 6, 7, 8, 9, 10, 11, 12, 18, 19] rfl rfl rfl rfl rfl rfl (by decide) hl.1 (Nat.le_of_ble_eq_true rfl) dX5_readStore_73 (fun H locs hP hD hS => ?_)
          obtain ⟨hz, hf⟩ := zgd hf
          obtain rfl := Option.some.inj hf
          exact z_zret (v := q6.1) C (zbo_n hz) hP hD hS dX5_readStore_76
      · refine lv_iconst (v := (0 : Int32)) hx hb dX5_readStore_61 (by decide) ?_
        obtain rfl := Option.some.inj hf
        exact z_zret (v := (0 : Int32)) C rfl hP hD hS dX5_readStore_62
def f_X5_readStore (St : SRd) (St_evidence : SEv) (St_rows : SRows) (St_tape : STape) (x1 : Int32) : Option (Int32 × SRd × SEv × SRows × STape) :=
  (f_X6_startAnew St_rows (0 : Int32) (0 : Int32) (0 : Int32) (0 : Int32)).bind (fun q7 =>
    (f_X2_startAnew St_evidence).bind (fun q8 =>
      (f_X7_startText St_tape x1).bind (fun q9 =>
        (zl5 (b_X5_readStore_49 x1) FU (mkRd (0 : Int32) (-2 : Int32) (0 : Int32) (Rd_names St) (Rd_nameStamps St) (Rd_nameSlots St) (Rd_unsureNames St) (0 : Int32) (Rd_head St) (Rd_name St) (Rd_row St) (Rd_whole St)) q8 q7 q9 (0 : Int32)))))
set_option maxHeartbeats 4000000 in
set_option maxRecDepth 100000 in
theorem c_X5_readStore (l : Launch) (D : va_G) (cy : Nat → ClassId) (E : zEn) (ht : Nat → Nat) (ht_rows : Nat → Nat) (ht_evidence : Nat → Nat) (ht_tape : Nat → Nat) (St : SRd) (St_evidence : SEv) (St_rows : SRows) (St_tape : STape) (x1 : Int32) (r : Int32 × SRd × SEv × SRows × STape) (hf : f_X5_readStore St St_evidence St_rows St_tape x1 = some r) : zCIs l yX5_readStore cX5_readStore 3 (some FieldType.boolean) 9 189 D (zty cy) E [.ref (ht 0), .int x1] (wRd ht (ht_rows 0) (ht_evidence 0) (ht_tape 0) E.2.2.1 cy St ++ (wEv ht_evidence cy St_evidence ++ (wRows ht_rows cy St_rows ++ (wTape ht_tape cy St_tape)))) (wRd ht (ht_rows 0) (ht_evidence 0) (ht_tape 0) E.2.2.1 cy r.2.1 ++ (wEv ht_evidence cy r.2.2.1 ++ (wRows ht_rows cy r.2.2.2.1 ++ (wTape ht_tape cy r.2.2.2.2)))) r.1 := by
  refine zCIs_of (by decide +kernel) (Nat.le_of_ble_eq_true rfl) ?_
  intro p e s m below meth c A ls C hE hP hD hS hl
  generalize hargs : ([.ref (ht 0), .int x1] : List Value).toArray = args at C ⊢
  have C : zX p s m meth c cX5_readStore 3 args RX5 (some FieldType.boolean) A D (zty cy) := C
  obtain ⟨hx, hb, hr, hts, hown, hlocks, hml, hA, hK⟩ := id C
  have hl : lv_has ls 3 [(0, .ref (ht 0)), (1, .int x1)] := hl
  generalize hH : s.heap = H at hP ⊢
  have hS : va_S A s.heap H [] := by rw [← hH]; exact hS
  generalize ([] : List Loc) = locs at hS ⊢
  refine lv_aload_n hx hb dX5_readStore_0 rfl (lv_at hl 0 rfl) ?_
  refine lv_iconst (v := (0 : Int32)) hx hb dX5_readStore_1 (by decide) ?_
  refine z_put (w2 := vRd ht (ht_rows 0) (ht_evidence 0) (ht_tape 0) E.2.2.1 cy (0 : Int32) (Rd_place St) (Rd_nameCount St) (Rd_names St) (Rd_nameStamps St) (Rd_nameSlots St) (Rd_unsureNames St) (Rd_unsureCount St) (Rd_head St) (Rd_name St) (Rd_row St) (Rd_whole St) ++ (wEv ht_evidence cy St_evidence ++ (wRows ht_rows cy St_rows ++ (wTape ht_tape cy St_tape)))) hx hb hts in_X5 tyX5 tyX5_ok nmX5 hown hK hP hD hS 0 rfl rfl 0 (by decide) (hts _ q1_177) (fun _ h9 => h9) rfl rfl rfl (Nat.le_of_ble_eq_true rfl) dX5_readStore_2 rfl (fun H locs hP hD hS => ?_)
  refine lv_aload_n hx hb dX5_readStore_5 rfl (lv_at hl 0 rfl) ?_
  refine lv_bipush (v := (-2 : Int32)) hx hb dX5_readStore_6 (by decide) ?_
  refine z_put (w2 := vRd ht (ht_rows 0) (ht_evidence 0) (ht_tape 0) E.2.2.1 cy (0 : Int32) (-2 : Int32) (Rd_nameCount St) (Rd_names St) (Rd_nameStamps St) (Rd_nameSlots St) (Rd_unsureNames St) (Rd_unsureCount St) (Rd_head St) (Rd_name St) (Rd_row St) (Rd_whole St) ++ (wEv ht_evidence cy St_evidence ++ (wRows ht_rows cy St_rows ++ (wTape ht_tape cy St_tape)))) hx hb hts in_X5 tyX5 tyX5_ok nmX5 hown hK hP hD hS 0 rfl rfl 1 (by decide) (hts _ q1_179) (fun _ h9 => h9) rfl rfl rfl (Nat.le_of_ble_eq_true rfl) dX5_readStore_8 rfl (fun H locs hP hD hS => ?_)
  refine lv_aload_n hx hb dX5_readStore_11 rfl (lv_at hl 0 rfl) ?_
  refine lv_iconst (v := (0 : Int32)) hx hb dX5_readStore_12 (by decide) ?_
  refine z_put (w2 := vRd ht (ht_rows 0) (ht_evidence 0) (ht_tape 0) E.2.2.1 cy (0 : Int32) (-2 : Int32) (0 : Int32) (Rd_names St) (Rd_nameStamps St) (Rd_nameSlots St) (Rd_unsureNames St) (Rd_unsureCount St) (Rd_head St) (Rd_name St) (Rd_row St) (Rd_whole St) ++ (wEv ht_evidence cy St_evidence ++ (wRows ht_rows cy St_rows ++ (wTape ht_tape cy St_tape)))) hx hb hts in_X5 tyX5 tyX5_ok nmX5 hown hK hP hD hS 0 rfl rfl 5 (by decide) (hts _ q1_187) (fun _ h9 => h9) rfl rfl rfl (Nat.le_of_ble_eq_true rfl) dX5_readStore_13 rfl (fun H locs hP hD hS => ?_)
  refine lv_aload_n hx hb dX5_readStore_16 rfl (lv_at hl 0 rfl) ?_
  refine lv_iconst (v := (0 : Int32)) hx hb dX5_readStore_17 (by decide) ?_
  refine z_put (w2 := vRd ht (ht_rows 0) (ht_evidence 0) (ht_tape 0) E.2.2.1 cy (0 : Int32) (-2 : Int32) (0 : Int32) (Rd_names St) (Rd_nameStamps St) (Rd_nameSlots St) (Rd_unsureNames St) (0 : Int32) (Rd_head St) (Rd_name St) (Rd_row St) (Rd_whole St) ++ (wEv ht_evidence cy St_evidence ++ (wRows ht_rows cy St_rows ++ (wTape ht_tape cy St_tape)))) hx hb hts in_X5 tyX5 tyX5_ok nmX5 hown hK hP hD hS 0 rfl rfl 10 (by decide) (hts _ q1_192) (fun _ h9 => h9) rfl rfl rfl (Nat.le_of_ble_eq_true rfl) dX5_readStore_18 rfl (fun H locs hP hD hS => ?_)
  refine lv_aload_n hx hb dX5_readStore_21 rfl (lv_at hl 0 rfl) ?_
  refine va_get (D := D) (ci := 2) (v := .ref (ht_rows 0)) (C := RX5) (T := TX5) (N := 15) hx hb hts in_X5 hown hK hP 0 rfl rfl 2 (by decide) (hts _ q1_181) (fun _ h9 => h9) rfl dX5_readStore_22 ?_
  refine lv_iconst (v := (0 : Int32)) hx hb dX5_readStore_25 (by decide) ?_
  refine lv_iconst (v := (0 : Int32)) hx hb dX5_readStore_26 (by decide) ?_
  refine lv_iconst (v := (0 : Int32)) hx hb dX5_readStore_27 (by decide) ?_
  refine lv_iconst (v := (0 : Int32)) hx hb dX5_readStore_28 (by decide) ?_
  obtain ⟨q7, hc, hf⟩ := zbd hf
  refine z_cVv (As := [.int (0 : Int32), .int (0 : Int32), .int (0 : Int32), .int (0 : Int32)]) (rest := []) C (c_X6_startAnew l D cy ht_rows St_rows (0 : Int32) (0 : Int32) (0 : Int32) (0 : Int32) q7 hc) gV_X5_X6_startAnew hd_X6_startAnew ⟨Nat.le_of_ble_eq_true rfl, Nat.le_of_ble_eq_true rfl⟩ ⟨Nat.le_refl _, Nat.le_refl _⟩ (va_recv hK hP (ci := 3) (q0 := 10) rfl rfl) hP hD hS (w2 := vRd ht (ht_rows 0) (ht_evidence 0) (ht_tape 0) E.2.2.1 cy (0 : Int32) (-2 : Int32) (0 : Int32) (Rd_names St) (Rd_nameStamps St) (Rd_nameSlots St) (Rd_unsureNames St) (0 : Int32) (Rd_head St) (Rd_name St) (Rd_row St) (Rd_whole St) ++ (wEv ht_evidence cy St_evidence ++ (wRows ht_rows cy q7 ++ (wTape ht_tape cy St_tape)))) [10, 11, 12, 13, 14, 15, 16, 17] [0, 1, 2, 3, 4, 5, 6, 7, 8, 9, 18, 19] [0, 1, 2, 3, 4, 5, 6, 7, 8, 9, 12, 13, 14, 15, 16, 17, 18, 19, 10, 11] rfl rfl rfl rfl rfl rfl (by decide) hl.1 (Nat.le_of_ble_eq_true rfl) dX5_readStore_29 (fun H locs hP hD hS => ?_)
  refine lv_aload_n hx hb dX5_readStore_32 rfl (lv_at hl 0 rfl) ?_
  refine va_get (D := D) (ci := 2) (v := .ref (ht_evidence 0)) (C := RX5) (T := TX5) (N := 15) hx hb hts in_X5 hown hK hP 0 rfl rfl 3 (by decide) (hts _ q1_183) (fun _ h9 => h9) rfl dX5_readStore_33 ?_
  obtain ⟨q8, hc, hf⟩ := zbd hf
  refine z_cVv (As := []) (rest := []) C (c_X2_startAnew l D cy ht_evidence St_evidence q8 hc) gV_X5_X2_startAnew hd_X2_startAnew ⟨Nat.le_of_ble_eq_true rfl, Nat.le_of_ble_eq_true rfl⟩ ⟨Nat.le_refl _, Nat.le_refl _⟩ (va_recv hK hP (ci := 0) (q0 := 5) rfl rfl) hP hD hS (w2 := vRd ht (ht_rows 0) (ht_evidence 0) (ht_tape 0) E.2.2.1 cy (0 : Int32) (-2 : Int32) (0 : Int32) (Rd_names St) (Rd_nameStamps St) (Rd_nameSlots St) (Rd_unsureNames St) (0 : Int32) (Rd_head St) (Rd_name St) (Rd_row St) (Rd_whole St) ++ (wEv ht_evidence cy q8 ++ (wRows ht_rows cy q7 ++ (wTape ht_tape cy St_tape)))) [5, 6, 7, 8, 9] [0, 1, 2, 3, 4, 10, 11, 12, 13, 14, 15, 16, 17, 18, 19] [0, 1, 2, 3, 4, 15, 16, 17, 18, 19, 5, 6, 7, 8, 9, 10, 11, 12, 13, 14] rfl rfl rfl rfl rfl rfl (by decide) hl.1 (Nat.le_of_ble_eq_true rfl) dX5_readStore_36 (fun H locs hP hD hS => ?_)
  refine lv_aload_n hx hb dX5_readStore_39 rfl (lv_at hl 0 rfl) ?_
  refine va_get (D := D) (ci := 2) (v := .ref (ht_tape 0)) (C := RX5) (T := TX5) (N := 15) hx hb hts in_X5 hown hK hP 0 rfl rfl 4 (by decide) (hts _ q1_185) (fun _ h9 => h9) rfl dX5_readStore_40 ?_
  refine lv_iload_n hx hb dX5_readStore_43 rfl (lv_at hl 1 rfl) ?_
  obtain ⟨q9, hc, hf⟩ := zbd hf
  refine z_cVv (As := [.int x1]) (rest := []) C (c_X7_startText l D cy ht_tape St_tape x1 q9 hc) gV_X5_X7_startText hd_X7_startText ⟨Nat.le_of_ble_eq_true rfl, Nat.le_of_ble_eq_true rfl⟩ ⟨Nat.le_refl _, Nat.le_refl _⟩ (va_recv hK hP (ci := 4) (q0 := 18) rfl rfl) hP hD hS (w2 := vRd ht (ht_rows 0) (ht_evidence 0) (ht_tape 0) E.2.2.1 cy (0 : Int32) (-2 : Int32) (0 : Int32) (Rd_names St) (Rd_nameStamps St) (Rd_nameSlots St) (Rd_unsureNames St) (0 : Int32) (Rd_head St) (Rd_name St) (Rd_row St) (Rd_whole St) ++ (wEv ht_evidence cy q8 ++ (wRows ht_rows cy q7 ++ (wTape ht_tape cy q9)))) [18, 19] [0, 1, 2, 3, 4, 5, 6, 7, 8, 9, 10, 11, 12, 13, 14, 15, 16, 17] [0, 1, 2, 3, 4, 5, 6, 7, 8, 9, 10, 11, 12, 13, 14, 15, 16, 17, 18, 19] rfl rfl rfl rfl rfl rfl (by decide) hl.1 (Nat.le_of_ble_eq_true rfl) dX5_readStore_44 (fun H locs hP hD hS => ?_)
  refine lv_iconst (v := (0 : Int32)) hx hb dX5_readStore_47 (by decide) ?_
  refine lv_istore_n (lv' := [(2, .int (0 : Int32)), (0, .ref (ht 0)), (1, .int x1)]) hx hb dX5_readStore_48 rfl hl (by decide) rfl (fun ls hl => ?_)
  rw [← wRd_mk ht] at hP hD
  exact w_X5_readStore_49 l E ht ht_rows ht_evidence ht_tape x1 C hE FU (mkRd (0 : Int32) (-2 : Int32) (0 : Int32) (Rd_names St) (Rd_nameStamps St) (Rd_nameSlots St) (Rd_unsureNames St) (0 : Int32) (Rd_head St) (Rd_name St) (Rd_row St) (Rd_whole St)) q8 q7 q9 (0 : Int32) H locs ls hf hP hD hS (lv_sub hl [1, 2, 0] rfl)
