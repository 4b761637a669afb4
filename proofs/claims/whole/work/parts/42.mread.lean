theorem gV_X10_J0_charAt_5068e : GoodIn WT (wsV RX10 196 RJ0 yJ0_charAt_5068e (.code yJ0_charAt_5068e cJ0_charAt_5068e 2 (some FieldType.char) :: WT)) := gzV q6_216 q2_118 q2_119 q1_10 q2_120
theorem gV_X10_J0_length_8abf5 : GoodIn WT (wsV RX10 190 RJ0 yJ0_length_8abf5 (.code yJ0_length_8abf5 cJ0_length_8abf5 1 (some FieldType.int) :: WT)) := gzV q6_215 q2_108 q2_109 q1_10 q2_110
theorem hd_X10_after : yX10_after.cls = RX10 ∧ yX10_after.cls ≠ "java/lang/invoke/MethodHandle" ∧ yX10_after.cls ≠ "java/lang/invoke/VarHandle" ∧ (parseMethodDescriptor yX10_after.desc).map (fun d => d.parameters.length) = some 3 := by decide +kernel
theorem gV_X10_X10_after : GoodIn WT (wsV RX10 298 RX10 yX10_after (.code yX10_after cX10_after 4 (some FieldType.int) :: WT)) := gzV q6_239 q7_1 s_X10_after q1_8 q7_2
theorem hd_X10_allLine : yX10_allLine.cls = RX10 ∧ yX10_allLine.cls ≠ "java/lang/invoke/MethodHandle" ∧ yX10_allLine.cls ≠ "java/lang/invoke/VarHandle" ∧ (parseMethodDescriptor yX10_allLine.desc).map (fun d => d.parameters.length) = some 1 := by decide +kernel
theorem gV_X10_X10_allLine : GoodIn WT (wsV RX10 286 RX10 yX10_allLine (.code yX10_allLine cX10_allLine 2 none :: WT)) := gzV q7_138 q7_140 s_X10_allLine q1_8 q7_141
theorem hd_X10_beginLine : yX10_beginLine.cls = RX10 ∧ yX10_beginLine.cls ≠ "java/lang/invoke/MethodHandle" ∧ yX10_beginLine.cls ≠ "java/lang/invoke/VarHandle" ∧ (parseMethodDescriptor yX10_beginLine.desc).map (fun d => d.parameters.length) = some 0 := by decide +kernel
theorem gV_X10_X10_beginLine : GoodIn WT (wsV RX10 275 RX10 yX10_beginLine (.code yX10_beginLine cX10_beginLine 3 none :: WT)) := gzV q7_18 q7_20 s_X10_beginLine q1_8 q7_21
theorem hd_X10_endLine : yX10_endLine.cls = RX10 ∧ yX10_endLine.cls ≠ "java/lang/invoke/MethodHandle" ∧ yX10_endLine.cls ≠ "java/lang/invoke/VarHandle" ∧ (parseMethodDescriptor yX10_endLine.desc).map (fun d => d.parameters.length) = some 1 := by decide +kernel
theorem gV_X10_X10_endLine : GoodIn WT (wsV RX10 282 RX10 yX10_endLine (.code yX10_endLine cX10_endLine 3 none :: WT)) := gzV q7_130 q7_132 s_X10_endLine q1_8 q7_133
theorem hd_X10_find : yX10_find.cls = RX10 ∧ yX10_find.cls ≠ "java/lang/invoke/MethodHandle" ∧ yX10_find.cls ≠ "java/lang/invoke/VarHandle" ∧ (parseMethodDescriptor yX10_find.desc).map (fun d => d.parameters.length) = some 0 := by decide +kernel
theorem gV_X10_X10_find : GoodIn WT (wsV RX10 309 RX10 yX10_find (.code yX10_find cX10_find 4 (some FieldType.int) :: WT)) := gzV q7_27 q7_29 s_X10_find q1_8 q7_30
theorem hd_X10_isLine : yX10_isLine.cls = RX10 ∧ yX10_isLine.cls ≠ "java/lang/invoke/MethodHandle" ∧ yX10_isLine.cls ≠ "java/lang/invoke/VarHandle" ∧ (parseMethodDescriptor yX10_isLine.desc).map (fun d => d.parameters.length) = some 0 := by decide +kernel
theorem gV_X10_X10_isLine : GoodIn WT (wsV RX10 231 RX10 yX10_isLine (.code yX10_isLine cX10_isLine 1 (some FieldType.boolean) :: WT)) := gzV q7_5 q7_7 s_X10_isLine q1_8 q7_8
theorem hd_X10_isWord : yX10_isWord.cls = RX10 ∧ yX10_isWord.cls ≠ "java/lang/invoke/MethodHandle" ∧ yX10_isWord.cls ≠ "java/lang/invoke/VarHandle" ∧ (parseMethodDescriptor yX10_isWord.desc).map (fun d => d.parameters.length) = some 1 := by decide +kernel
theorem gV_X10_X10_isWord : GoodIn WT (wsV RX10 200 RX10 yX10_isWord (.code yX10_isWord cX10_isWord 4 (some FieldType.boolean) :: WT)) := gzV q6_211 q6_213 s_X10_isWord q1_8 q6_214
theorem hd_X10_must : yX10_must.cls = RX10 ∧ yX10_must.cls ≠ "java/lang/invoke/MethodHandle" ∧ yX10_must.cls ≠ "java/lang/invoke/VarHandle" ∧ (parseMethodDescriptor yX10_must.desc).map (fun d => d.parameters.length) = some 1 := by decide +kernel
theorem gV_X10_X10_must : GoodIn WT (wsV RX10 240 RX10 yX10_must (.code yX10_must cX10_must 2 none :: WT)) := gzV q6_226 q6_228 s_X10_must q1_8 q6_229
theorem hd_X10_mustName : yX10_mustName.cls = RX10 ∧ yX10_mustName.cls ≠ "java/lang/invoke/MethodHandle" ∧ yX10_mustName.cls ≠ "java/lang/invoke/VarHandle" ∧ (parseMethodDescriptor yX10_mustName.desc).map (fun d => d.parameters.length) = some 0 := by decide +kernel
theorem gV_X10_X10_mustName : GoodIn WT (wsV RX10 306 RX10 yX10_mustName (.code yX10_mustName cX10_mustName 1 none :: WT)) := gzV q7_22 q7_24 s_X10_mustName q1_8 q7_25
theorem hd_X10_number : yX10_number.cls = RX10 ∧ yX10_number.cls ≠ "java/lang/invoke/MethodHandle" ∧ yX10_number.cls ≠ "java/lang/invoke/VarHandle" ∧ (parseMethodDescriptor yX10_number.desc).map (fun d => d.parameters.length) = some 2 := by decide +kernel
theorem gV_X10_X10_number : GoodIn WT (wsV RX10 244 RX10 yX10_number (.code yX10_number cX10_number 4 (some FieldType.int) :: WT)) := gzV q6_230 q6_232 s_X10_number q1_8 q6_233
theorem hd_X10_putLine : yX10_putLine.cls = RX10 ∧ yX10_putLine.cls ≠ "java/lang/invoke/MethodHandle" ∧ yX10_putLine.cls ≠ "java/lang/invoke/VarHandle" ∧ (parseMethodDescriptor yX10_putLine.desc).map (fun d => d.parameters.length) = some 1 := by decide +kernel
theorem gV_X10_X10_putLine : GoodIn WT (wsV RX10 278 RX10 yX10_putLine (.code yX10_putLine cX10_putLine 7 none :: WT)) := gzV q7_78 q7_80 s_X10_putLine q1_8 q7_81
theorem hd_X10_readLine : yX10_readLine.cls = RX10 ∧ yX10_readLine.cls ≠ "java/lang/invoke/MethodHandle" ∧ yX10_readLine.cls ≠ "java/lang/invoke/VarHandle" ∧ (parseMethodDescriptor yX10_readLine.desc).map (fun d => d.parameters.length) = some 0 := by decide +kernel
theorem gV_X10_X10_readLine : GoodIn WT (wsV RX10 253 RX10 yX10_readLine (.code yX10_readLine cX10_readLine 1 none :: WT)) := gzV q6_206 q6_208 s_X10_readLine q1_8 q6_209
theorem hd_X10_seenLine : yX10_seenLine.cls = RX10 ∧ yX10_seenLine.cls ≠ "java/lang/invoke/MethodHandle" ∧ yX10_seenLine.cls ≠ "java/lang/invoke/VarHandle" ∧ (parseMethodDescriptor yX10_seenLine.desc).map (fun d => d.parameters.length) = some 0 := by decide +kernel
theorem gV_X10_X10_seenLine : GoodIn WT (wsV RX10 292 RX10 yX10_seenLine (.code yX10_seenLine cX10_seenLine 3 none :: WT)) := gzV q7_170 q7_172 s_X10_seenLine q1_8 q7_173
theorem hd_X10_storeLine : yX10_storeLine.cls = RX10 ∧ yX10_storeLine.cls ≠ "java/lang/invoke/MethodHandle" ∧ yX10_storeLine.cls ≠ "java/lang/invoke/VarHandle" ∧ (parseMethodDescriptor yX10_storeLine.desc).map (fun d => d.parameters.length) = some 0 := by decide +kernel
theorem gV_X10_X10_storeLine : GoodIn WT (wsV RX10 272 RX10 yX10_storeLine (.code yX10_storeLine cX10_storeLine 1 none :: WT)) := gzV q6_217 q6_219 s_X10_storeLine q1_8 q6_220
theorem hd_X10_unsureLine : yX10_unsureLine.cls = RX10 ∧ yX10_unsureLine.cls ≠ "java/lang/invoke/MethodHandle" ∧ yX10_unsureLine.cls ≠ "java/lang/invoke/VarHandle" ∧ (parseMethodDescriptor yX10_unsureLine.desc).map (fun d => d.parameters.length) = some 0 := by decide +kernel
theorem gV_X10_X10_unsureLine : GoodIn WT (wsV RX10 289 RX10 yX10_unsureLine (.code yX10_unsureLine cX10_unsureLine 2 none :: WT)) := gzV q7_166 q7_168 s_X10_unsureLine q1_8 q7_169
theorem hd_X10_writerPassed : yX10_writerPassed.cls = RX10 ∧ yX10_writerPassed.cls ≠ "java/lang/invoke/MethodHandle" ∧ yX10_writerPassed.cls ≠ "java/lang/invoke/VarHandle" ∧ (parseMethodDescriptor yX10_writerPassed.desc).map (fun d => d.parameters.length) = some 1 := by decide +kernel
theorem gV_X10_X10_writerPassed : GoodIn WT (wsV RX10 325 RX10 yX10_writerPassed (.code yX10_writerPassed cX10_writerPassed 4 (some FieldType.int) :: WT)) := gzV q7_82 q7_84 s_X10_writerPassed q1_8 q7_85
def b_X10_isWord_32 (St : SMo) (St_letters : Nat → Int32) (x1 : Nat) (k32 : Int32 → Int32 → Option (Int32)) (v2 : Int32) (v3 : Int32) : Option (Int32) :=
  (if (Mo_nameSize St) ≤ v3 then
    (if zbo v2 then some v2 else none)
    else
    (if v2 = 0 then
      (k32 (0 : Int32) (v3 + (1 : Int32)))
      else
      (if zib v3 8 then (if x1 < 15 then (f_J0_charAt_5068e x1 v3).bind (fun q2 =>
            (if (St_letters v3.toNatClampNeg) = q2 then
              (k32 (1 : Int32) (v3 + (1 : Int32)))
              else
              (k32 (0 : Int32) (v3 + (1 : Int32))))) else none) else none)))
set_option maxHeartbeats 4000000 in
set_option maxRecDepth 100000 in
theorem w_X10_isWord_32 {p : Program} {e : Env} {s : State} {m : MethodId} {below : List Frame} {meth : Method} {c : Code} {A : Nat → Prop} {D : va_G} {cy : Nat → ClassId} {args : Array Value} {r : Int32} (l : Launch) (E : zEn) (ht : Nat → Nat) (St : SMo) (St_letters : Nat → Int32) (x1 : Nat) (C : zX p s m meth c cX10_isWord 4 args RX10 (some FieldType.boolean) A D (zty cy)) (hE : zE E A s s.heap) :
    ∀ (n : Nat) (v2 : Int32) (v3 : Int32) (H : Heap) (locs : List Loc) (ls : Array Slot), zl2 (b_X10_isWord_32 St St_letters x1) n v2 v3 = some r → va_P D vwCl (wMo ht cy St ++ (wAI (fun _ => ht 2) cy 8 St_letters)) H → va_D A (wMo ht cy St ++ (wAI (fun _ => ht 2) cy 8 St_letters)) → va_S A s.heap H locs → lv_has ls 4 [(0, .ref (ht 0)), (1, .ref (E.1 x1)), (2, .int v2), (3, .int v3)] → W p l e (zRm 4 85) s m args below meth c H locs 0 0 (MQ below (zQI D (zty cy) A (wMo ht cy St ++ (wAI (fun _ => ht 2) cy 8 St_letters)) r) args s 0 0 A) (F0 m 32 ls []) := by
  obtain ⟨hx, hb, hr, hts, hown, hlocks, hml, hA, hK⟩ := id C
  intro n
  induction n with
  | zero => intro v2 v3 H locs ls hf; exact zno hf
  | succ n ih =>
    intro v2 v3 H locs ls hf hP hD hS hl
    have hf : b_X10_isWord_32 St St_letters x1 (zl2 (b_X10_isWord_32 St St_letters x1) n) v2 v3 = some r := hf
    have K32 := ih
    refine lv_iload_n hx hb dX10_isWord_32 rfl (lv_at hl 3 rfl) ?_
    refine lv_aload_n hx hb dX10_isWord_33 rfl (lv_at hl 0 rfl) ?_
    refine va_get (D := D) (ci := 6) (v := .int (Mo_nameSize St)) (C := RX10) (T := TX10) (N := 41) hx hb hts in_X10 hown hK hP 0 rfl rfl 8 (by decide) (hts _ q6_53) (fun _ h9 => h9) rfl dX10_isWord_34 ?_
    refine z_icmp_ge (tgt := 70) hx hb dX10_isWord_37 (by decide) hf (fun hf => ?_) (fun hf => ?_)
    · refine lv_iload_n hx hb dX10_isWord_70 rfl (lv_at hl 2 rfl) ?_
      obtain ⟨hz, hf⟩ := zgd hf
      obtain rfl := Option.some.inj hf
      exact z_zret (v := v2) C (zbo_n hz) hP hD hS dX10_isWord_71
    · refine lv_iload_n hx hb dX10_isWord_40 rfl (lv_at hl 2 rfl) ?_
      refine z_if_eq (tgt := 62) hx hb dX10_isWord_41 (by decide) hf (fun hf => ?_) (fun hf => ?_)
      · refine lv_iconst (v := (0 : Int32)) hx hb dX10_isWord_62 (by decide) ?_
        refine lv_istore_n (lv' := [(2, .int (0 : Int32)), (0, .ref (ht 0)), (1, .ref (E.1 x1)), (3, .int v3)]) hx hb dX10_isWord_63 rfl hl (by decide) rfl (fun ls hl => ?_)
        refine lv_iinc (v := (v3 + (1 : Int32))) (lv' := [(3, .int (v3 + (1 : Int32))), (2, .int (0 : Int32)), (0, .ref (ht 0)), (1, .ref (E.1 x1))]) hx hb dX10_isWord_64 hl (k := 3) rfl rfl (by decide) rfl (fun ls hl => ?_)
        refine lv_goto (tgt := 32) hx hb dX10_isWord_67 (by decide) ?_
        exact K32 (0 : Int32) (v3 + (1 : Int32)) H locs ls hf hP hD hS (lv_sub hl [2, 3, 1, 0] rfl)
      · refine lv_aload_n hx hb dX10_isWord_44 rfl (lv_at hl 0 rfl) ?_
        refine va_get (D := D) (ci := 6) (v := .ref (ht 2)) (C := RX10) (T := TX10) (N := 41) hx hb hts in_X10 hown hK hP 0 rfl rfl 12 (by decide) (hts _ q6_57) (fun _ h9 => h9) rfl dX10_isWord_45 ?_
        refine lv_iload_n hx hb dX10_isWord_48 rfl (lv_at hl 3 rfl) ?_
        refine z_iald (f := St_letters) hx hb hK hP 1 0 rfl rfl dX10_isWord_49 hf (fun hf => ?_)
        refine lv_aload_n hx hb dX10_isWord_50 rfl (lv_at hl 1 rfl) ?_
        refine lv_iload_n hx hb dX10_isWord_51 rfl (lv_at hl 3 rfl) ?_
        obtain ⟨hs1, hf⟩ := zgd hf
        obtain ⟨q2, hc, hf⟩ := zbd hf
        refine z_cVisE (As := [.int v3]) (rest := [.int (St_letters v3.toNatClampNeg)]) C hE (c_J0_charAt_5068e l D cy E x1 v3 q2 hc) gV_X10_J0_charAt_5068e hd_J0_charAt_5068e ⟨Nat.le_of_ble_eq_true rfl, Nat.le_of_ble_eq_true rfl⟩ ⟨Nat.le_refl _, Nat.le_refl _⟩ (vk_recv hE.1 hs1 hS) hP hD hS hl.1 (Nat.le_of_ble_eq_true rfl) dX10_isWord_52 (fun H locs hP hD hS => ?_)
        refine z_icmp_ne (tgt := 62) hx hb dX10_isWord_55 (by decide) hf (fun hf => ?_) (fun hf => ?_)
        · refine lv_iconst (v := (0 : Int32)) hx hb dX10_isWord_62 (by decide) ?_
          refine lv_istore_n (lv' := [(2, .int (0 : Int32)), (0, .ref (ht 0)), (1, .ref (E.1 x1)), (3, .int v3)]) hx hb dX10_isWord_63 rfl hl (by decide) rfl (fun ls hl => ?_)
          refine lv_iinc (v := (v3 + (1 : Int32))) (lv' := [(3, .int (v3 + (1 : Int32))), (2, .int (0 : Int32)), (0, .ref (ht 0)), (1, .ref (E.1 x1))]) hx hb dX10_isWord_64 hl (k := 3) rfl rfl (by decide) rfl (fun ls hl => ?_)
          refine lv_goto (tgt := 32) hx hb dX10_isWord_67 (by decide) ?_
          exact K32 (0 : Int32) (v3 + (1 : Int32)) H locs ls hf hP hD hS (lv_sub hl [2, 3, 1, 0] rfl)
        · refine lv_iconst (v := (1 : Int32)) hx hb dX10_isWord_58 (by decide) ?_
          refine lv_goto (tgt := 63) hx hb dX10_isWord_59 (by decide) ?_
          refine lv_istore_n (lv' := [(2, .int (1 : Int32)), (0, .ref (ht 0)), (1, .ref (E.1 x1)), (3, .int v3)]) hx hb dX10_isWord_63 rfl hl (by decide) rfl (fun ls hl => ?_)
          refine lv_iinc (v := (v3 + (1 : Int32))) (lv' := [(3, .int (v3 + (1 : Int32))), (2, .int (1 : Int32)), (0, .ref (ht 0)), (1, .ref (E.1 x1))]) hx hb dX10_isWord_64 hl (k := 3) rfl rfl (by decide) rfl (fun ls hl => ?_)
          refine lv_goto (tgt := 32) hx hb dX10_isWord_67 (by decide) ?_
          exact K32 (1 : Int32) (v3 + (1 : Int32)) H locs ls hf hP hD hS (lv_sub hl [2, 3, 1, 0] rfl)
def f_X10_isWord (St : SMo) (St_letters : Nat → Int32) (x1 : Nat) : Option (Int32) :=
  (if (Mo_failed St) = 0 then
    (if (Mo_token St) = (2 : Int32) then
      (if x1 < 15 then (f_J0_length_8abf5 x1).bind (fun q4 =>
          (if (Mo_nameSize St) = q4 then
            (zl2 (b_X10_isWord_32 St St_letters x1) FU (1 : Int32) (0 : Int32))
            else
            some (0 : Int32))) else none)
      else
      some (0 : Int32))
    else
    some (0 : Int32))
set_option maxHeartbeats 4000000 in
set_option maxRecDepth 100000 in
theorem c_X10_isWord (l : Launch) (D : va_G) (cy : Nat → ClassId) (E : zEn) (ht : Nat → Nat) (St : SMo) (St_letters : Nat → Int32) (x1 : Nat) (r : Int32) (hf : f_X10_isWord St St_letters x1 = some r) : zCIs l yX10_isWord cX10_isWord 4 (some FieldType.boolean) 4 85 D (zty cy) E [.ref (ht 0), .ref (E.1 x1)] (wMo ht cy St ++ (wAI (fun _ => ht 2) cy 8 St_letters)) (wMo ht cy St ++ (wAI (fun _ => ht 2) cy 8 St_letters)) r := by
  refine zCIs_of (by decide +kernel) (Nat.le_of_ble_eq_true rfl) ?_
  intro p e s m below meth c A ls C hE hP hD hS hl
  generalize hargs : ([.ref (ht 0), .ref (E.1 x1)] : List Value).toArray = args at C ⊢
  have C : zX p s m meth c cX10_isWord 4 args RX10 (some FieldType.boolean) A D (zty cy) := C
  obtain ⟨hx, hb, hr, hts, hown, hlocks, hml, hA, hK⟩ := id C
  have hl : lv_has ls 4 [(0, .ref (ht 0)), (1, .ref (E.1 x1))] := hl
  generalize hH : s.heap = H at hP ⊢
  have hS : va_S A s.heap H [] := by rw [← hH]; exact hS
  generalize ([] : List Loc) = locs at hS ⊢
  refine lv_aload_n hx hb dX10_isWord_0 rfl (lv_at hl 0 rfl) ?_
  refine va_get (D := D) (ci := 6) (v := .int (Mo_failed St)) (C := RX10) (T := TX10) (N := 41) hx hb hts in_X10 hown hK hP 0 rfl rfl 13 (by decide) (hts _ q6_58) (fun _ h9 => h9) rfl dX10_isWord_1 ?_
  refine z_if_ne (tgt := 26) hx hb dX10_isWord_4 (by decide) hf (fun hf => ?_) (fun hf => ?_)
  · refine lv_iconst (v := (0 : Int32)) hx hb dX10_isWord_26 (by decide) ?_
    obtain rfl := Option.some.inj hf
    exact z_zret (v := (0 : Int32)) C rfl hP hD hS dX10_isWord_27
  · refine lv_aload_n hx hb dX10_isWord_7 rfl (lv_at hl 0 rfl) ?_
    refine va_get (D := D) (ci := 6) (v := .int (Mo_token St)) (C := RX10) (T := TX10) (N := 41) hx hb hts in_X10 hown hK hP 0 rfl rfl 6 (by decide) (hts _ q6_51) (fun _ h9 => h9) rfl dX10_isWord_8 ?_
    refine lv_iconst (v := (2 : Int32)) hx hb dX10_isWord_11 (by decide) ?_
    refine z_icmp_ne (tgt := 26) hx hb dX10_isWord_12 (by decide) hf (fun hf => ?_) (fun hf => ?_)
    · refine lv_iconst (v := (0 : Int32)) hx hb dX10_isWord_26 (by decide) ?_
      obtain rfl := Option.some.inj hf
      exact z_zret (v := (0 : Int32)) C rfl hP hD hS dX10_isWord_27
    · refine lv_aload_n hx hb dX10_isWord_15 rfl (lv_at hl 0 rfl) ?_
      refine va_get (D := D) (ci := 6) (v := .int (Mo_nameSize St)) (C := RX10) (T := TX10) (N := 41) hx hb hts in_X10 hown hK hP 0 rfl rfl 8 (by decide) (hts _ q6_53) (fun _ h9 => h9) rfl dX10_isWord_16 ?_
      refine lv_aload_n hx hb dX10_isWord_19 rfl (lv_at hl 1 rfl) ?_
      obtain ⟨hs3, hf⟩ := zgd hf
      obtain ⟨q4, hc, hf⟩ := zbd hf
      refine z_cVisE (As := []) (rest := [.int (Mo_nameSize St)]) C hE (c_J0_length_8abf5 l D cy E x1 q4 hc) gV_X10_J0_length_8abf5 hd_J0_length_8abf5 ⟨Nat.le_of_ble_eq_true rfl, Nat.le_of_ble_eq_true rfl⟩ ⟨Nat.le_refl _, Nat.le_refl _⟩ (vk_recv hE.1 hs3 hS) hP hD hS hl.1 (Nat.le_of_ble_eq_true rfl) dX10_isWord_20 (fun H locs hP hD hS => ?_)
      refine z_icmp_eq (tgt := 28) hx hb dX10_isWord_23 (by decide) hf (fun hf => ?_) (fun hf => ?_)
      · refine lv_iconst (v := (1 : Int32)) hx hb dX10_isWord_28 (by decide) ?_
        refine lv_istore_n (lv' := [(2, .int (1 : Int32)), (0, .ref (ht 0)), (1, .ref (E.1 x1))]) hx hb dX10_isWord_29 rfl hl (by decide) rfl (fun ls hl => ?_)
        refine lv_iconst (v := (0 : Int32)) hx hb dX10_isWord_30 (by decide) ?_
        refine lv_istore_n (lv' := [(3, .int (0 : Int32)), (2, .int (1 : Int32)), (0, .ref (ht 0)), (1, .ref (E.1 x1))]) hx hb dX10_isWord_31 rfl hl (by decide) rfl (fun ls hl => ?_)
        exact w_X10_isWord_32 l E ht St St_letters x1 C hE FU (1 : Int32) (0 : Int32) H locs ls hf hP hD hS (lv_sub hl [2, 3, 1, 0] rfl)
      · refine lv_iconst (v := (0 : Int32)) hx hb dX10_isWord_26 (by decide) ?_
        obtain rfl := Option.some.inj hf
        exact z_zret (v := (0 : Int32)) C rfl hP hD hS dX10_isWord_27
def f_X10_must (St : SMo) (St_letters : Nat → Int32) (St_tape : Nat → Int32) (x1 : Nat) : Option (SMo × (Nat → Int32)) :=
  (if (Mo_failed St) = 0 then
    (f_X10_isWord St St_letters x1).bind (fun q1 =>
      (if q1 = 0 then
        (f_X10_wrong St (1 : Int32) (Mo_at St)).bind (fun q2 =>
          some (q2, St_letters))
        else
        (f_X10_step St St_letters St_tape).bind (fun q3 =>
          some (q3.1, q3.2))))
    else
    some (St, St_letters))
set_option maxHeartbeats 4000000 in
set_option maxRecDepth 100000 in
theorem c_X10_must (l : Launch) (D : va_G) (cy : Nat → ClassId) (E : zEn) (ht : Nat → Nat) (St : SMo) (St_letters : Nat → Int32) (St_tape : Nat → Int32) (x1 : Nat) (r : SMo × (Nat → Int32)) (hf : f_X10_must St St_letters St_tape x1 = some r) : zCVs l yX10_must cX10_must 2 none 5 108 D (zty cy) E [.ref (ht 0), .ref (E.1 x1)] (wMo ht cy St ++ (wAI (fun _ => ht 2) cy 8 St_letters ++ (wAI (fun _ => ht 1) cy 900 St_tape))) (wMo ht cy r.1 ++ (wAI (fun _ => ht 2) cy 8 r.2 ++ (wAI (fun _ => ht 1) cy 900 St_tape))) := by
  refine zCVs_of (by decide +kernel) (Nat.le_of_ble_eq_true rfl) ?_
  intro p e s m below meth c A ls C hE hP hD hS hl
  generalize hargs : ([.ref (ht 0), .ref (E.1 x1)] : List Value).toArray = args at C ⊢
  have C : zX p s m meth c cX10_must 2 args RX10 none A D (zty cy) := C
  obtain ⟨hx, hb, hr, hts, hown, hlocks, hml, hA, hK⟩ := id C
  have hl : lv_has ls 2 [(0, .ref (ht 0)), (1, .ref (E.1 x1))] := hl
  generalize hH : s.heap = H at hP ⊢
  have hS : va_S A s.heap H [] := by rw [← hH]; exact hS
  generalize ([] : List Loc) = locs at hS ⊢
  refine lv_aload_n hx hb dX10_must_0 rfl (lv_at hl 0 rfl) ?_
  refine va_get (D := D) (ci := 6) (v := .int (Mo_failed St)) (C := RX10) (T := TX10) (N := 41) hx hb hts in_X10 hown hK hP 0 rfl rfl 13 (by decide) (hts _ q6_58) (fun _ h9 => h9) rfl dX10_must_1 ?_
  refine z_if_eq (tgt := 8) hx hb dX10_must_4 (by decide) hf (fun hf => ?_) (fun hf => ?_)
  · refine lv_aload_n hx hb dX10_must_8 rfl (lv_at hl 0 rfl) ?_
    refine lv_aload_n hx hb dX10_must_9 rfl (lv_at hl 1 rfl) ?_
    obtain ⟨q1, hc, hf⟩ := zbd hf
    refine z_cVis (As := [.ref (E.1 x1)]) (rest := []) C hE (c_X10_isWord l D cy E ht St St_letters x1 q1 hc) gV_X10_X10_isWord hd_X10_isWord ⟨Nat.le_of_ble_eq_true rfl, Nat.le_of_ble_eq_true rfl⟩ ⟨Nat.le_refl _, Nat.le_refl _⟩ (va_recv hK hP (ci := 6) (q0 := 0) rfl rfl) hP hD hS (w2 := wMo ht cy St ++ (wAI (fun _ => ht 2) cy 8 St_letters ++ (wAI (fun _ => ht 1) cy 900 St_tape))) [0, 1] [2] [1, 2, 0] rfl rfl rfl rfl rfl rfl (by decide) hl.1 (Nat.le_of_ble_eq_true rfl) dX10_must_10 (fun H locs hP hD hS => ?_)
    refine z_if_eq (tgt := 23) hx hb dX10_must_13 (by decide) hf (fun hf => ?_) (fun hf => ?_)
    · refine lv_aload_n hx hb dX10_must_23 rfl (lv_at hl 0 rfl) ?_
      refine lv_iconst (v := (1 : Int32)) hx hb dX10_must_24 (by decide) ?_
      refine lv_aload_n hx hb dX10_must_25 rfl (lv_at hl 0 rfl) ?_
      refine va_get (D := D) (ci := 6) (v := .int (Mo_at St)) (C := RX10) (T := TX10) (N := 41) hx hb hts in_X10 hown hK hP 0 rfl rfl 4 (by decide) (hts _ q6_49) (fun _ h9 => h9) rfl dX10_must_26 ?_
      obtain ⟨q2, hc, hf⟩ := zbd hf
      refine z_cVv (As := [.int (1 : Int32), .int (Mo_at St)]) (rest := []) C (c_X10_wrong l D cy ht St (1 : Int32) (Mo_at St) q2 hc) gV_X10_X10_wrong hd_X10_wrong ⟨Nat.le_of_ble_eq_true rfl, Nat.le_of_ble_eq_true rfl⟩ ⟨Nat.le_refl _, Nat.le_refl _⟩ (va_recv hK hP (ci := 6) (q0 := 0) rfl rfl) hP hD hS (w2 := wMo ht cy q2 ++ (wAI (fun _ => ht 2) cy 8 St_letters ++ (wAI (fun _ => ht 1) cy 900 St_tape))) [0] [1, 2] [2, 0, 1] rfl rfl rfl rfl rfl rfl (by decide) hl.1 (Nat.le_of_ble_eq_true rfl) dX10_must_29 (fun H locs hP hD hS => ?_)
      obtain rfl := Option.some.inj hf
      exact z_vret C hP hD hS dX10_must_32
    · refine lv_aload_n hx hb dX10_must_16 rfl (lv_at hl 0 rfl) ?_
      obtain ⟨q3, hc, hf⟩ := zbd hf
      refine z_cVv0 (As := []) (rest := []) C (c_X10_step l D cy ht St St_letters St_tape q3 hc) gV_X10_X10_step hd_X10_step ⟨Nat.le_of_ble_eq_true rfl, Nat.le_of_ble_eq_true rfl⟩ ⟨Nat.le_refl _, Nat.le_refl _⟩ (va_recv hK hP (ci := 6) (q0 := 0) rfl rfl) hP hD hS hl.1 (Nat.le_of_ble_eq_true rfl) dX10_must_17 (fun H locs hP hD hS => ?_)
      have hP : va_P D vwCl (wMo ht cy q3.1 ++ (wAI (fun _ => ht 2) cy 8 q3.2 ++ (wAI (fun _ => ht 1) cy 900 St_tape))) H := hP
      have hD : va_D A (wMo ht cy q3.1 ++ (wAI (fun _ => ht 2) cy 8 q3.2 ++ (wAI (fun _ => ht 1) cy 900 St_tape))) := hD
      refine lv_goto (tgt := 32) hx hb dX10_must_20 (by decide) ?_
      obtain rfl := Option.some.inj hf
      exact z_vret C hP hD hS dX10_must_32
  · obtain rfl := Option.some.inj hf
    exact z_vret C hP hD hS dX10_must_7
def f_X10_isLine (St : SMo) (St_letters : Nat → Int32) : Option (Int32) :=
  (f_X10_isWord St St_letters 0).bind (fun q1 =>
    (if q1 = 0 then
      (f_X10_isWord St St_letters 1).bind (fun q2 =>
        (if q2 = 0 then
          (f_X10_isWord St St_letters 2).bind (fun q3 =>
            (if q3 = 0 then
              (f_X10_isWord St St_letters 3).bind (fun q4 =>
                (if q4 = 0 then
                  (f_X10_isWord St St_letters 4).bind (fun q5 =>
                    (if q5 = 0 then
                      (f_X10_isWord St St_letters 5).bind (fun q6 =>
                        (if q6 = 0 then
                          (f_X10_isWord St St_letters 6).bind (fun q7 =>
                            (if q7 = 0 then
                              (f_X10_isWord St St_letters 7).bind (fun q8 =>
                                (if q8 = 0 then
                                  (f_X10_isWord St St_letters 8).bind (fun q9 =>
                                    (if q9 = 0 then
                                      (f_X10_isWord St St_letters 9).bind (fun q10 =>
                                        (if q10 = 0 then
                                          some (0 : Int32)
                                          else
                                          some (1 : Int32)))
                                      else
                                      some (1 : Int32)))
                                  else
                                  some (1 : Int32)))
                              else
                              some (1 : Int32)))
                          else
                          some (1 : Int32)))
                      else
                      some (1 : Int32)))
                  else
                  some (1 : Int32)))
              else
              some (1 : Int32)))
          else
          some (1 : Int32)))
      else
      some (1 : Int32)))
set_option maxHeartbeats 4000000 in
set_option maxRecDepth 100000 in
theorem c_X10_isLine (l : Launch) (D : va_G) (cy : Nat → ClassId) (E : zEn) (ht : Nat → Nat) (St : SMo) (St_letters : Nat → Int32) (r : Int32) (hf : f_X10_isLine St St_letters = some r) : zCIs l yX10_isLine cX10_isLine 1 (some FieldType.boolean) 5 108 D (zty cy) E [.ref (ht 0)] (wMo ht cy St ++ (wAI (fun _ => ht 2) cy 8 St_letters)) (wMo ht cy St ++ (wAI (fun _ => ht 2) cy 8 St_letters)) r := by
  refine zCIs_of (by decide +kernel) (Nat.le_of_ble_eq_true rfl) ?_
  intro p e s m below meth c A ls C hE hP hD hS hl
  generalize hargs : ([.ref (ht 0)] : List Value).toArray = args at C ⊢
  have C : zX p s m meth c cX10_isLine 1 args RX10 (some FieldType.boolean) A D (zty cy) := C
  obtain ⟨hx, hb, hr, hts, hown, hlocks, hml, hA, hK⟩ := id C
  have hl : lv_has ls 1 [(0, .ref (ht 0))] := hl
  generalize hH : s.heap = H at hP ⊢
  have hS : va_S A s.heap H [] := by rw [← hH]; exact hS
  generalize ([] : List Loc) = locs at hS ⊢
  refine lv_aload_n hx hb dX10_isLine_0 rfl (lv_at hl 0 rfl) ?_
  refine va_ldcS hx hb hown (hE.2.2.2.2.2.2.2.2.2.1 ("StampedRowsModel", 211, "store", 0) (by decide)) dX10_isLine_1 ?_
  obtain ⟨q1, hc, hf⟩ := zbd hf
  refine z_cVis0 (As := [.ref (E.1 0)]) (rest := []) C hE (c_X10_isWord l D cy E ht St St_letters 0 q1 hc) gV_X10_X10_isWord hd_X10_isWord ⟨Nat.le_of_ble_eq_true rfl, Nat.le_of_ble_eq_true rfl⟩ ⟨Nat.le_refl _, Nat.le_refl _⟩ (va_recv hK hP (ci := 6) (q0 := 0) rfl rfl) hP hD hS hl.1 (Nat.le_of_ble_eq_true rfl) dX10_isLine_3 (fun H locs hP hD hS => ?_)
  have hP : va_P D vwCl (wMo ht cy St ++ (wAI (fun _ => ht 2) cy 8 St_letters)) H := hP
  have hD : va_D A (wMo ht cy St ++ (wAI (fun _ => ht 2) cy 8 St_letters)) := hD
  refine z_if_ne (tgt := 90) hx hb dX10_isLine_6 (by decide) hf (fun hf => ?_) (fun hf => ?_)
  · refine lv_iconst (v := (1 : Int32)) hx hb dX10_isLine_90 (by decide) ?_
    refine lv_goto (tgt := 95) hx hb dX10_isLine_91 (by decide) ?_
    obtain rfl := Option.some.inj hf
    exact z_zret (v := (1 : Int32)) C rfl hP hD hS dX10_isLine_95
  · refine lv_aload_n hx hb dX10_isLine_9 rfl (lv_at hl 0 rfl) ?_
    refine va_ldcS hx hb hown (hE.2.2.2.2.2.2.2.2.2.1 ("StampedRowsModel", 213, "begin", 1) (by decide)) dX10_isLine_10 ?_
    obtain ⟨q2, hc, hf⟩ := zbd hf
    refine z_cVis0 (As := [.ref (E.1 1)]) (rest := []) C hE (c_X10_isWord l D cy E ht St St_letters 1 q2 hc) gV_X10_X10_isWord hd_X10_isWord ⟨Nat.le_of_ble_eq_true rfl, Nat.le_of_ble_eq_true rfl⟩ ⟨Nat.le_refl _, Nat.le_refl _⟩ (va_recv hK hP (ci := 6) (q0 := 0) rfl rfl) hP hD hS hl.1 (Nat.le_of_ble_eq_true rfl) dX10_isLine_12 (fun H locs hP hD hS => ?_)
    have hP : va_P D vwCl (wMo ht cy St ++ (wAI (fun _ => ht 2) cy 8 St_letters)) H := hP
    have hD : va_D A (wMo ht cy St ++ (wAI (fun _ => ht 2) cy 8 St_letters)) := hD
    refine z_if_ne (tgt := 90) hx hb dX10_isLine_15 (by decide) hf (fun hf => ?_) (fun hf => ?_)
    · refine lv_iconst (v := (1 : Int32)) hx hb dX10_isLine_90 (by decide) ?_
      refine lv_goto (tgt := 95) hx hb dX10_isLine_91 (by decide) ?_
      obtain rfl := Option.some.inj hf
      exact z_zret (v := (1 : Int32)) C rfl hP hD hS dX10_isLine_95
    · refine lv_aload_n hx hb dX10_isLine_18 rfl (lv_at hl 0 rfl) ?_
      refine va_ldcS hx hb hown (hE.2.2.2.2.2.2.2.2.2.1 ("StampedRowsModel", 215, "put", 2) (by decide)) dX10_isLine_19 ?_
      obtain ⟨q3, hc, hf⟩ := zbd hf
      refine z_cVis0 (As := [.ref (E.1 2)]) (rest := []) C hE (c_X10_isWord l D cy E ht St St_letters 2 q3 hc) gV_X10_X10_isWord hd_X10_isWord ⟨Nat.le_of_ble_eq_true rfl, Nat.le_of_ble_eq_true rfl⟩ ⟨Nat.le_refl _, Nat.le_refl _⟩ (va_recv hK hP (ci := 6) (q0 := 0) rfl rfl) hP hD hS hl.1 (Nat.le_of_ble_eq_true rfl) dX10_isLine_21 (fun H locs hP hD hS => ?_)
      have hP : va_P D vwCl (wMo ht cy St ++ (wAI (fun _ => ht 2) cy 8 St_letters)) H := hP
      have hD : va_D A (wMo ht cy St ++ (wAI (fun _ => ht 2) cy 8 St_letters)) := hD
      refine z_if_ne (tgt := 90) hx hb dX10_isLine_24 (by decide) hf (fun hf => ?_) (fun hf => ?_)
      · refine lv_iconst (v := (1 : Int32)) hx hb dX10_isLine_90 (by decide) ?_
        refine lv_goto (tgt := 95) hx hb dX10_isLine_91 (by decide) ?_
        obtain rfl := Option.some.inj hf
        exact z_zret (v := (1 : Int32)) C rfl hP hD hS dX10_isLine_95
      · refine lv_aload_n hx hb dX10_isLine_27 rfl (lv_at hl 0 rfl) ?_
        refine va_ldcS hx hb hown (hE.2.2.2.2.2.2.2.2.2.1 ("StampedRowsModel", 217, "drop", 3) (by decide)) dX10_isLine_28 ?_
        obtain ⟨q4, hc, hf⟩ := zbd hf
        refine z_cVis0 (As := [.ref (E.1 3)]) (rest := []) C hE (c_X10_isWord l D cy E ht St St_letters 3 q4 hc) gV_X10_X10_isWord hd_X10_isWord ⟨Nat.le_of_ble_eq_true rfl, Nat.le_of_ble_eq_true rfl⟩ ⟨Nat.le_refl _, Nat.le_refl _⟩ (va_recv hK hP (ci := 6) (q0 := 0) rfl rfl) hP hD hS hl.1 (Nat.le_of_ble_eq_true rfl) dX10_isLine_30 (fun H locs hP hD hS => ?_)
        have hP : va_P D vwCl (wMo ht cy St ++ (wAI (fun _ => ht 2) cy 8 St_letters)) H := hP
        have hD : va_D A (wMo ht cy St ++ (wAI (fun _ => ht 2) cy 8 St_letters)) := hD
        refine z_if_ne (tgt := 90) hx hb dX10_isLine_33 (by decide) hf (fun hf => ?_) (fun hf => ?_)
        · refine lv_iconst (v := (1 : Int32)) hx hb dX10_isLine_90 (by decide) ?_
          refine lv_goto (tgt := 95) hx hb dX10_isLine_91 (by decide) ?_
          obtain rfl := Option.some.inj hf
          exact z_zret (v := (1 : Int32)) C rfl hP hD hS dX10_isLine_95
        · refine lv_aload_n hx hb dX10_isLine_36 rfl (lv_at hl 0 rfl) ?_
          refine va_ldcS hx hb hown (hE.2.2.2.2.2.2.2.2.2.1 ("StampedRowsModel", 219, "done", 4) (by decide)) dX10_isLine_37 ?_
          obtain ⟨q5, hc, hf⟩ := zbd hf
          refine z_cVis0 (As := [.ref (E.1 4)]) (rest := []) C hE (c_X10_isWord l D cy E ht St St_letters 4 q5 hc) gV_X10_X10_isWord hd_X10_isWord ⟨Nat.le_of_ble_eq_true rfl, Nat.le_of_ble_eq_true rfl⟩ ⟨Nat.le_refl _, Nat.le_refl _⟩ (va_recv hK hP (ci := 6) (q0 := 0) rfl rfl) hP hD hS hl.1 (Nat.le_of_ble_eq_true rfl) dX10_isLine_39 (fun H locs hP hD hS => ?_)
          have hP : va_P D vwCl (wMo ht cy St ++ (wAI (fun _ => ht 2) cy 8 St_letters)) H := hP
          have hD : va_D A (wMo ht cy St ++ (wAI (fun _ => ht 2) cy 8 St_letters)) := hD
          refine z_if_ne (tgt := 90) hx hb dX10_isLine_42 (by decide) hf (fun hf => ?_) (fun hf => ?_)
          · refine lv_iconst (v := (1 : Int32)) hx hb dX10_isLine_90 (by decide) ?_
            refine lv_goto (tgt := 95) hx hb dX10_isLine_91 (by decide) ?_
            obtain rfl := Option.some.inj hf
            exact z_zret (v := (1 : Int32)) C rfl hP hD hS dX10_isLine_95
          · refine lv_aload_n hx hb dX10_isLine_45 rfl (lv_at hl 0 rfl) ?_
            refine va_ldcS hx hb hown (hE.2.2.2.2.2.2.2.2.2.1 ("StampedRowsModel", 221, "gone", 5) (by decide)) dX10_isLine_46 ?_
            obtain ⟨q6, hc, hf⟩ := zbd hf
            refine z_cVis0 (As := [.ref (E.1 5)]) (rest := []) C hE (c_X10_isWord l D cy E ht St St_letters 5 q6 hc) gV_X10_X10_isWord hd_X10_isWord ⟨Nat.le_of_ble_eq_true rfl, Nat.le_of_ble_eq_true rfl⟩ ⟨Nat.le_refl _, Nat.le_refl _⟩ (va_recv hK hP (ci := 6) (q0 := 0) rfl rfl) hP hD hS hl.1 (Nat.le_of_ble_eq_true rfl) dX10_isLine_48 (fun H locs hP hD hS => ?_)
            have hP : va_P D vwCl (wMo ht cy St ++ (wAI (fun _ => ht 2) cy 8 St_letters)) H := hP
            have hD : va_D A (wMo ht cy St ++ (wAI (fun _ => ht 2) cy 8 St_letters)) := hD
            refine z_if_ne (tgt := 90) hx hb dX10_isLine_51 (by decide) hf (fun hf => ?_) (fun hf => ?_)
            · refine lv_iconst (v := (1 : Int32)) hx hb dX10_isLine_90 (by decide) ?_
              refine lv_goto (tgt := 95) hx hb dX10_isLine_91 (by decide) ?_
              obtain rfl := Option.some.inj hf
              exact z_zret (v := (1 : Int32)) C rfl hP hD hS dX10_isLine_95
            · refine lv_aload_n hx hb dX10_isLine_54 rfl (lv_at hl 0 rfl) ?_
              refine va_ldcS hx hb hown (hE.2.2.2.2.2.2.2.2.2.1 ("StampedRowsModel", 223, "clear", 6) (by decide)) dX10_isLine_55 ?_
              obtain ⟨q7, hc, hf⟩ := zbd hf
              refine z_cVis0 (As := [.ref (E.1 6)]) (rest := []) C hE (c_X10_isWord l D cy E ht St St_letters 6 q7 hc) gV_X10_X10_isWord hd_X10_isWord ⟨Nat.le_of_ble_eq_true rfl, Nat.le_of_ble_eq_true rfl⟩ ⟨Nat.le_refl _, Nat.le_refl _⟩ (va_recv hK hP (ci := 6) (q0 := 0) rfl rfl) hP hD hS hl.1 (Nat.le_of_ble_eq_true rfl) dX10_isLine_57 (fun H locs hP hD hS => ?_)
              have hP : va_P D vwCl (wMo ht cy St ++ (wAI (fun _ => ht 2) cy 8 St_letters)) H := hP
              have hD : va_D A (wMo ht cy St ++ (wAI (fun _ => ht 2) cy 8 St_letters)) := hD
              refine z_if_ne (tgt := 90) hx hb dX10_isLine_60 (by decide) hf (fun hf => ?_) (fun hf => ?_)
              · refine lv_iconst (v := (1 : Int32)) hx hb dX10_isLine_90 (by decide) ?_
                refine lv_goto (tgt := 95) hx hb dX10_isLine_91 (by decide) ?_
                obtain rfl := Option.some.inj hf
                exact z_zret (v := (1 : Int32)) C rfl hP hD hS dX10_isLine_95
              · refine lv_aload_n hx hb dX10_isLine_63 rfl (lv_at hl 0 rfl) ?_
                refine va_ldcS hx hb hown (hE.2.2.2.2.2.2.2.2.2.1 ("StampedRowsModel", 225, "freeze", 7) (by decide)) dX10_isLine_64 ?_
                obtain ⟨q8, hc, hf⟩ := zbd hf
                refine z_cVis0 (As := [.ref (E.1 7)]) (rest := []) C hE (c_X10_isWord l D cy E ht St St_letters 7 q8 hc) gV_X10_X10_isWord hd_X10_isWord ⟨Nat.le_of_ble_eq_true rfl, Nat.le_of_ble_eq_true rfl⟩ ⟨Nat.le_refl _, Nat.le_refl _⟩ (va_recv hK hP (ci := 6) (q0 := 0) rfl rfl) hP hD hS hl.1 (Nat.le_of_ble_eq_true rfl) dX10_isLine_66 (fun H locs hP hD hS => ?_)
                have hP : va_P D vwCl (wMo ht cy St ++ (wAI (fun _ => ht 2) cy 8 St_letters)) H := hP
                have hD : va_D A (wMo ht cy St ++ (wAI (fun _ => ht 2) cy 8 St_letters)) := hD
                refine z_if_ne (tgt := 90) hx hb dX10_isLine_69 (by decide) hf (fun hf => ?_) (fun hf => ?_)
                · refine lv_iconst (v := (1 : Int32)) hx hb dX10_isLine_90 (by decide) ?_
                  refine lv_goto (tgt := 95) hx hb dX10_isLine_91 (by decide) ?_
                  obtain rfl := Option.some.inj hf
                  exact z_zret (v := (1 : Int32)) C rfl hP hD hS dX10_isLine_95
                · refine lv_aload_n hx hb dX10_isLine_72 rfl (lv_at hl 0 rfl) ?_
                  refine va_ldcS hx hb hown (hE.2.2.2.2.2.2.2.2.2.1 ("StampedRowsModel", 227, "unsure", 8) (by decide)) dX10_isLine_73 ?_
                  obtain ⟨q9, hc, hf⟩ := zbd hf
                  refine z_cVis0 (As := [.ref (E.1 8)]) (rest := []) C hE (c_X10_isWord l D cy E ht St St_letters 8 q9 hc) gV_X10_X10_isWord hd_X10_isWord ⟨Nat.le_of_ble_eq_true rfl, Nat.le_of_ble_eq_true rfl⟩ ⟨Nat.le_refl _, Nat.le_refl _⟩ (va_recv hK hP (ci := 6) (q0 := 0) rfl rfl) hP hD hS hl.1 (Nat.le_of_ble_eq_true rfl) dX10_isLine_75 (fun H locs hP hD hS => ?_)
                  have hP : va_P D vwCl (wMo ht cy St ++ (wAI (fun _ => ht 2) cy 8 St_letters)) H := hP
                  have hD : va_D A (wMo ht cy St ++ (wAI (fun _ => ht 2) cy 8 St_letters)) := hD
                  refine z_if_ne (tgt := 90) hx hb dX10_isLine_78 (by decide) hf (fun hf => ?_) (fun hf => ?_)
                  · refine lv_iconst (v := (1 : Int32)) hx hb dX10_isLine_90 (by decide) ?_
                    refine lv_goto (tgt := 95) hx hb dX10_isLine_91 (by decide) ?_
                    obtain rfl := Option.some.inj hf
                    exact z_zret (v := (1 : Int32)) C rfl hP hD hS dX10_isLine_95
                  · refine lv_aload_n hx hb dX10_isLine_81 rfl (lv_at hl 0 rfl) ?_
                    refine va_ldcS hx hb hown (hE.2.2.2.2.2.2.2.2.2.1 ("StampedRowsModel", 229, "seen", 9) (by decide)) dX10_isLine_82 ?_
                    obtain ⟨q10, hc, hf⟩ := zbd hf
                    refine z_cVis0 (As := [.ref (E.1 9)]) (rest := []) C hE (c_X10_isWord l D cy E ht St St_letters 9 q10 hc) gV_X10_X10_isWord hd_X10_isWord ⟨Nat.le_of_ble_eq_true rfl, Nat.le_of_ble_eq_true rfl⟩ ⟨Nat.le_refl _, Nat.le_refl _⟩ (va_recv hK hP (ci := 6) (q0 := 0) rfl rfl) hP hD hS hl.1 (Nat.le_of_ble_eq_true rfl) dX10_isLine_84 (fun H locs hP hD hS => ?_)
                    have hP : va_P D vwCl (wMo ht cy St ++ (wAI (fun _ => ht 2) cy 8 St_letters)) H := hP
                    have hD : va_D A (wMo ht cy St ++ (wAI (fun _ => ht 2) cy 8 St_letters)) := hD
                    refine z_if_eq (tgt := 94) hx hb dX10_isLine_87 (by decide) hf (fun hf => ?_) (fun hf => ?_)
                    · refine lv_iconst (v := (0 : Int32)) hx hb dX10_isLine_94 (by decide) ?_
                      obtain rfl := Option.some.inj hf
                      exact z_zret (v := (0 : Int32)) C rfl hP hD hS dX10_isLine_95
                    · refine lv_iconst (v := (1 : Int32)) hx hb dX10_isLine_90 (by decide) ?_
                      refine lv_goto (tgt := 95) hx hb dX10_isLine_91 (by decide) ?_
                      obtain rfl := Option.some.inj hf
                      exact z_zret (v := (1 : Int32)) C rfl hP hD hS dX10_isLine_95
def f_X10_mustName (St : SMo) (St_letters : Nat → Int32) : Option (SMo) :=
  (if (Mo_token St) = (2 : Int32) then
    (f_X10_isLine St St_letters).bind (fun q2 =>
      (if q2 = 0 then
        (f_X10_isWord St St_letters 10).bind (fun q4 =>
          (if q4 = 0 then
            some St
            else
            (f_X10_wrong St (1 : Int32) (Mo_at St)).bind (fun q5 =>
              some q5)))
        else
        (f_X10_wrong St (1 : Int32) (Mo_at St)).bind (fun q3 =>
          some q3)))
    else
    (f_X10_wrong St (1 : Int32) (Mo_at St)).bind (fun q1 =>
      some q1))
set_option maxHeartbeats 4000000 in
set_option maxRecDepth 100000 in
theorem c_X10_mustName (l : Launch) (D : va_G) (cy : Nat → ClassId) (E : zEn) (ht : Nat → Nat) (St : SMo) (St_letters : Nat → Int32) (r : SMo) (hf : f_X10_mustName St St_letters = some r) : zCVs l yX10_mustName cX10_mustName 1 none 6 128 D (zty cy) E [.ref (ht 0)] (wMo ht cy St ++ (wAI (fun _ => ht 2) cy 8 St_letters)) (wMo ht cy r ++ (wAI (fun _ => ht 2) cy 8 St_letters)) := by
  refine zCVs_of (by decide +kernel) (Nat.le_of_ble_eq_true rfl) ?_
  intro p e s m below meth c A ls C hE hP hD hS hl
  generalize hargs : ([.ref (ht 0)] : List Value).toArray = args at C ⊢
  have C : zX p s m meth c cX10_mustName 1 args RX10 none A D (zty cy) := C
  obtain ⟨hx, hb, hr, hts, hown, hlocks, hml, hA, hK⟩ := id C
  have hl : lv_has ls 1 [(0, .ref (ht 0))] := hl
  generalize hH : s.heap = H at hP ⊢
  have hS : va_S A s.heap H [] := by rw [← hH]; exact hS
  generalize ([] : List Loc) = locs at hS ⊢
  refine lv_aload_n hx hb dX10_mustName_0 rfl (lv_at hl 0 rfl) ?_
  refine va_get (D := D) (ci := 6) (v := .int (Mo_token St)) (C := RX10) (T := TX10) (N := 41) hx hb hts in_X10 hown hK hP 0 rfl rfl 6 (by decide) (hts _ q6_51) (fun _ h9 => h9) rfl dX10_mustName_1 ?_
  refine lv_iconst (v := (2 : Int32)) hx hb dX10_mustName_4 (by decide) ?_
  refine z_icmp_ne (tgt := 24) hx hb dX10_mustName_5 (by decide) hf (fun hf => ?_) (fun hf => ?_)
  · refine lv_aload_n hx hb dX10_mustName_24 rfl (lv_at hl 0 rfl) ?_
    refine lv_iconst (v := (1 : Int32)) hx hb dX10_mustName_25 (by decide) ?_
    refine lv_aload_n hx hb dX10_mustName_26 rfl (lv_at hl 0 rfl) ?_
    refine va_get (D := D) (ci := 6) (v := .int (Mo_at St)) (C := RX10) (T := TX10) (N := 41) hx hb hts in_X10 hown hK hP 0 rfl rfl 4 (by decide) (hts _ q6_49) (fun _ h9 => h9) rfl dX10_mustName_27 ?_
    obtain ⟨q1, hc, hf⟩ := zbd hf
    refine z_cVv (As := [.int (1 : Int32), .int (Mo_at St)]) (rest := []) C (c_X10_wrong l D cy ht St (1 : Int32) (Mo_at St) q1 hc) gV_X10_X10_wrong hd_X10_wrong ⟨Nat.le_of_ble_eq_true rfl, Nat.le_of_ble_eq_true rfl⟩ ⟨Nat.le_refl _, Nat.le_refl _⟩ (va_recv hK hP (ci := 6) (q0 := 0) rfl rfl) hP hD hS (w2 := wMo ht cy q1 ++ (wAI (fun _ => ht 2) cy 8 St_letters)) [0] [1] [1, 0] rfl rfl rfl rfl rfl rfl (by decide) hl.1 (Nat.le_of_ble_eq_true rfl) dX10_mustName_30 (fun H locs hP hD hS => ?_)
    obtain rfl := Option.some.inj hf
    exact z_vret C hP hD hS dX10_mustName_33
  · refine lv_aload_n hx hb dX10_mustName_8 rfl (lv_at hl 0 rfl) ?_
    obtain ⟨q2, hc, hf⟩ := zbd hf
    refine z_cVis0 (As := []) (rest := []) C hE (c_X10_isLine l D cy E ht St St_letters q2 hc) gV_X10_X10_isLine hd_X10_isLine ⟨Nat.le_of_ble_eq_true rfl, Nat.le_of_ble_eq_true rfl⟩ ⟨Nat.le_refl _, Nat.le_refl _⟩ (va_recv hK hP (ci := 6) (q0 := 0) rfl rfl) hP hD hS hl.1 (Nat.le_of_ble_eq_true rfl) dX10_mustName_9 (fun H locs hP hD hS => ?_)
    have hP : va_P D vwCl (wMo ht cy St ++ (wAI (fun _ => ht 2) cy 8 St_letters)) H := hP
    have hD : va_D A (wMo ht cy St ++ (wAI (fun _ => ht 2) cy 8 St_letters)) := hD
    refine z_if_ne (tgt := 24) hx hb dX10_mustName_12 (by decide) hf (fun hf => ?_) (fun hf => ?_)
    · refine lv_aload_n hx hb dX10_mustName_24 rfl (lv_at hl 0 rfl) ?_
      refine lv_iconst (v := (1 : Int32)) hx hb dX10_mustName_25 (by decide) ?_
      refine lv_aload_n hx hb dX10_mustName_26 rfl (lv_at hl 0 rfl) ?_
      refine va_get (D := D) (ci := 6) (v := .int (Mo_at St)) (C := RX10) (T := TX10) (N := 41) hx hb hts in_X10 hown hK hP 0 rfl rfl 4 (by decide) (hts _ q6_49) (fun _ h9 => h9) rfl dX10_mustName_27 ?_
      obtain ⟨q3, hc, hf⟩ := zbd hf
      refine z_cVv (As := [.int (1 : Int32), .int (Mo_at St)]) (rest := []) C (c_X10_wrong l D cy ht St (1 : Int32) (Mo_at St) q3 hc) gV_X10_X10_wrong hd_X10_wrong ⟨Nat.le_of_ble_eq_true rfl, Nat.le_of_ble_eq_true rfl⟩ ⟨Nat.le_refl _, Nat.le_refl _⟩ (va_recv hK hP (ci := 6) (q0 := 0) rfl rfl) hP hD hS (w2 := wMo ht cy q3 ++ (wAI (fun _ => ht 2) cy 8 St_letters)) [0] [1] [1, 0] rfl rfl rfl rfl rfl rfl (by decide) hl.1 (Nat.le_of_ble_eq_true rfl) dX10_mustName_30 (fun H locs hP hD hS => ?_)
      obtain rfl := Option.some.inj hf
      exact z_vret C hP hD hS dX10_mustName_33
    · refine lv_aload_n hx hb dX10_mustName_15 rfl (lv_at hl 0 rfl) ?_
      refine va_ldcS hx hb hown (hE.2.2.2.2.2.2.2.2.2.1 ("StampedRowsModel", 235, "none", 10) (by decide)) dX10_mustName_16 ?_
      obtain ⟨q4, hc, hf⟩ := zbd hf
      refine z_cVis0 (As := [.ref (E.1 10)]) (rest := []) C hE (c_X10_isWord l D cy E ht St St_letters 10 q4 hc) gV_X10_X10_isWord hd_X10_isWord ⟨Nat.le_of_ble_eq_true rfl, Nat.le_of_ble_eq_true rfl⟩ ⟨Nat.le_refl _, Nat.le_refl _⟩ (va_recv hK hP (ci := 6) (q0 := 0) rfl rfl) hP hD hS hl.1 (Nat.le_of_ble_eq_true rfl) dX10_mustName_18 (fun H locs hP hD hS => ?_)
      have hP : va_P D vwCl (wMo ht cy St ++ (wAI (fun _ => ht 2) cy 8 St_letters)) H := hP
      have hD : va_D A (wMo ht cy St ++ (wAI (fun _ => ht 2) cy 8 St_letters)) := hD
      refine z_if_eq (tgt := 33) hx hb dX10_mustName_21 (by decide) hf (fun hf => ?_) (fun hf => ?_)
      · obtain rfl := Option.some.inj hf
        exact z_vret C hP hD hS dX10_mustName_33
      · refine lv_aload_n hx hb dX10_mustName_24 rfl (lv_at hl 0 rfl) ?_
        refine lv_iconst (v := (1 : Int32)) hx hb dX10_mustName_25 (by decide) ?_
        refine lv_aload_n hx hb dX10_mustName_26 rfl (lv_at hl 0 rfl) ?_
        refine va_get (D := D) (ci := 6) (v := .int (Mo_at St)) (C := RX10) (T := TX10) (N := 41) hx hb hts in_X10 hown hK hP 0 rfl rfl 4 (by decide) (hts _ q6_49) (fun _ h9 => h9) rfl dX10_mustName_27 ?_
        obtain ⟨q5, hc, hf⟩ := zbd hf
        refine z_cVv (As := [.int (1 : Int32), .int (Mo_at St)]) (rest := []) C (c_X10_wrong l D cy ht St (1 : Int32) (Mo_at St) q5 hc) gV_X10_X10_wrong hd_X10_wrong ⟨Nat.le_of_ble_eq_true rfl, Nat.le_of_ble_eq_true rfl⟩ ⟨Nat.le_refl _, Nat.le_refl _⟩ (va_recv hK hP (ci := 6) (q0 := 0) rfl rfl) hP hD hS (w2 := wMo ht cy q5 ++ (wAI (fun _ => ht 2) cy 8 St_letters)) [0] [1] [1, 0] rfl rfl rfl rfl rfl rfl (by decide) hl.1 (Nat.le_of_ble_eq_true rfl) dX10_mustName_30 (fun H locs hP hD hS => ?_)
        obtain rfl := Option.some.inj hf
        exact z_vret C hP hD hS dX10_mustName_33
def f_X10_after (St : SMo) (St_letters : Nat → Int32) (St_tape : Nat → Int32) (x1 : Nat) (x2 : Int32) (x3 : Int32) : Option (Int32 × SMo × (Nat → Int32)) :=
  (f_X10_must St St_letters St_tape x1).bind (fun q1 =>
    (f_X10_number q1.1 q1.2 St_tape x2 x3).bind (fun q2 =>
      some (q2.1, q2.2.1, q2.2.2)))
set_option maxHeartbeats 4000000 in
set_option maxRecDepth 100000 in
theorem c_X10_after (l : Launch) (D : va_G) (cy : Nat → ClassId) (E : zEn) (ht : Nat → Nat) (St : SMo) (St_letters : Nat → Int32) (St_tape : Nat → Int32) (x1 : Nat) (x2 : Int32) (x3 : Int32) (r : Int32 × SMo × (Nat → Int32)) (hf : f_X10_after St St_letters St_tape x1 x2 x3 = some r) : zCIs l yX10_after cX10_after 4 (some FieldType.int) 6 129 D (zty cy) E [.ref (ht 0), .ref (E.1 x1), .int x2, .int x3] (wMo ht cy St ++ (wAI (fun _ => ht 2) cy 8 St_letters ++ (wAI (fun _ => ht 1) cy 900 St_tape))) (wMo ht cy r.2.1 ++ (wAI (fun _ => ht 2) cy 8 r.2.2 ++ (wAI (fun _ => ht 1) cy 900 St_tape))) r.1 := by
  refine zCIs_of (by decide +kernel) (Nat.le_of_ble_eq_true rfl) ?_
  intro p e s m below meth c A ls C hE hP hD hS hl
  generalize hargs : ([.ref (ht 0), .ref (E.1 x1), .int x2, .int x3] : List Value).toArray = args at C ⊢
  have C : zX p s m meth c cX10_after 4 args RX10 (some FieldType.int) A D (zty cy) := C
  obtain ⟨hx, hb, hr, hts, hown, hlocks, hml, hA, hK⟩ := id C
  have hl : lv_has ls 4 [(0, .ref (ht 0)), (1, .ref (E.1 x1)), (2, .int x2), (3, .int x3)] := hl
  generalize hH : s.heap = H at hP ⊢
  have hS : va_S A s.heap H [] := by rw [← hH]; exact hS
  generalize ([] : List Loc) = locs at hS ⊢
  refine lv_aload_n hx hb dX10_after_0 rfl (lv_at hl 0 rfl) ?_
  refine lv_aload_n hx hb dX10_after_1 rfl (lv_at hl 1 rfl) ?_
  obtain ⟨q1, hc, hf⟩ := zbd hf
  refine z_cVvs0 (As := [.ref (E.1 x1)]) (rest := []) C hE (c_X10_must l D cy E ht St St_letters St_tape x1 q1 hc) gV_X10_X10_must hd_X10_must ⟨Nat.le_of_ble_eq_true rfl, Nat.le_of_ble_eq_true rfl⟩ ⟨Nat.le_refl _, Nat.le_refl _⟩ (va_recv hK hP (ci := 6) (q0 := 0) rfl rfl) hP hD hS hl.1 (Nat.le_of_ble_eq_true rfl) dX10_after_2 (fun H locs hP hD hS => ?_)
  have hP : va_P D vwCl (wMo ht cy q1.1 ++ (wAI (fun _ => ht 2) cy 8 q1.2 ++ (wAI (fun _ => ht 1) cy 900 St_tape))) H := hP
  have hD : va_D A (wMo ht cy q1.1 ++ (wAI (fun _ => ht 2) cy 8 q1.2 ++ (wAI (fun _ => ht 1) cy 900 St_tape))) := hD
  refine lv_aload_n hx hb dX10_after_5 rfl (lv_at hl 0 rfl) ?_
  refine lv_iload_n hx hb dX10_after_6 rfl (lv_at hl 2 rfl) ?_
  refine lv_iload_n hx hb dX10_after_7 rfl (lv_at hl 3 rfl) ?_
  obtain ⟨q2, hc, hf⟩ := zbd hf
  refine z_cVi0 (As := [.int x2, .int x3]) (rest := []) C (c_X10_number l D cy ht q1.1 q1.2 St_tape x2 x3 q2 hc) gV_X10_X10_number hd_X10_number ⟨Nat.le_of_ble_eq_true rfl, Nat.le_of_ble_eq_true rfl⟩ ⟨Nat.le_refl _, Nat.le_refl _⟩ (va_recv hK hP (ci := 6) (q0 := 0) rfl rfl) hP hD hS hl.1 (Nat.le_of_ble_eq_true rfl) dX10_after_8 (fun H locs hP hD hS => ?_)
  have hP : va_P D vwCl (wMo ht cy q2.2.1 ++ (wAI (fun _ => ht 2) cy 8 q2.2.2 ++ (wAI (fun _ => ht 1) cy 900 St_tape))) H := hP
  have hD : va_D A (wMo ht cy q2.2.1 ++ (wAI (fun _ => ht 2) cy 8 q2.2.2 ++ (wAI (fun _ => ht 1) cy 900 St_tape))) := hD
  obtain rfl := Option.some.inj hf
  exact z_iret (v := q2.1) C hP hD hS dX10_after_11
def b_X10_storeLine_72 (St_tape : Nat → Int32) (St : SMo) (St_fresh : Nat → Int32) (St_letters : Nat → Int32) (St_read : Nat → Int32) : Option (SMo × (Nat → Int32) × (Nat → Int32) × (Nat → Int32)) :=
  (f_X10_number St St_letters St_tape (8 : Int32) (64 : Int32)).bind (fun q1 =>
    (if zib (0 : Int32) 140 then (f_X10_after q1.2.1 q1.2.2 St_tape 12 (1 : Int32) (8 : Int32)).bind (fun q2 =>
        (if zib (1 : Int32) 140 then (if zib (0 : Int32) 140 then (f_X10_after q2.2.1 q2.2.2 St_tape 13 (0 : Int32) (((upd (upd St_fresh (0 : Int32).toNatClampNeg q1.1) (1 : Int32).toNatClampNeg q2.1) (0 : Int32).toNatClampNeg) - (1 : Int32))).bind (fun q3 =>
              (if zib (2 : Int32) 140 then (f_X10_after q3.2.1 q3.2.2 St_tape 14 (0 : Int32) (100 : Int32)).bind (fun q4 =>
                  (if zib (3 : Int32) 140 then (if (Mo_failed q4.2.1) = 0 then
                      (if zib (7 : Int32) 140 then (if zib (0 : Int32) 140 then (if zib (2 : Int32) 140 then (if zib (323 : Int32) 325 then some ((mkMo (Mo_thrown q4.2.1) (Mo_taped q4.2.1) (Mo_size q4.2.1) (Mo_at q4.2.1) (Mo_end q4.2.1) (Mo_token q4.2.1) (Mo_whole q4.2.1) (Mo_nameSize q4.2.1) (Mo_fault q4.2.1) (Mo_place q4.2.1) (Mo_trouble q4.2.1) (Mo_failed q4.2.1) (Mo_hasStore q4.2.1) (Mo_undos q4.2.1) (Mo_images q4.2.1) ((upd (upd (upd (upd (upd St_fresh (0 : Int32).toNatClampNeg q1.1) (1 : Int32).toNatClampNeg q2.1) (2 : Int32).toNatClampNeg q3.1) (3 : Int32).toNatClampNeg q4.1) (7 : Int32).toNatClampNeg (1 : Int32)) (0 : Int32).toNatClampNeg) (Mo_refused q4.2.1) (Mo_setMany q4.2.1) (Mo_someOf q4.2.1) (Mo_allOf q4.2.1) (Mo_firstRest q4.2.1) (Mo_allWeight q4.2.1) (Mo_seenWeight q4.2.1) (Mo_sumWeight q4.2.1)), (upd (upd (upd (upd (upd St_fresh (0 : Int32).toNatClampNeg q1.1) (1 : Int32).toNatClampNeg q2.1) (2 : Int32).toNatClampNeg q3.1) (3 : Int32).toNatClampNeg q4.1) (7 : Int32).toNatClampNeg (1 : Int32)), q4.2.2, (upd St_read (323 : Int32).toNatClampNeg ((upd (upd (upd (upd (upd St_fresh (0 : Int32).toNatClampNeg q1.1) (1 : Int32).toNatClampNeg q2.1) (2 : Int32).toNatClampNeg q3.1) (3 : Int32).toNatClampNeg q4.1) (7 : Int32).toNatClampNeg (1 : Int32)) (2 : Int32).toNatClampNeg))) else none) else none) else none) else none)
                      else
                      some (q4.2.1, (upd (upd (upd (upd St_fresh (0 : Int32).toNatClampNeg q1.1) (1 : Int32).toNatClampNeg q2.1) (2 : Int32).toNatClampNeg q3.1) (3 : Int32).toNatClampNeg q4.1), q4.2.2, St_read)) else none)) else none)) else none) else none)) else none))
set_option maxHeartbeats 4000000 in
set_option maxRecDepth 100000 in
theorem w_X10_storeLine_72 {p : Program} {e : Env} {s : State} {m : MethodId} {below : List Frame} {meth : Method} {c : Code} {A : Nat → Prop} {D : va_G} {cy : Nat → ClassId} {args : Array Value} {r : SMo × (Nat → Int32) × (Nat → Int32) × (Nat → Int32)} (l : Launch) (E : zEn) (ht : Nat → Nat) (St_tape : Nat → Int32) (C : zX p s m meth c cX10_storeLine 1 args RX10 none A D (zty cy)) (hE : zE E A s s.heap) :
    ∀ (St : SMo) (St_fresh : Nat → Int32) (St_letters : Nat → Int32) (St_read : Nat → Int32) (H : Heap) (locs : List Loc) (ls : Array Slot), b_X10_storeLine_72 St_tape St St_fresh St_letters St_read = some r → va_P D vwCl (wMo ht cy St ++ (wAI (fun _ => ht 4) cy 140 St_fresh ++ (wAI (fun _ => ht 2) cy 8 St_letters ++ (wAI (fun _ => ht 6) cy 325 St_read ++ (wAI (fun _ => ht 1) cy 900 St_tape))))) H → va_D A (wMo ht cy St ++ (wAI (fun _ => ht 4) cy 140 St_fresh ++ (wAI (fun _ => ht 2) cy 8 St_letters ++ (wAI (fun _ => ht 6) cy 325 St_read ++ (wAI (fun _ => ht 1) cy 900 St_tape))))) → va_S A s.heap H locs → lv_has ls 1 [(0, .ref (ht 0))] → W p l e (zRm 7 152) s m args below meth c H locs 0 0 (MQ below (zQV D (zty cy) A (wMo ht cy r.1 ++ (wAI (fun _ => ht 4) cy 140 r.2.1 ++ (wAI (fun _ => ht 2) cy 8 r.2.2.1 ++ (wAI (fun _ => ht 6) cy 325 r.2.2.2 ++ (wAI (fun _ => ht 1) cy 900 St_tape)))))) args s 0 0 A) (F0 m 72 ls []) := by
  obtain ⟨hx, hb, hr, hts, hown, hlocks, hml, hA, hK⟩ := id C
  intro St St_fresh St_letters St_read H locs ls hf hP hD hS hl
  refine lv_aload_n hx hb dX10_storeLine_72 rfl (lv_at hl 0 rfl) ?_
  refine va_get (D := D) (ci := 6) (v := .ref (ht 4)) (C := RX10) (T := TX10) (N := 41) hx hb hts in_X10 hown hK hP 0 rfl rfl 16 (by decide) (hts _ q6_61) (fun _ h9 => h9) rfl dX10_storeLine_73 ?_
  refine lv_iconst (v := (0 : Int32)) hx hb dX10_storeLine_76 (by decide) ?_
  refine lv_aload_n hx hb dX10_storeLine_77 rfl (lv_at hl 0 rfl) ?_
  refine lv_bipush (v := (8 : Int32)) hx hb dX10_storeLine_78 (by decide) ?_
  refine lv_bipush (v := (64 : Int32)) hx hb dX10_storeLine_80 (by decide) ?_
  obtain ⟨q1, hc, hf⟩ := zbd hf
  refine z_cVi (As := [.int (8 : Int32), .int (64 : Int32)]) (rest := [.int (0 : Int32), .ref (ht 4)]) C (c_X10_number l D cy ht St St_letters St_tape (8 : Int32) (64 : Int32) q1 hc) gV_X10_X10_number hd_X10_number ⟨Nat.le_of_ble_eq_true rfl, Nat.le_of_ble_eq_true rfl⟩ ⟨Nat.le_refl _, Nat.le_refl _⟩ (va_recv hK hP (ci := 6) (q0 := 0) rfl rfl) hP hD hS (w2 := wMo ht cy q1.2.1 ++ (wAI (fun _ => ht 4) cy 140 St_fresh ++ (wAI (fun _ => ht 2) cy 8 q1.2.2 ++ (wAI (fun _ => ht 6) cy 325 St_read ++ (wAI (fun _ => ht 1) cy 900 St_tape))))) [0, 2, 4] [1, 3] [2, 0, 3, 1, 4] rfl rfl rfl rfl rfl rfl (by decide) hl.1 (Nat.le_of_ble_eq_true rfl) dX10_storeLine_82 (fun H locs hP hD hS => ?_)
  refine z_iast (f := St_fresh) (w2 := wMo ht cy q1.2.1 ++ (wAI (fun _ => ht 4) cy 140 (upd St_fresh (0 : Int32).toNatClampNeg q1.1) ++ (wAI (fun _ => ht 2) cy 8 q1.2.2 ++ (wAI (fun _ => ht 6) cy 325 St_read ++ (wAI (fun _ => ht 1) cy 900 St_tape))))) hx hb hK hP hD hS 1 0 rfl rfl dX10_storeLine_85 hf rfl (fun hf H locs hP hD hS => ?_)
  refine lv_aload_n hx hb dX10_storeLine_86 rfl (lv_at hl 0 rfl) ?_
  refine va_get (D := D) (ci := 6) (v := .ref (ht 4)) (C := RX10) (T := TX10) (N := 41) hx hb hts in_X10 hown hK hP 0 rfl rfl 16 (by decide) (hts _ q6_61) (fun _ h9 => h9) rfl dX10_storeLine_87 ?_
  refine lv_iconst (v := (1 : Int32)) hx hb dX10_storeLine_90 (by decide) ?_
  refine lv_aload_n hx hb dX10_storeLine_91 rfl (lv_at hl 0 rfl) ?_
  refine z_ldcSW hx hb hown (hE.2.2.2.2.2.2.2.2.2.1 ("StampedRowsModel", 296, "rows", 12) (by decide)) dX10_storeLine_92 ?_
  refine lv_iconst (v := (1 : Int32)) hx hb dX10_storeLine_95 (by decide) ?_
  refine lv_bipush (v := (8 : Int32)) hx hb dX10_storeLine_96 (by decide) ?_
  obtain ⟨q2, hc, hf⟩ := zbd hf
  refine z_cVis (As := [.ref (E.1 12), .int (1 : Int32), .int (8 : Int32)]) (rest := [.int (1 : Int32), .ref (ht 4)]) C hE (c_X10_after l D cy E ht q1.2.1 q1.2.2 St_tape 12 (1 : Int32) (8 : Int32) q2 hc) gV_X10_X10_after hd_X10_after ⟨Nat.le_of_ble_eq_true rfl, Nat.le_of_ble_eq_true rfl⟩ ⟨Nat.le_refl _, Nat.le_refl _⟩ (va_recv hK hP (ci := 6) (q0 := 0) rfl rfl) hP hD hS (w2 := wMo ht cy q2.2.1 ++ (wAI (fun _ => ht 4) cy 140 (upd St_fresh (0 : Int32).toNatClampNeg q1.1) ++ (wAI (fun _ => ht 2) cy 8 q2.2.2 ++ (wAI (fun _ => ht 6) cy 325 St_read ++ (wAI (fun _ => ht 1) cy 900 St_tape))))) [0, 2, 4] [1, 3] [2, 0, 3, 1, 4] rfl rfl rfl rfl rfl rfl (by decide) hl.1 (Nat.le_of_ble_eq_true rfl) dX10_storeLine_98 (fun H locs hP hD hS => ?_)
  refine z_iast (f := (upd St_fresh (0 : Int32).toNatClampNeg q1.1)) (w2 := wMo ht cy q2.2.1 ++ (wAI (fun _ => ht 4) cy 140 (upd (upd St_fresh (0 : Int32).toNatClampNeg q1.1) (1 : Int32).toNatClampNeg q2.1) ++ (wAI (fun _ => ht 2) cy 8 q2.2.2 ++ (wAI (fun _ => ht 6) cy 325 St_read ++ (wAI (fun _ => ht 1) cy 900 St_tape))))) hx hb hK hP hD hS 1 0 rfl rfl dX10_storeLine_101 hf rfl (fun hf H locs hP hD hS => ?_)
  refine lv_aload_n hx hb dX10_storeLine_102 rfl (lv_at hl 0 rfl) ?_
  refine va_get (D := D) (ci := 6) (v := .ref (ht 4)) (C := RX10) (T := TX10) (N := 41) hx hb hts in_X10 hown hK hP 0 rfl rfl 16 (by decide) (hts _ q6_61) (fun _ h9 => h9) rfl dX10_storeLine_103 ?_
  refine lv_iconst (v := (2 : Int32)) hx hb dX10_storeLine_106 (by decide) ?_
  refine lv_aload_n hx hb dX10_storeLine_107 rfl (lv_at hl 0 rfl) ?_
  refine z_ldcSW hx hb hown (hE.2.2.2.2.2.2.2.2.2.1 ("StampedRowsModel", 302, "start", 13) (by decide)) dX10_storeLine_108 ?_
  refine lv_iconst (v := (0 : Int32)) hx hb dX10_storeLine_111 (by decide) ?_
  refine lv_aload_n hx hb dX10_storeLine_112 rfl (lv_at hl 0 rfl) ?_
  refine va_get (D := D) (ci := 6) (v := .ref (ht 4)) (C := RX10) (T := TX10) (N := 41) hx hb hts in_X10 hown hK hP 0 rfl rfl 16 (by decide) (hts _ q6_61) (fun _ h9 => h9) rfl dX10_storeLine_113 ?_
  refine lv_iconst (v := (0 : Int32)) hx hb dX10_storeLine_116 (by decide) ?_
  refine z_iald (f := (upd (upd St_fresh (0 : Int32).toNatClampNeg q1.1) (1 : Int32).toNatClampNeg q2.1)) hx hb hK hP 1 0 rfl rfl dX10_storeLine_117 hf (fun hf => ?_)
  refine lv_iconst (v := (1 : Int32)) hx hb dX10_storeLine_118 (by decide) ?_
  refine lv_isub hx hb dX10_storeLine_119 ?_
  obtain ⟨q3, hc, hf⟩ := zbd hf
  refine z_cVis (As := [.ref (E.1 13), .int (0 : Int32), .int (((upd (upd St_fresh (0 : Int32).toNatClampNeg q1.1) (1 : Int32).toNatClampNeg q2.1) (0 : Int32).toNatClampNeg) - (1 : Int32))]) (rest := [.int (2 : Int32), .ref (ht 4)]) C hE (c_X10_after l D cy E ht q2.2.1 q2.2.2 St_tape 13 (0 : Int32) (((upd (upd St_fresh (0 : Int32).toNatClampNeg q1.1) (1 : Int32).toNatClampNeg q2.1) (0 : Int32).toNatClampNeg) - (1 : Int32)) q3 hc) gV_X10_X10_after hd_X10_after ⟨Nat.le_of_ble_eq_true rfl, Nat.le_of_ble_eq_true rfl⟩ ⟨Nat.le_refl _, Nat.le_refl _⟩ (va_recv hK hP (ci := 6) (q0 := 0) rfl rfl) hP hD hS (w2 := wMo ht cy q3.2.1 ++ (wAI (fun _ => ht 4) cy 140 (upd (upd St_fresh (0 : Int32).toNatClampNeg q1.1) (1 : Int32).toNatClampNeg q2.1) ++ (wAI (fun _ => ht 2) cy 8 q3.2.2 ++ (wAI (fun _ => ht 6) cy 325 St_read ++ (wAI (fun _ => ht 1) cy 900 St_tape))))) [0, 2, 4] [1, 3] [2, 0, 3, 1, 4] rfl rfl rfl rfl rfl rfl (by decide) hl.1 (Nat.le_of_ble_eq_true rfl) dX10_storeLine_120 (fun H locs hP hD hS => ?_)
  refine z_iast (f := (upd (upd St_fresh (0 : Int32).toNatClampNeg q1.1) (1 : Int32).toNatClampNeg q2.1)) (w2 := wMo ht cy q3.2.1 ++ (wAI (fun _ => ht 4) cy 140 (upd (upd (upd St_fresh (0 : Int32).toNatClampNeg q1.1) (1 : Int32).toNatClampNeg q2.1) (2 : Int32).toNatClampNeg q3.1) ++ (wAI (fun _ => ht 2) cy 8 q3.2.2 ++ (wAI (fun _ => ht 6) cy 325 St_read ++ (wAI (fun _ => ht 1) cy 900 St_tape))))) hx hb hK hP hD hS 1 0 rfl rfl dX10_storeLine_123 hf rfl (fun hf H locs hP hD hS => ?_)
  refine lv_aload_n hx hb dX10_storeLine_124 rfl (lv_at hl 0 rfl) ?_
  refine va_get (D := D) (ci := 6) (v := .ref (ht 4)) (C := RX10) (T := TX10) (N := 41) hx hb hts in_X10 hown hK hP 0 rfl rfl 16 (by decide) (hts _ q6_61) (fun _ h9 => h9) rfl dX10_storeLine_125 ?_
  refine lv_iconst (v := (3 : Int32)) hx hb dX10_storeLine_128 (by decide) ?_
  refine lv_aload_n hx hb dX10_storeLine_129 rfl (lv_at hl 0 rfl) ?_
  refine z_ldcSW hx hb hown (hE.2.2.2.2.2.2.2.2.2.1 ("StampedRowsModel", 304, "crash", 14) (by decide)) dX10_storeLine_130 ?_
  refine lv_iconst (v := (0 : Int32)) hx hb dX10_storeLine_133 (by decide) ?_
  refine lv_bipush (v := (100 : Int32)) hx hb dX10_storeLine_134 (by decide) ?_
  obtain ⟨q4, hc, hf⟩ := zbd hf
  refine z_cVis (As := [.ref (E.1 14), .int (0 : Int32), .int (100 : Int32)]) (rest := [.int (3 : Int32), .ref (ht 4)]) C hE (c_X10_after l D cy E ht q3.2.1 q3.2.2 St_tape 14 (0 : Int32) (100 : Int32) q4 hc) gV_X10_X10_after hd_X10_after ⟨Nat.le_of_ble_eq_true rfl, Nat.le_of_ble_eq_true rfl⟩ ⟨Nat.le_refl _, Nat.le_refl _⟩ (va_recv hK hP (ci := 6) (q0 := 0) rfl rfl) hP hD hS (w2 := wMo ht cy q4.2.1 ++ (wAI (fun _ => ht 4) cy 140 (upd (upd (upd St_fresh (0 : Int32).toNatClampNeg q1.1) (1 : Int32).toNatClampNeg q2.1) (2 : Int32).toNatClampNeg q3.1) ++ (wAI (fun _ => ht 2) cy 8 q4.2.2 ++ (wAI (fun _ => ht 6) cy 325 St_read ++ (wAI (fun _ => ht 1) cy 900 St_tape))))) [0, 2, 4] [1, 3] [2, 0, 3, 1, 4] rfl rfl rfl rfl rfl rfl (by decide) hl.1 (Nat.le_of_ble_eq_true rfl) dX10_storeLine_136 (fun H locs hP hD hS => ?_)
  refine z_iast (f := (upd (upd (upd St_fresh (0 : Int32).toNatClampNeg q1.1) (1 : Int32).toNatClampNeg q2.1) (2 : Int32).toNatClampNeg q3.1)) (w2 := wMo ht cy q4.2.1 ++ (wAI (fun _ => ht 4) cy 140 (upd (upd (upd (upd St_fresh (0 : Int32).toNatClampNeg q1.1) (1 : Int32).toNatClampNeg q2.1) (2 : Int32).toNatClampNeg q3.1) (3 : Int32).toNatClampNeg q4.1) ++ (wAI (fun _ => ht 2) cy 8 q4.2.2 ++ (wAI (fun _ => ht 6) cy 325 St_read ++ (wAI (fun _ => ht 1) cy 900 St_tape))))) hx hb hK hP hD hS 1 0 rfl rfl dX10_storeLine_139 hf rfl (fun hf H locs hP hD hS => ?_)
  refine lv_aload_n hx hb dX10_storeLine_140 rfl (lv_at hl 0 rfl) ?_
  refine va_get (D := D) (ci := 6) (v := .int (Mo_failed q4.2.1)) (C := RX10) (T := TX10) (N := 41) hx hb hts in_X10 hown hK hP 0 rfl rfl 13 (by decide) (hts _ q6_58) (fun _ h9 => h9) rfl dX10_storeLine_141 ?_
  refine z_if_eq (tgt := 148) hx hb dX10_storeLine_144 (by decide) hf (fun hf => ?_) (fun hf => ?_)
  · refine lv_aload_n hx hb dX10_storeLine_148 rfl (lv_at hl 0 rfl) ?_
    refine va_get (D := D) (ci := 6) (v := .ref (ht 4)) (C := RX10) (T := TX10) (N := 41) hx hb hts in_X10 hown hK hP 0 rfl rfl 16 (by decide) (hts _ q6_61) (fun _ h9 => h9) rfl dX10_storeLine_149 ?_
    refine lv_bipush (v := (7 : Int32)) hx hb dX10_storeLine_152 (by decide) ?_
    refine lv_iconst (v := (1 : Int32)) hx hb dX10_storeLine_154 (by decide) ?_
    refine z_iast (f := (upd (upd (upd (upd St_fresh (0 : Int32).toNatClampNeg q1.1) (1 : Int32).toNatClampNeg q2.1) (2 : Int32).toNatClampNeg q3.1) (3 : Int32).toNatClampNeg q4.1)) (w2 := wMo ht cy q4.2.1 ++ (wAI (fun _ => ht 4) cy 140 (upd (upd (upd (upd (upd St_fresh (0 : Int32).toNatClampNeg q1.1) (1 : Int32).toNatClampNeg q2.1) (2 : Int32).toNatClampNeg q3.1) (3 : Int32).toNatClampNeg q4.1) (7 : Int32).toNatClampNeg (1 : Int32)) ++ (wAI (fun _ => ht 2) cy 8 q4.2.2 ++ (wAI (fun _ => ht 6) cy 325 St_read ++ (wAI (fun _ => ht 1) cy 900 St_tape))))) hx hb hK hP hD hS 1 0 rfl rfl dX10_storeLine_155 hf rfl (fun hf H locs hP hD hS => ?_)
    refine lv_aload_n hx hb dX10_storeLine_156 rfl (lv_at hl 0 rfl) ?_
    refine lv_aload_n hx hb dX10_storeLine_157 rfl (lv_at hl 0 rfl) ?_
    refine va_get (D := D) (ci := 6) (v := .ref (ht 4)) (C := RX10) (T := TX10) (N := 41) hx hb hts in_X10 hown hK hP 0 rfl rfl 16 (by decide) (hts _ q6_61) (fun _ h9 => h9) rfl dX10_storeLine_158 ?_
    refine lv_iconst (v := (0 : Int32)) hx hb dX10_storeLine_161 (by decide) ?_
    refine z_iald (f := (upd (upd (upd (upd (upd St_fresh (0 : Int32).toNatClampNeg q1.1) (1 : Int32).toNatClampNeg q2.1) (2 : Int32).toNatClampNeg q3.1) (3 : Int32).toNatClampNeg q4.1) (7 : Int32).toNatClampNeg (1 : Int32))) hx hb hK hP 1 0 rfl rfl dX10_storeLine_162 hf (fun hf => ?_)
    refine z_put (w2 := vMo ht cy (Mo_thrown q4.2.1) (Mo_taped q4.2.1) (Mo_size q4.2.1) (Mo_at q4.2.1) (Mo_end q4.2.1) (Mo_token q4.2.1) (Mo_whole q4.2.1) (Mo_nameSize q4.2.1) (Mo_fault q4.2.1) (Mo_place q4.2.1) (Mo_trouble q4.2.1) (Mo_failed q4.2.1) (Mo_hasStore q4.2.1) (Mo_undos q4.2.1) (Mo_images q4.2.1) ((upd (upd (upd (upd (upd St_fresh (0 : Int32).toNatClampNeg q1.1) (1 : Int32).toNatClampNeg q2.1) (2 : Int32).toNatClampNeg q3.1) (3 : Int32).toNatClampNeg q4.1) (7 : Int32).toNatClampNeg (1 : Int32)) (0 : Int32).toNatClampNeg) (Mo_refused q4.2.1) (Mo_setMany q4.2.1) (Mo_someOf q4.2.1) (Mo_allOf q4.2.1) (Mo_firstRest q4.2.1) (Mo_allWeight q4.2.1) (Mo_seenWeight q4.2.1) (Mo_sumWeight q4.2.1) ++ (wAI (fun _ => ht 4) cy 140 (upd (upd (upd (upd (upd St_fresh (0 : Int32).toNatClampNeg q1.1) (1 : Int32).toNatClampNeg q2.1) (2 : Int32).toNatClampNeg q3.1) (3 : Int32).toNatClampNeg q4.1) (7 : Int32).toNatClampNeg (1 : Int32)) ++ (wAI (fun _ => ht 2) cy 8 q4.2.2 ++ (wAI (fun _ => ht 6) cy 325 St_read ++ (wAI (fun _ => ht 1) cy 900 St_tape))))) hx hb hts in_X10 tyX10 tyX10_ok nmX10 hown hK hP hD hS 0 rfl rfl 27 (by decide) (hts _ q6_72) (fun _ h9 => h9) rfl rfl rfl (Nat.le_of_ble_eq_true rfl) dX10_storeLine_163 rfl (fun H locs hP hD hS => ?_)
    refine lv_aload_n hx hb dX10_storeLine_166 rfl (lv_at hl 0 rfl) ?_
    refine va_get (D := D) (ci := 6) (v := .ref (ht 6)) (C := RX10) (T := TX10) (N := 41) hx hb hts in_X10 hown hK hP 0 rfl rfl 18 (by decide) (hts _ q6_63) (fun _ h9 => h9) rfl dX10_storeLine_167 ?_
    refine lv_sipush (v := (323 : Int32)) hx hb dX10_storeLine_170 (by decide) ?_
    refine lv_aload_n hx hb dX10_storeLine_173 rfl (lv_at hl 0 rfl) ?_
    refine va_get (D := D) (ci := 6) (v := .ref (ht 4)) (C := RX10) (T := TX10) (N := 41) hx hb hts in_X10 hown hK hP 0 rfl rfl 16 (by decide) (hts _ q6_61) (fun _ h9 => h9) rfl dX10_storeLine_174 ?_
    refine lv_iconst (v := (2 : Int32)) hx hb dX10_storeLine_177 (by decide) ?_
    refine z_iald (f := (upd (upd (upd (upd (upd St_fresh (0 : Int32).toNatClampNeg q1.1) (1 : Int32).toNatClampNeg q2.1) (2 : Int32).toNatClampNeg q3.1) (3 : Int32).toNatClampNeg q4.1) (7 : Int32).toNatClampNeg (1 : Int32))) hx hb hK hP 1 0 rfl rfl dX10_storeLine_178 hf (fun hf => ?_)
    refine z_iast (f := St_read) (w2 := vMo ht cy (Mo_thrown q4.2.1) (Mo_taped q4.2.1) (Mo_size q4.2.1) (Mo_at q4.2.1) (Mo_end q4.2.1) (Mo_token q4.2.1) (Mo_whole q4.2.1) (Mo_nameSize q4.2.1) (Mo_fault q4.2.1) (Mo_place q4.2.1) (Mo_trouble q4.2.1) (Mo_failed q4.2.1) (Mo_hasStore q4.2.1) (Mo_undos q4.2.1) (Mo_images q4.2.1) ((upd (upd (upd (upd (upd St_fresh (0 : Int32).toNatClampNeg q1.1) (1 : Int32).toNatClampNeg q2.1) (2 : Int32).toNatClampNeg q3.1) (3 : Int32).toNatClampNeg q4.1) (7 : Int32).toNatClampNeg (1 : Int32)) (0 : Int32).toNatClampNeg) (Mo_refused q4.2.1) (Mo_setMany q4.2.1) (Mo_someOf q4.2.1) (Mo_allOf q4.2.1) (Mo_firstRest q4.2.1) (Mo_allWeight q4.2.1) (Mo_seenWeight q4.2.1) (Mo_sumWeight q4.2.1) ++ (wAI (fun _ => ht 4) cy 140 (upd (upd (upd (upd (upd St_fresh (0 : Int32).toNatClampNeg q1.1) (1 : Int32).toNatClampNeg q2.1) (2 : Int32).toNatClampNeg q3.1) (3 : Int32).toNatClampNeg q4.1) (7 : Int32).toNatClampNeg (1 : Int32)) ++ (wAI (fun _ => ht 2) cy 8 q4.2.2 ++ (wAI (fun _ => ht 6) cy 325 (upd St_read (323 : Int32).toNatClampNeg ((upd (upd (upd (upd (upd St_fresh (0 : Int32).toNatClampNeg q1.1) (1 : Int32).toNatClampNeg q2.1) (2 : Int32).toNatClampNeg q3.1) (3 : Int32).toNatClampNeg q4.1) (7 : Int32).toNatClampNeg (1 : Int32)) (2 : Int32).toNatClampNeg)) ++ (wAI (fun _ => ht 1) cy 900 St_tape))))) hx hb hK hP hD hS 3 0 rfl rfl dX10_storeLine_179 hf rfl (fun hf H locs hP hD hS => ?_)
    obtain rfl := Option.some.inj hf
    rw [← wMo_mk ht] at hP hD
    exact z_vret C hP hD hS dX10_storeLine_180
  · obtain rfl := Option.some.inj hf
    exact z_vret C hP hD hS dX10_storeLine_147
def b_X10_storeLine_19 (St_tape : Nat → Int32) (St : SMo) (St_fresh : Nat → Int32) (St_letters : Nat → Int32) (St_read : Nat → Int32) : Option (SMo × (Nat → Int32) × (Nat → Int32) × (Nat → Int32)) :=
  (if (Mo_failed St) = 0 then
    (f_X10_step St St_letters St_tape).bind (fun q5 =>
      (f_X10_must q5.1 q5.2 St_tape 11).bind (fun q6 =>
        (if (Mo_failed q6.1) = 0 then
          (if (Mo_token q6.1) = (3 : Int32) then
            (if ((Mo_whole q6.1) &&& (1 : Int32)) = (1 : Int32) then
              (f_X10_wrong q6.1 (4 : Int32) (Mo_at q6.1)).bind (fun q7 =>
                (b_X10_storeLine_72 St_tape q7 St_fresh q6.2 St_read))
              else
              (b_X10_storeLine_72 St_tape q6.1 St_fresh q6.2 St_read))
            else
            (b_X10_storeLine_72 St_tape q6.1 St_fresh q6.2 St_read))
          else
          (b_X10_storeLine_72 St_tape q6.1 St_fresh q6.2 St_read))))
    else
    some (St, St_fresh, St_letters, St_read))
set_option maxHeartbeats 4000000 in
set_option maxRecDepth 100000 in
theorem w_X10_storeLine_19 {p : Program} {e : Env} {s : State} {m : MethodId} {below : List Frame} {meth : Method} {c : Code} {A : Nat → Prop} {D : va_G} {cy : Nat → ClassId} {args : Array Value} {r : SMo × (Nat → Int32) × (Nat → Int32) × (Nat → Int32)} (l : Launch) (E : zEn) (ht : Nat → Nat) (St_tape : Nat → Int32) (C : zX p s m meth c cX10_storeLine 1 args RX10 none A D (zty cy)) (hE : zE E A s s.heap) :
    ∀ (St : SMo) (St_fresh : Nat → Int32) (St_letters : Nat → Int32) (St_read : Nat → Int32) (H : Heap) (locs : List Loc) (ls : Array Slot), b_X10_storeLine_19 St_tape St St_fresh St_letters St_read = some r → va_P D vwCl (wMo ht cy St ++ (wAI (fun _ => ht 4) cy 140 St_fresh ++ (wAI (fun _ => ht 2) cy 8 St_letters ++ (wAI (fun _ => ht 6) cy 325 St_read ++ (wAI (fun _ => ht 1) cy 900 St_tape))))) H → va_D A (wMo ht cy St ++ (wAI (fun _ => ht 4) cy 140 St_fresh ++ (wAI (fun _ => ht 2) cy 8 St_letters ++ (wAI (fun _ => ht 6) cy 325 St_read ++ (wAI (fun _ => ht 1) cy 900 St_tape))))) → va_S A s.heap H locs → lv_has ls 1 [(0, .ref (ht 0))] → W p l e (zRm 7 152) s m args below meth c H locs 0 0 (MQ below (zQV D (zty cy) A (wMo ht cy r.1 ++ (wAI (fun _ => ht 4) cy 140 r.2.1 ++ (wAI (fun _ => ht 2) cy 8 r.2.2.1 ++ (wAI (fun _ => ht 6) cy 325 r.2.2.2 ++ (wAI (fun _ => ht 1) cy 900 St_tape)))))) args s 0 0 A) (F0 m 19 ls []) := by
  obtain ⟨hx, hb, hr, hts, hown, hlocks, hml, hA, hK⟩ := id C
  intro St St_fresh St_letters St_read H locs ls hf hP hD hS hl
  refine lv_aload_n hx hb dX10_storeLine_19 rfl (lv_at hl 0 rfl) ?_
  refine va_get (D := D) (ci := 6) (v := .int (Mo_failed St)) (C := RX10) (T := TX10) (N := 41) hx hb hts in_X10 hown hK hP 0 rfl rfl 13 (by decide) (hts _ q6_58) (fun _ h9 => h9) rfl dX10_storeLine_20 ?_
  refine z_if_eq (tgt := 27) hx hb dX10_storeLine_23 (by decide) hf (fun hf => ?_) (fun hf => ?_)
  · refine lv_aload_n hx hb dX10_storeLine_27 rfl (lv_at hl 0 rfl) ?_
    obtain ⟨q5, hc, hf⟩ := zbd hf
    refine z_cVv (As := []) (rest := []) C (c_X10_step l D cy ht St St_letters St_tape q5 hc) gV_X10_X10_step hd_X10_step ⟨Nat.le_of_ble_eq_true rfl, Nat.le_of_ble_eq_true rfl⟩ ⟨Nat.le_refl _, Nat.le_refl _⟩ (va_recv hK hP (ci := 6) (q0 := 0) rfl rfl) hP hD hS (w2 := wMo ht cy q5.1 ++ (wAI (fun _ => ht 4) cy 140 St_fresh ++ (wAI (fun _ => ht 2) cy 8 q5.2 ++ (wAI (fun _ => ht 6) cy 325 St_read ++ (wAI (fun _ => ht 1) cy 900 St_tape))))) [0, 2, 4] [1, 3] [2, 0, 3, 1, 4] rfl rfl rfl rfl rfl rfl (by decide) hl.1 (Nat.le_of_ble_eq_true rfl) dX10_storeLine_28 (fun H locs hP hD hS => ?_)
    refine lv_aload_n hx hb dX10_storeLine_31 rfl (lv_at hl 0 rfl) ?_
    refine z_ldcSW hx hb hown (hE.2.2.2.2.2.2.2.2.2.1 ("StampedRowsModel", 295, "ring", 11) (by decide)) dX10_storeLine_32 ?_
    obtain ⟨q6, hc, hf⟩ := zbd hf
    refine z_cVvs (As := [.ref (E.1 11)]) (rest := []) C hE (c_X10_must l D cy E ht q5.1 q5.2 St_tape 11 q6 hc) gV_X10_X10_must hd_X10_must ⟨Nat.le_of_ble_eq_true rfl, Nat.le_of_ble_eq_true rfl⟩ ⟨Nat.le_refl _, Nat.le_refl _⟩ (va_recv hK hP (ci := 6) (q0 := 0) rfl rfl) hP hD hS (w2 := wMo ht cy q6.1 ++ (wAI (fun _ => ht 4) cy 140 St_fresh ++ (wAI (fun _ => ht 2) cy 8 q6.2 ++ (wAI (fun _ => ht 6) cy 325 St_read ++ (wAI (fun _ => ht 1) cy 900 St_tape))))) [0, 2, 4] [1, 3] [2, 0, 3, 1, 4] rfl rfl rfl rfl rfl rfl (by decide) hl.1 (Nat.le_of_ble_eq_true rfl) dX10_storeLine_35 (fun H locs hP hD hS => ?_)
    refine lv_aload_n hx hb dX10_storeLine_38 rfl (lv_at hl 0 rfl) ?_
    refine va_get (D := D) (ci := 6) (v := .int (Mo_failed q6.1)) (C := RX10) (T := TX10) (N := 41) hx hb hts in_X10 hown hK hP 0 rfl rfl 13 (by decide) (hts _ q6_58) (fun _ h9 => h9) rfl dX10_storeLine_39 ?_
    refine z_if_ne (tgt := 72) hx hb dX10_storeLine_42 (by decide) hf (fun hf => ?_) (fun hf => ?_)
    · exact w_X10_storeLine_72 l E ht St_tape C hE q6.1 St_fresh q6.2 St_read H locs ls hf hP hD hS (lv_sub hl [0] rfl)
    · refine lv_aload_n hx hb dX10_storeLine_45 rfl (lv_at hl 0 rfl) ?_
      refine va_get (D := D) (ci := 6) (v := .int (Mo_token q6.1)) (C := RX10) (T := TX10) (N := 41) hx hb hts in_X10 hown hK hP 0 rfl rfl 6 (by decide) (hts _ q6_51) (fun _ h9 => h9) rfl dX10_storeLine_46 ?_
      refine lv_iconst (v := (3 : Int32)) hx hb dX10_storeLine_49 (by decide) ?_
      refine z_icmp_ne (tgt := 72) hx hb dX10_storeLine_50 (by decide) hf (fun hf => ?_) (fun hf => ?_)
      · exact w_X10_storeLine_72 l E ht St_tape C hE q6.1 St_fresh q6.2 St_read H locs ls hf hP hD hS (lv_sub hl [0] rfl)
      · refine lv_aload_n hx hb dX10_storeLine_53 rfl (lv_at hl 0 rfl) ?_
        refine va_get (D := D) (ci := 6) (v := .int (Mo_whole q6.1)) (C := RX10) (T := TX10) (N := 41) hx hb hts in_X10 hown hK hP 0 rfl rfl 7 (by decide) (hts _ q6_52) (fun _ h9 => h9) rfl dX10_storeLine_54 ?_
        refine lv_iconst (v := (1 : Int32)) hx hb dX10_storeLine_57 (by decide) ?_
        refine lv_iand hx hb dX10_storeLine_58 ?_
        refine lv_iconst (v := (1 : Int32)) hx hb dX10_storeLine_59 (by decide) ?_
        refine z_icmp_ne (tgt := 72) hx hb dX10_storeLine_60 (by decide) hf (fun hf => ?_) (fun hf => ?_)
        · exact w_X10_storeLine_72 l E ht St_tape C hE q6.1 St_fresh q6.2 St_read H locs ls hf hP hD hS (lv_sub hl [0] rfl)
        · refine lv_aload_n hx hb dX10_storeLine_63 rfl (lv_at hl 0 rfl) ?_
          refine lv_iconst (v := (4 : Int32)) hx hb dX10_storeLine_64 (by decide) ?_
          refine lv_aload_n hx hb dX10_storeLine_65 rfl (lv_at hl 0 rfl) ?_
          refine va_get (D := D) (ci := 6) (v := .int (Mo_at q6.1)) (C := RX10) (T := TX10) (N := 41) hx hb hts in_X10 hown hK hP 0 rfl rfl 4 (by decide) (hts _ q6_49) (fun _ h9 => h9) rfl dX10_storeLine_66 ?_
          obtain ⟨q7, hc, hf⟩ := zbd hf
          refine z_cVv (As := [.int (4 : Int32), .int (Mo_at q6.1)]) (rest := []) C (c_X10_wrong l D cy ht q6.1 (4 : Int32) (Mo_at q6.1) q7 hc) gV_X10_X10_wrong hd_X10_wrong ⟨Nat.le_of_ble_eq_true rfl, Nat.le_of_ble_eq_true rfl⟩ ⟨Nat.le_refl _, Nat.le_refl _⟩ (va_recv hK hP (ci := 6) (q0 := 0) rfl rfl) hP hD hS (w2 := wMo ht cy q7 ++ (wAI (fun _ => ht 4) cy 140 St_fresh ++ (wAI (fun _ => ht 2) cy 8 q6.2 ++ (wAI (fun _ => ht 6) cy 325 St_read ++ (wAI (fun _ => ht 1) cy 900 St_tape))))) [0] [1, 2, 3, 4] [4, 0, 1, 2, 3] rfl rfl rfl rfl rfl rfl (by decide) hl.1 (Nat.le_of_ble_eq_true rfl) dX10_storeLine_69 (fun H locs hP hD hS => ?_)
          exact w_X10_storeLine_72 l E ht St_tape C hE q7 St_fresh q6.2 St_read H locs ls hf hP hD hS (lv_sub hl [0] rfl)
  · obtain rfl := Option.some.inj hf
    exact z_vret C hP hD hS dX10_storeLine_26
def f_X10_storeLine (St : SMo) (St_fresh : Nat → Int32) (St_letters : Nat → Int32) (St_read : Nat → Int32) (St_tape : Nat → Int32) : Option (SMo × (Nat → Int32) × (Nat → Int32) × (Nat → Int32)) :=
  (if zib (7 : Int32) 140 then (if (St_fresh (7 : Int32).toNatClampNeg) ≤ 0 then
      (b_X10_storeLine_19 St_tape St St_fresh St_letters St_read)
      else
      (f_X10_wrong St (3 : Int32) (Mo_at St)).bind (fun q8 =>
        (b_X10_storeLine_19 St_tape q8 St_fresh St_letters St_read))) else none)
set_option maxHeartbeats 4000000 in
set_option maxRecDepth 100000 in
theorem c_X10_storeLine (l : Launch) (D : va_G) (cy : Nat → ClassId) (E : zEn) (ht : Nat → Nat) (St : SMo) (St_fresh : Nat → Int32) (St_letters : Nat → Int32) (St_read : Nat → Int32) (St_tape : Nat → Int32) (r : SMo × (Nat → Int32) × (Nat → Int32) × (Nat → Int32)) (hf : f_X10_storeLine St St_fresh St_letters St_read St_tape = some r) : zCVs l yX10_storeLine cX10_storeLine 1 none 7 152 D (zty cy) E [.ref (ht 0)] (wMo ht cy St ++ (wAI (fun _ => ht 4) cy 140 St_fresh ++ (wAI (fun _ => ht 2) cy 8 St_letters ++ (wAI (fun _ => ht 6) cy 325 St_read ++ (wAI (fun _ => ht 1) cy 900 St_tape))))) (wMo ht cy r.1 ++ (wAI (fun _ => ht 4) cy 140 r.2.1 ++ (wAI (fun _ => ht 2) cy 8 r.2.2.1 ++ (wAI (fun _ => ht 6) cy 325 r.2.2.2 ++ (wAI (fun _ => ht 1) cy 900 St_tape))))) := by
  refine zCVs_of (by decide +kernel) (Nat.le_of_ble_eq_true rfl) ?_
  intro p e s m below meth c A ls C hE hP hD hS hl
  generalize hargs : ([.ref (ht 0)] : List Value).toArray = args at C ⊢
  have C : zX p s m meth c cX10_storeLine 1 args RX10 none A D (zty cy) := C
  obtain ⟨hx, hb, hr, hts, hown, hlocks, hml, hA, hK⟩ := id C
  have hl : lv_has ls 1 [(0, .ref (ht 0))] := hl
  generalize hH : s.heap = H at hP ⊢
  have hS : va_S A s.heap H [] := by rw [← hH]; exact hS
  generalize ([] : List Loc) = locs at hS ⊢
  refine lv_aload_n hx hb dX10_storeLine_0 rfl (lv_at hl 0 rfl) ?_
  refine va_get (D := D) (ci := 6) (v := .ref (ht 4)) (C := RX10) (T := TX10) (N := 41) hx hb hts in_X10 hown hK hP 0 rfl rfl 16 (by decide) (hts _ q6_61) (fun _ h9 => h9) rfl dX10_storeLine_1 ?_
  refine lv_bipush (v := (7 : Int32)) hx hb dX10_storeLine_4 (by decide) ?_
  refine z_iald (f := St_fresh) hx hb hK hP 1 0 rfl rfl dX10_storeLine_6 hf (fun hf => ?_)
  refine z_if_le (tgt := 19) hx hb dX10_storeLine_7 (by decide) hf (fun hf => ?_) (fun hf => ?_)
  · exact w_X10_storeLine_19 l E ht St_tape C hE St St_fresh St_letters St_read H locs ls hf hP hD hS (lv_sub hl [0] rfl)
  · refine lv_aload_n hx hb dX10_storeLine_10 rfl (lv_at hl 0 rfl) ?_
    refine lv_iconst (v := (3 : Int32)) hx hb dX10_storeLine_11 (by decide) ?_
    refine lv_aload_n hx hb dX10_storeLine_12 rfl (lv_at hl 0 rfl) ?_
    refine va_get (D := D) (ci := 6) (v := .int (Mo_at St)) (C := RX10) (T := TX10) (N := 41) hx hb hts in_X10 hown hK hP 0 rfl rfl 4 (by decide) (hts _ q6_49) (fun _ h9 => h9) rfl dX10_storeLine_13 ?_
    obtain ⟨q8, hc, hf⟩ := zbd hf
    refine z_cVv (As := [.int (3 : Int32), .int (Mo_at St)]) (rest := []) C (c_X10_wrong l D cy ht St (3 : Int32) (Mo_at St) q8 hc) gV_X10_X10_wrong hd_X10_wrong ⟨Nat.le_of_ble_eq_true rfl, Nat.le_of_ble_eq_true rfl⟩ ⟨Nat.le_refl _, Nat.le_refl _⟩ (va_recv hK hP (ci := 6) (q0 := 0) rfl rfl) hP hD hS (w2 := wMo ht cy q8 ++ (wAI (fun _ => ht 4) cy 140 St_fresh ++ (wAI (fun _ => ht 2) cy 8 St_letters ++ (wAI (fun _ => ht 6) cy 325 St_read ++ (wAI (fun _ => ht 1) cy 900 St_tape))))) [0] [1, 2, 3, 4] [4, 0, 1, 2, 3] rfl rfl rfl rfl rfl rfl (by decide) hl.1 (Nat.le_of_ble_eq_true rfl) dX10_storeLine_16 (fun H locs hP hD hS => ?_)
    exact w_X10_storeLine_19 l E ht St_tape C hE q8 St_fresh St_letters St_read H locs ls hf hP hD hS (lv_sub hl [0] rfl)
def b_X10_beginLine_125 (St_tape : Nat → Int32) (St : SMo) (St_fresh : Nat → Int32) (St_letters : Nat → Int32) (St_owner : Nat → Int32) (St_read : Nat → Int32) (St_slots : Nat → Int32) (v1 : Int32) (u1 : Int32) : Option (SMo × (Nat → Int32) × (Nat → Int32) × (Nat → Int32) × (Nat → Int32) × (Nat → Int32)) :=
  (f_X10_mayRefuse St u1).bind (fun q1 =>
    (if (Mo_failed q1) = 0 then
      (if zib (323 : Int32) 325 then (if zib (St_read (323 : Int32).toNatClampNeg) 64 then (if zib (323 : Int32) 325 then (if zib ((20 : Int32) + v1) 140 then (f_X10_beginOn q1 St_read).bind (fun q2 =>
                (if zib v1 12 then (if zib (6 : Int32) 140 then (if zib (6 : Int32) 140 then some (q1, (upd (upd St_fresh ((20 : Int32) + v1).toNatClampNeg (St_read (323 : Int32).toNatClampNeg)) (6 : Int32).toNatClampNeg (((upd St_fresh ((20 : Int32) + v1).toNatClampNeg (St_read (323 : Int32).toNatClampNeg)) (6 : Int32).toNatClampNeg) + (1 : Int32))), St_letters, (upd St_owner (St_read (323 : Int32).toNatClampNeg).toNatClampNeg (v1 + (1 : Int32))), q2.2, (upd St_slots v1.toNatClampNeg (q2.1 + (1 : Int32)))) else none) else none) else none)) else none) else none) else none) else none)
      else
      some (q1, St_fresh, St_letters, St_owner, St_read, St_slots)))
set_option maxHeartbeats 4000000 in
set_option maxRecDepth 100000 in
theorem w_X10_beginLine_125 {p : Program} {e : Env} {s : State} {m : MethodId} {below : List Frame} {meth : Method} {c : Code} {A : Nat → Prop} {D : va_G} {cy : Nat → ClassId} {args : Array Value} {r : SMo × (Nat → Int32) × (Nat → Int32) × (Nat → Int32) × (Nat → Int32) × (Nat → Int32)} (l : Launch) (E : zEn) (ht : Nat → Nat) (St_tape : Nat → Int32) (C : zX p s m meth c cX10_beginLine 3 args RX10 none A D (zty cy)) (hE : zE E A s s.heap) :
    ∀ (St : SMo) (St_fresh : Nat → Int32) (St_letters : Nat → Int32) (St_owner : Nat → Int32) (St_read : Nat → Int32) (St_slots : Nat → Int32) (v1 : Int32) (u1 : Int32) (H : Heap) (locs : List Loc) (ls : Array Slot), b_X10_beginLine_125 St_tape St St_fresh St_letters St_owner St_read St_slots v1 u1 = some r → va_P D vwCl (wMo ht cy St ++ (wAI (fun _ => ht 4) cy 140 St_fresh ++ (wAI (fun _ => ht 2) cy 8 St_letters ++ (wAI (fun _ => ht 7) cy 64 St_owner ++ (wAI (fun _ => ht 6) cy 325 St_read ++ (wAI (fun _ => ht 14) cy 12 St_slots ++ (wAI (fun _ => ht 1) cy 900 St_tape))))))) H → va_D A (wMo ht cy St ++ (wAI (fun _ => ht 4) cy 140 St_fresh ++ (wAI (fun _ => ht 2) cy 8 St_letters ++ (wAI (fun _ => ht 7) cy 64 St_owner ++ (wAI (fun _ => ht 6) cy 325 St_read ++ (wAI (fun _ => ht 14) cy 12 St_slots ++ (wAI (fun _ => ht 1) cy 900 St_tape))))))) → va_S A s.heap H locs → lv_has ls 3 [(0, .ref (ht 0)), (1, .int v1)] → W p l e (zRm 7 148) s m args below meth c H locs 0 0 (MQ below (zQV D (zty cy) A (wMo ht cy r.1 ++ (wAI (fun _ => ht 4) cy 140 r.2.1 ++ (wAI (fun _ => ht 2) cy 8 r.2.2.1 ++ (wAI (fun _ => ht 7) cy 64 r.2.2.2.1 ++ (wAI (fun _ => ht 6) cy 325 r.2.2.2.2.1 ++ (wAI (fun _ => ht 14) cy 12 r.2.2.2.2.2 ++ (wAI (fun _ => ht 1) cy 900 St_tape)))))))) args s 0 0 A) (F0 m 125 ls [.int u1, .ref (ht 0)]) := by
  obtain ⟨hx, hb, hr, hts, hown, hlocks, hml, hA, hK⟩ := id C
  intro St St_fresh St_letters St_owner St_read St_slots v1 u1 H locs ls hf hP hD hS hl
  obtain ⟨q1, hc, hf⟩ := zbd hf
  refine z_cVv (As := [.int u1]) (rest := []) C (c_X10_mayRefuse l D cy ht St u1 q1 hc) gV_X10_X10_mayRefuse hd_X10_mayRefuse ⟨Nat.le_of_ble_eq_true rfl, Nat.le_of_ble_eq_true rfl⟩ ⟨Nat.le_refl _, Nat.le_refl _⟩ (va_recv hK hP (ci := 6) (q0 := 0) rfl rfl) hP hD hS (w2 := wMo ht cy q1 ++ (wAI (fun _ => ht 4) cy 140 St_fresh ++ (wAI (fun _ => ht 2) cy 8 St_letters ++ (wAI (fun _ => ht 7) cy 64 St_owner ++ (wAI (fun _ => ht 6) cy 325 St_read ++ (wAI (fun _ => ht 14) cy 12 St_slots ++ (wAI (fun _ => ht 1) cy 900 St_tape))))))) [0] [1, 2, 3, 4, 5, 6] [6, 0, 1, 2, 3, 4, 5] rfl rfl rfl rfl rfl rfl (by decide) hl.1 (Nat.le_of_ble_eq_true rfl) dX10_beginLine_125 (fun H locs hP hD hS => ?_)
  refine lv_aload_n hx hb dX10_beginLine_128 rfl (lv_at hl 0 rfl) ?_
  refine va_get (D := D) (ci := 6) (v := .int (Mo_failed q1)) (C := RX10) (T := TX10) (N := 41) hx hb hts in_X10 hown hK hP 0 rfl rfl 13 (by decide) (hts _ q6_58) (fun _ h9 => h9) rfl dX10_beginLine_129 ?_
  refine z_if_eq (tgt := 136) hx hb dX10_beginLine_132 (by decide) hf (fun hf => ?_) (fun hf => ?_)
  · refine lv_aload_n hx hb dX10_beginLine_136 rfl (lv_at hl 0 rfl) ?_
    refine va_get (D := D) (ci := 6) (v := .ref (ht 7)) (C := RX10) (T := TX10) (N := 41) hx hb hts in_X10 hown hK hP 0 rfl rfl 19 (by decide) (hts _ q6_64) (fun _ h9 => h9) rfl dX10_beginLine_137 ?_
    refine lv_aload_n hx hb dX10_beginLine_140 rfl (lv_at hl 0 rfl) ?_
    refine va_get (D := D) (ci := 6) (v := .ref (ht 6)) (C := RX10) (T := TX10) (N := 41) hx hb hts in_X10 hown hK hP 0 rfl rfl 18 (by decide) (hts _ q6_63) (fun _ h9 => h9) rfl dX10_beginLine_141 ?_
    refine lv_sipush (v := (323 : Int32)) hx hb dX10_beginLine_144 (by decide) ?_
    refine z_iald (f := St_read) hx hb hK hP 4 0 rfl rfl dX10_beginLine_147 hf (fun hf => ?_)
    refine lv_iload_n hx hb dX10_beginLine_148 rfl (lv_at hl 1 rfl) ?_
    refine lv_iconst (v := (1 : Int32)) hx hb dX10_beginLine_149 (by decide) ?_
    refine lv_iadd hx hb dX10_beginLine_150 ?_
    refine z_iast (f := St_owner) (w2 := wMo ht cy q1 ++ (wAI (fun _ => ht 4) cy 140 St_fresh ++ (wAI (fun _ => ht 2) cy 8 St_letters ++ (wAI (fun _ => ht 7) cy 64 (upd St_owner (St_read (323 : Int32).toNatClampNeg).toNatClampNeg (v1 + (1 : Int32))) ++ (wAI (fun _ => ht 6) cy 325 St_read ++ (wAI (fun _ => ht 14) cy 12 St_slots ++ (wAI (fun _ => ht 1) cy 900 St_tape))))))) hx hb hK hP hD hS 3 0 rfl rfl dX10_beginLine_151 hf rfl (fun hf H locs hP hD hS => ?_)
    refine lv_aload_n hx hb dX10_beginLine_152 rfl (lv_at hl 0 rfl) ?_
    refine va_get (D := D) (ci := 6) (v := .ref (ht 4)) (C := RX10) (T := TX10) (N := 41) hx hb hts in_X10 hown hK hP 0 rfl rfl 16 (by decide) (hts _ q6_61) (fun _ h9 => h9) rfl dX10_beginLine_153 ?_
    refine lv_bipush (v := (20 : Int32)) hx hb dX10_beginLine_156 (by decide) ?_
    refine lv_iload_n hx hb dX10_beginLine_158 rfl (lv_at hl 1 rfl) ?_
    refine lv_iadd hx hb dX10_beginLine_159 ?_
    refine lv_aload_n hx hb dX10_beginLine_160 rfl (lv_at hl 0 rfl) ?_
    refine va_get (D := D) (ci := 6) (v := .ref (ht 6)) (C := RX10) (T := TX10) (N := 41) hx hb hts in_X10 hown hK hP 0 rfl rfl 18 (by decide) (hts _ q6_63) (fun _ h9 => h9) rfl dX10_beginLine_161 ?_
    refine lv_sipush (v := (323 : Int32)) hx hb dX10_beginLine_164 (by decide) ?_
    refine z_iald (f := St_read) hx hb hK hP 4 0 rfl rfl dX10_beginLine_167 hf (fun hf => ?_)
    refine z_iast (f := St_fresh) (w2 := wMo ht cy q1 ++ (wAI (fun _ => ht 4) cy 140 (upd St_fresh ((20 : Int32) + v1).toNatClampNeg (St_read (323 : Int32).toNatClampNeg)) ++ (wAI (fun _ => ht 2) cy 8 St_letters ++ (wAI (fun _ => ht 7) cy 64 (upd St_owner (St_read (323 : Int32).toNatClampNeg).toNatClampNeg (v1 + (1 : Int32))) ++ (wAI (fun _ => ht 6) cy 325 St_read ++ (wAI (fun _ => ht 14) cy 12 St_slots ++ (wAI (fun _ => ht 1) cy 900 St_tape))))))) hx hb hK hP hD hS 1 0 rfl rfl dX10_beginLine_168 hf rfl (fun hf H locs hP hD hS => ?_)
    refine lv_aload_n hx hb dX10_beginLine_169 rfl (lv_at hl 0 rfl) ?_
    refine va_get (D := D) (ci := 6) (v := .ref (ht 14)) (C := RX10) (T := TX10) (N := 41) hx hb hts in_X10 hown hK hP 0 rfl rfl 30 (by decide) (hts _ q6_75) (fun _ h9 => h9) rfl dX10_beginLine_170 ?_
    refine lv_iload_n hx hb dX10_beginLine_173 rfl (lv_at hl 1 rfl) ?_
    refine lv_aload_n hx hb dX10_beginLine_174 rfl (lv_at hl 0 rfl) ?_
    refine lv_aload_n hx hb dX10_beginLine_175 rfl (lv_at hl 0 rfl) ?_
    refine va_get (D := D) (ci := 6) (v := .ref (ht 6)) (C := RX10) (T := TX10) (N := 41) hx hb hts in_X10 hown hK hP 0 rfl rfl 18 (by decide) (hts _ q6_63) (fun _ h9 => h9) rfl dX10_beginLine_176 ?_
    obtain ⟨q2, hc, hf⟩ := zbd hf
    refine z_cVi (As := [.ref (ht 6)]) (rest := [.int v1, .ref (ht 14)]) C (c_X10_beginOn l D cy ht (fun _ => ht 6) q1 St_read q2 hc) gV_X10_X10_beginOn hd_X10_beginOn ⟨Nat.le_of_ble_eq_true rfl, Nat.le_of_ble_eq_true rfl⟩ ⟨Nat.le_refl _, Nat.le_refl _⟩ (va_recv hK hP (ci := 6) (q0 := 0) rfl rfl) hP hD hS (w2 := wMo ht cy q1 ++ (wAI (fun _ => ht 4) cy 140 (upd St_fresh ((20 : Int32) + v1).toNatClampNeg (St_read (323 : Int32).toNatClampNeg)) ++ (wAI (fun _ => ht 2) cy 8 St_letters ++ (wAI (fun _ => ht 7) cy 64 (upd St_owner (St_read (323 : Int32).toNatClampNeg).toNatClampNeg (v1 + (1 : Int32))) ++ (wAI (fun _ => ht 6) cy 325 q2.2 ++ (wAI (fun _ => ht 14) cy 12 St_slots ++ (wAI (fun _ => ht 1) cy 900 St_tape))))))) [0, 4] [1, 2, 3, 5, 6] [5, 0, 1, 2, 6, 3, 4] rfl rfl rfl rfl rfl rfl (by decide) hl.1 (Nat.le_of_ble_eq_true rfl) dX10_beginLine_179 (fun H locs hP hD hS => ?_)
    refine lv_iconst (v := (1 : Int32)) hx hb dX10_beginLine_182 (by decide) ?_
    refine lv_iadd hx hb dX10_beginLine_183 ?_
    refine z_iast (f := St_slots) (w2 := wMo ht cy q1 ++ (wAI (fun _ => ht 4) cy 140 (upd St_fresh ((20 : Int32) + v1).toNatClampNeg (St_read (323 : Int32).toNatClampNeg)) ++ (wAI (fun _ => ht 2) cy 8 St_letters ++ (wAI (fun _ => ht 7) cy 64 (upd St_owner (St_read (323 : Int32).toNatClampNeg).toNatClampNeg (v1 + (1 : Int32))) ++ (wAI (fun _ => ht 6) cy 325 q2.2 ++ (wAI (fun _ => ht 14) cy 12 (upd St_slots v1.toNatClampNeg (q2.1 + (1 : Int32))) ++ (wAI (fun _ => ht 1) cy 900 St_tape))))))) hx hb hK hP hD hS 5 0 rfl rfl dX10_beginLine_184 hf rfl (fun hf H locs hP hD hS => ?_)
    refine lv_aload_n hx hb dX10_beginLine_185 rfl (lv_at hl 0 rfl) ?_
    refine va_get (D := D) (ci := 6) (v := .ref (ht 4)) (C := RX10) (T := TX10) (N := 41) hx hb hts in_X10 hown hK hP 0 rfl rfl 16 (by decide) (hts _ q6_61) (fun _ h9 => h9) rfl dX10_beginLine_186 ?_
    refine lv_bipush (v := (6 : Int32)) hx hb dX10_beginLine_189 (by decide) ?_
    refine lv_dup2_11 hx hb dX10_beginLine_191 rfl rfl ?_
    refine z_iald (f := (upd St_fresh ((20 : Int32) + v1).toNatClampNeg (St_read (323 : Int32).toNatClampNeg))) hx hb hK hP 1 0 rfl rfl dX10_beginLine_192 hf (fun hf => ?_)
    refine lv_iconst (v := (1 : Int32)) hx hb dX10_beginLine_193 (by decide) ?_
    refine lv_iadd hx hb dX10_beginLine_194 ?_
    refine z_iast (f := (upd St_fresh ((20 : Int32) + v1).toNatClampNeg (St_read (323 : Int32).toNatClampNeg))) (w2 := wMo ht cy q1 ++ (wAI (fun _ => ht 4) cy 140 (upd (upd St_fresh ((20 : Int32) + v1).toNatClampNeg (St_read (323 : Int32).toNatClampNeg)) (6 : Int32).toNatClampNeg (((upd St_fresh ((20 : Int32) + v1).toNatClampNeg (St_read (323 : Int32).toNatClampNeg)) (6 : Int32).toNatClampNeg) + (1 : Int32))) ++ (wAI (fun _ => ht 2) cy 8 St_letters ++ (wAI (fun _ => ht 7) cy 64 (upd St_owner (St_read (323 : Int32).toNatClampNeg).toNatClampNeg (v1 + (1 : Int32))) ++ (wAI (fun _ => ht 6) cy 325 q2.2 ++ (wAI (fun _ => ht 14) cy 12 (upd St_slots v1.toNatClampNeg (q2.1 + (1 : Int32))) ++ (wAI (fun _ => ht 1) cy 900 St_tape))))))) hx hb hK hP hD hS 1 0 rfl rfl dX10_beginLine_195 hf rfl (fun hf H locs hP hD hS => ?_)
    obtain rfl := Option.some.inj hf
    exact z_vret C hP hD hS dX10_beginLine_196
  · obtain rfl := Option.some.inj hf
    exact z_vret C hP hD hS dX10_beginLine_135
def b_X10_beginLine_49 (St_tape : Nat → Int32) (k49 : SMo → (Nat → Int32) → (Nat → Int32) → (Nat → Int32) → (Nat → Int32) → (Nat → Int32) → Int32 → Int32 → Option (SMo × (Nat → Int32) × (Nat → Int32) × (Nat → Int32) × (Nat → Int32) × (Nat → Int32))) (St : SMo) (St_fresh : Nat → Int32) (St_letters : Nat → Int32) (St_owner : Nat → Int32) (St_read : Nat → Int32) (St_slots : Nat → Int32) (v1 : Int32) (v2 : Int32) : Option (SMo × (Nat → Int32) × (Nat → Int32) × (Nat → Int32) × (Nat → Int32) × (Nat → Int32)) :=
  (if (Mo_nameSize St) ≤ v2 then
    (if zib ((32 : Int32) + v1) 140 then (f_X10_step St St_letters St_tape).bind (fun q3 =>
        (f_X10_ends q3.1).bind (fun q4 =>
          (if q4.1 = 0 then
            some (q4.2, (upd St_fresh ((32 : Int32) + v1).toNatClampNeg (Mo_nameSize St)), q3.2, St_owner, St_read, St_slots)
            else
            (f_X10_canBegin q4.2 St_read).bind (fun q5 =>
              (if q5 = 0 then
                (b_X10_beginLine_125 St_tape q4.2 (upd St_fresh ((32 : Int32) + v1).toNatClampNeg (Mo_nameSize St)) q3.2 St_owner St_read St_slots v1 (1 : Int32))
                else
                (b_X10_beginLine_125 St_tape q4.2 (upd St_fresh ((32 : Int32) + v1).toNatClampNeg (Mo_nameSize St)) q3.2 St_owner St_read St_slots v1 (0 : Int32))))))) else none)
    else
    (if zib v2 8 then (if zib (((44 : Int32) + ((8 : Int32) * v1)) + v2) 140 then (k49 St (upd St_fresh (((44 : Int32) + ((8 : Int32) * v1)) + v2).toNatClampNeg (St_letters v2.toNatClampNeg)) St_letters St_owner St_read St_slots v1 (v2 + (1 : Int32))) else none) else none))
set_option maxHeartbeats 4000000 in
set_option maxRecDepth 100000 in
theorem w_X10_beginLine_49 {p : Program} {e : Env} {s : State} {m : MethodId} {below : List Frame} {meth : Method} {c : Code} {A : Nat → Prop} {D : va_G} {cy : Nat → ClassId} {args : Array Value} {r : SMo × (Nat → Int32) × (Nat → Int32) × (Nat → Int32) × (Nat → Int32) × (Nat → Int32)} (l : Launch) (E : zEn) (ht : Nat → Nat) (St_tape : Nat → Int32) (C : zX p s m meth c cX10_beginLine 3 args RX10 none A D (zty cy)) (hE : zE E A s s.heap) :
    ∀ (n : Nat) (St : SMo) (St_fresh : Nat → Int32) (St_letters : Nat → Int32) (St_owner : Nat → Int32) (St_read : Nat → Int32) (St_slots : Nat → Int32) (v1 : Int32) (v2 : Int32) (H : Heap) (locs : List Loc) (ls : Array Slot), zl8 (b_X10_beginLine_49 St_tape) n St St_fresh St_letters St_owner St_read St_slots v1 v2 = some r → va_P D vwCl (wMo ht cy St ++ (wAI (fun _ => ht 4) cy 140 St_fresh ++ (wAI (fun _ => ht 2) cy 8 St_letters ++ (wAI (fun _ => ht 7) cy 64 St_owner ++ (wAI (fun _ => ht 6) cy 325 St_read ++ (wAI (fun _ => ht 14) cy 12 St_slots ++ (wAI (fun _ => ht 1) cy 900 St_tape))))))) H → va_D A (wMo ht cy St ++ (wAI (fun _ => ht 4) cy 140 St_fresh ++ (wAI (fun _ => ht 2) cy 8 St_letters ++ (wAI (fun _ => ht 7) cy 64 St_owner ++ (wAI (fun _ => ht 6) cy 325 St_read ++ (wAI (fun _ => ht 14) cy 12 St_slots ++ (wAI (fun _ => ht 1) cy 900 St_tape))))))) → va_S A s.heap H locs → lv_has ls 3 [(0, .ref (ht 0)), (1, .int v1), (2, .int v2)] → W p l e (zRm 7 148) s m args below meth c H locs 0 0 (MQ below (zQV D (zty cy) A (wMo ht cy r.1 ++ (wAI (fun _ => ht 4) cy 140 r.2.1 ++ (wAI (fun _ => ht 2) cy 8 r.2.2.1 ++ (wAI (fun _ => ht 7) cy 64 r.2.2.2.1 ++ (wAI (fun _ => ht 6) cy 325 r.2.2.2.2.1 ++ (wAI (fun _ => ht 14) cy 12 r.2.2.2.2.2 ++ (wAI (fun _ => ht 1) cy 900 St_tape)))))))) args s 0 0 A) (F0 m 49 ls []) := by
  obtain ⟨hx, hb, hr, hts, hown, hlocks, hml, hA, hK⟩ := id C
  intro n
  induction n with
  | zero => intro St St_fresh St_letters St_owner St_read St_slots v1 v2 H locs ls hf; exact zno hf
  | succ n ih =>
    intro St St_fresh St_letters St_owner St_read St_slots v1 v2 H locs ls hf hP hD hS hl
    have hf : b_X10_beginLine_49 St_tape (zl8 (b_X10_beginLine_49 St_tape) n) St St_fresh St_letters St_owner St_read St_slots v1 v2 = some r := hf
    have K49 := ih
    refine lv_iload_n hx hb dX10_beginLine_49 rfl (lv_at hl 2 rfl) ?_
    refine lv_aload_n hx hb dX10_beginLine_50 rfl (lv_at hl 0 rfl) ?_
    refine va_get (D := D) (ci := 6) (v := .int (Mo_nameSize St)) (C := RX10) (T := TX10) (N := 41) hx hb hts in_X10 hown hK hP 0 rfl rfl 8 (by decide) (hts _ q6_53) (fun _ h9 => h9) rfl dX10_beginLine_51 ?_
    refine z_icmp_ge (tgt := 83) hx hb dX10_beginLine_54 (by decide) hf (fun hf => ?_) (fun hf => ?_)
    · refine lv_aload_n hx hb dX10_beginLine_83 rfl (lv_at hl 0 rfl) ?_
      refine va_get (D := D) (ci := 6) (v := .ref (ht 4)) (C := RX10) (T := TX10) (N := 41) hx hb hts in_X10 hown hK hP 0 rfl rfl 16 (by decide) (hts _ q6_61) (fun _ h9 => h9) rfl dX10_beginLine_84 ?_
      refine lv_bipush (v := (32 : Int32)) hx hb dX10_beginLine_87 (by decide) ?_
      refine lv_iload_n hx hb dX10_beginLine_89 rfl (lv_at hl 1 rfl) ?_
      refine lv_iadd hx hb dX10_beginLine_90 ?_
      refine lv_aload_n hx hb dX10_beginLine_91 rfl (lv_at hl 0 rfl) ?_
      refine va_get (D := D) (ci := 6) (v := .int (Mo_nameSize St)) (C := RX10) (T := TX10) (N := 41) hx hb hts in_X10 hown hK hP 0 rfl rfl 8 (by decide) (hts _ q6_53) (fun _ h9 => h9) rfl dX10_beginLine_92 ?_
      refine z_iast (f := St_fresh) (w2 := wMo ht cy St ++ (wAI (fun _ => ht 4) cy 140 (upd St_fresh ((32 : Int32) + v1).toNatClampNeg (Mo_nameSize St)) ++ (wAI (fun _ => ht 2) cy 8 St_letters ++ (wAI (fun _ => ht 7) cy 64 St_owner ++ (wAI (fun _ => ht 6) cy 325 St_read ++ (wAI (fun _ => ht 14) cy 12 St_slots ++ (wAI (fun _ => ht 1) cy 900 St_tape))))))) hx hb hK hP hD hS 1 0 rfl rfl dX10_beginLine_95 hf rfl (fun hf H locs hP hD hS => ?_)
      refine lv_aload_n hx hb dX10_beginLine_96 rfl (lv_at hl 0 rfl) ?_
      obtain ⟨q3, hc, hf⟩ := zbd hf
      refine z_cVv (As := []) (rest := []) C (c_X10_step l D cy ht St St_letters St_tape q3 hc) gV_X10_X10_step hd_X10_step ⟨Nat.le_of_ble_eq_true rfl, Nat.le_of_ble_eq_true rfl⟩ ⟨Nat.le_refl _, Nat.le_refl _⟩ (va_recv hK hP (ci := 6) (q0 := 0) rfl rfl) hP hD hS (w2 := wMo ht cy q3.1 ++ (wAI (fun _ => ht 4) cy 140 (upd St_fresh ((32 : Int32) + v1).toNatClampNeg (Mo_nameSize St)) ++ (wAI (fun _ => ht 2) cy 8 q3.2 ++ (wAI (fun _ => ht 7) cy 64 St_owner ++ (wAI (fun _ => ht 6) cy 325 St_read ++ (wAI (fun _ => ht 14) cy 12 St_slots ++ (wAI (fun _ => ht 1) cy 900 St_tape))))))) [0, 2, 6] [1, 3, 4, 5] [4, 0, 5, 1, 2, 3, 6] rfl rfl rfl rfl rfl rfl (by decide) hl.1 (Nat.le_of_ble_eq_true rfl) dX10_beginLine_97 (fun H locs hP hD hS => ?_)
      refine lv_aload_n hx hb dX10_beginLine_100 rfl (lv_at hl 0 rfl) ?_
      obtain ⟨q4, hc, hf⟩ := zbd hf
      refine z_cVi (As := []) (rest := []) C (c_X10_ends l D cy ht q3.1 q4 hc) gV_X10_X10_ends hd_X10_ends ⟨Nat.le_of_ble_eq_true rfl, Nat.le_of_ble_eq_true rfl⟩ ⟨Nat.le_refl _, Nat.le_refl _⟩ (va_recv hK hP (ci := 6) (q0 := 0) rfl rfl) hP hD hS (w2 := wMo ht cy q4.2 ++ (wAI (fun _ => ht 4) cy 140 (upd St_fresh ((32 : Int32) + v1).toNatClampNeg (Mo_nameSize St)) ++ (wAI (fun _ => ht 2) cy 8 q3.2 ++ (wAI (fun _ => ht 7) cy 64 St_owner ++ (wAI (fun _ => ht 6) cy 325 St_read ++ (wAI (fun _ => ht 14) cy 12 St_slots ++ (wAI (fun _ => ht 1) cy 900 St_tape))))))) [0] [1, 2, 3, 4, 5, 6] [6, 0, 1, 2, 3, 4, 5] rfl rfl rfl rfl rfl rfl (by decide) hl.1 (Nat.le_of_ble_eq_true rfl) dX10_beginLine_101 (fun H locs hP hD hS => ?_)
      refine z_if_ne (tgt := 108) hx hb dX10_beginLine_104 (by decide) hf (fun hf => ?_) (fun hf => ?_)
      · refine lv_aload_n hx hb dX10_beginLine_108 rfl (lv_at hl 0 rfl) ?_
        refine lv_aload_n hx hb dX10_beginLine_109 rfl (lv_at hl 0 rfl) ?_
        refine lv_aload_n hx hb dX10_beginLine_110 rfl (lv_at hl 0 rfl) ?_
        refine va_get (D := D) (ci := 6) (v := .ref (ht 6)) (C := RX10) (T := TX10) (N := 41) hx hb hts in_X10 hown hK hP 0 rfl rfl 18 (by decide) (hts _ q6_63) (fun _ h9 => h9) rfl dX10_beginLine_111 ?_
        obtain ⟨q5, hc, hf⟩ := zbd hf
        refine z_cVi (As := [.ref (ht 6)]) (rest := [.ref (ht 0)]) C (c_X10_canBegin l D cy ht (fun _ => ht 6) q4.2 St_read q5 hc) gV_X10_X10_canBegin hd_X10_canBegin ⟨Nat.le_of_ble_eq_true rfl, Nat.le_of_ble_eq_true rfl⟩ ⟨Nat.le_refl _, Nat.le_refl _⟩ (va_recv hK hP (ci := 6) (q0 := 0) rfl rfl) hP hD hS (w2 := wMo ht cy q4.2 ++ (wAI (fun _ => ht 4) cy 140 (upd St_fresh ((32 : Int32) + v1).toNatClampNeg (Mo_nameSize St)) ++ (wAI (fun _ => ht 2) cy 8 q3.2 ++ (wAI (fun _ => ht 7) cy 64 St_owner ++ (wAI (fun _ => ht 6) cy 325 St_read ++ (wAI (fun _ => ht 14) cy 12 St_slots ++ (wAI (fun _ => ht 1) cy 900 St_tape))))))) [0, 4] [1, 2, 3, 5, 6] [5, 0, 1, 2, 6, 3, 4] rfl rfl rfl rfl rfl rfl (by decide) hl.1 (Nat.le_of_ble_eq_true rfl) dX10_beginLine_114 (fun H locs hP hD hS => ?_)
        refine z_if_ne (tgt := 124) hx hb dX10_beginLine_117 (by decide) hf (fun hf => ?_) (fun hf => ?_)
        · refine lv_iconst (v := (0 : Int32)) hx hb dX10_beginLine_124 (by decide) ?_
          exact w_X10_beginLine_125 l E ht St_tape C hE q4.2 (upd St_fresh ((32 : Int32) + v1).toNatClampNeg (Mo_nameSize St)) q3.2 St_owner St_read St_slots v1 (0 : Int32) H locs ls hf hP hD hS (lv_sub hl [0, 1] rfl)
        · refine lv_iconst (v := (1 : Int32)) hx hb dX10_beginLine_120 (by decide) ?_
          refine lv_goto (tgt := 125) hx hb dX10_beginLine_121 (by decide) ?_
          exact w_X10_beginLine_125 l E ht St_tape C hE q4.2 (upd St_fresh ((32 : Int32) + v1).toNatClampNeg (Mo_nameSize St)) q3.2 St_owner St_read St_slots v1 (1 : Int32) H locs ls hf hP hD hS (lv_sub hl [0, 1] rfl)
      · obtain rfl := Option.some.inj hf
        exact z_vret C hP hD hS dX10_beginLine_107
    · refine lv_aload_n hx hb dX10_beginLine_57 rfl (lv_at hl 0 rfl) ?_
      refine va_get (D := D) (ci := 6) (v := .ref (ht 4)) (C := RX10) (T := TX10) (N := 41) hx hb hts in_X10 hown hK hP 0 rfl rfl 16 (by decide) (hts _ q6_61) (fun _ h9 => h9) rfl dX10_beginLine_58 ?_
      refine lv_bipush (v := (44 : Int32)) hx hb dX10_beginLine_61 (by decide) ?_
      refine lv_bipush (v := (8 : Int32)) hx hb dX10_beginLine_63 (by decide) ?_
      refine lv_iload_n hx hb dX10_beginLine_65 rfl (lv_at hl 1 rfl) ?_
      refine lv_imul hx hb dX10_beginLine_66 ?_
      refine lv_iadd hx hb dX10_beginLine_67 ?_
      refine lv_iload_n hx hb dX10_beginLine_68 rfl (lv_at hl 2 rfl) ?_
      refine lv_iadd hx hb dX10_beginLine_69 ?_
      refine lv_aload_n hx hb dX10_beginLine_70 rfl (lv_at hl 0 rfl) ?_
      refine va_get (D := D) (ci := 6) (v := .ref (ht 2)) (C := RX10) (T := TX10) (N := 41) hx hb hts in_X10 hown hK hP 0 rfl rfl 12 (by decide) (hts _ q6_57) (fun _ h9 => h9) rfl dX10_beginLine_71 ?_
      refine lv_iload_n hx hb dX10_beginLine_74 rfl (lv_at hl 2 rfl) ?_
      refine z_iald (f := St_letters) hx hb hK hP 2 0 rfl rfl dX10_beginLine_75 hf (fun hf => ?_)
      refine z_iast (f := St_fresh) (w2 := wMo ht cy St ++ (wAI (fun _ => ht 4) cy 140 (upd St_fresh (((44 : Int32) + ((8 : Int32) * v1)) + v2).toNatClampNeg (St_letters v2.toNatClampNeg)) ++ (wAI (fun _ => ht 2) cy 8 St_letters ++ (wAI (fun _ => ht 7) cy 64 St_owner ++ (wAI (fun _ => ht 6) cy 325 St_read ++ (wAI (fun _ => ht 14) cy 12 St_slots ++ (wAI (fun _ => ht 1) cy 900 St_tape))))))) hx hb hK hP hD hS 1 0 rfl rfl dX10_beginLine_76 hf rfl (fun hf H locs hP hD hS => ?_)
      refine lv_iinc (v := (v2 + (1 : Int32))) (lv' := [(2, .int (v2 + (1 : Int32))), (0, .ref (ht 0)), (1, .int v1)]) hx hb dX10_beginLine_77 hl (k := 2) rfl rfl (by decide) rfl (fun ls hl => ?_)
      refine lv_goto (tgt := 49) hx hb dX10_beginLine_80 (by decide) ?_
      exact K49 St (upd St_fresh (((44 : Int32) + ((8 : Int32) * v1)) + v2).toNatClampNeg (St_letters v2.toNatClampNeg)) St_letters St_owner St_read St_slots v1 (v2 + (1 : Int32)) H locs ls hf hP hD hS (lv_sub hl [1, 2, 0] rfl)
def f_X10_beginLine (St : SMo) (St_fresh : Nat → Int32) (St_letters : Nat → Int32) (St_owner : Nat → Int32) (St_read : Nat → Int32) (St_slots : Nat → Int32) (St_tape : Nat → Int32) : Option (SMo × (Nat → Int32) × (Nat → Int32) × (Nat → Int32) × (Nat → Int32) × (Nat → Int32)) :=
  (f_X10_step St St_letters St_tape).bind (fun q6 =>
    (if zib (6 : Int32) 140 then (f_X10_mustName q6.1 q6.2).bind (fun q7 =>
        (if (Mo_failed q7) = 0 then
          (f_X10_find q7 St_fresh q6.2).bind (fun q8 =>
            (if q8 < 0 then
              (if (Mo_failed q7) = 0 then
                (zl8 (b_X10_beginLine_49 St_tape) FU q7 St_fresh q6.2 St_owner St_read St_slots (St_fresh (6 : Int32).toNatClampNeg) (0 : Int32))
                else
                some (q7, St_fresh, q6.2, St_owner, St_read, St_slots))
              else
              (f_X10_wrong q7 (3 : Int32) (Mo_at q7)).bind (fun q9 =>
                (if (Mo_failed q9) = 0 then
                  (zl8 (b_X10_beginLine_49 St_tape) FU q9 St_fresh q6.2 St_owner St_read St_slots (St_fresh (6 : Int32).toNatClampNeg) (0 : Int32))
                  else
                  some (q9, St_fresh, q6.2, St_owner, St_read, St_slots)))))
          else
          (if (Mo_failed q7) = 0 then
            (zl8 (b_X10_beginLine_49 St_tape) FU q7 St_fresh q6.2 St_owner St_read St_slots (St_fresh (6 : Int32).toNatClampNeg) (0 : Int32))
            else
            some (q7, St_fresh, q6.2, St_owner, St_read, St_slots)))) else none))
set_option maxHeartbeats 4000000 in
set_option maxRecDepth 100000 in
theorem c_X10_beginLine (l : Launch) (D : va_G) (cy : Nat → ClassId) (E : zEn) (ht : Nat → Nat) (St : SMo) (St_fresh : Nat → Int32) (St_letters : Nat → Int32) (St_owner : Nat → Int32) (St_read : Nat → Int32) (St_slots : Nat → Int32) (St_tape : Nat → Int32) (r : SMo × (Nat → Int32) × (Nat → Int32) × (Nat → Int32) × (Nat → Int32) × (Nat → Int32)) (hf : f_X10_beginLine St St_fresh St_letters St_owner St_read St_slots St_tape = some r) : zCVs l yX10_beginLine cX10_beginLine 3 none 7 148 D (zty cy) E [.ref (ht 0)] (wMo ht cy St ++ (wAI (fun _ => ht 4) cy 140 St_fresh ++ (wAI (fun _ => ht 2) cy 8 St_letters ++ (wAI (fun _ => ht 7) cy 64 St_owner ++ (wAI (fun _ => ht 6) cy 325 St_read ++ (wAI (fun _ => ht 14) cy 12 St_slots ++ (wAI (fun _ => ht 1) cy 900 St_tape))))))) (wMo ht cy r.1 ++ (wAI (fun _ => ht 4) cy 140 r.2.1 ++ (wAI (fun _ => ht 2) cy 8 r.2.2.1 ++ (wAI (fun _ => ht 7) cy 64 r.2.2.2.1 ++ (wAI (fun _ => ht 6) cy 325 r.2.2.2.2.1 ++ (wAI (fun _ => ht 14) cy 12 r.2.2.2.2.2 ++ (wAI (fun _ => ht 1) cy 900 St_tape))))))) := by
  refine zCVs_of (by decide +kernel) (Nat.le_of_ble_eq_true rfl) ?_
  intro p e s m below meth c A ls C hE hP hD hS hl
  generalize hargs : ([.ref (ht 0)] : List Value).toArray = args at C ⊢
  have C : zX p s m meth c cX10_beginLine 3 args RX10 none A D (zty cy) := C
  obtain ⟨hx, hb, hr, hts, hown, hlocks, hml, hA, hK⟩ := id C
  have hl : lv_has ls 3 [(0, .ref (ht 0))] := hl
  generalize hH : s.heap = H at hP ⊢
  have hS : va_S A s.heap H [] := by rw [← hH]; exact hS
  generalize ([] : List Loc) = locs at hS ⊢
  refine lv_aload_n hx hb dX10_beginLine_0 rfl (lv_at hl 0 rfl) ?_
  obtain ⟨q6, hc, hf⟩ := zbd hf
  refine z_cVv (As := []) (rest := []) C (c_X10_step l D cy ht St St_letters St_tape q6 hc) gV_X10_X10_step hd_X10_step ⟨Nat.le_of_ble_eq_true rfl, Nat.le_of_ble_eq_true rfl⟩ ⟨Nat.le_refl _, Nat.le_refl _⟩ (va_recv hK hP (ci := 6) (q0 := 0) rfl rfl) hP hD hS (w2 := wMo ht cy q6.1 ++ (wAI (fun _ => ht 4) cy 140 St_fresh ++ (wAI (fun _ => ht 2) cy 8 q6.2 ++ (wAI (fun _ => ht 7) cy 64 St_owner ++ (wAI (fun _ => ht 6) cy 325 St_read ++ (wAI (fun _ => ht 14) cy 12 St_slots ++ (wAI (fun _ => ht 1) cy 900 St_tape))))))) [0, 2, 6] [1, 3, 4, 5] [4, 0, 5, 1, 2, 3, 6] rfl rfl rfl rfl rfl rfl (by decide) hl.1 (Nat.le_of_ble_eq_true rfl) dX10_beginLine_1 (fun H locs hP hD hS => ?_)
  refine lv_aload_n hx hb dX10_beginLine_4 rfl (lv_at hl 0 rfl) ?_
  refine va_get (D := D) (ci := 6) (v := .ref (ht 4)) (C := RX10) (T := TX10) (N := 41) hx hb hts in_X10 hown hK hP 0 rfl rfl 16 (by decide) (hts _ q6_61) (fun _ h9 => h9) rfl dX10_beginLine_5 ?_
  refine lv_bipush (v := (6 : Int32)) hx hb dX10_beginLine_8 (by decide) ?_
  refine z_iald (f := St_fresh) hx hb hK hP 1 0 rfl rfl dX10_beginLine_10 hf (fun hf => ?_)
  refine lv_istore_n (lv' := [(1, .int (St_fresh (6 : Int32).toNatClampNeg)), (0, .ref (ht 0))]) hx hb dX10_beginLine_11 rfl hl (by decide) rfl (fun ls hl => ?_)
  refine lv_aload_n hx hb dX10_beginLine_12 rfl (lv_at hl 1 rfl) ?_
  obtain ⟨q7, hc, hf⟩ := zbd hf
  refine z_cVvs (As := []) (rest := []) C hE (c_X10_mustName l D cy E ht q6.1 q6.2 q7 hc) gV_X10_X10_mustName hd_X10_mustName ⟨Nat.le_of_ble_eq_true rfl, Nat.le_of_ble_eq_true rfl⟩ ⟨Nat.le_refl _, Nat.le_refl _⟩ (va_recv hK hP (ci := 6) (q0 := 0) rfl rfl) hP hD hS (w2 := wMo ht cy q7 ++ (wAI (fun _ => ht 4) cy 140 St_fresh ++ (wAI (fun _ => ht 2) cy 8 q6.2 ++ (wAI (fun _ => ht 7) cy 64 St_owner ++ (wAI (fun _ => ht 6) cy 325 St_read ++ (wAI (fun _ => ht 14) cy 12 St_slots ++ (wAI (fun _ => ht 1) cy 900 St_tape))))))) [0, 2] [1, 3, 4, 5, 6] [5, 0, 6, 1, 2, 3, 4] rfl rfl rfl rfl rfl rfl (by decide) hl.1 (Nat.le_of_ble_eq_true rfl) dX10_beginLine_13 (fun H locs hP hD hS => ?_)
  refine lv_aload_n hx hb dX10_beginLine_16 rfl (lv_at hl 1 rfl) ?_
  refine va_get (D := D) (ci := 6) (v := .int (Mo_failed q7)) (C := RX10) (T := TX10) (N := 41) hx hb hts in_X10 hown hK hP 0 rfl rfl 13 (by decide) (hts _ q6_58) (fun _ h9 => h9) rfl dX10_beginLine_17 ?_
  refine z_if_ne (tgt := 39) hx hb dX10_beginLine_20 (by decide) hf (fun hf => ?_) (fun hf => ?_)
  · refine lv_aload_n hx hb dX10_beginLine_39 rfl (lv_at hl 1 rfl) ?_
    refine va_get (D := D) (ci := 6) (v := .int (Mo_failed q7)) (C := RX10) (T := TX10) (N := 41) hx hb hts in_X10 hown hK hP 0 rfl rfl 13 (by decide) (hts _ q6_58) (fun _ h9 => h9) rfl dX10_beginLine_40 ?_
    refine z_if_eq (tgt := 47) hx hb dX10_beginLine_43 (by decide) hf (fun hf => ?_) (fun hf => ?_)
    · refine lv_iconst (v := (0 : Int32)) hx hb dX10_beginLine_47 (by decide) ?_
      refine lv_istore_n (lv' := [(2, .int (0 : Int32)), (1, .int (St_fresh (6 : Int32).toNatClampNeg)), (0, .ref (ht 0))]) hx hb dX10_beginLine_48 rfl hl (by decide) rfl (fun ls hl => ?_)
      exact w_X10_beginLine_49 l E ht St_tape C hE FU q7 St_fresh q6.2 St_owner St_read St_slots (St_fresh (6 : Int32).toNatClampNeg) (0 : Int32) H locs ls hf hP hD hS (lv_sub hl [2, 1, 0] rfl)
    · obtain rfl := Option.some.inj hf
      exact z_vret C hP hD hS dX10_beginLine_46
  · refine lv_aload_n hx hb dX10_beginLine_23 rfl (lv_at hl 1 rfl) ?_
    obtain ⟨q8, hc, hf⟩ := zbd hf
    refine z_cVi (As := []) (rest := []) C (c_X10_find l D cy ht q7 St_fresh q6.2 q8 hc) gV_X10_X10_find hd_X10_find ⟨Nat.le_of_ble_eq_true rfl, Nat.le_of_ble_eq_true rfl⟩ ⟨Nat.le_refl _, Nat.le_refl _⟩ (va_recv hK hP (ci := 6) (q0 := 0) rfl rfl) hP hD hS (w2 := wMo ht cy q7 ++ (wAI (fun _ => ht 4) cy 140 St_fresh ++ (wAI (fun _ => ht 2) cy 8 q6.2 ++ (wAI (fun _ => ht 7) cy 64 St_owner ++ (wAI (fun _ => ht 6) cy 325 St_read ++ (wAI (fun _ => ht 14) cy 12 St_slots ++ (wAI (fun _ => ht 1) cy 900 St_tape))))))) [0, 1, 2] [3, 4, 5, 6] [4, 5, 6, 0, 1, 2, 3] rfl rfl rfl rfl rfl rfl (by decide) hl.1 (Nat.le_of_ble_eq_true rfl) dX10_beginLine_24 (fun H locs hP hD hS => ?_)
    refine z_if_lt (tgt := 39) hx hb dX10_beginLine_27 (by decide) hf (fun hf => ?_) (fun hf => ?_)
    · refine lv_aload_n hx hb dX10_beginLine_39 rfl (lv_at hl 1 rfl) ?_
      refine va_get (D := D) (ci := 6) (v := .int (Mo_failed q7)) (C := RX10) (T := TX10) (N := 41) hx hb hts in_X10 hown hK hP 0 rfl rfl 13 (by decide) (hts _ q6_58) (fun _ h9 => h9) rfl dX10_beginLine_40 ?_
      refine z_if_eq (tgt := 47) hx hb dX10_beginLine_43 (by decide) hf (fun hf => ?_) (fun hf => ?_)
      · refine lv_iconst (v := (0 : Int32)) hx hb dX10_beginLine_47 (by decide) ?_
        refine lv_istore_n (lv' := [(2, .int (0 : Int32)), (1, .int (St_fresh (6 : Int32).toNatClampNeg)), (0, .ref (ht 0))]) hx hb dX10_beginLine_48 rfl hl (by decide) rfl (fun ls hl => ?_)
        exact w_X10_beginLine_49 l E ht St_tape C hE FU q7 St_fresh q6.2 St_owner St_read St_slots (St_fresh (6 : Int32).toNatClampNeg) (0 : Int32) H locs ls hf hP hD hS (lv_sub hl [2, 1, 0] rfl)
      · obtain rfl := Option.some.inj hf
        exact z_vret C hP hD hS dX10_beginLine_46
    · refine lv_aload_n hx hb dX10_beginLine_30 rfl (lv_at hl 1 rfl) ?_
      refine lv_iconst (v := (3 : Int32)) hx hb dX10_beginLine_31 (by decide) ?_
      refine lv_aload_n hx hb dX10_beginLine_32 rfl (lv_at hl 1 rfl) ?_
      refine va_get (D := D) (ci := 6) (v := .int (Mo_at q7)) (C := RX10) (T := TX10) (N := 41) hx hb hts in_X10 hown hK hP 0 rfl rfl 4 (by decide) (hts _ q6_49) (fun _ h9 => h9) rfl dX10_beginLine_33 ?_
      obtain ⟨q9, hc, hf⟩ := zbd hf
      refine z_cVv (As := [.int (3 : Int32), .int (Mo_at q7)]) (rest := []) C (c_X10_wrong l D cy ht q7 (3 : Int32) (Mo_at q7) q9 hc) gV_X10_X10_wrong hd_X10_wrong ⟨Nat.le_of_ble_eq_true rfl, Nat.le_of_ble_eq_true rfl⟩ ⟨Nat.le_refl _, Nat.le_refl _⟩ (va_recv hK hP (ci := 6) (q0 := 0) rfl rfl) hP hD hS (w2 := wMo ht cy q9 ++ (wAI (fun _ => ht 4) cy 140 St_fresh ++ (wAI (fun _ => ht 2) cy 8 q6.2 ++ (wAI (fun _ => ht 7) cy 64 St_owner ++ (wAI (fun _ => ht 6) cy 325 St_read ++ (wAI (fun _ => ht 14) cy 12 St_slots ++ (wAI (fun _ => ht 1) cy 900 St_tape))))))) [0] [1, 2, 3, 4, 5, 6] [6, 0, 1, 2, 3, 4, 5] rfl rfl rfl rfl rfl rfl (by decide) hl.1 (Nat.le_of_ble_eq_true rfl) dX10_beginLine_36 (fun H locs hP hD hS => ?_)
      refine lv_aload_n hx hb dX10_beginLine_39 rfl (lv_at hl 1 rfl) ?_
      refine va_get (D := D) (ci := 6) (v := .int (Mo_failed q9)) (C := RX10) (T := TX10) (N := 41) hx hb hts in_X10 hown hK hP 0 rfl rfl 13 (by decide) (hts _ q6_58) (fun _ h9 => h9) rfl dX10_beginLine_40 ?_
      refine z_if_eq (tgt := 47) hx hb dX10_beginLine_43 (by decide) hf (fun hf => ?_) (fun hf => ?_)
      · refine lv_iconst (v := (0 : Int32)) hx hb dX10_beginLine_47 (by decide) ?_
        refine lv_istore_n (lv' := [(2, .int (0 : Int32)), (1, .int (St_fresh (6 : Int32).toNatClampNeg)), (0, .ref (ht 0))]) hx hb dX10_beginLine_48 rfl hl (by decide) rfl (fun ls hl => ?_)
        exact w_X10_beginLine_49 l E ht St_tape C hE FU q9 St_fresh q6.2 St_owner St_read St_slots (St_fresh (6 : Int32).toNatClampNeg) (0 : Int32) H locs ls hf hP hD hS (lv_sub hl [2, 1, 0] rfl)
      · obtain rfl := Option.some.inj hf
        exact z_vret C hP hD hS dX10_beginLine_46
def b_X10_writerPassed_126 (St_fresh : Nat → Int32) (St_slots : Nat → Int32) (St_tape : Nat → Int32) (x1 : Int32) (St : SMo) (St_letters : Nat → Int32) (v2 : Int32) : Option (Int32 × SMo × (Nat → Int32)) :=
  (f_X10_pass St St_letters St_tape).bind (fun q1 =>
    (if (Mo_failed q1.1) = 0 then
      some (v2, q1.1, q1.2)
      else
      some ((0 : Int32), q1.1, q1.2)))
set_option maxHeartbeats 4000000 in
set_option maxRecDepth 100000 in
theorem w_X10_writerPassed_126 {p : Program} {e : Env} {s : State} {m : MethodId} {below : List Frame} {meth : Method} {c : Code} {A : Nat → Prop} {D : va_G} {cy : Nat → ClassId} {args : Array Value} {r : Int32 × SMo × (Nat → Int32)} (l : Launch) (E : zEn) (ht : Nat → Nat) (St_fresh : Nat → Int32) (St_slots : Nat → Int32) (St_tape : Nat → Int32) (x1 : Int32) (C : zX p s m meth c cX10_writerPassed 4 args RX10 (some FieldType.int) A D (zty cy)) (hE : zE E A s s.heap) :
    ∀ (St : SMo) (St_letters : Nat → Int32) (v2 : Int32) (H : Heap) (locs : List Loc) (ls : Array Slot), b_X10_writerPassed_126 St_fresh St_slots St_tape x1 St St_letters v2 = some r → va_P D vwCl (wMo ht cy St ++ (wAI (fun _ => ht 4) cy 140 St_fresh ++ (wAI (fun _ => ht 2) cy 8 St_letters ++ (wAI (fun _ => ht 14) cy 12 St_slots ++ (wAI (fun _ => ht 1) cy 900 St_tape))))) H → va_D A (wMo ht cy St ++ (wAI (fun _ => ht 4) cy 140 St_fresh ++ (wAI (fun _ => ht 2) cy 8 St_letters ++ (wAI (fun _ => ht 14) cy 12 St_slots ++ (wAI (fun _ => ht 1) cy 900 St_tape))))) → va_S A s.heap H locs → lv_has ls 4 [(0, .ref (ht 0)), (2, .int v2)] → W p l e (zRm 7 148) s m args below meth c H locs 0 0 (MQ below (zQI D (zty cy) A (wMo ht cy r.2.1 ++ (wAI (fun _ => ht 4) cy 140 St_fresh ++ (wAI (fun _ => ht 2) cy 8 r.2.2 ++ (wAI (fun _ => ht 14) cy 12 St_slots ++ (wAI (fun _ => ht 1) cy 900 St_tape))))) r.1) args s 0 0 A) (F0 m 126 ls []) := by
  obtain ⟨hx, hb, hr, hts, hown, hlocks, hml, hA, hK⟩ := id C
  intro St St_letters v2 H locs ls hf hP hD hS hl
  refine lv_aload_n hx hb dX10_writerPassed_126 rfl (lv_at hl 0 rfl) ?_
  obtain ⟨q1, hc, hf⟩ := zbd hf
  refine z_cVv (As := []) (rest := []) C (c_X10_pass l D cy ht St St_letters St_tape q1 hc) gV_X10_X10_pass hd_X10_pass ⟨Nat.le_of_ble_eq_true rfl, Nat.le_of_ble_eq_true rfl⟩ ⟨Nat.le_refl _, Nat.le_refl _⟩ (va_recv hK hP (ci := 6) (q0 := 0) rfl rfl) hP hD hS (w2 := wMo ht cy q1.1 ++ (wAI (fun _ => ht 4) cy 140 St_fresh ++ (wAI (fun _ => ht 2) cy 8 q1.2 ++ (wAI (fun _ => ht 14) cy 12 St_slots ++ (wAI (fun _ => ht 1) cy 900 St_tape))))) [0, 2, 4] [1, 3] [2, 0, 3, 1, 4] rfl rfl rfl rfl rfl rfl (by decide) hl.1 (Nat.le_of_ble_eq_true rfl) dX10_writerPassed_127 (fun H locs hP hD hS => ?_)
  refine lv_aload_n hx hb dX10_writerPassed_130 rfl (lv_at hl 0 rfl) ?_
  refine va_get (D := D) (ci := 6) (v := .int (Mo_failed q1.1)) (C := RX10) (T := TX10) (N := 41) hx hb hts in_X10 hown hK hP 0 rfl rfl 13 (by decide) (hts _ q6_58) (fun _ h9 => h9) rfl dX10_writerPassed_131 ?_
  refine z_if_eq (tgt := 141) hx hb dX10_writerPassed_134 (by decide) hf (fun hf => ?_) (fun hf => ?_)
  · refine lv_iload_n hx hb dX10_writerPassed_141 rfl (lv_at hl 1 rfl) ?_
    obtain rfl := Option.some.inj hf
    exact z_iret (v := v2) C hP hD hS dX10_writerPassed_142
  · refine lv_iconst (v := (0 : Int32)) hx hb dX10_writerPassed_137 (by decide) ?_
    refine lv_goto (tgt := 142) hx hb dX10_writerPassed_138 (by decide) ?_
    obtain rfl := Option.some.inj hf
    exact z_iret (v := (0 : Int32)) C hP hD hS dX10_writerPassed_142
def b_X10_writerPassed_91 (St_fresh : Nat → Int32) (St_slots : Nat → Int32) (St_tape : Nat → Int32) (x1 : Int32) (St : SMo) (St_letters : Nat → Int32) (v2 : Int32) : Option (Int32 × SMo × (Nat → Int32)) :=
  (if (Mo_failed St) = 0 then
    (if zib v2 12 then (if (St_slots v2.toNatClampNeg) ≤ 0 then
        (if (0 : Int32) = x1 then
          (b_X10_writerPassed_126 St_fresh St_slots St_tape x1 St St_letters v2)
          else
          (f_X10_wrong St (7 : Int32) (Mo_at St)).bind (fun q2 =>
            (b_X10_writerPassed_126 St_fresh St_slots St_tape x1 q2 St_letters v2)))
        else
        (if (1 : Int32) = x1 then
          (b_X10_writerPassed_126 St_fresh St_slots St_tape x1 St St_letters v2)
          else
          (f_X10_wrong St (7 : Int32) (Mo_at St)).bind (fun q3 =>
            (b_X10_writerPassed_126 St_fresh St_slots St_tape x1 q3 St_letters v2)))) else none)
    else
    (b_X10_writerPassed_126 St_fresh St_slots St_tape x1 St St_letters v2))
set_option maxHeartbeats 4000000 in
set_option maxRecDepth 100000 in
theorem w_X10_writerPassed_91 {p : Program} {e : Env} {s : State} {m : MethodId} {below : List Frame} {meth : Method} {c : Code} {A : Nat → Prop} {D : va_G} {cy : Nat → ClassId} {args : Array Value} {r : Int32 × SMo × (Nat → Int32)} (l : Launch) (E : zEn) (ht : Nat → Nat) (St_fresh : Nat → Int32) (St_slots : Nat → Int32) (St_tape : Nat → Int32) (x1 : Int32) (C : zX p s m meth c cX10_writerPassed 4 args RX10 (some FieldType.int) A D (zty cy)) (hE : zE E A s s.heap) :
    ∀ (St : SMo) (St_letters : Nat → Int32) (v2 : Int32) (H : Heap) (locs : List Loc) (ls : Array Slot), b_X10_writerPassed_91 St_fresh St_slots St_tape x1 St St_letters v2 = some r → va_P D vwCl (wMo ht cy St ++ (wAI (fun _ => ht 4) cy 140 St_fresh ++ (wAI (fun _ => ht 2) cy 8 St_letters ++ (wAI (fun _ => ht 14) cy 12 St_slots ++ (wAI (fun _ => ht 1) cy 900 St_tape))))) H → va_D A (wMo ht cy St ++ (wAI (fun _ => ht 4) cy 140 St_fresh ++ (wAI (fun _ => ht 2) cy 8 St_letters ++ (wAI (fun _ => ht 14) cy 12 St_slots ++ (wAI (fun _ => ht 1) cy 900 St_tape))))) → va_S A s.heap H locs → lv_has ls 4 [(0, .ref (ht 0)), (1, .int x1), (2, .int v2)] → W p l e (zRm 7 148) s m args below meth c H locs 0 0 (MQ below (zQI D (zty cy) A (wMo ht cy r.2.1 ++ (wAI (fun _ => ht 4) cy 140 St_fresh ++ (wAI (fun _ => ht 2) cy 8 r.2.2 ++ (wAI (fun _ => ht 14) cy 12 St_slots ++ (wAI (fun _ => ht 1) cy 900 St_tape))))) r.1) args s 0 0 A) (F0 m 91 ls []) := by
  obtain ⟨hx, hb, hr, hts, hown, hlocks, hml, hA, hK⟩ := id C
  intro St St_letters v2 H locs ls hf hP hD hS hl
  refine lv_aload_n hx hb dX10_writerPassed_91 rfl (lv_at hl 0 rfl) ?_
  refine va_get (D := D) (ci := 6) (v := .int (Mo_failed St)) (C := RX10) (T := TX10) (N := 41) hx hb hts in_X10 hown hK hP 0 rfl rfl 13 (by decide) (hts _ q6_58) (fun _ h9 => h9) rfl dX10_writerPassed_92 ?_
  refine z_if_ne (tgt := 126) hx hb dX10_writerPassed_95 (by decide) hf (fun hf => ?_) (fun hf => ?_)
  · exact w_X10_writerPassed_126 l E ht St_fresh St_slots St_tape x1 C hE St St_letters v2 H locs ls hf hP hD hS (lv_sub hl [0, 2] rfl)
  · refine lv_aload_n hx hb dX10_writerPassed_98 rfl (lv_at hl 0 rfl) ?_
    refine va_get (D := D) (ci := 6) (v := .ref (ht 14)) (C := RX10) (T := TX10) (N := 41) hx hb hts in_X10 hown hK hP 0 rfl rfl 30 (by decide) (hts _ q6_75) (fun _ h9 => h9) rfl dX10_writerPassed_99 ?_
    refine lv_iload_n hx hb dX10_writerPassed_102 rfl (lv_at hl 2 rfl) ?_
    refine z_iald (f := St_slots) hx hb hK hP 3 0 rfl rfl dX10_writerPassed_103 hf (fun hf => ?_)
    refine z_if_le (tgt := 111) hx hb dX10_writerPassed_104 (by decide) hf (fun hf => ?_) (fun hf => ?_)
    · refine lv_iconst (v := (0 : Int32)) hx hb dX10_writerPassed_111 (by decide) ?_
      refine lv_iload_n hx hb dX10_writerPassed_112 rfl (lv_at hl 1 rfl) ?_
      refine z_icmp_eq (tgt := 126) hx hb dX10_writerPassed_113 (by decide) hf (fun hf => ?_) (fun hf => ?_)
      · exact w_X10_writerPassed_126 l E ht St_fresh St_slots St_tape x1 C hE St St_letters v2 H locs ls hf hP hD hS (lv_sub hl [0, 2] rfl)
      · refine lv_aload_n hx hb dX10_writerPassed_116 rfl (lv_at hl 0 rfl) ?_
        refine lv_bipush (v := (7 : Int32)) hx hb dX10_writerPassed_117 (by decide) ?_
        refine lv_aload_n hx hb dX10_writerPassed_119 rfl (lv_at hl 0 rfl) ?_
        refine va_get (D := D) (ci := 6) (v := .int (Mo_at St)) (C := RX10) (T := TX10) (N := 41) hx hb hts in_X10 hown hK hP 0 rfl rfl 4 (by decide) (hts _ q6_49) (fun _ h9 => h9) rfl dX10_writerPassed_120 ?_
        obtain ⟨q2, hc, hf⟩ := zbd hf
        refine z_cVv (As := [.int (7 : Int32), .int (Mo_at St)]) (rest := []) C (c_X10_wrong l D cy ht St (7 : Int32) (Mo_at St) q2 hc) gV_X10_X10_wrong hd_X10_wrong ⟨Nat.le_of_ble_eq_true rfl, Nat.le_of_ble_eq_true rfl⟩ ⟨Nat.le_refl _, Nat.le_refl _⟩ (va_recv hK hP (ci := 6) (q0 := 0) rfl rfl) hP hD hS (w2 := wMo ht cy q2 ++ (wAI (fun _ => ht 4) cy 140 St_fresh ++ (wAI (fun _ => ht 2) cy 8 St_letters ++ (wAI (fun _ => ht 14) cy 12 St_slots ++ (wAI (fun _ => ht 1) cy 900 St_tape))))) [0] [1, 2, 3, 4] [4, 0, 1, 2, 3] rfl rfl rfl rfl rfl rfl (by decide) hl.1 (Nat.le_of_ble_eq_true rfl) dX10_writerPassed_123 (fun H locs hP hD hS => ?_)
        exact w_X10_writerPassed_126 l E ht St_fresh St_slots St_tape x1 C hE q2 St_letters v2 H locs ls hf hP hD hS (lv_sub hl [0, 2] rfl)
    · refine lv_iconst (v := (1 : Int32)) hx hb dX10_writerPassed_107 (by decide) ?_
      refine lv_goto (tgt := 112) hx hb dX10_writerPassed_108 (by decide) ?_
      refine lv_iload_n hx hb dX10_writerPassed_112 rfl (lv_at hl 1 rfl) ?_
      refine z_icmp_eq (tgt := 126) hx hb dX10_writerPassed_113 (by decide) hf (fun hf => ?_) (fun hf => ?_)
      · exact w_X10_writerPassed_126 l E ht St_fresh St_slots St_tape x1 C hE St St_letters v2 H locs ls hf hP hD hS (lv_sub hl [0, 2] rfl)
      · refine lv_aload_n hx hb dX10_writerPassed_116 rfl (lv_at hl 0 rfl) ?_
        refine lv_bipush (v := (7 : Int32)) hx hb dX10_writerPassed_117 (by decide) ?_
        refine lv_aload_n hx hb dX10_writerPassed_119 rfl (lv_at hl 0 rfl) ?_
        refine va_get (D := D) (ci := 6) (v := .int (Mo_at St)) (C := RX10) (T := TX10) (N := 41) hx hb hts in_X10 hown hK hP 0 rfl rfl 4 (by decide) (hts _ q6_49) (fun _ h9 => h9) rfl dX10_writerPassed_120 ?_
        obtain ⟨q3, hc, hf⟩ := zbd hf
        refine z_cVv (As := [.int (7 : Int32), .int (Mo_at St)]) (rest := []) C (c_X10_wrong l D cy ht St (7 : Int32) (Mo_at St) q3 hc) gV_X10_X10_wrong hd_X10_wrong ⟨Nat.le_of_ble_eq_true rfl, Nat.le_of_ble_eq_true rfl⟩ ⟨Nat.le_refl _, Nat.le_refl _⟩ (va_recv hK hP (ci := 6) (q0 := 0) rfl rfl) hP hD hS (w2 := wMo ht cy q3 ++ (wAI (fun _ => ht 4) cy 140 St_fresh ++ (wAI (fun _ => ht 2) cy 8 St_letters ++ (wAI (fun _ => ht 14) cy 12 St_slots ++ (wAI (fun _ => ht 1) cy 900 St_tape))))) [0] [1, 2, 3, 4] [4, 0, 1, 2, 3] rfl rfl rfl rfl rfl rfl (by decide) hl.1 (Nat.le_of_ble_eq_true rfl) dX10_writerPassed_123 (fun H locs hP hD hS => ?_)
        exact w_X10_writerPassed_126 l E ht St_fresh St_slots St_tape x1 C hE q3 St_letters v2 H locs ls hf hP hD hS (lv_sub hl [0, 2] rfl)
def b_X10_writerPassed_42 (St_fresh : Nat → Int32) (St_slots : Nat → Int32) (St_tape : Nat → Int32) (x1 : Int32) (k42 : SMo → (Nat → Int32) → Int32 → Int32 → Option (Int32 × SMo × (Nat → Int32))) (St : SMo) (St_letters : Nat → Int32) (v2 : Int32) (v3 : Int32) : Option (Int32 × SMo × (Nat → Int32)) :=
  (if zib (4 : Int32) 140 then (if (St_fresh (4 : Int32).toNatClampNeg) ≤ v3 then
      (b_X10_writerPassed_91 St_fresh St_slots St_tape x1 St St_letters v2)
      else
      (if x1 = 0 then
        (if (Mo_failed St) = 0 then
          (if zib ((8 : Int32) + v3) 140 then (if (St_fresh ((8 : Int32) + v3).toNatClampNeg) = v2 then
              (f_X10_wrong St (3 : Int32) (Mo_at St)).bind (fun q4 =>
                (k42 q4 St_letters v2 (v3 + (1 : Int32))))
              else
              (k42 St St_letters v2 (v3 + (1 : Int32)))) else none)
          else
          (k42 St St_letters v2 (v3 + (1 : Int32))))
        else
        (b_X10_writerPassed_91 St_fresh St_slots St_tape x1 St St_letters v2))) else none)
set_option maxHeartbeats 4000000 in
set_option maxRecDepth 100000 in
theorem w_X10_writerPassed_42 {p : Program} {e : Env} {s : State} {m : MethodId} {below : List Frame} {meth : Method} {c : Code} {A : Nat → Prop} {D : va_G} {cy : Nat → ClassId} {args : Array Value} {r : Int32 × SMo × (Nat → Int32)} (l : Launch) (E : zEn) (ht : Nat → Nat) (St_fresh : Nat → Int32) (St_slots : Nat → Int32) (St_tape : Nat → Int32) (x1 : Int32) (C : zX p s m meth c cX10_writerPassed 4 args RX10 (some FieldType.int) A D (zty cy)) (hE : zE E A s s.heap) :
    ∀ (n : Nat) (St : SMo) (St_letters : Nat → Int32) (v2 : Int32) (v3 : Int32) (H : Heap) (locs : List Loc) (ls : Array Slot), zl4 (b_X10_writerPassed_42 St_fresh St_slots St_tape x1) n St St_letters v2 v3 = some r → va_P D vwCl (wMo ht cy St ++ (wAI (fun _ => ht 4) cy 140 St_fresh ++ (wAI (fun _ => ht 2) cy 8 St_letters ++ (wAI (fun _ => ht 14) cy 12 St_slots ++ (wAI (fun _ => ht 1) cy 900 St_tape))))) H → va_D A (wMo ht cy St ++ (wAI (fun _ => ht 4) cy 140 St_fresh ++ (wAI (fun _ => ht 2) cy 8 St_letters ++ (wAI (fun _ => ht 14) cy 12 St_slots ++ (wAI (fun _ => ht 1) cy 900 St_tape))))) → va_S A s.heap H locs → lv_has ls 4 [(0, .ref (ht 0)), (1, .int x1), (2, .int v2), (3, .int v3)] → W p l e (zRm 7 148) s m args below meth c H locs 0 0 (MQ below (zQI D (zty cy) A (wMo ht cy r.2.1 ++ (wAI (fun _ => ht 4) cy 140 St_fresh ++ (wAI (fun _ => ht 2) cy 8 r.2.2 ++ (wAI (fun _ => ht 14) cy 12 St_slots ++ (wAI (fun _ => ht 1) cy 900 St_tape))))) r.1) args s 0 0 A) (F0 m 42 ls []) := by
  obtain ⟨hx, hb, hr, hts, hown, hlocks, hml, hA, hK⟩ := id C
  intro n
  induction n with
  | zero => intro St St_letters v2 v3 H locs ls hf; exact zno hf
  | succ n ih =>
    intro St St_letters v2 v3 H locs ls hf hP hD hS hl
    have hf : b_X10_writerPassed_42 St_fresh St_slots St_tape x1 (zl4 (b_X10_writerPassed_42 St_fresh St_slots St_tape x1) n) St St_letters v2 v3 = some r := hf
    have K42 := ih
    refine lv_iload_n hx hb dX10_writerPassed_42 rfl (lv_at hl 3 rfl) ?_
    refine lv_aload_n hx hb dX10_writerPassed_43 rfl (lv_at hl 0 rfl) ?_
    refine va_get (D := D) (ci := 6) (v := .ref (ht 4)) (C := RX10) (T := TX10) (N := 41) hx hb hts in_X10 hown hK hP 0 rfl rfl 16 (by decide) (hts _ q6_61) (fun _ h9 => h9) rfl dX10_writerPassed_44 ?_
    refine lv_iconst (v := (4 : Int32)) hx hb dX10_writerPassed_47 (by decide) ?_
    refine z_iald (f := St_fresh) hx hb hK hP 1 0 rfl rfl dX10_writerPassed_48 hf (fun hf => ?_)
    refine z_icmp_ge (tgt := 91) hx hb dX10_writerPassed_49 (by decide) hf (fun hf => ?_) (fun hf => ?_)
    · exact w_X10_writerPassed_91 l E ht St_fresh St_slots St_tape x1 C hE St St_letters v2 H locs ls hf hP hD hS (lv_sub hl [0, 1, 2] rfl)
    · refine lv_iload_n hx hb dX10_writerPassed_52 rfl (lv_at hl 1 rfl) ?_
      refine z_if_ne (tgt := 91) hx hb dX10_writerPassed_53 (by decide) hf (fun hf => ?_) (fun hf => ?_)
      · exact w_X10_writerPassed_91 l E ht St_fresh St_slots St_tape x1 C hE St St_letters v2 H locs ls hf hP hD hS (lv_sub hl [0, 1, 2] rfl)
      · refine lv_aload_n hx hb dX10_writerPassed_56 rfl (lv_at hl 0 rfl) ?_
        refine va_get (D := D) (ci := 6) (v := .int (Mo_failed St)) (C := RX10) (T := TX10) (N := 41) hx hb hts in_X10 hown hK hP 0 rfl rfl 13 (by decide) (hts _ q6_58) (fun _ h9 => h9) rfl dX10_writerPassed_57 ?_
        refine z_if_ne (tgt := 85) hx hb dX10_writerPassed_60 (by decide) hf (fun hf => ?_) (fun hf => ?_)
        · refine lv_iinc (v := (v3 + (1 : Int32))) (lv' := [(3, .int (v3 + (1 : Int32))), (0, .ref (ht 0)), (1, .int x1), (2, .int v2)]) hx hb dX10_writerPassed_85 hl (k := 3) rfl rfl (by decide) rfl (fun ls hl => ?_)
          refine lv_goto (tgt := 42) hx hb dX10_writerPassed_88 (by decide) ?_
          exact K42 St St_letters v2 (v3 + (1 : Int32)) H locs ls hf hP hD hS (lv_sub hl [1, 2, 3, 0] rfl)
        · refine lv_aload_n hx hb dX10_writerPassed_63 rfl (lv_at hl 0 rfl) ?_
          refine va_get (D := D) (ci := 6) (v := .ref (ht 4)) (C := RX10) (T := TX10) (N := 41) hx hb hts in_X10 hown hK hP 0 rfl rfl 16 (by decide) (hts _ q6_61) (fun _ h9 => h9) rfl dX10_writerPassed_64 ?_
          refine lv_bipush (v := (8 : Int32)) hx hb dX10_writerPassed_67 (by decide) ?_
          refine lv_iload_n hx hb dX10_writerPassed_69 rfl (lv_at hl 3 rfl) ?_
          refine lv_iadd hx hb dX10_writerPassed_70 ?_
          refine z_iald (f := St_fresh) hx hb hK hP 1 0 rfl rfl dX10_writerPassed_71 hf (fun hf => ?_)
          refine lv_iload_n hx hb dX10_writerPassed_72 rfl (lv_at hl 2 rfl) ?_
          refine z_icmp_ne (tgt := 85) hx hb dX10_writerPassed_73 (by decide) hf (fun hf => ?_) (fun hf => ?_)
          · refine lv_iinc (v := (v3 + (1 : Int32))) (lv' := [(3, .int (v3 + (1 : Int32))), (0, .ref (ht 0)), (1, .int x1), (2, .int v2)]) hx hb dX10_writerPassed_85 hl (k := 3) rfl rfl (by decide) rfl (fun ls hl => ?_)
            refine lv_goto (tgt := 42) hx hb dX10_writerPassed_88 (by decide) ?_
            exact K42 St St_letters v2 (v3 + (1 : Int32)) H locs ls hf hP hD hS (lv_sub hl [1, 2, 3, 0] rfl)
          · refine lv_aload_n hx hb dX10_writerPassed_76 rfl (lv_at hl 0 rfl) ?_
            refine lv_iconst (v := (3 : Int32)) hx hb dX10_writerPassed_77 (by decide) ?_
            refine lv_aload_n hx hb dX10_writerPassed_78 rfl (lv_at hl 0 rfl) ?_
            refine va_get (D := D) (ci := 6) (v := .int (Mo_at St)) (C := RX10) (T := TX10) (N := 41) hx hb hts in_X10 hown hK hP 0 rfl rfl 4 (by decide) (hts _ q6_49) (fun _ h9 => h9) rfl dX10_writerPassed_79 ?_
            obtain ⟨q4, hc, hf⟩ := zbd hf
            refine z_cVv (As := [.int (3 : Int32), .int (Mo_at St)]) (rest := []) C (c_X10_wrong l D cy ht St (3 : Int32) (Mo_at St) q4 hc) gV_X10_X10_wrong hd_X10_wrong ⟨Nat.le_of_ble_eq_true rfl, Nat.le_of_ble_eq_true rfl⟩ ⟨Nat.le_refl _, Nat.le_refl _⟩ (va_recv hK hP (ci := 6) (q0 := 0) rfl rfl) hP hD hS (w2 := wMo ht cy q4 ++ (wAI (fun _ => ht 4) cy 140 St_fresh ++ (wAI (fun _ => ht 2) cy 8 St_letters ++ (wAI (fun _ => ht 14) cy 12 St_slots ++ (wAI (fun _ => ht 1) cy 900 St_tape))))) [0] [1, 2, 3, 4] [4, 0, 1, 2, 3] rfl rfl rfl rfl rfl rfl (by decide) hl.1 (Nat.le_of_ble_eq_true rfl) dX10_writerPassed_82 (fun H locs hP hD hS => ?_)
            refine lv_iinc (v := (v3 + (1 : Int32))) (lv' := [(3, .int (v3 + (1 : Int32))), (0, .ref (ht 0)), (1, .int x1), (2, .int v2)]) hx hb dX10_writerPassed_85 hl (k := 3) rfl rfl (by decide) rfl (fun ls hl => ?_)
            refine lv_goto (tgt := 42) hx hb dX10_writerPassed_88 (by decide) ?_
            exact K42 q4 St_letters v2 (v3 + (1 : Int32)) H locs ls hf hP hD hS (lv_sub hl [1, 2, 3, 0] rfl)
def f_X10_writerPassed (St : SMo) (St_fresh : Nat → Int32) (St_letters : Nat → Int32) (St_slots : Nat → Int32) (St_tape : Nat → Int32) (x1 : Int32) : Option (Int32 × SMo × (Nat → Int32)) :=
  (if (Mo_failed St) = 0 then
    (f_X10_mustName St St_letters).bind (fun q5 =>
      (if (Mo_failed q5) = 0 then
        (f_X10_find q5 St_fresh St_letters).bind (fun q6 =>
          (if 0 ≤ q6 then
            (zl4 (b_X10_writerPassed_42 St_fresh St_slots St_tape x1) FU q5 St_letters q6 (0 : Int32))
            else
            (f_X10_wrong q5 (2 : Int32) (Mo_at q5)).bind (fun q7 =>
              (zl4 (b_X10_writerPassed_42 St_fresh St_slots St_tape x1) FU q7 St_letters q6 (0 : Int32)))))
        else
        some ((0 : Int32), q5, St_letters)))
    else
    some ((0 : Int32), St, St_letters))
set_option maxHeartbeats 4000000 in
set_option maxRecDepth 100000 in
theorem c_X10_writerPassed (l : Launch) (D : va_G) (cy : Nat → ClassId) (E : zEn) (ht : Nat → Nat) (St : SMo) (St_fresh : Nat → Int32) (St_letters : Nat → Int32) (St_slots : Nat → Int32) (St_tape : Nat → Int32) (x1 : Int32) (r : Int32 × SMo × (Nat → Int32)) (hf : f_X10_writerPassed St St_fresh St_letters St_slots St_tape x1 = some r) : zCIs l yX10_writerPassed cX10_writerPassed 4 (some FieldType.int) 7 148 D (zty cy) E [.ref (ht 0), .int x1] (wMo ht cy St ++ (wAI (fun _ => ht 4) cy 140 St_fresh ++ (wAI (fun _ => ht 2) cy 8 St_letters ++ (wAI (fun _ => ht 14) cy 12 St_slots ++ (wAI (fun _ => ht 1) cy 900 St_tape))))) (wMo ht cy r.2.1 ++ (wAI (fun _ => ht 4) cy 140 St_fresh ++ (wAI (fun _ => ht 2) cy 8 r.2.2 ++ (wAI (fun _ => ht 14) cy 12 St_slots ++ (wAI (fun _ => ht 1) cy 900 St_tape))))) r.1 := by
  refine zCIs_of (by decide +kernel) (Nat.le_of_ble_eq_true rfl) ?_
  intro p e s m below meth c A ls C hE hP hD hS hl
  generalize hargs : ([.ref (ht 0), .int x1] : List Value).toArray = args at C ⊢
  have C : zX p s m meth c cX10_writerPassed 4 args RX10 (some FieldType.int) A D (zty cy) := C
  obtain ⟨hx, hb, hr, hts, hown, hlocks, hml, hA, hK⟩ := id C
  have hl : lv_has ls 4 [(0, .ref (ht 0)), (1, .int x1)] := hl
  generalize hH : s.heap = H at hP ⊢
  have hS : va_S A s.heap H [] := by rw [← hH]; exact hS
  generalize ([] : List Loc) = locs at hS ⊢
  refine lv_aload_n hx hb dX10_writerPassed_0 rfl (lv_at hl 0 rfl) ?_
  refine va_get (D := D) (ci := 6) (v := .int (Mo_failed St)) (C := RX10) (T := TX10) (N := 41) hx hb hts in_X10 hown hK hP 0 rfl rfl 13 (by decide) (hts _ q6_58) (fun _ h9 => h9) rfl dX10_writerPassed_1 ?_
  refine z_if_eq (tgt := 9) hx hb dX10_writerPassed_4 (by decide) hf (fun hf => ?_) (fun hf => ?_)
  · refine lv_aload_n hx hb dX10_writerPassed_9 rfl (lv_at hl 0 rfl) ?_
    obtain ⟨q5, hc, hf⟩ := zbd hf
    refine z_cVvs (As := []) (rest := []) C hE (c_X10_mustName l D cy E ht St St_letters q5 hc) gV_X10_X10_mustName hd_X10_mustName ⟨Nat.le_of_ble_eq_true rfl, Nat.le_of_ble_eq_true rfl⟩ ⟨Nat.le_refl _, Nat.le_refl _⟩ (va_recv hK hP (ci := 6) (q0 := 0) rfl rfl) hP hD hS (w2 := wMo ht cy q5 ++ (wAI (fun _ => ht 4) cy 140 St_fresh ++ (wAI (fun _ => ht 2) cy 8 St_letters ++ (wAI (fun _ => ht 14) cy 12 St_slots ++ (wAI (fun _ => ht 1) cy 900 St_tape))))) [0, 2] [1, 3, 4] [3, 0, 4, 1, 2] rfl rfl rfl rfl rfl rfl (by decide) hl.1 (Nat.le_of_ble_eq_true rfl) dX10_writerPassed_10 (fun H locs hP hD hS => ?_)
    refine lv_aload_n hx hb dX10_writerPassed_13 rfl (lv_at hl 0 rfl) ?_
    refine va_get (D := D) (ci := 6) (v := .int (Mo_failed q5)) (C := RX10) (T := TX10) (N := 41) hx hb hts in_X10 hown hK hP 0 rfl rfl 13 (by decide) (hts _ q6_58) (fun _ h9 => h9) rfl dX10_writerPassed_14 ?_
    refine z_if_eq (tgt := 22) hx hb dX10_writerPassed_17 (by decide) hf (fun hf => ?_) (fun hf => ?_)
    · refine lv_aload_n hx hb dX10_writerPassed_22 rfl (lv_at hl 0 rfl) ?_
      obtain ⟨q6, hc, hf⟩ := zbd hf
      refine z_cVi (As := []) (rest := []) C (c_X10_find l D cy ht q5 St_fresh St_letters q6 hc) gV_X10_X10_find hd_X10_find ⟨Nat.le_of_ble_eq_true rfl, Nat.le_of_ble_eq_true rfl⟩ ⟨Nat.le_refl _, Nat.le_refl _⟩ (va_recv hK hP (ci := 6) (q0 := 0) rfl rfl) hP hD hS (w2 := wMo ht cy q5 ++ (wAI (fun _ => ht 4) cy 140 St_fresh ++ (wAI (fun _ => ht 2) cy 8 St_letters ++ (wAI (fun _ => ht 14) cy 12 St_slots ++ (wAI (fun _ => ht 1) cy 900 St_tape))))) [0, 1, 2] [3, 4] [2, 3, 4, 0, 1] rfl rfl rfl rfl rfl rfl (by decide) hl.1 (Nat.le_of_ble_eq_true rfl) dX10_writerPassed_23 (fun H locs hP hD hS => ?_)
      refine lv_istore_n (lv' := [(2, .int q6), (0, .ref (ht 0)), (1, .int x1)]) hx hb dX10_writerPassed_26 rfl hl (by decide) rfl (fun ls hl => ?_)
      refine lv_iload_n hx hb dX10_writerPassed_27 rfl (lv_at hl 0 rfl) ?_
      refine z_if_ge (tgt := 40) hx hb dX10_writerPassed_28 (by decide) hf (fun hf => ?_) (fun hf => ?_)
      · refine lv_iconst (v := (0 : Int32)) hx hb dX10_writerPassed_40 (by decide) ?_
        refine lv_istore_n (lv' := [(3, .int (0 : Int32)), (2, .int q6), (0, .ref (ht 0)), (1, .int x1)]) hx hb dX10_writerPassed_41 rfl hl (by decide) rfl (fun ls hl => ?_)
        exact w_X10_writerPassed_42 l E ht St_fresh St_slots St_tape x1 C hE FU q5 St_letters q6 (0 : Int32) H locs ls hf hP hD hS (lv_sub hl [2, 3, 1, 0] rfl)
      · refine lv_aload_n hx hb dX10_writerPassed_31 rfl (lv_at hl 1 rfl) ?_
        refine lv_iconst (v := (2 : Int32)) hx hb dX10_writerPassed_32 (by decide) ?_
        refine lv_aload_n hx hb dX10_writerPassed_33 rfl (lv_at hl 1 rfl) ?_
        refine va_get (D := D) (ci := 6) (v := .int (Mo_at q5)) (C := RX10) (T := TX10) (N := 41) hx hb hts in_X10 hown hK hP 0 rfl rfl 4 (by decide) (hts _ q6_49) (fun _ h9 => h9) rfl dX10_writerPassed_34 ?_
        obtain ⟨q7, hc, hf⟩ := zbd hf
        refine z_cVv (As := [.int (2 : Int32), .int (Mo_at q5)]) (rest := []) C (c_X10_wrong l D cy ht q5 (2 : Int32) (Mo_at q5) q7 hc) gV_X10_X10_wrong hd_X10_wrong ⟨Nat.le_of_ble_eq_true rfl, Nat.le_of_ble_eq_true rfl⟩ ⟨Nat.le_refl _, Nat.le_refl _⟩ (va_recv hK hP (ci := 6) (q0 := 0) rfl rfl) hP hD hS (w2 := wMo ht cy q7 ++ (wAI (fun _ => ht 4) cy 140 St_fresh ++ (wAI (fun _ => ht 2) cy 8 St_letters ++ (wAI (fun _ => ht 14) cy 12 St_slots ++ (wAI (fun _ => ht 1) cy 900 St_tape))))) [0] [1, 2, 3, 4] [4, 0, 1, 2, 3] rfl rfl rfl rfl rfl rfl (by decide) hl.1 (Nat.le_of_ble_eq_true rfl) dX10_writerPassed_37 (fun H locs hP hD hS => ?_)
        refine lv_iconst (v := (0 : Int32)) hx hb dX10_writerPassed_40 (by decide) ?_
        refine lv_istore_n (lv' := [(3, .int (0 : Int32)), (2, .int q6), (0, .ref (ht 0)), (1, .int x1)]) hx hb dX10_writerPassed_41 rfl hl (by decide) rfl (fun ls hl => ?_)
        exact w_X10_writerPassed_42 l E ht St_fresh St_slots St_tape x1 C hE FU q7 St_letters q6 (0 : Int32) H locs ls hf hP hD hS (lv_sub hl [2, 3, 1, 0] rfl)
    · refine lv_iconst (v := (0 : Int32)) hx hb dX10_writerPassed_20 (by decide) ?_
      obtain rfl := Option.some.inj hf
      exact z_iret (v := (0 : Int32)) C hP hD hS dX10_writerPassed_21
  · refine lv_iconst (v := (0 : Int32)) hx hb dX10_writerPassed_7 (by decide) ?_
    obtain rfl := Option.some.inj hf
    exact z_iret (v := (0 : Int32)) C hP hD hS dX10_writerPassed_8
def b_X10_putLine_91 (St_fresh : Nat → Int32) (St_slots : Nat → Int32) (St_tape : Nat → Int32) (x1 : Int32) (St : SMo) (St_letters : Nat → Int32) (St_read : Nat → Int32) (u0 : Int32) : Option (SMo × (Nat → Int32) × (Nat → Int32)) :=
  (if 0 ≤ u0 then
    (f_X10_mayRefuse St (0 : Int32)).bind (fun q1 =>
      some (q1, St_letters, St_read))
    else
    (f_X10_mayRefuse St (1 : Int32)).bind (fun q2 =>
      some (q2, St_letters, St_read)))
set_option maxHeartbeats 4000000 in
set_option maxRecDepth 100000 in
theorem w_X10_putLine_91 {p : Program} {e : Env} {s : State} {m : MethodId} {below : List Frame} {meth : Method} {c : Code} {A : Nat → Prop} {D : va_G} {cy : Nat → ClassId} {args : Array Value} {r : SMo × (Nat → Int32) × (Nat → Int32)} (l : Launch) (E : zEn) (ht : Nat → Nat) (St_fresh : Nat → Int32) (St_slots : Nat → Int32) (St_tape : Nat → Int32) (x1 : Int32) (C : zX p s m meth c cX10_putLine 7 args RX10 none A D (zty cy)) (hE : zE E A s s.heap) :
    ∀ (St : SMo) (St_letters : Nat → Int32) (St_read : Nat → Int32) (u0 : Int32) (H : Heap) (locs : List Loc) (ls : Array Slot), b_X10_putLine_91 St_fresh St_slots St_tape x1 St St_letters St_read u0 = some r → va_P D vwCl (wMo ht cy St ++ (wAI (fun _ => ht 4) cy 140 St_fresh ++ (wAI (fun _ => ht 2) cy 8 St_letters ++ (wAI (fun _ => ht 6) cy 325 St_read ++ (wAI (fun _ => ht 14) cy 12 St_slots ++ (wAI (fun _ => ht 1) cy 900 St_tape)))))) H → va_D A (wMo ht cy St ++ (wAI (fun _ => ht 4) cy 140 St_fresh ++ (wAI (fun _ => ht 2) cy 8 St_letters ++ (wAI (fun _ => ht 6) cy 325 St_read ++ (wAI (fun _ => ht 14) cy 12 St_slots ++ (wAI (fun _ => ht 1) cy 900 St_tape)))))) → va_S A s.heap H locs → lv_has ls 7 [(0, .ref (ht 0))] → W p l e (zRm 8 195) s m args below meth c H locs 0 0 (MQ below (zQV D (zty cy) A (wMo ht cy r.1 ++ (wAI (fun _ => ht 4) cy 140 St_fresh ++ (wAI (fun _ => ht 2) cy 8 r.2.1 ++ (wAI (fun _ => ht 6) cy 325 r.2.2 ++ (wAI (fun _ => ht 14) cy 12 St_slots ++ (wAI (fun _ => ht 1) cy 900 St_tape))))))) args s 0 0 A) (F0 m 91 ls [.int u0]) := by
  obtain ⟨hx, hb, hr, hts, hown, hlocks, hml, hA, hK⟩ := id C
  intro St St_letters St_read u0 H locs ls hf hP hD hS hl
  refine lv_istore (lv' := [(6, .int u0), (0, .ref (ht 0))]) hx hb dX10_putLine_91 hl (by decide) rfl (fun ls hl => ?_)
  refine lv_aload_n hx hb dX10_putLine_93 rfl (lv_at hl 1 rfl) ?_
  refine lv_iload hx hb dX10_putLine_94 (lv_at hl 0 rfl) ?_
  refine z_if_ge (tgt := 103) hx hb dX10_putLine_96 (by decide) hf (fun hf => ?_) (fun hf => ?_)
  · refine lv_iconst (v := (0 : Int32)) hx hb dX10_putLine_103 (by decide) ?_
    obtain ⟨q1, hc, hf⟩ := zbd hf
    refine z_cVv (As := [.int (0 : Int32)]) (rest := []) C (c_X10_mayRefuse l D cy ht St (0 : Int32) q1 hc) gV_X10_X10_mayRefuse hd_X10_mayRefuse ⟨Nat.le_of_ble_eq_true rfl, Nat.le_of_ble_eq_true rfl⟩ ⟨Nat.le_refl _, Nat.le_refl _⟩ (va_recv hK hP (ci := 6) (q0 := 0) rfl rfl) hP hD hS (w2 := wMo ht cy q1 ++ (wAI (fun _ => ht 4) cy 140 St_fresh ++ (wAI (fun _ => ht 2) cy 8 St_letters ++ (wAI (fun _ => ht 6) cy 325 St_read ++ (wAI (fun _ => ht 14) cy 12 St_slots ++ (wAI (fun _ => ht 1) cy 900 St_tape)))))) [0] [1, 2, 3, 4, 5] [5, 0, 1, 2, 3, 4] rfl rfl rfl rfl rfl rfl (by decide) hl.1 (Nat.le_of_ble_eq_true rfl) dX10_putLine_104 (fun H locs hP hD hS => ?_)
    obtain rfl := Option.some.inj hf
    exact z_vret C hP hD hS dX10_putLine_107
  · refine lv_iconst (v := (1 : Int32)) hx hb dX10_putLine_99 (by decide) ?_
    refine lv_goto (tgt := 104) hx hb dX10_putLine_100 (by decide) ?_
    obtain ⟨q2, hc, hf⟩ := zbd hf
    refine z_cVv (As := [.int (1 : Int32)]) (rest := []) C (c_X10_mayRefuse l D cy ht St (1 : Int32) q2 hc) gV_X10_X10_mayRefuse hd_X10_mayRefuse ⟨Nat.le_of_ble_eq_true rfl, Nat.le_of_ble_eq_true rfl⟩ ⟨Nat.le_refl _, Nat.le_refl _⟩ (va_recv hK hP (ci := 6) (q0 := 0) rfl rfl) hP hD hS (w2 := wMo ht cy q2 ++ (wAI (fun _ => ht 4) cy 140 St_fresh ++ (wAI (fun _ => ht 2) cy 8 St_letters ++ (wAI (fun _ => ht 6) cy 325 St_read ++ (wAI (fun _ => ht 14) cy 12 St_slots ++ (wAI (fun _ => ht 1) cy 900 St_tape)))))) [0] [1, 2, 3, 4, 5] [5, 0, 1, 2, 3, 4] rfl rfl rfl rfl rfl rfl (by decide) hl.1 (Nat.le_of_ble_eq_true rfl) dX10_putLine_104 (fun H locs hP hD hS => ?_)
    obtain rfl := Option.some.inj hf
    exact z_vret C hP hD hS dX10_putLine_107
def b_X10_putLine_40 (St_fresh : Nat → Int32) (St_slots : Nat → Int32) (St_tape : Nat → Int32) (x1 : Int32) (St : SMo) (St_letters : Nat → Int32) (St_read : Nat → Int32) (v2 : Int32) (v3 : Int32) (u0 : Int32) : Option (SMo × (Nat → Int32) × (Nat → Int32)) :=
  (f_X10_ends St).bind (fun q3 =>
    (if q3.1 = 0 then
      some (q3.2, St_letters, St_read)
      else
      (if zib v2 12 then (if x1 = 0 then
          (f_X10_dropOn q3.2 St_read ((St_slots v2.toNatClampNeg) - (1 : Int32)) v3).bind (fun q4 =>
            (b_X10_putLine_91 St_fresh St_slots St_tape x1 q4.2.1 St_letters q4.2.2 q4.1))
          else
          (f_X10_putOn q3.2 St_read ((St_slots v2.toNatClampNeg) - (1 : Int32)) v3 u0).bind (fun q5 =>
            (b_X10_putLine_91 St_fresh St_slots St_tape x1 q5.2.1 St_letters q5.2.2 q5.1))) else none)))
set_option maxHeartbeats 4000000 in
set_option maxRecDepth 100000 in
theorem w_X10_putLine_40 {p : Program} {e : Env} {s : State} {m : MethodId} {below : List Frame} {meth : Method} {c : Code} {A : Nat → Prop} {D : va_G} {cy : Nat → ClassId} {args : Array Value} {r : SMo × (Nat → Int32) × (Nat → Int32)} (l : Launch) (E : zEn) (ht : Nat → Nat) (St_fresh : Nat → Int32) (St_slots : Nat → Int32) (St_tape : Nat → Int32) (x1 : Int32) (C : zX p s m meth c cX10_putLine 7 args RX10 none A D (zty cy)) (hE : zE E A s s.heap) :
    ∀ (St : SMo) (St_letters : Nat → Int32) (St_read : Nat → Int32) (v2 : Int32) (v3 : Int32) (u0 : Int32) (H : Heap) (locs : List Loc) (ls : Array Slot), b_X10_putLine_40 St_fresh St_slots St_tape x1 St St_letters St_read v2 v3 u0 = some r → va_P D vwCl (wMo ht cy St ++ (wAI (fun _ => ht 4) cy 140 St_fresh ++ (wAI (fun _ => ht 2) cy 8 St_letters ++ (wAI (fun _ => ht 6) cy 325 St_read ++ (wAI (fun _ => ht 14) cy 12 St_slots ++ (wAI (fun _ => ht 1) cy 900 St_tape)))))) H → va_D A (wMo ht cy St ++ (wAI (fun _ => ht 4) cy 140 St_fresh ++ (wAI (fun _ => ht 2) cy 8 St_letters ++ (wAI (fun _ => ht 6) cy 325 St_read ++ (wAI (fun _ => ht 14) cy 12 St_slots ++ (wAI (fun _ => ht 1) cy 900 St_tape)))))) → va_S A s.heap H locs → lv_has ls 7 [(0, .ref (ht 0)), (1, .int x1), (2, .int v2), (3, .int v3)] → W p l e (zRm 8 195) s m args below meth c H locs 0 0 (MQ below (zQV D (zty cy) A (wMo ht cy r.1 ++ (wAI (fun _ => ht 4) cy 140 St_fresh ++ (wAI (fun _ => ht 2) cy 8 r.2.1 ++ (wAI (fun _ => ht 6) cy 325 r.2.2 ++ (wAI (fun _ => ht 14) cy 12 St_slots ++ (wAI (fun _ => ht 1) cy 900 St_tape))))))) args s 0 0 A) (F0 m 40 ls [.int u0]) := by
  obtain ⟨hx, hb, hr, hts, hown, hlocks, hml, hA, hK⟩ := id C
  intro St St_letters St_read v2 v3 u0 H locs ls hf hP hD hS hl
  refine lv_istore (lv' := [(4, .int u0), (0, .ref (ht 0)), (1, .int x1), (2, .int v2), (3, .int v3)]) hx hb dX10_putLine_40 hl (by decide) rfl (fun ls hl => ?_)
  refine lv_aload_n hx hb dX10_putLine_42 rfl (lv_at hl 1 rfl) ?_
  obtain ⟨q3, hc, hf⟩ := zbd hf
  refine z_cVi (As := []) (rest := []) C (c_X10_ends l D cy ht St q3 hc) gV_X10_X10_ends hd_X10_ends ⟨Nat.le_of_ble_eq_true rfl, Nat.le_of_ble_eq_true rfl⟩ ⟨Nat.le_refl _, Nat.le_refl _⟩ (va_recv hK hP (ci := 6) (q0 := 0) rfl rfl) hP hD hS (w2 := wMo ht cy q3.2 ++ (wAI (fun _ => ht 4) cy 140 St_fresh ++ (wAI (fun _ => ht 2) cy 8 St_letters ++ (wAI (fun _ => ht 6) cy 325 St_read ++ (wAI (fun _ => ht 14) cy 12 St_slots ++ (wAI (fun _ => ht 1) cy 900 St_tape)))))) [0] [1, 2, 3, 4, 5] [5, 0, 1, 2, 3, 4] rfl rfl rfl rfl rfl rfl (by decide) hl.1 (Nat.le_of_ble_eq_true rfl) dX10_putLine_43 (fun H locs hP hD hS => ?_)
  refine z_if_ne (tgt := 50) hx hb dX10_putLine_46 (by decide) hf (fun hf => ?_) (fun hf => ?_)
  · refine lv_aload_n hx hb dX10_putLine_50 rfl (lv_at hl 1 rfl) ?_
    refine va_get (D := D) (ci := 6) (v := .ref (ht 14)) (C := RX10) (T := TX10) (N := 41) hx hb hts in_X10 hown hK hP 0 rfl rfl 30 (by decide) (hts _ q6_75) (fun _ h9 => h9) rfl dX10_putLine_51 ?_
    refine lv_iload_n hx hb dX10_putLine_54 rfl (lv_at hl 3 rfl) ?_
    refine z_iald (f := St_slots) hx hb hK hP 4 0 rfl rfl dX10_putLine_55 hf (fun hf => ?_)
    refine lv_iconst (v := (1 : Int32)) hx hb dX10_putLine_56 (by decide) ?_
    refine lv_isub hx hb dX10_putLine_57 ?_
    refine lv_istore (lv' := [(5, .int ((St_slots v2.toNatClampNeg) - (1 : Int32))), (4, .int u0), (0, .ref (ht 0)), (1, .int x1), (2, .int v2), (3, .int v3)]) hx hb dX10_putLine_58 hl (by decide) rfl (fun ls hl => ?_)
    refine lv_iload_n hx hb dX10_putLine_60 rfl (lv_at hl 3 rfl) ?_
    refine z_if_eq (tgt := 80) hx hb dX10_putLine_61 (by decide) hf (fun hf => ?_) (fun hf => ?_)
    · refine lv_aload_n hx hb dX10_putLine_80 rfl (lv_at hl 2 rfl) ?_
      refine lv_aload_n hx hb dX10_putLine_81 rfl (lv_at hl 2 rfl) ?_
      refine va_get (D := D) (ci := 6) (v := .ref (ht 6)) (C := RX10) (T := TX10) (N := 41) hx hb hts in_X10 hown hK hP 0 rfl rfl 18 (by decide) (hts _ q6_63) (fun _ h9 => h9) rfl dX10_putLine_82 ?_
      refine lv_iload hx hb dX10_putLine_85 (lv_at hl 0 rfl) ?_
      refine lv_iload_n hx hb dX10_putLine_87 rfl (lv_at hl 5 rfl) ?_
      obtain ⟨q4, hc, hf⟩ := zbd hf
      refine z_cVi (As := [.ref (ht 6), .int ((St_slots v2.toNatClampNeg) - (1 : Int32)), .int v3]) (rest := []) C (c_X10_dropOn l D cy ht (fun _ => ht 6) q3.2 St_read ((St_slots v2.toNatClampNeg) - (1 : Int32)) v3 q4 hc) gV_X10_X10_dropOn hd_X10_dropOn ⟨Nat.le_of_ble_eq_true rfl, Nat.le_of_ble_eq_true rfl⟩ ⟨Nat.le_refl _, Nat.le_refl _⟩ (va_recv hK hP (ci := 6) (q0 := 0) rfl rfl) hP hD hS (w2 := wMo ht cy q4.2.1 ++ (wAI (fun _ => ht 4) cy 140 St_fresh ++ (wAI (fun _ => ht 2) cy 8 St_letters ++ (wAI (fun _ => ht 6) cy 325 q4.2.2 ++ (wAI (fun _ => ht 14) cy 12 St_slots ++ (wAI (fun _ => ht 1) cy 900 St_tape)))))) [0, 3] [1, 2, 4, 5] [4, 0, 1, 5, 2, 3] rfl rfl rfl rfl rfl rfl (by decide) hl.1 (Nat.le_of_ble_eq_true rfl) dX10_putLine_88 (fun H locs hP hD hS => ?_)
      exact w_X10_putLine_91 l E ht St_fresh St_slots St_tape x1 C hE q4.2.1 St_letters q4.2.2 q4.1 H locs ls hf hP hD hS (lv_sub hl [2] rfl)
    · refine lv_aload_n hx hb dX10_putLine_64 rfl (lv_at hl 2 rfl) ?_
      refine lv_aload_n hx hb dX10_putLine_65 rfl (lv_at hl 2 rfl) ?_
      refine va_get (D := D) (ci := 6) (v := .ref (ht 6)) (C := RX10) (T := TX10) (N := 41) hx hb hts in_X10 hown hK hP 0 rfl rfl 18 (by decide) (hts _ q6_63) (fun _ h9 => h9) rfl dX10_putLine_66 ?_
      refine lv_iload hx hb dX10_putLine_69 (lv_at hl 0 rfl) ?_
      refine lv_iload_n hx hb dX10_putLine_71 rfl (lv_at hl 5 rfl) ?_
      refine lv_iload hx hb dX10_putLine_72 (lv_at hl 1 rfl) ?_
      obtain ⟨q5, hc, hf⟩ := zbd hf
      refine z_cVi (As := [.ref (ht 6), .int ((St_slots v2.toNatClampNeg) - (1 : Int32)), .int v3, .int u0]) (rest := []) C (c_X10_putOn l D cy ht (fun _ => ht 6) q3.2 St_read ((St_slots v2.toNatClampNeg) - (1 : Int32)) v3 u0 q5 hc) gV_X10_X10_putOn hd_X10_putOn ⟨Nat.le_of_ble_eq_true rfl, Nat.le_of_ble_eq_true rfl⟩ ⟨Nat.le_refl _, Nat.le_refl _⟩ (va_recv hK hP (ci := 6) (q0 := 0) rfl rfl) hP hD hS (w2 := wMo ht cy q5.2.1 ++ (wAI (fun _ => ht 4) cy 140 St_fresh ++ (wAI (fun _ => ht 2) cy 8 St_letters ++ (wAI (fun _ => ht 6) cy 325 q5.2.2 ++ (wAI (fun _ => ht 14) cy 12 St_slots ++ (wAI (fun _ => ht 1) cy 900 St_tape)))))) [0, 3] [1, 2, 4, 5] [4, 0, 1, 5, 2, 3] rfl rfl rfl rfl rfl rfl (by decide) hl.1 (Nat.le_of_ble_eq_true rfl) dX10_putLine_74 (fun H locs hP hD hS => ?_)
      refine lv_goto (tgt := 91) hx hb dX10_putLine_77 (by decide) ?_
      exact w_X10_putLine_91 l E ht St_fresh St_slots St_tape x1 C hE q5.2.1 St_letters q5.2.2 q5.1 H locs ls hf hP hD hS (lv_sub hl [2] rfl)
  · obtain rfl := Option.some.inj hf
    exact z_vret C hP hD hS dX10_putLine_49
def f_X10_putLine (St : SMo) (St_fresh : Nat → Int32) (St_letters : Nat → Int32) (St_read : Nat → Int32) (St_slots : Nat → Int32) (St_tape : Nat → Int32) (x1 : Int32) : Option (SMo × (Nat → Int32) × (Nat → Int32)) :=
  (f_X10_step St St_letters St_tape).bind (fun q6 =>
    (f_X10_writerPassed q6.1 St_fresh q6.2 St_slots St_tape (1 : Int32)).bind (fun q7 =>
      (if zib (1 : Int32) 140 then (f_X10_number q7.2.1 q7.2.2 St_tape (0 : Int32) ((St_fresh (1 : Int32).toNatClampNeg) - (1 : Int32))).bind (fun q8 =>
          (if x1 = 0 then
            (b_X10_putLine_40 St_fresh St_slots St_tape x1 q8.2.1 q8.2.2 St_read q7.1 q8.1 (0 : Int32))
            else
            (f_X10_number q8.2.1 q8.2.2 St_tape (0 : Int32) (999 : Int32)).bind (fun q9 =>
              (b_X10_putLine_40 St_fresh St_slots St_tape x1 q9.2.1 q9.2.2 St_read q7.1 q8.1 q9.1)))) else none)))
set_option maxHeartbeats 4000000 in
set_option maxRecDepth 100000 in
theorem c_X10_putLine (l : Launch) (D : va_G) (cy : Nat → ClassId) (E : zEn) (ht : Nat → Nat) (St : SMo) (St_fresh : Nat → Int32) (St_letters : Nat → Int32) (St_read : Nat → Int32) (St_slots : Nat → Int32) (St_tape : Nat → Int32) (x1 : Int32) (r : SMo × (Nat → Int32) × (Nat → Int32)) (hf : f_X10_putLine St St_fresh St_letters St_read St_slots St_tape x1 = some r) : zCVs l yX10_putLine cX10_putLine 7 none 8 195 D (zty cy) E [.ref (ht 0), .int x1] (wMo ht cy St ++ (wAI (fun _ => ht 4) cy 140 St_fresh ++ (wAI (fun _ => ht 2) cy 8 St_letters ++ (wAI (fun _ => ht 6) cy 325 St_read ++ (wAI (fun _ => ht 14) cy 12 St_slots ++ (wAI (fun _ => ht 1) cy 900 St_tape)))))) (wMo ht cy r.1 ++ (wAI (fun _ => ht 4) cy 140 St_fresh ++ (wAI (fun _ => ht 2) cy 8 r.2.1 ++ (wAI (fun _ => ht 6) cy 325 r.2.2 ++ (wAI (fun _ => ht 14) cy 12 St_slots ++ (wAI (fun _ => ht 1) cy 900 St_tape)))))) := by
  refine zCVs_of (by decide +kernel) (Nat.le_of_ble_eq_true rfl) ?_
  intro p e s m below meth c A ls C hE hP hD hS hl
  generalize hargs : ([.ref (ht 0), .int x1] : List Value).toArray = args at C ⊢
  have C : zX p s m meth c cX10_putLine 7 args RX10 none A D (zty cy) := C
  obtain ⟨hx, hb, hr, hts, hown, hlocks, hml, hA, hK⟩ := id C
  have hl : lv_has ls 7 [(0, .ref (ht 0)), (1, .int x1)] := hl
  generalize hH : s.heap = H at hP ⊢
  have hS : va_S A s.heap H [] := by rw [← hH]; exact hS
  generalize ([] : List Loc) = locs at hS ⊢
  refine lv_aload_n hx hb dX10_putLine_0 rfl (lv_at hl 0 rfl) ?_
  obtain ⟨q6, hc, hf⟩ := zbd hf
  refine z_cVv (As := []) (rest := []) C (c_X10_step l D cy ht St St_letters St_tape q6 hc) gV_X10_X10_step hd_X10_step ⟨Nat.le_of_ble_eq_true rfl, Nat.le_of_ble_eq_true rfl⟩ ⟨Nat.le_refl _, Nat.le_refl _⟩ (va_recv hK hP (ci := 6) (q0 := 0) rfl rfl) hP hD hS (w2 := wMo ht cy q6.1 ++ (wAI (fun _ => ht 4) cy 140 St_fresh ++ (wAI (fun _ => ht 2) cy 8 q6.2 ++ (wAI (fun _ => ht 6) cy 325 St_read ++ (wAI (fun _ => ht 14) cy 12 St_slots ++ (wAI (fun _ => ht 1) cy 900 St_tape)))))) [0, 2, 5] [1, 3, 4] [3, 0, 4, 1, 2, 5] rfl rfl rfl rfl rfl rfl (by decide) hl.1 (Nat.le_of_ble_eq_true rfl) dX10_putLine_1 (fun H locs hP hD hS => ?_)
  refine lv_aload_n hx hb dX10_putLine_4 rfl (lv_at hl 0 rfl) ?_
  refine lv_iconst (v := (1 : Int32)) hx hb dX10_putLine_5 (by decide) ?_
  obtain ⟨q7, hc, hf⟩ := zbd hf
  refine z_cVis (As := [.int (1 : Int32)]) (rest := []) C hE (c_X10_writerPassed l D cy E ht q6.1 St_fresh q6.2 St_slots St_tape (1 : Int32) q7 hc) gV_X10_X10_writerPassed hd_X10_writerPassed ⟨Nat.le_of_ble_eq_true rfl, Nat.le_of_ble_eq_true rfl⟩ ⟨Nat.le_refl _, Nat.le_refl _⟩ (va_recv hK hP (ci := 6) (q0 := 0) rfl rfl) hP hD hS (w2 := wMo ht cy q7.2.1 ++ (wAI (fun _ => ht 4) cy 140 St_fresh ++ (wAI (fun _ => ht 2) cy 8 q7.2.2 ++ (wAI (fun _ => ht 6) cy 325 St_read ++ (wAI (fun _ => ht 14) cy 12 St_slots ++ (wAI (fun _ => ht 1) cy 900 St_tape)))))) [0, 1, 2, 4, 5] [3] [1, 2, 3, 0, 4, 5] rfl rfl rfl rfl rfl rfl (by decide) hl.1 (Nat.le_of_ble_eq_true rfl) dX10_putLine_6 (fun H locs hP hD hS => ?_)
  refine lv_istore_n (lv' := [(2, .int q7.1), (0, .ref (ht 0)), (1, .int x1)]) hx hb dX10_putLine_9 rfl hl (by decide) rfl (fun ls hl => ?_)
  refine lv_aload_n hx hb dX10_putLine_10 rfl (lv_at hl 1 rfl) ?_
  refine lv_iconst (v := (0 : Int32)) hx hb dX10_putLine_11 (by decide) ?_
  refine lv_aload_n hx hb dX10_putLine_12 rfl (lv_at hl 1 rfl) ?_
  refine va_get (D := D) (ci := 6) (v := .ref (ht 4)) (C := RX10) (T := TX10) (N := 41) hx hb hts in_X10 hown hK hP 0 rfl rfl 16 (by decide) (hts _ q6_61) (fun _ h9 => h9) rfl dX10_putLine_13 ?_
  refine lv_iconst (v := (1 : Int32)) hx hb dX10_putLine_16 (by decide) ?_
  refine z_iald (f := St_fresh) hx hb hK hP 1 0 rfl rfl dX10_putLine_17 hf (fun hf => ?_)
  refine lv_iconst (v := (1 : Int32)) hx hb dX10_putLine_18 (by decide) ?_
  refine lv_isub hx hb dX10_putLine_19 ?_
  obtain ⟨q8, hc, hf⟩ := zbd hf
  refine z_cVi (As := [.int (0 : Int32), .int ((St_fresh (1 : Int32).toNatClampNeg) - (1 : Int32))]) (rest := []) C (c_X10_number l D cy ht q7.2.1 q7.2.2 St_tape (0 : Int32) ((St_fresh (1 : Int32).toNatClampNeg) - (1 : Int32)) q8 hc) gV_X10_X10_number hd_X10_number ⟨Nat.le_of_ble_eq_true rfl, Nat.le_of_ble_eq_true rfl⟩ ⟨Nat.le_refl _, Nat.le_refl _⟩ (va_recv hK hP (ci := 6) (q0 := 0) rfl rfl) hP hD hS (w2 := wMo ht cy q8.2.1 ++ (wAI (fun _ => ht 4) cy 140 St_fresh ++ (wAI (fun _ => ht 2) cy 8 q8.2.2 ++ (wAI (fun _ => ht 6) cy 325 St_read ++ (wAI (fun _ => ht 14) cy 12 St_slots ++ (wAI (fun _ => ht 1) cy 900 St_tape)))))) [0, 2, 5] [1, 3, 4] [3, 0, 4, 1, 2, 5] rfl rfl rfl rfl rfl rfl (by decide) hl.1 (Nat.le_of_ble_eq_true rfl) dX10_putLine_20 (fun H locs hP hD hS => ?_)
  refine lv_istore_n (lv' := [(3, .int q8.1), (2, .int q7.1), (0, .ref (ht 0)), (1, .int x1)]) hx hb dX10_putLine_23 rfl hl (by decide) rfl (fun ls hl => ?_)
  refine lv_iload_n hx hb dX10_putLine_24 rfl (lv_at hl 3 rfl) ?_
  refine z_if_eq (tgt := 39) hx hb dX10_putLine_25 (by decide) hf (fun hf => ?_) (fun hf => ?_)
  · refine lv_iconst (v := (0 : Int32)) hx hb dX10_putLine_39 (by decide) ?_
    exact w_X10_putLine_40 l E ht St_fresh St_slots St_tape x1 C hE q8.2.1 q8.2.2 St_read q7.1 q8.1 (0 : Int32) H locs ls hf hP hD hS (lv_sub hl [2, 3, 1, 0] rfl)
  · refine lv_aload_n hx hb dX10_putLine_28 rfl (lv_at hl 2 rfl) ?_
    refine lv_iconst (v := (0 : Int32)) hx hb dX10_putLine_29 (by decide) ?_
    refine lv_sipush (v := (999 : Int32)) hx hb dX10_putLine_30 (by decide) ?_
    obtain ⟨q9, hc, hf⟩ := zbd hf
    refine z_cVi (As := [.int (0 : Int32), .int (999 : Int32)]) (rest := []) C (c_X10_number l D cy ht q8.2.1 q8.2.2 St_tape (0 : Int32) (999 : Int32) q9 hc) gV_X10_X10_number hd_X10_number ⟨Nat.le_of_ble_eq_true rfl, Nat.le_of_ble_eq_true rfl⟩ ⟨Nat.le_refl _, Nat.le_refl _⟩ (va_recv hK hP (ci := 6) (q0 := 0) rfl rfl) hP hD hS (w2 := wMo ht cy q9.2.1 ++ (wAI (fun _ => ht 4) cy 140 St_fresh ++ (wAI (fun _ => ht 2) cy 8 q9.2.2 ++ (wAI (fun _ => ht 6) cy 325 St_read ++ (wAI (fun _ => ht 14) cy 12 St_slots ++ (wAI (fun _ => ht 1) cy 900 St_tape)))))) [0, 2, 5] [1, 3, 4] [3, 0, 4, 1, 2, 5] rfl rfl rfl rfl rfl rfl (by decide) hl.1 (Nat.le_of_ble_eq_true rfl) dX10_putLine_33 (fun H locs hP hD hS => ?_)
    refine lv_goto (tgt := 40) hx hb dX10_putLine_36 (by decide) ?_
    exact w_X10_putLine_40 l E ht St_fresh St_slots St_tape x1 C hE q9.2.1 q9.2.2 St_read q7.1 q8.1 q9.1 H locs ls hf hP hD hS (lv_sub hl [2, 3, 1, 0] rfl)
def f_X10_endLine (St : SMo) (St_fresh : Nat → Int32) (St_letters : Nat → Int32) (St_read : Nat → Int32) (St_slots : Nat → Int32) (St_tape : Nat → Int32) (x1 : Int32) : Option (SMo × (Nat → Int32) × (Nat → Int32) × (Nat → Int32)) :=
  (f_X10_step St St_letters St_tape).bind (fun q1 =>
    (f_X10_writerPassed q1.1 St_fresh q1.2 St_slots St_tape (1 : Int32)).bind (fun q2 =>
      (f_X10_ends q2.2.1).bind (fun q3 =>
        (if q3.1 = 0 then
          some (q3.2, q2.2.2, St_read, St_slots)
          else
          (if zib q2.1 12 then (f_X10_endOn St_read ((St_slots q2.1.toNatClampNeg) - (1 : Int32)) x1).bind (fun q4 =>
              (if zib q2.1 12 then some (q3.2, q2.2.2, q4.2, (upd St_slots q2.1.toNatClampNeg (0 : Int32))) else none)) else none)))))
set_option maxHeartbeats 4000000 in
set_option maxRecDepth 100000 in
theorem c_X10_endLine (l : Launch) (D : va_G) (cy : Nat → ClassId) (E : zEn) (ht : Nat → Nat) (St : SMo) (St_fresh : Nat → Int32) (St_letters : Nat → Int32) (St_read : Nat → Int32) (St_slots : Nat → Int32) (St_tape : Nat → Int32) (x1 : Int32) (r : SMo × (Nat → Int32) × (Nat → Int32) × (Nat → Int32)) (hf : f_X10_endLine St St_fresh St_letters St_read St_slots St_tape x1 = some r) : zCVs l yX10_endLine cX10_endLine 3 none 8 171 D (zty cy) E [.ref (ht 0), .int x1] (wMo ht cy St ++ (wAI (fun _ => ht 4) cy 140 St_fresh ++ (wAI (fun _ => ht 2) cy 8 St_letters ++ (wAI (fun _ => ht 6) cy 325 St_read ++ (wAI (fun _ => ht 14) cy 12 St_slots ++ (wAI (fun _ => ht 1) cy 900 St_tape)))))) (wMo ht cy r.1 ++ (wAI (fun _ => ht 4) cy 140 St_fresh ++ (wAI (fun _ => ht 2) cy 8 r.2.1 ++ (wAI (fun _ => ht 6) cy 325 r.2.2.1 ++ (wAI (fun _ => ht 14) cy 12 r.2.2.2 ++ (wAI (fun _ => ht 1) cy 900 St_tape)))))) := by
  refine zCVs_of (by decide +kernel) (Nat.le_of_ble_eq_true rfl) ?_
  intro p e s m below meth c A ls C hE hP hD hS hl
  generalize hargs : ([.ref (ht 0), .int x1] : List Value).toArray = args at C ⊢
  have C : zX p s m meth c cX10_endLine 3 args RX10 none A D (zty cy) := C
  obtain ⟨hx, hb, hr, hts, hown, hlocks, hml, hA, hK⟩ := id C
  have hl : lv_has ls 3 [(0, .ref (ht 0)), (1, .int x1)] := hl
  generalize hH : s.heap = H at hP ⊢
  have hS : va_S A s.heap H [] := by rw [← hH]; exact hS
  generalize ([] : List Loc) = locs at hS ⊢
  refine lv_aload_n hx hb dX10_endLine_0 rfl (lv_at hl 0 rfl) ?_
  obtain ⟨q1, hc, hf⟩ := zbd hf
  refine z_cVv (As := []) (rest := []) C (c_X10_step l D cy ht St St_letters St_tape q1 hc) gV_X10_X10_step hd_X10_step ⟨Nat.le_of_ble_eq_true rfl, Nat.le_of_ble_eq_true rfl⟩ ⟨Nat.le_refl _, Nat.le_refl _⟩ (va_recv hK hP (ci := 6) (q0 := 0) rfl rfl) hP hD hS (w2 := wMo ht cy q1.1 ++ (wAI (fun _ => ht 4) cy 140 St_fresh ++ (wAI (fun _ => ht 2) cy 8 q1.2 ++ (wAI (fun _ => ht 6) cy 325 St_read ++ (wAI (fun _ => ht 14) cy 12 St_slots ++ (wAI (fun _ => ht 1) cy 900 St_tape)))))) [0, 2, 5] [1, 3, 4] [3, 0, 4, 1, 2, 5] rfl rfl rfl rfl rfl rfl (by decide) hl.1 (Nat.le_of_ble_eq_true rfl) dX10_endLine_1 (fun H locs hP hD hS => ?_)
  refine lv_aload_n hx hb dX10_endLine_4 rfl (lv_at hl 0 rfl) ?_
  refine lv_iconst (v := (1 : Int32)) hx hb dX10_endLine_5 (by decide) ?_
  obtain ⟨q2, hc, hf⟩ := zbd hf
  refine z_cVis (As := [.int (1 : Int32)]) (rest := []) C hE (c_X10_writerPassed l D cy E ht q1.1 St_fresh q1.2 St_slots St_tape (1 : Int32) q2 hc) gV_X10_X10_writerPassed hd_X10_writerPassed ⟨Nat.le_of_ble_eq_true rfl, Nat.le_of_ble_eq_true rfl⟩ ⟨Nat.le_refl _, Nat.le_refl _⟩ (va_recv hK hP (ci := 6) (q0 := 0) rfl rfl) hP hD hS (w2 := wMo ht cy q2.2.1 ++ (wAI (fun _ => ht 4) cy 140 St_fresh ++ (wAI (fun _ => ht 2) cy 8 q2.2.2 ++ (wAI (fun _ => ht 6) cy 325 St_read ++ (wAI (fun _ => ht 14) cy 12 St_slots ++ (wAI (fun _ => ht 1) cy 900 St_tape)))))) [0, 1, 2, 4, 5] [3] [1, 2, 3, 0, 4, 5] rfl rfl rfl rfl rfl rfl (by decide) hl.1 (Nat.le_of_ble_eq_true rfl) dX10_endLine_6 (fun H locs hP hD hS => ?_)
  refine lv_istore_n (lv' := [(2, .int q2.1), (0, .ref (ht 0)), (1, .int x1)]) hx hb dX10_endLine_9 rfl hl (by decide) rfl (fun ls hl => ?_)
  refine lv_aload_n hx hb dX10_endLine_10 rfl (lv_at hl 1 rfl) ?_
  obtain ⟨q3, hc, hf⟩ := zbd hf
  refine z_cVi (As := []) (rest := []) C (c_X10_ends l D cy ht q2.2.1 q3 hc) gV_X10_X10_ends hd_X10_ends ⟨Nat.le_of_ble_eq_true rfl, Nat.le_of_ble_eq_true rfl⟩ ⟨Nat.le_refl _, Nat.le_refl _⟩ (va_recv hK hP (ci := 6) (q0 := 0) rfl rfl) hP hD hS (w2 := wMo ht cy q3.2 ++ (wAI (fun _ => ht 4) cy 140 St_fresh ++ (wAI (fun _ => ht 2) cy 8 q2.2.2 ++ (wAI (fun _ => ht 6) cy 325 St_read ++ (wAI (fun _ => ht 14) cy 12 St_slots ++ (wAI (fun _ => ht 1) cy 900 St_tape)))))) [0] [1, 2, 3, 4, 5] [5, 0, 1, 2, 3, 4] rfl rfl rfl rfl rfl rfl (by decide) hl.1 (Nat.le_of_ble_eq_true rfl) dX10_endLine_11 (fun H locs hP hD hS => ?_)
  refine z_if_ne (tgt := 18) hx hb dX10_endLine_14 (by decide) hf (fun hf => ?_) (fun hf => ?_)
  · refine lv_aload_n hx hb dX10_endLine_18 rfl (lv_at hl 1 rfl) ?_
    refine lv_aload_n hx hb dX10_endLine_19 rfl (lv_at hl 1 rfl) ?_
    refine va_get (D := D) (ci := 6) (v := .ref (ht 6)) (C := RX10) (T := TX10) (N := 41) hx hb hts in_X10 hown hK hP 0 rfl rfl 18 (by decide) (hts _ q6_63) (fun _ h9 => h9) rfl dX10_endLine_20 ?_
    refine lv_aload_n hx hb dX10_endLine_23 rfl (lv_at hl 1 rfl) ?_
    refine va_get (D := D) (ci := 6) (v := .ref (ht 14)) (C := RX10) (T := TX10) (N := 41) hx hb hts in_X10 hown hK hP 0 rfl rfl 30 (by decide) (hts _ q6_75) (fun _ h9 => h9) rfl dX10_endLine_24 ?_
    refine lv_iload_n hx hb dX10_endLine_27 rfl (lv_at hl 0 rfl) ?_
    refine z_iald (f := St_slots) hx hb hK hP 4 0 rfl rfl dX10_endLine_28 hf (fun hf => ?_)
    refine lv_iconst (v := (1 : Int32)) hx hb dX10_endLine_29 (by decide) ?_
    refine lv_isub hx hb dX10_endLine_30 ?_
    refine lv_iload_n hx hb dX10_endLine_31 rfl (lv_at hl 2 rfl) ?_
    obtain ⟨q4, hc, hf⟩ := zbd hf
    refine z_cVi (As := [.ref (ht 6), .int ((St_slots q2.1.toNatClampNeg) - (1 : Int32)), .int x1]) (rest := []) C (c_X10_endOn l D cy ht (fun _ => ht 6) St_read ((St_slots q2.1.toNatClampNeg) - (1 : Int32)) x1 q4 hc) gV_X10_X10_endOn hd_X10_endOn ⟨Nat.le_of_ble_eq_true rfl, Nat.le_of_ble_eq_true rfl⟩ ⟨Nat.le_refl _, Nat.le_refl _⟩ (va_recv hK hP (ci := 6) (q0 := 0) rfl rfl) hP hD hS (w2 := wMo ht cy q3.2 ++ (wAI (fun _ => ht 4) cy 140 St_fresh ++ (wAI (fun _ => ht 2) cy 8 q2.2.2 ++ (wAI (fun _ => ht 6) cy 325 q4.2 ++ (wAI (fun _ => ht 14) cy 12 St_slots ++ (wAI (fun _ => ht 1) cy 900 St_tape)))))) [3] [0, 1, 2, 4, 5] [0, 1, 2, 5, 3, 4] rfl rfl rfl rfl rfl rfl (by decide) hl.1 (Nat.le_of_ble_eq_true rfl) dX10_endLine_32 (fun H locs hP hD hS => ?_)
    refine lv_pop hx hb dX10_endLine_35 rfl ?_
    refine lv_aload_n hx hb dX10_endLine_36 rfl (lv_at hl 1 rfl) ?_
    refine va_get (D := D) (ci := 6) (v := .ref (ht 14)) (C := RX10) (T := TX10) (N := 41) hx hb hts in_X10 hown hK hP 0 rfl rfl 30 (by decide) (hts _ q6_75) (fun _ h9 => h9) rfl dX10_endLine_37 ?_
    refine lv_iload_n hx hb dX10_endLine_40 rfl (lv_at hl 0 rfl) ?_
    refine lv_iconst (v := (0 : Int32)) hx hb dX10_endLine_41 (by decide) ?_
    refine z_iast (f := St_slots) (w2 := wMo ht cy q3.2 ++ (wAI (fun _ => ht 4) cy 140 St_fresh ++ (wAI (fun _ => ht 2) cy 8 q2.2.2 ++ (wAI (fun _ => ht 6) cy 325 q4.2 ++ (wAI (fun _ => ht 14) cy 12 (upd St_slots q2.1.toNatClampNeg (0 : Int32)) ++ (wAI (fun _ => ht 1) cy 900 St_tape)))))) hx hb hK hP hD hS 4 0 rfl rfl dX10_endLine_42 hf rfl (fun hf H locs hP hD hS => ?_)
    obtain rfl := Option.some.inj hf
    exact z_vret C hP hD hS dX10_endLine_43
  · obtain rfl := Option.some.inj hf
    exact z_vret C hP hD hS dX10_endLine_17
def f_X10_unsureLine (St : SMo) (St_fresh : Nat → Int32) (St_letters : Nat → Int32) (St_slots : Nat → Int32) (St_tape : Nat → Int32) : Option (SMo × (Nat → Int32) × (Nat → Int32)) :=
  (f_X10_step St St_letters St_tape).bind (fun q1 =>
    (f_X10_writerPassed q1.1 St_fresh q1.2 St_slots St_tape (0 : Int32)).bind (fun q2 =>
      (if (Mo_failed q2.2.1) = 0 then
        (if zib (4 : Int32) 140 then (if zib ((8 : Int32) + (St_fresh (4 : Int32).toNatClampNeg)) 140 then (if zib (4 : Int32) 140 then (if zib (4 : Int32) 140 then some (q2.2.1, (upd (upd St_fresh ((8 : Int32) + (St_fresh (4 : Int32).toNatClampNeg)).toNatClampNeg q2.1) (4 : Int32).toNatClampNeg (((upd St_fresh ((8 : Int32) + (St_fresh (4 : Int32).toNatClampNeg)).toNatClampNeg q2.1) (4 : Int32).toNatClampNeg) + (1 : Int32))), q2.2.2) else none) else none) else none) else none)
        else
        some (q2.2.1, St_fresh, q2.2.2))))
set_option maxHeartbeats 4000000 in
set_option maxRecDepth 100000 in
theorem c_X10_unsureLine (l : Launch) (D : va_G) (cy : Nat → ClassId) (E : zEn) (ht : Nat → Nat) (St : SMo) (St_fresh : Nat → Int32) (St_letters : Nat → Int32) (St_slots : Nat → Int32) (St_tape : Nat → Int32) (r : SMo × (Nat → Int32) × (Nat → Int32)) (hf : f_X10_unsureLine St St_fresh St_letters St_slots St_tape = some r) : zCVs l yX10_unsureLine cX10_unsureLine 2 none 8 171 D (zty cy) E [.ref (ht 0)] (wMo ht cy St ++ (wAI (fun _ => ht 4) cy 140 St_fresh ++ (wAI (fun _ => ht 2) cy 8 St_letters ++ (wAI (fun _ => ht 14) cy 12 St_slots ++ (wAI (fun _ => ht 1) cy 900 St_tape))))) (wMo ht cy r.1 ++ (wAI (fun _ => ht 4) cy 140 r.2.1 ++ (wAI (fun _ => ht 2) cy 8 r.2.2 ++ (wAI (fun _ => ht 14) cy 12 St_slots ++ (wAI (fun _ => ht 1) cy 900 St_tape))))) := by
  refine zCVs_of (by decide +kernel) (Nat.le_of_ble_eq_true rfl) ?_
  intro p e s m below meth c A ls C hE hP hD hS hl
  generalize hargs : ([.ref (ht 0)] : List Value).toArray = args at C ⊢
  have C : zX p s m meth c cX10_unsureLine 2 args RX10 none A D (zty cy) := C
  obtain ⟨hx, hb, hr, hts, hown, hlocks, hml, hA, hK⟩ := id C
  have hl : lv_has ls 2 [(0, .ref (ht 0))] := hl
  generalize hH : s.heap = H at hP ⊢
  have hS : va_S A s.heap H [] := by rw [← hH]; exact hS
  generalize ([] : List Loc) = locs at hS ⊢
  refine lv_aload_n hx hb dX10_unsureLine_0 rfl (lv_at hl 0 rfl) ?_
  obtain ⟨q1, hc, hf⟩ := zbd hf
  refine z_cVv (As := []) (rest := []) C (c_X10_step l D cy ht St St_letters St_tape q1 hc) gV_X10_X10_step hd_X10_step ⟨Nat.le_of_ble_eq_true rfl, Nat.le_of_ble_eq_true rfl⟩ ⟨Nat.le_refl _, Nat.le_refl _⟩ (va_recv hK hP (ci := 6) (q0 := 0) rfl rfl) hP hD hS (w2 := wMo ht cy q1.1 ++ (wAI (fun _ => ht 4) cy 140 St_fresh ++ (wAI (fun _ => ht 2) cy 8 q1.2 ++ (wAI (fun _ => ht 14) cy 12 St_slots ++ (wAI (fun _ => ht 1) cy 900 St_tape))))) [0, 2, 4] [1, 3] [2, 0, 3, 1, 4] rfl rfl rfl rfl rfl rfl (by decide) hl.1 (Nat.le_of_ble_eq_true rfl) dX10_unsureLine_1 (fun H locs hP hD hS => ?_)
  refine lv_aload_n hx hb dX10_unsureLine_4 rfl (lv_at hl 0 rfl) ?_
  refine lv_iconst (v := (0 : Int32)) hx hb dX10_unsureLine_5 (by decide) ?_
  obtain ⟨q2, hc, hf⟩ := zbd hf
  refine z_cVis0 (As := [.int (0 : Int32)]) (rest := []) C hE (c_X10_writerPassed l D cy E ht q1.1 St_fresh q1.2 St_slots St_tape (0 : Int32) q2 hc) gV_X10_X10_writerPassed hd_X10_writerPassed ⟨Nat.le_of_ble_eq_true rfl, Nat.le_of_ble_eq_true rfl⟩ ⟨Nat.le_refl _, Nat.le_refl _⟩ (va_recv hK hP (ci := 6) (q0 := 0) rfl rfl) hP hD hS hl.1 (Nat.le_of_ble_eq_true rfl) dX10_unsureLine_6 (fun H locs hP hD hS => ?_)
  have hP : va_P D vwCl (wMo ht cy q2.2.1 ++ (wAI (fun _ => ht 4) cy 140 St_fresh ++ (wAI (fun _ => ht 2) cy 8 q2.2.2 ++ (wAI (fun _ => ht 14) cy 12 St_slots ++ (wAI (fun _ => ht 1) cy 900 St_tape))))) H := hP
  have hD : va_D A (wMo ht cy q2.2.1 ++ (wAI (fun _ => ht 4) cy 140 St_fresh ++ (wAI (fun _ => ht 2) cy 8 q2.2.2 ++ (wAI (fun _ => ht 14) cy 12 St_slots ++ (wAI (fun _ => ht 1) cy 900 St_tape))))) := hD
  refine lv_istore_n (lv' := [(1, .int q2.1), (0, .ref (ht 0))]) hx hb dX10_unsureLine_9 rfl hl (by decide) rfl (fun ls hl => ?_)
  refine lv_aload_n hx hb dX10_unsureLine_10 rfl (lv_at hl 1 rfl) ?_
  refine va_get (D := D) (ci := 6) (v := .int (Mo_failed q2.2.1)) (C := RX10) (T := TX10) (N := 41) hx hb hts in_X10 hown hK hP 0 rfl rfl 13 (by decide) (hts _ q6_58) (fun _ h9 => h9) rfl dX10_unsureLine_11 ?_
  refine z_if_eq (tgt := 18) hx hb dX10_unsureLine_14 (by decide) hf (fun hf => ?_) (fun hf => ?_)
  · refine lv_aload_n hx hb dX10_unsureLine_18 rfl (lv_at hl 1 rfl) ?_
    refine va_get (D := D) (ci := 6) (v := .ref (ht 4)) (C := RX10) (T := TX10) (N := 41) hx hb hts in_X10 hown hK hP 0 rfl rfl 16 (by decide) (hts _ q6_61) (fun _ h9 => h9) rfl dX10_unsureLine_19 ?_
    refine lv_bipush (v := (8 : Int32)) hx hb dX10_unsureLine_22 (by decide) ?_
    refine lv_aload_n hx hb dX10_unsureLine_24 rfl (lv_at hl 1 rfl) ?_
    refine va_get (D := D) (ci := 6) (v := .ref (ht 4)) (C := RX10) (T := TX10) (N := 41) hx hb hts in_X10 hown hK hP 0 rfl rfl 16 (by decide) (hts _ q6_61) (fun _ h9 => h9) rfl dX10_unsureLine_25 ?_
    refine lv_iconst (v := (4 : Int32)) hx hb dX10_unsureLine_28 (by decide) ?_
    refine z_iald (f := St_fresh) hx hb hK hP 1 0 rfl rfl dX10_unsureLine_29 hf (fun hf => ?_)
    refine lv_iadd hx hb dX10_unsureLine_30 ?_
    refine lv_iload_n hx hb dX10_unsureLine_31 rfl (lv_at hl 0 rfl) ?_
    refine z_iast (f := St_fresh) (w2 := wMo ht cy q2.2.1 ++ (wAI (fun _ => ht 4) cy 140 (upd St_fresh ((8 : Int32) + (St_fresh (4 : Int32).toNatClampNeg)).toNatClampNeg q2.1) ++ (wAI (fun _ => ht 2) cy 8 q2.2.2 ++ (wAI (fun _ => ht 14) cy 12 St_slots ++ (wAI (fun _ => ht 1) cy 900 St_tape))))) hx hb hK hP hD hS 1 0 rfl rfl dX10_unsureLine_32 hf rfl (fun hf H locs hP hD hS => ?_)
    refine lv_aload_n hx hb dX10_unsureLine_33 rfl (lv_at hl 1 rfl) ?_
    refine va_get (D := D) (ci := 6) (v := .ref (ht 4)) (C := RX10) (T := TX10) (N := 41) hx hb hts in_X10 hown hK hP 0 rfl rfl 16 (by decide) (hts _ q6_61) (fun _ h9 => h9) rfl dX10_unsureLine_34 ?_
    refine lv_iconst (v := (4 : Int32)) hx hb dX10_unsureLine_37 (by decide) ?_
    refine lv_dup2_11 hx hb dX10_unsureLine_38 rfl rfl ?_
    refine z_iald (f := (upd St_fresh ((8 : Int32) + (St_fresh (4 : Int32).toNatClampNeg)).toNatClampNeg q2.1)) hx hb hK hP 1 0 rfl rfl dX10_unsureLine_39 hf (fun hf => ?_)
    refine lv_iconst (v := (1 : Int32)) hx hb dX10_unsureLine_40 (by decide) ?_
    refine lv_iadd hx hb dX10_unsureLine_41 ?_
    refine z_iast (f := (upd St_fresh ((8 : Int32) + (St_fresh (4 : Int32).toNatClampNeg)).toNatClampNeg q2.1)) (w2 := wMo ht cy q2.2.1 ++ (wAI (fun _ => ht 4) cy 140 (upd (upd St_fresh ((8 : Int32) + (St_fresh (4 : Int32).toNatClampNeg)).toNatClampNeg q2.1) (4 : Int32).toNatClampNeg (((upd St_fresh ((8 : Int32) + (St_fresh (4 : Int32).toNatClampNeg)).toNatClampNeg q2.1) (4 : Int32).toNatClampNeg) + (1 : Int32))) ++ (wAI (fun _ => ht 2) cy 8 q2.2.2 ++ (wAI (fun _ => ht 14) cy 12 St_slots ++ (wAI (fun _ => ht 1) cy 900 St_tape))))) hx hb hK hP hD hS 1 0 rfl rfl dX10_unsureLine_42 hf rfl (fun hf H locs hP hD hS => ?_)
    obtain rfl := Option.some.inj hf
    exact z_vret C hP hD hS dX10_unsureLine_43
  · obtain rfl := Option.some.inj hf
    exact z_vret C hP hD hS dX10_unsureLine_17
def b_X10_seenLine_132 (St_tape : Nat → Int32) (St : SMo) (St_fresh : Nat → Int32) (St_letters : Nat → Int32) (St_ordered : Nat → Int32) (v1 : Int32) (v2 : Int32) : Option (SMo × (Nat → Int32) × (Nat → Int32) × (Nat → Int32)) :=
  (if (Mo_failed St) = 0 then
    (if zib ((12 : Int32) + v1) 140 then (if zib (5 : Int32) 140 then (if zib ((upd St_fresh ((12 : Int32) + v1).toNatClampNeg (v2 + (2 : Int32))) (5 : Int32).toNatClampNeg) 8 then (if zib (5 : Int32) 140 then (if zib (5 : Int32) 140 then some (St, (upd (upd St_fresh ((12 : Int32) + v1).toNatClampNeg (v2 + (2 : Int32))) (5 : Int32).toNatClampNeg (((upd St_fresh ((12 : Int32) + v1).toNatClampNeg (v2 + (2 : Int32))) (5 : Int32).toNatClampNeg) + (1 : Int32))), St_letters, (upd St_ordered ((upd St_fresh ((12 : Int32) + v1).toNatClampNeg (v2 + (2 : Int32))) (5 : Int32).toNatClampNeg).toNatClampNeg v1)) else none) else none) else none) else none) else none)
    else
    some (St, St_fresh, St_letters, St_ordered))
set_option maxHeartbeats 4000000 in
set_option maxRecDepth 100000 in
theorem w_X10_seenLine_132 {p : Program} {e : Env} {s : State} {m : MethodId} {below : List Frame} {meth : Method} {c : Code} {A : Nat → Prop} {D : va_G} {cy : Nat → ClassId} {args : Array Value} {r : SMo × (Nat → Int32) × (Nat → Int32) × (Nat → Int32)} (l : Launch) (E : zEn) (ht : Nat → Nat) (St_tape : Nat → Int32) (C : zX p s m meth c cX10_seenLine 3 args RX10 none A D (zty cy)) (hE : zE E A s s.heap) :
    ∀ (St : SMo) (St_fresh : Nat → Int32) (St_letters : Nat → Int32) (St_ordered : Nat → Int32) (v1 : Int32) (v2 : Int32) (H : Heap) (locs : List Loc) (ls : Array Slot), b_X10_seenLine_132 St_tape St St_fresh St_letters St_ordered v1 v2 = some r → va_P D vwCl (wMo ht cy St ++ (wAI (fun _ => ht 4) cy 140 St_fresh ++ (wAI (fun _ => ht 2) cy 8 St_letters ++ (wAI (fun _ => ht 16) cy 8 St_ordered ++ (wAI (fun _ => ht 1) cy 900 St_tape))))) H → va_D A (wMo ht cy St ++ (wAI (fun _ => ht 4) cy 140 St_fresh ++ (wAI (fun _ => ht 2) cy 8 St_letters ++ (wAI (fun _ => ht 16) cy 8 St_ordered ++ (wAI (fun _ => ht 1) cy 900 St_tape))))) → va_S A s.heap H locs → lv_has ls 3 [(0, .ref (ht 0)), (1, .int v1), (2, .int v2)] → W p l e (zRm 5 108) s m args below meth c H locs 0 0 (MQ below (zQV D (zty cy) A (wMo ht cy r.1 ++ (wAI (fun _ => ht 4) cy 140 r.2.1 ++ (wAI (fun _ => ht 2) cy 8 r.2.2.1 ++ (wAI (fun _ => ht 16) cy 8 r.2.2.2 ++ (wAI (fun _ => ht 1) cy 900 St_tape)))))) args s 0 0 A) (F0 m 132 ls []) := by
  obtain ⟨hx, hb, hr, hts, hown, hlocks, hml, hA, hK⟩ := id C
  intro St St_fresh St_letters St_ordered v1 v2 H locs ls hf hP hD hS hl
  refine lv_aload_n hx hb dX10_seenLine_132 rfl (lv_at hl 0 rfl) ?_
  refine va_get (D := D) (ci := 6) (v := .int (Mo_failed St)) (C := RX10) (T := TX10) (N := 41) hx hb hts in_X10 hown hK hP 0 rfl rfl 13 (by decide) (hts _ q6_58) (fun _ h9 => h9) rfl dX10_seenLine_133 ?_
  refine z_if_eq (tgt := 140) hx hb dX10_seenLine_136 (by decide) hf (fun hf => ?_) (fun hf => ?_)
  · refine lv_aload_n hx hb dX10_seenLine_140 rfl (lv_at hl 0 rfl) ?_
    refine va_get (D := D) (ci := 6) (v := .ref (ht 4)) (C := RX10) (T := TX10) (N := 41) hx hb hts in_X10 hown hK hP 0 rfl rfl 16 (by decide) (hts _ q6_61) (fun _ h9 => h9) rfl dX10_seenLine_141 ?_
    refine lv_bipush (v := (12 : Int32)) hx hb dX10_seenLine_144 (by decide) ?_
    refine lv_iload_n hx hb dX10_seenLine_146 rfl (lv_at hl 1 rfl) ?_
    refine lv_iadd hx hb dX10_seenLine_147 ?_
    refine lv_iload_n hx hb dX10_seenLine_148 rfl (lv_at hl 2 rfl) ?_
    refine lv_iconst (v := (2 : Int32)) hx hb dX10_seenLine_149 (by decide) ?_
    refine lv_iadd hx hb dX10_seenLine_150 ?_
    refine z_iast (f := St_fresh) (w2 := wMo ht cy St ++ (wAI (fun _ => ht 4) cy 140 (upd St_fresh ((12 : Int32) + v1).toNatClampNeg (v2 + (2 : Int32))) ++ (wAI (fun _ => ht 2) cy 8 St_letters ++ (wAI (fun _ => ht 16) cy 8 St_ordered ++ (wAI (fun _ => ht 1) cy 900 St_tape))))) hx hb hK hP hD hS 1 0 rfl rfl dX10_seenLine_151 hf rfl (fun hf H locs hP hD hS => ?_)
    refine lv_aload_n hx hb dX10_seenLine_152 rfl (lv_at hl 0 rfl) ?_
    refine va_get (D := D) (ci := 6) (v := .ref (ht 16)) (C := RX10) (T := TX10) (N := 41) hx hb hts in_X10 hown hK hP 0 rfl rfl 32 (by decide) (hts _ q6_77) (fun _ h9 => h9) rfl dX10_seenLine_153 ?_
    refine lv_aload_n hx hb dX10_seenLine_156 rfl (lv_at hl 0 rfl) ?_
    refine va_get (D := D) (ci := 6) (v := .ref (ht 4)) (C := RX10) (T := TX10) (N := 41) hx hb hts in_X10 hown hK hP 0 rfl rfl 16 (by decide) (hts _ q6_61) (fun _ h9 => h9) rfl dX10_seenLine_157 ?_
    refine lv_iconst (v := (5 : Int32)) hx hb dX10_seenLine_160 (by decide) ?_
    refine z_iald (f := (upd St_fresh ((12 : Int32) + v1).toNatClampNeg (v2 + (2 : Int32)))) hx hb hK hP 1 0 rfl rfl dX10_seenLine_161 hf (fun hf => ?_)
    refine lv_iload_n hx hb dX10_seenLine_162 rfl (lv_at hl 1 rfl) ?_
    refine z_iast (f := St_ordered) (w2 := wMo ht cy St ++ (wAI (fun _ => ht 4) cy 140 (upd St_fresh ((12 : Int32) + v1).toNatClampNeg (v2 + (2 : Int32))) ++ (wAI (fun _ => ht 2) cy 8 St_letters ++ (wAI (fun _ => ht 16) cy 8 (upd St_ordered ((upd St_fresh ((12 : Int32) + v1).toNatClampNeg (v2 + (2 : Int32))) (5 : Int32).toNatClampNeg).toNatClampNeg v1) ++ (wAI (fun _ => ht 1) cy 900 St_tape))))) hx hb hK hP hD hS 3 0 rfl rfl dX10_seenLine_163 hf rfl (fun hf H locs hP hD hS => ?_)
    refine lv_aload_n hx hb dX10_seenLine_164 rfl (lv_at hl 0 rfl) ?_
    refine va_get (D := D) (ci := 6) (v := .ref (ht 4)) (C := RX10) (T := TX10) (N := 41) hx hb hts in_X10 hown hK hP 0 rfl rfl 16 (by decide) (hts _ q6_61) (fun _ h9 => h9) rfl dX10_seenLine_165 ?_
    refine lv_iconst (v := (5 : Int32)) hx hb dX10_seenLine_168 (by decide) ?_
    refine lv_dup2_11 hx hb dX10_seenLine_169 rfl rfl ?_
    refine z_iald (f := (upd St_fresh ((12 : Int32) + v1).toNatClampNeg (v2 + (2 : Int32)))) hx hb hK hP 1 0 rfl rfl dX10_seenLine_170 hf (fun hf => ?_)
    refine lv_iconst (v := (1 : Int32)) hx hb dX10_seenLine_171 (by decide) ?_
    refine lv_iadd hx hb dX10_seenLine_172 ?_
    refine z_iast (f := (upd St_fresh ((12 : Int32) + v1).toNatClampNeg (v2 + (2 : Int32)))) (w2 := wMo ht cy St ++ (wAI (fun _ => ht 4) cy 140 (upd (upd St_fresh ((12 : Int32) + v1).toNatClampNeg (v2 + (2 : Int32))) (5 : Int32).toNatClampNeg (((upd St_fresh ((12 : Int32) + v1).toNatClampNeg (v2 + (2 : Int32))) (5 : Int32).toNatClampNeg) + (1 : Int32))) ++ (wAI (fun _ => ht 2) cy 8 St_letters ++ (wAI (fun _ => ht 16) cy 8 (upd St_ordered ((upd St_fresh ((12 : Int32) + v1).toNatClampNeg (v2 + (2 : Int32))) (5 : Int32).toNatClampNeg).toNatClampNeg v1) ++ (wAI (fun _ => ht 1) cy 900 St_tape))))) hx hb hK hP hD hS 1 0 rfl rfl dX10_seenLine_173 hf rfl (fun hf H locs hP hD hS => ?_)
    obtain rfl := Option.some.inj hf
    exact z_vret C hP hD hS dX10_seenLine_174
  · obtain rfl := Option.some.inj hf
    exact z_vret C hP hD hS dX10_seenLine_139
def b_X10_seenLine_93 (St_tape : Nat → Int32) (St : SMo) (St_fresh : Nat → Int32) (St_letters : Nat → Int32) (St_ordered : Nat → Int32) (v1 : Int32) : Option (SMo × (Nat → Int32) × (Nat → Int32) × (Nat → Int32)) :=
  (f_X10_pass St St_letters St_tape).bind (fun q1 =>
    (if (Mo_failed q1.1) = 0 then
      (f_X10_isWord q1.1 q1.2 10).bind (fun q2 =>
        (if q2 = 0 then
          (f_X10_number q1.1 q1.2 St_tape (0 : Int32) (999 : Int32)).bind (fun q3 =>
            (b_X10_seenLine_132 St_tape q3.2.1 St_fresh q3.2.2 St_ordered v1 q3.1))
          else
          (f_X10_step q1.1 q1.2 St_tape).bind (fun q4 =>
            (b_X10_seenLine_132 St_tape q4.1 St_fresh q4.2 St_ordered v1 (-1 : Int32)))))
      else
      some (q1.1, St_fresh, q1.2, St_ordered)))
set_option maxHeartbeats 4000000 in
set_option maxRecDepth 100000 in
theorem w_X10_seenLine_93 {p : Program} {e : Env} {s : State} {m : MethodId} {below : List Frame} {meth : Method} {c : Code} {A : Nat → Prop} {D : va_G} {cy : Nat → ClassId} {args : Array Value} {r : SMo × (Nat → Int32) × (Nat → Int32) × (Nat → Int32)} (l : Launch) (E : zEn) (ht : Nat → Nat) (St_tape : Nat → Int32) (C : zX p s m meth c cX10_seenLine 3 args RX10 none A D (zty cy)) (hE : zE E A s s.heap) :
    ∀ (St : SMo) (St_fresh : Nat → Int32) (St_letters : Nat → Int32) (St_ordered : Nat → Int32) (v1 : Int32) (H : Heap) (locs : List Loc) (ls : Array Slot), b_X10_seenLine_93 St_tape St St_fresh St_letters St_ordered v1 = some r → va_P D vwCl (wMo ht cy St ++ (wAI (fun _ => ht 4) cy 140 St_fresh ++ (wAI (fun _ => ht 2) cy 8 St_letters ++ (wAI (fun _ => ht 16) cy 8 St_ordered ++ (wAI (fun _ => ht 1) cy 900 St_tape))))) H → va_D A (wMo ht cy St ++ (wAI (fun _ => ht 4) cy 140 St_fresh ++ (wAI (fun _ => ht 2) cy 8 St_letters ++ (wAI (fun _ => ht 16) cy 8 St_ordered ++ (wAI (fun _ => ht 1) cy 900 St_tape))))) → va_S A s.heap H locs → lv_has ls 3 [(0, .ref (ht 0)), (1, .int v1)] → W p l e (zRm 5 108) s m args below meth c H locs 0 0 (MQ below (zQV D (zty cy) A (wMo ht cy r.1 ++ (wAI (fun _ => ht 4) cy 140 r.2.1 ++ (wAI (fun _ => ht 2) cy 8 r.2.2.1 ++ (wAI (fun _ => ht 16) cy 8 r.2.2.2 ++ (wAI (fun _ => ht 1) cy 900 St_tape)))))) args s 0 0 A) (F0 m 93 ls []) := by
  obtain ⟨hx, hb, hr, hts, hown, hlocks, hml, hA, hK⟩ := id C
  intro St St_fresh St_letters St_ordered v1 H locs ls hf hP hD hS hl
  refine lv_aload_n hx hb dX10_seenLine_93 rfl (lv_at hl 0 rfl) ?_
  obtain ⟨q1, hc, hf⟩ := zbd hf
  refine z_cVv (As := []) (rest := []) C (c_X10_pass l D cy ht St St_letters St_tape q1 hc) gV_X10_X10_pass hd_X10_pass ⟨Nat.le_of_ble_eq_true rfl, Nat.le_of_ble_eq_true rfl⟩ ⟨Nat.le_refl _, Nat.le_refl _⟩ (va_recv hK hP (ci := 6) (q0 := 0) rfl rfl) hP hD hS (w2 := wMo ht cy q1.1 ++ (wAI (fun _ => ht 4) cy 140 St_fresh ++ (wAI (fun _ => ht 2) cy 8 q1.2 ++ (wAI (fun _ => ht 16) cy 8 St_ordered ++ (wAI (fun _ => ht 1) cy 900 St_tape))))) [0, 2, 4] [1, 3] [2, 0, 3, 1, 4] rfl rfl rfl rfl rfl rfl (by decide) hl.1 (Nat.le_of_ble_eq_true rfl) dX10_seenLine_94 (fun H locs hP hD hS => ?_)
  refine lv_aload_n hx hb dX10_seenLine_97 rfl (lv_at hl 0 rfl) ?_
  refine va_get (D := D) (ci := 6) (v := .int (Mo_failed q1.1)) (C := RX10) (T := TX10) (N := 41) hx hb hts in_X10 hown hK hP 0 rfl rfl 13 (by decide) (hts _ q6_58) (fun _ h9 => h9) rfl dX10_seenLine_98 ?_
  refine z_if_eq (tgt := 105) hx hb dX10_seenLine_101 (by decide) hf (fun hf => ?_) (fun hf => ?_)
  · refine lv_iconst (v := (-1 : Int32)) hx hb dX10_seenLine_105 (by decide) ?_
    refine lv_istore_n (lv' := [(2, .int (-1 : Int32)), (0, .ref (ht 0)), (1, .int v1)]) hx hb dX10_seenLine_106 rfl hl (by decide) rfl (fun ls hl => ?_)
    refine lv_aload_n hx hb dX10_seenLine_107 rfl (lv_at hl 1 rfl) ?_
    refine va_ldcS hx hb hown (hE.2.2.2.2.2.2.2.2.2.1 ("StampedRowsModel", 235, "none", 10) (by decide)) dX10_seenLine_108 ?_
    obtain ⟨q2, hc, hf⟩ := zbd hf
    refine z_cVis (As := [.ref (E.1 10)]) (rest := []) C hE (c_X10_isWord l D cy E ht q1.1 q1.2 10 q2 hc) gV_X10_X10_isWord hd_X10_isWord ⟨Nat.le_of_ble_eq_true rfl, Nat.le_of_ble_eq_true rfl⟩ ⟨Nat.le_refl _, Nat.le_refl _⟩ (va_recv hK hP (ci := 6) (q0 := 0) rfl rfl) hP hD hS (w2 := wMo ht cy q1.1 ++ (wAI (fun _ => ht 4) cy 140 St_fresh ++ (wAI (fun _ => ht 2) cy 8 q1.2 ++ (wAI (fun _ => ht 16) cy 8 St_ordered ++ (wAI (fun _ => ht 1) cy 900 St_tape))))) [0, 2] [1, 3, 4] [3, 0, 4, 1, 2] rfl rfl rfl rfl rfl rfl (by decide) hl.1 (Nat.le_of_ble_eq_true rfl) dX10_seenLine_110 (fun H locs hP hD hS => ?_)
    refine z_if_eq (tgt := 123) hx hb dX10_seenLine_113 (by decide) hf (fun hf => ?_) (fun hf => ?_)
    · refine lv_aload_n hx hb dX10_seenLine_123 rfl (lv_at hl 1 rfl) ?_
      refine lv_iconst (v := (0 : Int32)) hx hb dX10_seenLine_124 (by decide) ?_
      refine lv_sipush (v := (999 : Int32)) hx hb dX10_seenLine_125 (by decide) ?_
      obtain ⟨q3, hc, hf⟩ := zbd hf
      refine z_cVi (As := [.int (0 : Int32), .int (999 : Int32)]) (rest := []) C (c_X10_number l D cy ht q1.1 q1.2 St_tape (0 : Int32) (999 : Int32) q3 hc) gV_X10_X10_number hd_X10_number ⟨Nat.le_of_ble_eq_true rfl, Nat.le_of_ble_eq_true rfl⟩ ⟨Nat.le_refl _, Nat.le_refl _⟩ (va_recv hK hP (ci := 6) (q0 := 0) rfl rfl) hP hD hS (w2 := wMo ht cy q3.2.1 ++ (wAI (fun _ => ht 4) cy 140 St_fresh ++ (wAI (fun _ => ht 2) cy 8 q3.2.2 ++ (wAI (fun _ => ht 16) cy 8 St_ordered ++ (wAI (fun _ => ht 1) cy 900 St_tape))))) [0, 2, 4] [1, 3] [2, 0, 3, 1, 4] rfl rfl rfl rfl rfl rfl (by decide) hl.1 (Nat.le_of_ble_eq_true rfl) dX10_seenLine_128 (fun H locs hP hD hS => ?_)
      refine lv_istore_n (lv' := [(2, .int q3.1), (0, .ref (ht 0)), (1, .int v1)]) hx hb dX10_seenLine_131 rfl hl (by decide) rfl (fun ls hl => ?_)
      exact w_X10_seenLine_132 l E ht St_tape C hE q3.2.1 St_fresh q3.2.2 St_ordered v1 q3.1 H locs ls hf hP hD hS (lv_sub hl [1, 2, 0] rfl)
    · refine lv_aload_n hx hb dX10_seenLine_116 rfl (lv_at hl 1 rfl) ?_
      obtain ⟨q4, hc, hf⟩ := zbd hf
      refine z_cVv (As := []) (rest := []) C (c_X10_step l D cy ht q1.1 q1.2 St_tape q4 hc) gV_X10_X10_step hd_X10_step ⟨Nat.le_of_ble_eq_true rfl, Nat.le_of_ble_eq_true rfl⟩ ⟨Nat.le_refl _, Nat.le_refl _⟩ (va_recv hK hP (ci := 6) (q0 := 0) rfl rfl) hP hD hS (w2 := wMo ht cy q4.1 ++ (wAI (fun _ => ht 4) cy 140 St_fresh ++ (wAI (fun _ => ht 2) cy 8 q4.2 ++ (wAI (fun _ => ht 16) cy 8 St_ordered ++ (wAI (fun _ => ht 1) cy 900 St_tape))))) [0, 2, 4] [1, 3] [2, 0, 3, 1, 4] rfl rfl rfl rfl rfl rfl (by decide) hl.1 (Nat.le_of_ble_eq_true rfl) dX10_seenLine_117 (fun H locs hP hD hS => ?_)
      refine lv_goto (tgt := 132) hx hb dX10_seenLine_120 (by decide) ?_
      exact w_X10_seenLine_132 l E ht St_tape C hE q4.1 St_fresh q4.2 St_ordered v1 (-1 : Int32) H locs ls hf hP hD hS (lv_sub hl [1, 2, 0] rfl)
  · obtain rfl := Option.some.inj hf
    exact z_vret C hP hD hS dX10_seenLine_104
def b_X10_seenLine_60 (St_tape : Nat → Int32) (St : SMo) (St_fresh : Nat → Int32) (St_letters : Nat → Int32) (St_ordered : Nat → Int32) : Option (SMo × (Nat → Int32) × (Nat → Int32) × (Nat → Int32)) :=
  (if (Mo_failed St) = 0 then
    (if zib ((12 : Int32) + (Mo_whole St)) 140 then (if (St_fresh ((12 : Int32) + (Mo_whole St)).toNatClampNeg) ≤ 0 then
        (b_X10_seenLine_93 St_tape St St_fresh St_letters St_ordered (Mo_whole St))
        else
        (f_X10_wrong St (3 : Int32) (Mo_at St)).bind (fun q5 =>
          (b_X10_seenLine_93 St_tape q5 St_fresh St_letters St_ordered (Mo_whole St)))) else none)
    else
    (b_X10_seenLine_93 St_tape St St_fresh St_letters St_ordered (Mo_whole St)))
set_option maxHeartbeats 4000000 in
set_option maxRecDepth 100000 in
theorem w_X10_seenLine_60 {p : Program} {e : Env} {s : State} {m : MethodId} {below : List Frame} {meth : Method} {c : Code} {A : Nat → Prop} {D : va_G} {cy : Nat → ClassId} {args : Array Value} {r : SMo × (Nat → Int32) × (Nat → Int32) × (Nat → Int32)} (l : Launch) (E : zEn) (ht : Nat → Nat) (St_tape : Nat → Int32) (C : zX p s m meth c cX10_seenLine 3 args RX10 none A D (zty cy)) (hE : zE E A s s.heap) :
    ∀ (St : SMo) (St_fresh : Nat → Int32) (St_letters : Nat → Int32) (St_ordered : Nat → Int32) (H : Heap) (locs : List Loc) (ls : Array Slot), b_X10_seenLine_60 St_tape St St_fresh St_letters St_ordered = some r → va_P D vwCl (wMo ht cy St ++ (wAI (fun _ => ht 4) cy 140 St_fresh ++ (wAI (fun _ => ht 2) cy 8 St_letters ++ (wAI (fun _ => ht 16) cy 8 St_ordered ++ (wAI (fun _ => ht 1) cy 900 St_tape))))) H → va_D A (wMo ht cy St ++ (wAI (fun _ => ht 4) cy 140 St_fresh ++ (wAI (fun _ => ht 2) cy 8 St_letters ++ (wAI (fun _ => ht 16) cy 8 St_ordered ++ (wAI (fun _ => ht 1) cy 900 St_tape))))) → va_S A s.heap H locs → lv_has ls 3 [(0, .ref (ht 0))] → W p l e (zRm 5 108) s m args below meth c H locs 0 0 (MQ below (zQV D (zty cy) A (wMo ht cy r.1 ++ (wAI (fun _ => ht 4) cy 140 r.2.1 ++ (wAI (fun _ => ht 2) cy 8 r.2.2.1 ++ (wAI (fun _ => ht 16) cy 8 r.2.2.2 ++ (wAI (fun _ => ht 1) cy 900 St_tape)))))) args s 0 0 A) (F0 m 60 ls []) := by
  obtain ⟨hx, hb, hr, hts, hown, hlocks, hml, hA, hK⟩ := id C
  intro St St_fresh St_letters St_ordered H locs ls hf hP hD hS hl
  refine lv_aload_n hx hb dX10_seenLine_60 rfl (lv_at hl 0 rfl) ?_
  refine va_get (D := D) (ci := 6) (v := .int (Mo_whole St)) (C := RX10) (T := TX10) (N := 41) hx hb hts in_X10 hown hK hP 0 rfl rfl 7 (by decide) (hts _ q6_52) (fun _ h9 => h9) rfl dX10_seenLine_61 ?_
  refine lv_istore_n (lv' := [(1, .int (Mo_whole St)), (0, .ref (ht 0))]) hx hb dX10_seenLine_64 rfl hl (by decide) rfl (fun ls hl => ?_)
  refine lv_aload_n hx hb dX10_seenLine_65 rfl (lv_at hl 1 rfl) ?_
  refine va_get (D := D) (ci := 6) (v := .int (Mo_failed St)) (C := RX10) (T := TX10) (N := 41) hx hb hts in_X10 hown hK hP 0 rfl rfl 13 (by decide) (hts _ q6_58) (fun _ h9 => h9) rfl dX10_seenLine_66 ?_
  refine z_if_ne (tgt := 93) hx hb dX10_seenLine_69 (by decide) hf (fun hf => ?_) (fun hf => ?_)
  · exact w_X10_seenLine_93 l E ht St_tape C hE St St_fresh St_letters St_ordered (Mo_whole St) H locs ls hf hP hD hS (lv_sub hl [1, 0] rfl)
  · refine lv_aload_n hx hb dX10_seenLine_72 rfl (lv_at hl 1 rfl) ?_
    refine va_get (D := D) (ci := 6) (v := .ref (ht 4)) (C := RX10) (T := TX10) (N := 41) hx hb hts in_X10 hown hK hP 0 rfl rfl 16 (by decide) (hts _ q6_61) (fun _ h9 => h9) rfl dX10_seenLine_73 ?_
    refine lv_bipush (v := (12 : Int32)) hx hb dX10_seenLine_76 (by decide) ?_
    refine lv_iload_n hx hb dX10_seenLine_78 rfl (lv_at hl 0 rfl) ?_
    refine lv_iadd hx hb dX10_seenLine_79 ?_
    refine z_iald (f := St_fresh) hx hb hK hP 1 0 rfl rfl dX10_seenLine_80 hf (fun hf => ?_)
    refine z_if_le (tgt := 93) hx hb dX10_seenLine_81 (by decide) hf (fun hf => ?_) (fun hf => ?_)
    · exact w_X10_seenLine_93 l E ht St_tape C hE St St_fresh St_letters St_ordered (Mo_whole St) H locs ls hf hP hD hS (lv_sub hl [1, 0] rfl)
    · refine lv_aload_n hx hb dX10_seenLine_84 rfl (lv_at hl 1 rfl) ?_
      refine lv_iconst (v := (3 : Int32)) hx hb dX10_seenLine_85 (by decide) ?_
      refine lv_aload_n hx hb dX10_seenLine_86 rfl (lv_at hl 1 rfl) ?_
      refine va_get (D := D) (ci := 6) (v := .int (Mo_at St)) (C := RX10) (T := TX10) (N := 41) hx hb hts in_X10 hown hK hP 0 rfl rfl 4 (by decide) (hts _ q6_49) (fun _ h9 => h9) rfl dX10_seenLine_87 ?_
      obtain ⟨q5, hc, hf⟩ := zbd hf
      refine z_cVv (As := [.int (3 : Int32), .int (Mo_at St)]) (rest := []) C (c_X10_wrong l D cy ht St (3 : Int32) (Mo_at St) q5 hc) gV_X10_X10_wrong hd_X10_wrong ⟨Nat.le_of_ble_eq_true rfl, Nat.le_of_ble_eq_true rfl⟩ ⟨Nat.le_refl _, Nat.le_refl _⟩ (va_recv hK hP (ci := 6) (q0 := 0) rfl rfl) hP hD hS (w2 := wMo ht cy q5 ++ (wAI (fun _ => ht 4) cy 140 St_fresh ++ (wAI (fun _ => ht 2) cy 8 St_letters ++ (wAI (fun _ => ht 16) cy 8 St_ordered ++ (wAI (fun _ => ht 1) cy 900 St_tape))))) [0] [1, 2, 3, 4] [4, 0, 1, 2, 3] rfl rfl rfl rfl rfl rfl (by decide) hl.1 (Nat.le_of_ble_eq_true rfl) dX10_seenLine_90 (fun H locs hP hD hS => ?_)
      exact w_X10_seenLine_93 l E ht St_tape C hE q5 St_fresh St_letters St_ordered (Mo_whole St) H locs ls hf hP hD hS (lv_sub hl [1, 0] rfl)
def f_X10_seenLine (St : SMo) (St_fresh : Nat → Int32) (St_letters : Nat → Int32) (St_ordered : Nat → Int32) (St_tape : Nat → Int32) : Option (SMo × (Nat → Int32) × (Nat → Int32) × (Nat → Int32)) :=
  (f_X10_step St St_letters St_tape).bind (fun q6 =>
    (if (Mo_failed q6.1) = 0 then
      (if (Mo_token q6.1) = (3 : Int32) then
        (if zib (1 : Int32) 140 then (f_X10_in (Mo_whole q6.1) (0 : Int32) ((St_fresh (1 : Int32).toNatClampNeg) - (1 : Int32))).bind (fun q7 =>
            (if q7 = 0 then
              (f_X10_wrong q6.1 (4 : Int32) (Mo_at q6.1)).bind (fun q8 =>
                (b_X10_seenLine_60 St_tape q8 St_fresh q6.2 St_ordered))
              else
              (b_X10_seenLine_60 St_tape q6.1 St_fresh q6.2 St_ordered))) else none)
        else
        (f_X10_wrong q6.1 (1 : Int32) (Mo_at q6.1)).bind (fun q9 =>
          (b_X10_seenLine_60 St_tape q9 St_fresh q6.2 St_ordered)))
      else
      some (q6.1, St_fresh, q6.2, St_ordered)))
set_option maxHeartbeats 4000000 in
set_option maxRecDepth 100000 in
theorem c_X10_seenLine (l : Launch) (D : va_G) (cy : Nat → ClassId) (E : zEn) (ht : Nat → Nat) (St : SMo) (St_fresh : Nat → Int32) (St_letters : Nat → Int32) (St_ordered : Nat → Int32) (St_tape : Nat → Int32) (r : SMo × (Nat → Int32) × (Nat → Int32) × (Nat → Int32)) (hf : f_X10_seenLine St St_fresh St_letters St_ordered St_tape = some r) : zCVs l yX10_seenLine cX10_seenLine 3 none 5 108 D (zty cy) E [.ref (ht 0)] (wMo ht cy St ++ (wAI (fun _ => ht 4) cy 140 St_fresh ++ (wAI (fun _ => ht 2) cy 8 St_letters ++ (wAI (fun _ => ht 16) cy 8 St_ordered ++ (wAI (fun _ => ht 1) cy 900 St_tape))))) (wMo ht cy r.1 ++ (wAI (fun _ => ht 4) cy 140 r.2.1 ++ (wAI (fun _ => ht 2) cy 8 r.2.2.1 ++ (wAI (fun _ => ht 16) cy 8 r.2.2.2 ++ (wAI (fun _ => ht 1) cy 900 St_tape))))) := by
  refine zCVs_of (by decide +kernel) (Nat.le_of_ble_eq_true rfl) ?_
  intro p e s m below meth c A ls C hE hP hD hS hl
  generalize hargs : ([.ref (ht 0)] : List Value).toArray = args at C ⊢
  have C : zX p s m meth c cX10_seenLine 3 args RX10 none A D (zty cy) := C
  obtain ⟨hx, hb, hr, hts, hown, hlocks, hml, hA, hK⟩ := id C
  have hl : lv_has ls 3 [(0, .ref (ht 0))] := hl
  generalize hH : s.heap = H at hP ⊢
  have hS : va_S A s.heap H [] := by rw [← hH]; exact hS
  generalize ([] : List Loc) = locs at hS ⊢
  refine lv_aload_n hx hb dX10_seenLine_0 rfl (lv_at hl 0 rfl) ?_
  obtain ⟨q6, hc, hf⟩ := zbd hf
  refine z_cVv (As := []) (rest := []) C (c_X10_step l D cy ht St St_letters St_tape q6 hc) gV_X10_X10_step hd_X10_step ⟨Nat.le_of_ble_eq_true rfl, Nat.le_of_ble_eq_true rfl⟩ ⟨Nat.le_refl _, Nat.le_refl _⟩ (va_recv hK hP (ci := 6) (q0 := 0) rfl rfl) hP hD hS (w2 := wMo ht cy q6.1 ++ (wAI (fun _ => ht 4) cy 140 St_fresh ++ (wAI (fun _ => ht 2) cy 8 q6.2 ++ (wAI (fun _ => ht 16) cy 8 St_ordered ++ (wAI (fun _ => ht 1) cy 900 St_tape))))) [0, 2, 4] [1, 3] [2, 0, 3, 1, 4] rfl rfl rfl rfl rfl rfl (by decide) hl.1 (Nat.le_of_ble_eq_true rfl) dX10_seenLine_1 (fun H locs hP hD hS => ?_)
  refine lv_aload_n hx hb dX10_seenLine_4 rfl (lv_at hl 0 rfl) ?_
  refine va_get (D := D) (ci := 6) (v := .int (Mo_failed q6.1)) (C := RX10) (T := TX10) (N := 41) hx hb hts in_X10 hown hK hP 0 rfl rfl 13 (by decide) (hts _ q6_58) (fun _ h9 => h9) rfl dX10_seenLine_5 ?_
  refine z_if_eq (tgt := 12) hx hb dX10_seenLine_8 (by decide) hf (fun hf => ?_) (fun hf => ?_)
  · refine lv_aload_n hx hb dX10_seenLine_12 rfl (lv_at hl 0 rfl) ?_
    refine va_get (D := D) (ci := 6) (v := .int (Mo_token q6.1)) (C := RX10) (T := TX10) (N := 41) hx hb hts in_X10 hown hK hP 0 rfl rfl 6 (by decide) (hts _ q6_51) (fun _ h9 => h9) rfl dX10_seenLine_13 ?_
    refine lv_iconst (v := (3 : Int32)) hx hb dX10_seenLine_16 (by decide) ?_
    refine z_icmp_eq (tgt := 32) hx hb dX10_seenLine_17 (by decide) hf (fun hf => ?_) (fun hf => ?_)
    · refine lv_aload_n hx hb dX10_seenLine_32 rfl (lv_at hl 0 rfl) ?_
      refine va_get (D := D) (ci := 6) (v := .int (Mo_whole q6.1)) (C := RX10) (T := TX10) (N := 41) hx hb hts in_X10 hown hK hP 0 rfl rfl 7 (by decide) (hts _ q6_52) (fun _ h9 => h9) rfl dX10_seenLine_33 ?_
      refine lv_iconst (v := (0 : Int32)) hx hb dX10_seenLine_36 (by decide) ?_
      refine lv_aload_n hx hb dX10_seenLine_37 rfl (lv_at hl 0 rfl) ?_
      refine va_get (D := D) (ci := 6) (v := .ref (ht 4)) (C := RX10) (T := TX10) (N := 41) hx hb hts in_X10 hown hK hP 0 rfl rfl 16 (by decide) (hts _ q6_61) (fun _ h9 => h9) rfl dX10_seenLine_38 ?_
      refine lv_iconst (v := (1 : Int32)) hx hb dX10_seenLine_41 (by decide) ?_
      refine z_iald (f := St_fresh) hx hb hK hP 1 0 rfl rfl dX10_seenLine_42 hf (fun hf => ?_)
      refine lv_iconst (v := (1 : Int32)) hx hb dX10_seenLine_43 (by decide) ?_
      refine lv_isub hx hb dX10_seenLine_44 ?_
      obtain ⟨q7, hc, hf⟩ := zbd hf
      refine z_cSiE (As := [.int (Mo_whole q6.1), .int (0 : Int32), .int ((St_fresh (1 : Int32).toNatClampNeg) - (1 : Int32))]) (rest := []) C (c_X10_in l D cy (Mo_whole q6.1) (0 : Int32) ((St_fresh (1 : Int32).toNatClampNeg) - (1 : Int32)) q7 hc) gS_X10_X10_in hd_X10_in ⟨Nat.le_of_ble_eq_true rfl, Nat.le_of_ble_eq_true rfl⟩ ⟨Nat.le_refl _, Nat.le_refl _⟩ hP hD hS hl.1 (Nat.le_of_ble_eq_true rfl) dX10_seenLine_45 (fun H locs hP hD hS => ?_)
      refine z_if_ne (tgt := 60) hx hb dX10_seenLine_48 (by decide) hf (fun hf => ?_) (fun hf => ?_)
      · exact w_X10_seenLine_60 l E ht St_tape C hE q6.1 St_fresh q6.2 St_ordered H locs ls hf hP hD hS (lv_sub hl [0] rfl)
      · refine lv_aload_n hx hb dX10_seenLine_51 rfl (lv_at hl 0 rfl) ?_
        refine lv_iconst (v := (4 : Int32)) hx hb dX10_seenLine_52 (by decide) ?_
        refine lv_aload_n hx hb dX10_seenLine_53 rfl (lv_at hl 0 rfl) ?_
        refine va_get (D := D) (ci := 6) (v := .int (Mo_at q6.1)) (C := RX10) (T := TX10) (N := 41) hx hb hts in_X10 hown hK hP 0 rfl rfl 4 (by decide) (hts _ q6_49) (fun _ h9 => h9) rfl dX10_seenLine_54 ?_
        obtain ⟨q8, hc, hf⟩ := zbd hf
        refine z_cVv (As := [.int (4 : Int32), .int (Mo_at q6.1)]) (rest := []) C (c_X10_wrong l D cy ht q6.1 (4 : Int32) (Mo_at q6.1) q8 hc) gV_X10_X10_wrong hd_X10_wrong ⟨Nat.le_of_ble_eq_true rfl, Nat.le_of_ble_eq_true rfl⟩ ⟨Nat.le_refl _, Nat.le_refl _⟩ (va_recv hK hP (ci := 6) (q0 := 0) rfl rfl) hP hD hS (w2 := wMo ht cy q8 ++ (wAI (fun _ => ht 4) cy 140 St_fresh ++ (wAI (fun _ => ht 2) cy 8 q6.2 ++ (wAI (fun _ => ht 16) cy 8 St_ordered ++ (wAI (fun _ => ht 1) cy 900 St_tape))))) [0] [1, 2, 3, 4] [4, 0, 1, 2, 3] rfl rfl rfl rfl rfl rfl (by decide) hl.1 (Nat.le_of_ble_eq_true rfl) dX10_seenLine_57 (fun H locs hP hD hS => ?_)
        exact w_X10_seenLine_60 l E ht St_tape C hE q8 St_fresh q6.2 St_ordered H locs ls hf hP hD hS (lv_sub hl [0] rfl)
    · refine lv_aload_n hx hb dX10_seenLine_20 rfl (lv_at hl 0 rfl) ?_
      refine lv_iconst (v := (1 : Int32)) hx hb dX10_seenLine_21 (by decide) ?_
      refine lv_aload_n hx hb dX10_seenLine_22 rfl (lv_at hl 0 rfl) ?_
      refine va_get (D := D) (ci := 6) (v := .int (Mo_at q6.1)) (C := RX10) (T := TX10) (N := 41) hx hb hts in_X10 hown hK hP 0 rfl rfl 4 (by decide) (hts _ q6_49) (fun _ h9 => h9) rfl dX10_seenLine_23 ?_
      obtain ⟨q9, hc, hf⟩ := zbd hf
      refine z_cVv (As := [.int (1 : Int32), .int (Mo_at q6.1)]) (rest := []) C (c_X10_wrong l D cy ht q6.1 (1 : Int32) (Mo_at q6.1) q9 hc) gV_X10_X10_wrong hd_X10_wrong ⟨Nat.le_of_ble_eq_true rfl, Nat.le_of_ble_eq_true rfl⟩ ⟨Nat.le_refl _, Nat.le_refl _⟩ (va_recv hK hP (ci := 6) (q0 := 0) rfl rfl) hP hD hS (w2 := wMo ht cy q9 ++ (wAI (fun _ => ht 4) cy 140 St_fresh ++ (wAI (fun _ => ht 2) cy 8 q6.2 ++ (wAI (fun _ => ht 16) cy 8 St_ordered ++ (wAI (fun _ => ht 1) cy 900 St_tape))))) [0] [1, 2, 3, 4] [4, 0, 1, 2, 3] rfl rfl rfl rfl rfl rfl (by decide) hl.1 (Nat.le_of_ble_eq_true rfl) dX10_seenLine_26 (fun H locs hP hD hS => ?_)
      refine lv_goto (tgt := 60) hx hb dX10_seenLine_29 (by decide) ?_
      exact w_X10_seenLine_60 l E ht St_tape C hE q9 St_fresh q6.2 St_ordered H locs ls hf hP hD hS (lv_sub hl [0] rfl)
  · obtain rfl := Option.some.inj hf
    exact z_vret C hP hD hS dX10_seenLine_11
def b_X10_readLine_107 (St_tape : Nat → Int32) (St : SMo) (St_fresh : Nat → Int32) (St_letters : Nat → Int32) (St_marked : Nat → Int32) (St_ordered : Nat → Int32) (St_owner : Nat → Int32) (St_read : Nat → Int32) (St_slots : Nat → Int32) : Option (SMo × (Nat → Int32) × (Nat → Int32) × (Nat → Int32) × (Nat → Int32) × (Nat → Int32) × (Nat → Int32) × (Nat → Int32)) :=
  (f_X10_isWord St St_letters 1).bind (fun q1 =>
    (if q1 = 0 then
      (f_X10_isWord St St_letters 2).bind (fun q2 =>
        (if q2 = 0 then
          (f_X10_isWord St St_letters 3).bind (fun q3 =>
            (if q3 = 0 then
              (f_X10_isWord St St_letters 4).bind (fun q4 =>
                (if q4 = 0 then
                  (f_X10_isWord St St_letters 5).bind (fun q5 =>
                    (if q5 = 0 then
                      (f_X10_isWord St St_letters 6).bind (fun q6 =>
                        (if q6 = 0 then
                          (f_X10_isWord St St_letters 7).bind (fun q7 =>
                            (if q7 = 0 then
                              (f_X10_isWord St St_letters 8).bind (fun q8 =>
                                (if q8 = 0 then
                                  (f_X10_isWord St St_letters 9).bind (fun q9 =>
                                    (if q9 = 0 then
                                      some (St, St_fresh, St_letters, St_marked, St_ordered, St_owner, St_read, St_slots)
                                      else
                                      (f_X10_seenLine St St_fresh St_letters St_ordered St_tape).bind (fun q10 =>
                                        some (q10.1, q10.2.1, q10.2.2.1, St_marked, q10.2.2.2, St_owner, St_read, St_slots))))
                                  else
                                  (f_X10_unsureLine St St_fresh St_letters St_slots St_tape).bind (fun q11 =>
                                    some (q11.1, q11.2.1, q11.2.2, St_marked, St_ordered, St_owner, St_read, St_slots))))
                              else
                              (f_X10_allLine St St_letters St_marked St_read St_tape (0 : Int32)).bind (fun q12 =>
                                some (q12.1, St_fresh, q12.2.1, q12.2.2.1, St_ordered, St_owner, q12.2.2.2, St_slots))))
                          else
                          (f_X10_allLine St St_letters St_marked St_read St_tape (1 : Int32)).bind (fun q13 =>
                            some (q13.1, St_fresh, q13.2.1, q13.2.2.1, St_ordered, St_owner, q13.2.2.2, St_slots))))
                      else
                      (f_X10_endLine St St_fresh St_letters St_read St_slots St_tape (3 : Int32)).bind (fun q14 =>
                        some (q14.1, St_fresh, q14.2.1, St_marked, St_ordered, St_owner, q14.2.2.1, q14.2.2.2))))
                  else
                  (f_X10_endLine St St_fresh St_letters St_read St_slots St_tape (2 : Int32)).bind (fun q15 =>
                    some (q15.1, St_fresh, q15.2.1, St_marked, St_ordered, St_owner, q15.2.2.1, q15.2.2.2))))
              else
              (f_X10_putLine St St_fresh St_letters St_read St_slots St_tape (0 : Int32)).bind (fun q16 =>
                some (q16.1, St_fresh, q16.2.1, St_marked, St_ordered, St_owner, q16.2.2, St_slots))))
          else
          (f_X10_putLine St St_fresh St_letters St_read St_slots St_tape (1 : Int32)).bind (fun q17 =>
            some (q17.1, St_fresh, q17.2.1, St_marked, St_ordered, St_owner, q17.2.2, St_slots))))
      else
      (f_X10_beginLine St St_fresh St_letters St_owner St_read St_slots St_tape).bind (fun q18 =>
        some (q18.1, q18.2.1, q18.2.2.1, St_marked, St_ordered, q18.2.2.2.1, q18.2.2.2.2.1, q18.2.2.2.2.2))))
set_option maxHeartbeats 4000000 in
set_option maxRecDepth 100000 in
theorem w_X10_readLine_107 {p : Program} {e : Env} {s : State} {m : MethodId} {below : List Frame} {meth : Method} {c : Code} {A : Nat → Prop} {D : va_G} {cy : Nat → ClassId} {args : Array Value} {r : SMo × (Nat → Int32) × (Nat → Int32) × (Nat → Int32) × (Nat → Int32) × (Nat → Int32) × (Nat → Int32) × (Nat → Int32)} (l : Launch) (E : zEn) (ht : Nat → Nat) (St_tape : Nat → Int32) (C : zX p s m meth c cX10_readLine 1 args RX10 none A D (zty cy)) (hE : zE E A s s.heap) :
    ∀ (St : SMo) (St_fresh : Nat → Int32) (St_letters : Nat → Int32) (St_marked : Nat → Int32) (St_ordered : Nat → Int32) (St_owner : Nat → Int32) (St_read : Nat → Int32) (St_slots : Nat → Int32) (H : Heap) (locs : List Loc) (ls : Array Slot), b_X10_readLine_107 St_tape St St_fresh St_letters St_marked St_ordered St_owner St_read St_slots = some r → va_P D vwCl (wMo ht cy St ++ (wAI (fun _ => ht 4) cy 140 St_fresh ++ (wAI (fun _ => ht 2) cy 8 St_letters ++ (wAI (fun _ => ht 13) cy 48 St_marked ++ (wAI (fun _ => ht 16) cy 8 St_ordered ++ (wAI (fun _ => ht 7) cy 64 St_owner ++ (wAI (fun _ => ht 6) cy 325 St_read ++ (wAI (fun _ => ht 14) cy 12 St_slots ++ (wAI (fun _ => ht 1) cy 900 St_tape))))))))) H → va_D A (wMo ht cy St ++ (wAI (fun _ => ht 4) cy 140 St_fresh ++ (wAI (fun _ => ht 2) cy 8 St_letters ++ (wAI (fun _ => ht 13) cy 48 St_marked ++ (wAI (fun _ => ht 16) cy 8 St_ordered ++ (wAI (fun _ => ht 7) cy 64 St_owner ++ (wAI (fun _ => ht 6) cy 325 St_read ++ (wAI (fun _ => ht 14) cy 12 St_slots ++ (wAI (fun _ => ht 1) cy 900 St_tape))))))))) → va_S A s.heap H locs → lv_has ls 1 [(0, .ref (ht 0))] → W p l e (zRm 9 221) s m args below meth c H locs 0 0 (MQ below (zQV D (zty cy) A (wMo ht cy r.1 ++ (wAI (fun _ => ht 4) cy 140 r.2.1 ++ (wAI (fun _ => ht 2) cy 8 r.2.2.1 ++ (wAI (fun _ => ht 13) cy 48 r.2.2.2.1 ++ (wAI (fun _ => ht 16) cy 8 r.2.2.2.2.1 ++ (wAI (fun _ => ht 7) cy 64 r.2.2.2.2.2.1 ++ (wAI (fun _ => ht 6) cy 325 r.2.2.2.2.2.2.1 ++ (wAI (fun _ => ht 14) cy 12 r.2.2.2.2.2.2.2 ++ (wAI (fun _ => ht 1) cy 900 St_tape)))))))))) args s 0 0 A) (F0 m 107 ls []) := by
  obtain ⟨hx, hb, hr, hts, hown, hlocks, hml, hA, hK⟩ := id C
  intro St St_fresh St_letters St_marked St_ordered St_owner St_read St_slots H locs ls hf hP hD hS hl
  refine lv_aload_n hx hb dX10_readLine_107 rfl (lv_at hl 0 rfl) ?_
  refine va_ldcS hx hb hown (hE.2.2.2.2.2.2.2.2.2.1 ("StampedRowsModel", 213, "begin", 1) (by decide)) dX10_readLine_108 ?_
  obtain ⟨q1, hc, hf⟩ := zbd hf
  refine z_cVis (As := [.ref (E.1 1)]) (rest := []) C hE (c_X10_isWord l D cy E ht St St_letters 1 q1 hc) gV_X10_X10_isWord hd_X10_isWord ⟨Nat.le_of_ble_eq_true rfl, Nat.le_of_ble_eq_true rfl⟩ ⟨Nat.le_refl _, Nat.le_refl _⟩ (va_recv hK hP (ci := 6) (q0 := 0) rfl rfl) hP hD hS (w2 := wMo ht cy St ++ (wAI (fun _ => ht 4) cy 140 St_fresh ++ (wAI (fun _ => ht 2) cy 8 St_letters ++ (wAI (fun _ => ht 13) cy 48 St_marked ++ (wAI (fun _ => ht 16) cy 8 St_ordered ++ (wAI (fun _ => ht 7) cy 64 St_owner ++ (wAI (fun _ => ht 6) cy 325 St_read ++ (wAI (fun _ => ht 14) cy 12 St_slots ++ (wAI (fun _ => ht 1) cy 900 St_tape))))))))) [0, 2] [1, 3, 4, 5, 6, 7, 8] [7, 0, 8, 1, 2, 3, 4, 5, 6] rfl rfl rfl rfl rfl rfl (by decide) hl.1 (Nat.le_of_ble_eq_true rfl) dX10_readLine_110 (fun H locs hP hD hS => ?_)
  refine z_if_eq (tgt := 123) hx hb dX10_readLine_113 (by decide) hf (fun hf => ?_) (fun hf => ?_)
  · refine lv_aload_n hx hb dX10_readLine_123 rfl (lv_at hl 0 rfl) ?_
    refine va_ldcS hx hb hown (hE.2.2.2.2.2.2.2.2.2.1 ("StampedRowsModel", 215, "put", 2) (by decide)) dX10_readLine_124 ?_
    obtain ⟨q2, hc, hf⟩ := zbd hf
    refine z_cVis (As := [.ref (E.1 2)]) (rest := []) C hE (c_X10_isWord l D cy E ht St St_letters 2 q2 hc) gV_X10_X10_isWord hd_X10_isWord ⟨Nat.le_of_ble_eq_true rfl, Nat.le_of_ble_eq_true rfl⟩ ⟨Nat.le_refl _, Nat.le_refl _⟩ (va_recv hK hP (ci := 6) (q0 := 0) rfl rfl) hP hD hS (w2 := wMo ht cy St ++ (wAI (fun _ => ht 4) cy 140 St_fresh ++ (wAI (fun _ => ht 2) cy 8 St_letters ++ (wAI (fun _ => ht 13) cy 48 St_marked ++ (wAI (fun _ => ht 16) cy 8 St_ordered ++ (wAI (fun _ => ht 7) cy 64 St_owner ++ (wAI (fun _ => ht 6) cy 325 St_read ++ (wAI (fun _ => ht 14) cy 12 St_slots ++ (wAI (fun _ => ht 1) cy 900 St_tape))))))))) [0, 2] [1, 3, 4, 5, 6, 7, 8] [7, 0, 8, 1, 2, 3, 4, 5, 6] rfl rfl rfl rfl rfl rfl (by decide) hl.1 (Nat.le_of_ble_eq_true rfl) dX10_readLine_126 (fun H locs hP hD hS => ?_)
    refine z_if_eq (tgt := 140) hx hb dX10_readLine_129 (by decide) hf (fun hf => ?_) (fun hf => ?_)
    · refine lv_aload_n hx hb dX10_readLine_140 rfl (lv_at hl 0 rfl) ?_
      refine va_ldcS hx hb hown (hE.2.2.2.2.2.2.2.2.2.1 ("StampedRowsModel", 217, "drop", 3) (by decide)) dX10_readLine_141 ?_
      obtain ⟨q3, hc, hf⟩ := zbd hf
      refine z_cVis (As := [.ref (E.1 3)]) (rest := []) C hE (c_X10_isWord l D cy E ht St St_letters 3 q3 hc) gV_X10_X10_isWord hd_X10_isWord ⟨Nat.le_of_ble_eq_true rfl, Nat.le_of_ble_eq_true rfl⟩ ⟨Nat.le_refl _, Nat.le_refl _⟩ (va_recv hK hP (ci := 6) (q0 := 0) rfl rfl) hP hD hS (w2 := wMo ht cy St ++ (wAI (fun _ => ht 4) cy 140 St_fresh ++ (wAI (fun _ => ht 2) cy 8 St_letters ++ (wAI (fun _ => ht 13) cy 48 St_marked ++ (wAI (fun _ => ht 16) cy 8 St_ordered ++ (wAI (fun _ => ht 7) cy 64 St_owner ++ (wAI (fun _ => ht 6) cy 325 St_read ++ (wAI (fun _ => ht 14) cy 12 St_slots ++ (wAI (fun _ => ht 1) cy 900 St_tape))))))))) [0, 2] [1, 3, 4, 5, 6, 7, 8] [7, 0, 8, 1, 2, 3, 4, 5, 6] rfl rfl rfl rfl rfl rfl (by decide) hl.1 (Nat.le_of_ble_eq_true rfl) dX10_readLine_143 (fun H locs hP hD hS => ?_)
      refine z_if_eq (tgt := 157) hx hb dX10_readLine_146 (by decide) hf (fun hf => ?_) (fun hf => ?_)
      · refine lv_aload_n hx hb dX10_readLine_157 rfl (lv_at hl 0 rfl) ?_
        refine va_ldcS hx hb hown (hE.2.2.2.2.2.2.2.2.2.1 ("StampedRowsModel", 219, "done", 4) (by decide)) dX10_readLine_158 ?_
        obtain ⟨q4, hc, hf⟩ := zbd hf
        refine z_cVis (As := [.ref (E.1 4)]) (rest := []) C hE (c_X10_isWord l D cy E ht St St_letters 4 q4 hc) gV_X10_X10_isWord hd_X10_isWord ⟨Nat.le_of_ble_eq_true rfl, Nat.le_of_ble_eq_true rfl⟩ ⟨Nat.le_refl _, Nat.le_refl _⟩ (va_recv hK hP (ci := 6) (q0 := 0) rfl rfl) hP hD hS (w2 := wMo ht cy St ++ (wAI (fun _ => ht 4) cy 140 St_fresh ++ (wAI (fun _ => ht 2) cy 8 St_letters ++ (wAI (fun _ => ht 13) cy 48 St_marked ++ (wAI (fun _ => ht 16) cy 8 St_ordered ++ (wAI (fun _ => ht 7) cy 64 St_owner ++ (wAI (fun _ => ht 6) cy 325 St_read ++ (wAI (fun _ => ht 14) cy 12 St_slots ++ (wAI (fun _ => ht 1) cy 900 St_tape))))))))) [0, 2] [1, 3, 4, 5, 6, 7, 8] [7, 0, 8, 1, 2, 3, 4, 5, 6] rfl rfl rfl rfl rfl rfl (by decide) hl.1 (Nat.le_of_ble_eq_true rfl) dX10_readLine_160 (fun H locs hP hD hS => ?_)
        refine z_if_eq (tgt := 174) hx hb dX10_readLine_163 (by decide) hf (fun hf => ?_) (fun hf => ?_)
        · refine lv_aload_n hx hb dX10_readLine_174 rfl (lv_at hl 0 rfl) ?_
          refine va_ldcS hx hb hown (hE.2.2.2.2.2.2.2.2.2.1 ("StampedRowsModel", 221, "gone", 5) (by decide)) dX10_readLine_175 ?_
          obtain ⟨q5, hc, hf⟩ := zbd hf
          refine z_cVis (As := [.ref (E.1 5)]) (rest := []) C hE (c_X10_isWord l D cy E ht St St_letters 5 q5 hc) gV_X10_X10_isWord hd_X10_isWord ⟨Nat.le_of_ble_eq_true rfl, Nat.le_of_ble_eq_true rfl⟩ ⟨Nat.le_refl _, Nat.le_refl _⟩ (va_recv hK hP (ci := 6) (q0 := 0) rfl rfl) hP hD hS (w2 := wMo ht cy St ++ (wAI (fun _ => ht 4) cy 140 St_fresh ++ (wAI (fun _ => ht 2) cy 8 St_letters ++ (wAI (fun _ => ht 13) cy 48 St_marked ++ (wAI (fun _ => ht 16) cy 8 St_ordered ++ (wAI (fun _ => ht 7) cy 64 St_owner ++ (wAI (fun _ => ht 6) cy 325 St_read ++ (wAI (fun _ => ht 14) cy 12 St_slots ++ (wAI (fun _ => ht 1) cy 900 St_tape))))))))) [0, 2] [1, 3, 4, 5, 6, 7, 8] [7, 0, 8, 1, 2, 3, 4, 5, 6] rfl rfl rfl rfl rfl rfl (by decide) hl.1 (Nat.le_of_ble_eq_true rfl) dX10_readLine_177 (fun H locs hP hD hS => ?_)
          refine z_if_eq (tgt := 191) hx hb dX10_readLine_180 (by decide) hf (fun hf => ?_) (fun hf => ?_)
          · refine lv_aload_n hx hb dX10_readLine_191 rfl (lv_at hl 0 rfl) ?_
            refine va_ldcS hx hb hown (hE.2.2.2.2.2.2.2.2.2.1 ("StampedRowsModel", 223, "clear", 6) (by decide)) dX10_readLine_192 ?_
            obtain ⟨q6, hc, hf⟩ := zbd hf
            refine z_cVis (As := [.ref (E.1 6)]) (rest := []) C hE (c_X10_isWord l D cy E ht St St_letters 6 q6 hc) gV_X10_X10_isWord hd_X10_isWord ⟨Nat.le_of_ble_eq_true rfl, Nat.le_of_ble_eq_true rfl⟩ ⟨Nat.le_refl _, Nat.le_refl _⟩ (va_recv hK hP (ci := 6) (q0 := 0) rfl rfl) hP hD hS (w2 := wMo ht cy St ++ (wAI (fun _ => ht 4) cy 140 St_fresh ++ (wAI (fun _ => ht 2) cy 8 St_letters ++ (wAI (fun _ => ht 13) cy 48 St_marked ++ (wAI (fun _ => ht 16) cy 8 St_ordered ++ (wAI (fun _ => ht 7) cy 64 St_owner ++ (wAI (fun _ => ht 6) cy 325 St_read ++ (wAI (fun _ => ht 14) cy 12 St_slots ++ (wAI (fun _ => ht 1) cy 900 St_tape))))))))) [0, 2] [1, 3, 4, 5, 6, 7, 8] [7, 0, 8, 1, 2, 3, 4, 5, 6] rfl rfl rfl rfl rfl rfl (by decide) hl.1 (Nat.le_of_ble_eq_true rfl) dX10_readLine_194 (fun H locs hP hD hS => ?_)
            refine z_if_eq (tgt := 208) hx hb dX10_readLine_197 (by decide) hf (fun hf => ?_) (fun hf => ?_)
            · refine lv_aload_n hx hb dX10_readLine_208 rfl (lv_at hl 0 rfl) ?_
              refine va_ldcS hx hb hown (hE.2.2.2.2.2.2.2.2.2.1 ("StampedRowsModel", 225, "freeze", 7) (by decide)) dX10_readLine_209 ?_
              obtain ⟨q7, hc, hf⟩ := zbd hf
              refine z_cVis (As := [.ref (E.1 7)]) (rest := []) C hE (c_X10_isWord l D cy E ht St St_letters 7 q7 hc) gV_X10_X10_isWord hd_X10_isWord ⟨Nat.le_of_ble_eq_true rfl, Nat.le_of_ble_eq_true rfl⟩ ⟨Nat.le_refl _, Nat.le_refl _⟩ (va_recv hK hP (ci := 6) (q0 := 0) rfl rfl) hP hD hS (w2 := wMo ht cy St ++ (wAI (fun _ => ht 4) cy 140 St_fresh ++ (wAI (fun _ => ht 2) cy 8 St_letters ++ (wAI (fun _ => ht 13) cy 48 St_marked ++ (wAI (fun _ => ht 16) cy 8 St_ordered ++ (wAI (fun _ => ht 7) cy 64 St_owner ++ (wAI (fun _ => ht 6) cy 325 St_read ++ (wAI (fun _ => ht 14) cy 12 St_slots ++ (wAI (fun _ => ht 1) cy 900 St_tape))))))))) [0, 2] [1, 3, 4, 5, 6, 7, 8] [7, 0, 8, 1, 2, 3, 4, 5, 6] rfl rfl rfl rfl rfl rfl (by decide) hl.1 (Nat.le_of_ble_eq_true rfl) dX10_readLine_211 (fun H locs hP hD hS => ?_)
              refine z_if_eq (tgt := 225) hx hb dX10_readLine_214 (by decide) hf (fun hf => ?_) (fun hf => ?_)
              · refine lv_aload_n hx hb dX10_readLine_225 rfl (lv_at hl 0 rfl) ?_
                refine va_ldcS hx hb hown (hE.2.2.2.2.2.2.2.2.2.1 ("StampedRowsModel", 227, "unsure", 8) (by decide)) dX10_readLine_226 ?_
                obtain ⟨q8, hc, hf⟩ := zbd hf
                refine z_cVis (As := [.ref (E.1 8)]) (rest := []) C hE (c_X10_isWord l D cy E ht St St_letters 8 q8 hc) gV_X10_X10_isWord hd_X10_isWord ⟨Nat.le_of_ble_eq_true rfl, Nat.le_of_ble_eq_true rfl⟩ ⟨Nat.le_refl _, Nat.le_refl _⟩ (va_recv hK hP (ci := 6) (q0 := 0) rfl rfl) hP hD hS (w2 := wMo ht cy St ++ (wAI (fun _ => ht 4) cy 140 St_fresh ++ (wAI (fun _ => ht 2) cy 8 St_letters ++ (wAI (fun _ => ht 13) cy 48 St_marked ++ (wAI (fun _ => ht 16) cy 8 St_ordered ++ (wAI (fun _ => ht 7) cy 64 St_owner ++ (wAI (fun _ => ht 6) cy 325 St_read ++ (wAI (fun _ => ht 14) cy 12 St_slots ++ (wAI (fun _ => ht 1) cy 900 St_tape))))))))) [0, 2] [1, 3, 4, 5, 6, 7, 8] [7, 0, 8, 1, 2, 3, 4, 5, 6] rfl rfl rfl rfl rfl rfl (by decide) hl.1 (Nat.le_of_ble_eq_true rfl) dX10_readLine_228 (fun H locs hP hD hS => ?_)
                refine z_if_eq (tgt := 241) hx hb dX10_readLine_231 (by decide) hf (fun hf => ?_) (fun hf => ?_)
                · refine lv_aload_n hx hb dX10_readLine_241 rfl (lv_at hl 0 rfl) ?_
                  refine va_ldcS hx hb hown (hE.2.2.2.2.2.2.2.2.2.1 ("StampedRowsModel", 229, "seen", 9) (by decide)) dX10_readLine_242 ?_
                  obtain ⟨q9, hc, hf⟩ := zbd hf
                  refine z_cVis (As := [.ref (E.1 9)]) (rest := []) C hE (c_X10_isWord l D cy E ht St St_letters 9 q9 hc) gV_X10_X10_isWord hd_X10_isWord ⟨Nat.le_of_ble_eq_true rfl, Nat.le_of_ble_eq_true rfl⟩ ⟨Nat.le_refl _, Nat.le_refl _⟩ (va_recv hK hP (ci := 6) (q0 := 0) rfl rfl) hP hD hS (w2 := wMo ht cy St ++ (wAI (fun _ => ht 4) cy 140 St_fresh ++ (wAI (fun _ => ht 2) cy 8 St_letters ++ (wAI (fun _ => ht 13) cy 48 St_marked ++ (wAI (fun _ => ht 16) cy 8 St_ordered ++ (wAI (fun _ => ht 7) cy 64 St_owner ++ (wAI (fun _ => ht 6) cy 325 St_read ++ (wAI (fun _ => ht 14) cy 12 St_slots ++ (wAI (fun _ => ht 1) cy 900 St_tape))))))))) [0, 2] [1, 3, 4, 5, 6, 7, 8] [7, 0, 8, 1, 2, 3, 4, 5, 6] rfl rfl rfl rfl rfl rfl (by decide) hl.1 (Nat.le_of_ble_eq_true rfl) dX10_readLine_244 (fun H locs hP hD hS => ?_)
                  refine z_if_eq (tgt := 254) hx hb dX10_readLine_247 (by decide) hf (fun hf => ?_) (fun hf => ?_)
                  · obtain rfl := Option.some.inj hf
                    exact z_vret C hP hD hS dX10_readLine_254
                  · refine lv_aload_n hx hb dX10_readLine_250 rfl (lv_at hl 0 rfl) ?_
                    obtain ⟨q10, hc, hf⟩ := zbd hf
                    refine z_cVvs (As := []) (rest := []) C hE (c_X10_seenLine l D cy E ht St St_fresh St_letters St_ordered St_tape q10 hc) gV_X10_X10_seenLine hd_X10_seenLine ⟨Nat.le_of_ble_eq_true rfl, Nat.le_of_ble_eq_true rfl⟩ ⟨Nat.le_refl _, Nat.le_refl _⟩ (va_recv hK hP (ci := 6) (q0 := 0) rfl rfl) hP hD hS (w2 := wMo ht cy q10.1 ++ (wAI (fun _ => ht 4) cy 140 q10.2.1 ++ (wAI (fun _ => ht 2) cy 8 q10.2.2.1 ++ (wAI (fun _ => ht 13) cy 48 St_marked ++ (wAI (fun _ => ht 16) cy 8 q10.2.2.2 ++ (wAI (fun _ => ht 7) cy 64 St_owner ++ (wAI (fun _ => ht 6) cy 325 St_read ++ (wAI (fun _ => ht 14) cy 12 St_slots ++ (wAI (fun _ => ht 1) cy 900 St_tape))))))))) [0, 1, 2, 4, 8] [3, 5, 6, 7] [4, 5, 6, 0, 7, 1, 2, 3, 8] rfl rfl rfl rfl rfl rfl (by decide) hl.1 (Nat.le_of_ble_eq_true rfl) dX10_readLine_251 (fun H locs hP hD hS => ?_)
                    obtain rfl := Option.some.inj hf
                    exact z_vret C hP hD hS dX10_readLine_254
                · refine lv_aload_n hx hb dX10_readLine_234 rfl (lv_at hl 0 rfl) ?_
                  obtain ⟨q11, hc, hf⟩ := zbd hf
                  refine z_cVvs (As := []) (rest := []) C hE (c_X10_unsureLine l D cy E ht St St_fresh St_letters St_slots St_tape q11 hc) gV_X10_X10_unsureLine hd_X10_unsureLine ⟨Nat.le_of_ble_eq_true rfl, Nat.le_of_ble_eq_true rfl⟩ ⟨Nat.le_refl _, Nat.le_refl _⟩ (va_recv hK hP (ci := 6) (q0 := 0) rfl rfl) hP hD hS (w2 := wMo ht cy q11.1 ++ (wAI (fun _ => ht 4) cy 140 q11.2.1 ++ (wAI (fun _ => ht 2) cy 8 q11.2.2 ++ (wAI (fun _ => ht 13) cy 48 St_marked ++ (wAI (fun _ => ht 16) cy 8 St_ordered ++ (wAI (fun _ => ht 7) cy 64 St_owner ++ (wAI (fun _ => ht 6) cy 325 St_read ++ (wAI (fun _ => ht 14) cy 12 St_slots ++ (wAI (fun _ => ht 1) cy 900 St_tape))))))))) [0, 1, 2, 7, 8] [3, 4, 5, 6] [4, 5, 6, 0, 1, 2, 3, 7, 8] rfl rfl rfl rfl rfl rfl (by decide) hl.1 (Nat.le_of_ble_eq_true rfl) dX10_readLine_235 (fun H locs hP hD hS => ?_)
                  refine lv_goto (tgt := 254) hx hb dX10_readLine_238 (by decide) ?_
                  obtain rfl := Option.some.inj hf
                  exact z_vret C hP hD hS dX10_readLine_254
              · refine lv_aload_n hx hb dX10_readLine_217 rfl (lv_at hl 0 rfl) ?_
                refine lv_iconst (v := (0 : Int32)) hx hb dX10_readLine_218 (by decide) ?_
                obtain ⟨q12, hc, hf⟩ := zbd hf
                refine z_cVv (As := [.int (0 : Int32)]) (rest := []) C (c_X10_allLine l D cy ht St St_letters St_marked St_read St_tape (0 : Int32) q12 hc) gV_X10_X10_allLine hd_X10_allLine ⟨Nat.le_of_ble_eq_true rfl, Nat.le_of_ble_eq_true rfl⟩ ⟨Nat.le_refl _, Nat.le_refl _⟩ (va_recv hK hP (ci := 6) (q0 := 0) rfl rfl) hP hD hS (w2 := wMo ht cy q12.1 ++ (wAI (fun _ => ht 4) cy 140 St_fresh ++ (wAI (fun _ => ht 2) cy 8 q12.2.1 ++ (wAI (fun _ => ht 13) cy 48 q12.2.2.1 ++ (wAI (fun _ => ht 16) cy 8 St_ordered ++ (wAI (fun _ => ht 7) cy 64 St_owner ++ (wAI (fun _ => ht 6) cy 325 q12.2.2.2 ++ (wAI (fun _ => ht 14) cy 12 St_slots ++ (wAI (fun _ => ht 1) cy 900 St_tape))))))))) [0, 2, 3, 6, 8] [1, 4, 5, 7] [4, 0, 5, 6, 1, 2, 7, 3, 8] rfl rfl rfl rfl rfl rfl (by decide) hl.1 (Nat.le_of_ble_eq_true rfl) dX10_readLine_219 (fun H locs hP hD hS => ?_)
                refine lv_goto (tgt := 254) hx hb dX10_readLine_222 (by decide) ?_
                obtain rfl := Option.some.inj hf
                exact z_vret C hP hD hS dX10_readLine_254
            · refine lv_aload_n hx hb dX10_readLine_200 rfl (lv_at hl 0 rfl) ?_
              refine lv_iconst (v := (1 : Int32)) hx hb dX10_readLine_201 (by decide) ?_
              obtain ⟨q13, hc, hf⟩ := zbd hf
              refine z_cVv (As := [.int (1 : Int32)]) (rest := []) C (c_X10_allLine l D cy ht St St_letters St_marked St_read St_tape (1 : Int32) q13 hc) gV_X10_X10_allLine hd_X10_allLine ⟨Nat.le_of_ble_eq_true rfl, Nat.le_of_ble_eq_true rfl⟩ ⟨Nat.le_refl _, Nat.le_refl _⟩ (va_recv hK hP (ci := 6) (q0 := 0) rfl rfl) hP hD hS (w2 := wMo ht cy q13.1 ++ (wAI (fun _ => ht 4) cy 140 St_fresh ++ (wAI (fun _ => ht 2) cy 8 q13.2.1 ++ (wAI (fun _ => ht 13) cy 48 q13.2.2.1 ++ (wAI (fun _ => ht 16) cy 8 St_ordered ++ (wAI (fun _ => ht 7) cy 64 St_owner ++ (wAI (fun _ => ht 6) cy 325 q13.2.2.2 ++ (wAI (fun _ => ht 14) cy 12 St_slots ++ (wAI (fun _ => ht 1) cy 900 St_tape))))))))) [0, 2, 3, 6, 8] [1, 4, 5, 7] [4, 0, 5, 6, 1, 2, 7, 3, 8] rfl rfl rfl rfl rfl rfl (by decide) hl.1 (Nat.le_of_ble_eq_true rfl) dX10_readLine_202 (fun H locs hP hD hS => ?_)
              refine lv_goto (tgt := 254) hx hb dX10_readLine_205 (by decide) ?_
              obtain rfl := Option.some.inj hf
              exact z_vret C hP hD hS dX10_readLine_254
          · refine lv_aload_n hx hb dX10_readLine_183 rfl (lv_at hl 0 rfl) ?_
            refine lv_iconst (v := (3 : Int32)) hx hb dX10_readLine_184 (by decide) ?_
            obtain ⟨q14, hc, hf⟩ := zbd hf
            refine z_cVvs (As := [.int (3 : Int32)]) (rest := []) C hE (c_X10_endLine l D cy E ht St St_fresh St_letters St_read St_slots St_tape (3 : Int32) q14 hc) gV_X10_X10_endLine hd_X10_endLine ⟨Nat.le_of_ble_eq_true rfl, Nat.le_of_ble_eq_true rfl⟩ ⟨Nat.le_refl _, Nat.le_refl _⟩ (va_recv hK hP (ci := 6) (q0 := 0) rfl rfl) hP hD hS (w2 := wMo ht cy q14.1 ++ (wAI (fun _ => ht 4) cy 140 St_fresh ++ (wAI (fun _ => ht 2) cy 8 q14.2.1 ++ (wAI (fun _ => ht 13) cy 48 St_marked ++ (wAI (fun _ => ht 16) cy 8 St_ordered ++ (wAI (fun _ => ht 7) cy 64 St_owner ++ (wAI (fun _ => ht 6) cy 325 q14.2.2.1 ++ (wAI (fun _ => ht 14) cy 12 q14.2.2.2 ++ (wAI (fun _ => ht 1) cy 900 St_tape))))))))) [0, 1, 2, 6, 7, 8] [3, 4, 5] [3, 4, 5, 0, 1, 2, 6, 7, 8] rfl rfl rfl rfl rfl rfl (by decide) hl.1 (Nat.le_of_ble_eq_true rfl) dX10_readLine_185 (fun H locs hP hD hS => ?_)
            refine lv_goto (tgt := 254) hx hb dX10_readLine_188 (by decide) ?_
            obtain rfl := Option.some.inj hf
            exact z_vret C hP hD hS dX10_readLine_254
        · refine lv_aload_n hx hb dX10_readLine_166 rfl (lv_at hl 0 rfl) ?_
          refine lv_iconst (v := (2 : Int32)) hx hb dX10_readLine_167 (by decide) ?_
          obtain ⟨q15, hc, hf⟩ := zbd hf
          refine z_cVvs (As := [.int (2 : Int32)]) (rest := []) C hE (c_X10_endLine l D cy E ht St St_fresh St_letters St_read St_slots St_tape (2 : Int32) q15 hc) gV_X10_X10_endLine hd_X10_endLine ⟨Nat.le_of_ble_eq_true rfl, Nat.le_of_ble_eq_true rfl⟩ ⟨Nat.le_refl _, Nat.le_refl _⟩ (va_recv hK hP (ci := 6) (q0 := 0) rfl rfl) hP hD hS (w2 := wMo ht cy q15.1 ++ (wAI (fun _ => ht 4) cy 140 St_fresh ++ (wAI (fun _ => ht 2) cy 8 q15.2.1 ++ (wAI (fun _ => ht 13) cy 48 St_marked ++ (wAI (fun _ => ht 16) cy 8 St_ordered ++ (wAI (fun _ => ht 7) cy 64 St_owner ++ (wAI (fun _ => ht 6) cy 325 q15.2.2.1 ++ (wAI (fun _ => ht 14) cy 12 q15.2.2.2 ++ (wAI (fun _ => ht 1) cy 900 St_tape))))))))) [0, 1, 2, 6, 7, 8] [3, 4, 5] [3, 4, 5, 0, 1, 2, 6, 7, 8] rfl rfl rfl rfl rfl rfl (by decide) hl.1 (Nat.le_of_ble_eq_true rfl) dX10_readLine_168 (fun H locs hP hD hS => ?_)
          refine lv_goto (tgt := 254) hx hb dX10_readLine_171 (by decide) ?_
          obtain rfl := Option.some.inj hf
          exact z_vret C hP hD hS dX10_readLine_254
      · refine lv_aload_n hx hb dX10_readLine_149 rfl (lv_at hl 0 rfl) ?_
        refine lv_iconst (v := (0 : Int32)) hx hb dX10_readLine_150 (by decide) ?_
        obtain ⟨q16, hc, hf⟩ := zbd hf
        refine z_cVvs (As := [.int (0 : Int32)]) (rest := []) C hE (c_X10_putLine l D cy E ht St St_fresh St_letters St_read St_slots St_tape (0 : Int32) q16 hc) gV_X10_X10_putLine hd_X10_putLine ⟨Nat.le_of_ble_eq_true rfl, Nat.le_of_ble_eq_true rfl⟩ ⟨Nat.le_refl _, Nat.le_refl _⟩ (va_recv hK hP (ci := 6) (q0 := 0) rfl rfl) hP hD hS (w2 := wMo ht cy q16.1 ++ (wAI (fun _ => ht 4) cy 140 St_fresh ++ (wAI (fun _ => ht 2) cy 8 q16.2.1 ++ (wAI (fun _ => ht 13) cy 48 St_marked ++ (wAI (fun _ => ht 16) cy 8 St_ordered ++ (wAI (fun _ => ht 7) cy 64 St_owner ++ (wAI (fun _ => ht 6) cy 325 q16.2.2 ++ (wAI (fun _ => ht 14) cy 12 St_slots ++ (wAI (fun _ => ht 1) cy 900 St_tape))))))))) [0, 1, 2, 6, 7, 8] [3, 4, 5] [3, 4, 5, 0, 1, 2, 6, 7, 8] rfl rfl rfl rfl rfl rfl (by decide) hl.1 (Nat.le_of_ble_eq_true rfl) dX10_readLine_151 (fun H locs hP hD hS => ?_)
        refine lv_goto (tgt := 254) hx hb dX10_readLine_154 (by decide) ?_
        obtain rfl := Option.some.inj hf
        exact z_vret C hP hD hS dX10_readLine_254
    · refine lv_aload_n hx hb dX10_readLine_132 rfl (lv_at hl 0 rfl) ?_
      refine lv_iconst (v := (1 : Int32)) hx hb dX10_readLine_133 (by decide) ?_
      obtain ⟨q17, hc, hf⟩ := zbd hf
      refine z_cVvs (As := [.int (1 : Int32)]) (rest := []) C hE (c_X10_putLine l D cy E ht St St_fresh St_letters St_read St_slots St_tape (1 : Int32) q17 hc) gV_X10_X10_putLine hd_X10_putLine ⟨Nat.le_of_ble_eq_true rfl, Nat.le_of_ble_eq_true rfl⟩ ⟨Nat.le_refl _, Nat.le_refl _⟩ (va_recv hK hP (ci := 6) (q0 := 0) rfl rfl) hP hD hS (w2 := wMo ht cy q17.1 ++ (wAI (fun _ => ht 4) cy 140 St_fresh ++ (wAI (fun _ => ht 2) cy 8 q17.2.1 ++ (wAI (fun _ => ht 13) cy 48 St_marked ++ (wAI (fun _ => ht 16) cy 8 St_ordered ++ (wAI (fun _ => ht 7) cy 64 St_owner ++ (wAI (fun _ => ht 6) cy 325 q17.2.2 ++ (wAI (fun _ => ht 14) cy 12 St_slots ++ (wAI (fun _ => ht 1) cy 900 St_tape))))))))) [0, 1, 2, 6, 7, 8] [3, 4, 5] [3, 4, 5, 0, 1, 2, 6, 7, 8] rfl rfl rfl rfl rfl rfl (by decide) hl.1 (Nat.le_of_ble_eq_true rfl) dX10_readLine_134 (fun H locs hP hD hS => ?_)
      refine lv_goto (tgt := 254) hx hb dX10_readLine_137 (by decide) ?_
      obtain rfl := Option.some.inj hf
      exact z_vret C hP hD hS dX10_readLine_254
  · refine lv_aload_n hx hb dX10_readLine_116 rfl (lv_at hl 0 rfl) ?_
    obtain ⟨q18, hc, hf⟩ := zbd hf
    refine z_cVvs (As := []) (rest := []) C hE (c_X10_beginLine l D cy E ht St St_fresh St_letters St_owner St_read St_slots St_tape q18 hc) gV_X10_X10_beginLine hd_X10_beginLine ⟨Nat.le_of_ble_eq_true rfl, Nat.le_of_ble_eq_true rfl⟩ ⟨Nat.le_refl _, Nat.le_refl _⟩ (va_recv hK hP (ci := 6) (q0 := 0) rfl rfl) hP hD hS (w2 := wMo ht cy q18.1 ++ (wAI (fun _ => ht 4) cy 140 q18.2.1 ++ (wAI (fun _ => ht 2) cy 8 q18.2.2.1 ++ (wAI (fun _ => ht 13) cy 48 St_marked ++ (wAI (fun _ => ht 16) cy 8 St_ordered ++ (wAI (fun _ => ht 7) cy 64 q18.2.2.2.1 ++ (wAI (fun _ => ht 6) cy 325 q18.2.2.2.2.1 ++ (wAI (fun _ => ht 14) cy 12 q18.2.2.2.2.2 ++ (wAI (fun _ => ht 1) cy 900 St_tape))))))))) [0, 1, 2, 5, 6, 7, 8] [3, 4] [2, 3, 4, 0, 1, 5, 6, 7, 8] rfl rfl rfl rfl rfl rfl (by decide) hl.1 (Nat.le_of_ble_eq_true rfl) dX10_readLine_117 (fun H locs hP hD hS => ?_)
    refine lv_goto (tgt := 254) hx hb dX10_readLine_120 (by decide) ?_
    obtain rfl := Option.some.inj hf
    exact z_vret C hP hD hS dX10_readLine_254
def b_X10_readLine_87 (St_tape : Nat → Int32) (St : SMo) (St_fresh : Nat → Int32) (St_letters : Nat → Int32) (St_marked : Nat → Int32) (St_ordered : Nat → Int32) (St_owner : Nat → Int32) (St_read : Nat → Int32) (St_slots : Nat → Int32) : Option (SMo × (Nat → Int32) × (Nat → Int32) × (Nat → Int32) × (Nat → Int32) × (Nat → Int32) × (Nat → Int32) × (Nat → Int32)) :=
  (if zib (7 : Int32) 140 then (if (St_fresh (7 : Int32).toNatClampNeg) = 0 then
      (f_X10_wrong St (6 : Int32) (Mo_at St)).bind (fun q19 =>
        (b_X10_readLine_107 St_tape q19 St_fresh St_letters St_marked St_ordered St_owner St_read St_slots))
      else
      (b_X10_readLine_107 St_tape St St_fresh St_letters St_marked St_ordered St_owner St_read St_slots)) else none)
set_option maxHeartbeats 4000000 in
set_option maxRecDepth 100000 in
theorem w_X10_readLine_87 {p : Program} {e : Env} {s : State} {m : MethodId} {below : List Frame} {meth : Method} {c : Code} {A : Nat → Prop} {D : va_G} {cy : Nat → ClassId} {args : Array Value} {r : SMo × (Nat → Int32) × (Nat → Int32) × (Nat → Int32) × (Nat → Int32) × (Nat → Int32) × (Nat → Int32) × (Nat → Int32)} (l : Launch) (E : zEn) (ht : Nat → Nat) (St_tape : Nat → Int32) (C : zX p s m meth c cX10_readLine 1 args RX10 none A D (zty cy)) (hE : zE E A s s.heap) :
    ∀ (St : SMo) (St_fresh : Nat → Int32) (St_letters : Nat → Int32) (St_marked : Nat → Int32) (St_ordered : Nat → Int32) (St_owner : Nat → Int32) (St_read : Nat → Int32) (St_slots : Nat → Int32) (H : Heap) (locs : List Loc) (ls : Array Slot), b_X10_readLine_87 St_tape St St_fresh St_letters St_marked St_ordered St_owner St_read St_slots = some r → va_P D vwCl (wMo ht cy St ++ (wAI (fun _ => ht 4) cy 140 St_fresh ++ (wAI (fun _ => ht 2) cy 8 St_letters ++ (wAI (fun _ => ht 13) cy 48 St_marked ++ (wAI (fun _ => ht 16) cy 8 St_ordered ++ (wAI (fun _ => ht 7) cy 64 St_owner ++ (wAI (fun _ => ht 6) cy 325 St_read ++ (wAI (fun _ => ht 14) cy 12 St_slots ++ (wAI (fun _ => ht 1) cy 900 St_tape))))))))) H → va_D A (wMo ht cy St ++ (wAI (fun _ => ht 4) cy 140 St_fresh ++ (wAI (fun _ => ht 2) cy 8 St_letters ++ (wAI (fun _ => ht 13) cy 48 St_marked ++ (wAI (fun _ => ht 16) cy 8 St_ordered ++ (wAI (fun _ => ht 7) cy 64 St_owner ++ (wAI (fun _ => ht 6) cy 325 St_read ++ (wAI (fun _ => ht 14) cy 12 St_slots ++ (wAI (fun _ => ht 1) cy 900 St_tape))))))))) → va_S A s.heap H locs → lv_has ls 1 [(0, .ref (ht 0))] → W p l e (zRm 9 221) s m args below meth c H locs 0 0 (MQ below (zQV D (zty cy) A (wMo ht cy r.1 ++ (wAI (fun _ => ht 4) cy 140 r.2.1 ++ (wAI (fun _ => ht 2) cy 8 r.2.2.1 ++ (wAI (fun _ => ht 13) cy 48 r.2.2.2.1 ++ (wAI (fun _ => ht 16) cy 8 r.2.2.2.2.1 ++ (wAI (fun _ => ht 7) cy 64 r.2.2.2.2.2.1 ++ (wAI (fun _ => ht 6) cy 325 r.2.2.2.2.2.2.1 ++ (wAI (fun _ => ht 14) cy 12 r.2.2.2.2.2.2.2 ++ (wAI (fun _ => ht 1) cy 900 St_tape)))))))))) args s 0 0 A) (F0 m 87 ls []) := by
  obtain ⟨hx, hb, hr, hts, hown, hlocks, hml, hA, hK⟩ := id C
  intro St St_fresh St_letters St_marked St_ordered St_owner St_read St_slots H locs ls hf hP hD hS hl
  refine lv_aload_n hx hb dX10_readLine_87 rfl (lv_at hl 0 rfl) ?_
  refine va_get (D := D) (ci := 6) (v := .ref (ht 4)) (C := RX10) (T := TX10) (N := 41) hx hb hts in_X10 hown hK hP 0 rfl rfl 16 (by decide) (hts _ q6_61) (fun _ h9 => h9) rfl dX10_readLine_88 ?_
  refine lv_bipush (v := (7 : Int32)) hx hb dX10_readLine_91 (by decide) ?_
  refine z_iald (f := St_fresh) hx hb hK hP 1 0 rfl rfl dX10_readLine_93 hf (fun hf => ?_)
  refine z_if_ne (tgt := 107) hx hb dX10_readLine_94 (by decide) hf (fun hf => ?_) (fun hf => ?_)
  · exact w_X10_readLine_107 l E ht St_tape C hE St St_fresh St_letters St_marked St_ordered St_owner St_read St_slots H locs ls hf hP hD hS (lv_sub hl [0] rfl)
  · refine lv_aload_n hx hb dX10_readLine_97 rfl (lv_at hl 0 rfl) ?_
    refine lv_bipush (v := (6 : Int32)) hx hb dX10_readLine_98 (by decide) ?_
    refine lv_aload_n hx hb dX10_readLine_100 rfl (lv_at hl 0 rfl) ?_
    refine va_get (D := D) (ci := 6) (v := .int (Mo_at St)) (C := RX10) (T := TX10) (N := 41) hx hb hts in_X10 hown hK hP 0 rfl rfl 4 (by decide) (hts _ q6_49) (fun _ h9 => h9) rfl dX10_readLine_101 ?_
    obtain ⟨q19, hc, hf⟩ := zbd hf
    refine z_cVv (As := [.int (6 : Int32), .int (Mo_at St)]) (rest := []) C (c_X10_wrong l D cy ht St (6 : Int32) (Mo_at St) q19 hc) gV_X10_X10_wrong hd_X10_wrong ⟨Nat.le_of_ble_eq_true rfl, Nat.le_of_ble_eq_true rfl⟩ ⟨Nat.le_refl _, Nat.le_refl _⟩ (va_recv hK hP (ci := 6) (q0 := 0) rfl rfl) hP hD hS (w2 := wMo ht cy q19 ++ (wAI (fun _ => ht 4) cy 140 St_fresh ++ (wAI (fun _ => ht 2) cy 8 St_letters ++ (wAI (fun _ => ht 13) cy 48 St_marked ++ (wAI (fun _ => ht 16) cy 8 St_ordered ++ (wAI (fun _ => ht 7) cy 64 St_owner ++ (wAI (fun _ => ht 6) cy 325 St_read ++ (wAI (fun _ => ht 14) cy 12 St_slots ++ (wAI (fun _ => ht 1) cy 900 St_tape))))))))) [0] [1, 2, 3, 4, 5, 6, 7, 8] [8, 0, 1, 2, 3, 4, 5, 6, 7] rfl rfl rfl rfl rfl rfl (by decide) hl.1 (Nat.le_of_ble_eq_true rfl) dX10_readLine_104 (fun H locs hP hD hS => ?_)
    exact w_X10_readLine_107 l E ht St_tape C hE q19 St_fresh St_letters St_marked St_ordered St_owner St_read St_slots H locs ls hf hP hD hS (lv_sub hl [0] rfl)
def b_X10_readLine_59 (St_tape : Nat → Int32) (St : SMo) (St_fresh : Nat → Int32) (St_letters : Nat → Int32) (St_marked : Nat → Int32) (St_ordered : Nat → Int32) (St_owner : Nat → Int32) (St_read : Nat → Int32) (St_slots : Nat → Int32) : Option (SMo × (Nat → Int32) × (Nat → Int32) × (Nat → Int32) × (Nat → Int32) × (Nat → Int32) × (Nat → Int32) × (Nat → Int32)) :=
  (f_X10_isWord St St_letters 8).bind (fun q20 =>
    (if q20 = 0 then
      (b_X10_readLine_87 St_tape St St_fresh St_letters St_marked St_ordered St_owner St_read St_slots)
      else
      (if zib (4 : Int32) 140 then (if (St_fresh (4 : Int32).toNatClampNeg) = (4 : Int32) then
          (f_X10_wrong St (5 : Int32) (Mo_at St)).bind (fun q21 =>
            (b_X10_readLine_87 St_tape q21 St_fresh St_letters St_marked St_ordered St_owner St_read St_slots))
          else
          (b_X10_readLine_87 St_tape St St_fresh St_letters St_marked St_ordered St_owner St_read St_slots)) else none)))
set_option maxHeartbeats 4000000 in
set_option maxRecDepth 100000 in
theorem w_X10_readLine_59 {p : Program} {e : Env} {s : State} {m : MethodId} {below : List Frame} {meth : Method} {c : Code} {A : Nat → Prop} {D : va_G} {cy : Nat → ClassId} {args : Array Value} {r : SMo × (Nat → Int32) × (Nat → Int32) × (Nat → Int32) × (Nat → Int32) × (Nat → Int32) × (Nat → Int32) × (Nat → Int32)} (l : Launch) (E : zEn) (ht : Nat → Nat) (St_tape : Nat → Int32) (C : zX p s m meth c cX10_readLine 1 args RX10 none A D (zty cy)) (hE : zE E A s s.heap) :
    ∀ (St : SMo) (St_fresh : Nat → Int32) (St_letters : Nat → Int32) (St_marked : Nat → Int32) (St_ordered : Nat → Int32) (St_owner : Nat → Int32) (St_read : Nat → Int32) (St_slots : Nat → Int32) (H : Heap) (locs : List Loc) (ls : Array Slot), b_X10_readLine_59 St_tape St St_fresh St_letters St_marked St_ordered St_owner St_read St_slots = some r → va_P D vwCl (wMo ht cy St ++ (wAI (fun _ => ht 4) cy 140 St_fresh ++ (wAI (fun _ => ht 2) cy 8 St_letters ++ (wAI (fun _ => ht 13) cy 48 St_marked ++ (wAI (fun _ => ht 16) cy 8 St_ordered ++ (wAI (fun _ => ht 7) cy 64 St_owner ++ (wAI (fun _ => ht 6) cy 325 St_read ++ (wAI (fun _ => ht 14) cy 12 St_slots ++ (wAI (fun _ => ht 1) cy 900 St_tape))))))))) H → va_D A (wMo ht cy St ++ (wAI (fun _ => ht 4) cy 140 St_fresh ++ (wAI (fun _ => ht 2) cy 8 St_letters ++ (wAI (fun _ => ht 13) cy 48 St_marked ++ (wAI (fun _ => ht 16) cy 8 St_ordered ++ (wAI (fun _ => ht 7) cy 64 St_owner ++ (wAI (fun _ => ht 6) cy 325 St_read ++ (wAI (fun _ => ht 14) cy 12 St_slots ++ (wAI (fun _ => ht 1) cy 900 St_tape))))))))) → va_S A s.heap H locs → lv_has ls 1 [(0, .ref (ht 0))] → W p l e (zRm 9 221) s m args below meth c H locs 0 0 (MQ below (zQV D (zty cy) A (wMo ht cy r.1 ++ (wAI (fun _ => ht 4) cy 140 r.2.1 ++ (wAI (fun _ => ht 2) cy 8 r.2.2.1 ++ (wAI (fun _ => ht 13) cy 48 r.2.2.2.1 ++ (wAI (fun _ => ht 16) cy 8 r.2.2.2.2.1 ++ (wAI (fun _ => ht 7) cy 64 r.2.2.2.2.2.1 ++ (wAI (fun _ => ht 6) cy 325 r.2.2.2.2.2.2.1 ++ (wAI (fun _ => ht 14) cy 12 r.2.2.2.2.2.2.2 ++ (wAI (fun _ => ht 1) cy 900 St_tape)))))))))) args s 0 0 A) (F0 m 59 ls []) := by
  obtain ⟨hx, hb, hr, hts, hown, hlocks, hml, hA, hK⟩ := id C
  intro St St_fresh St_letters St_marked St_ordered St_owner St_read St_slots H locs ls hf hP hD hS hl
  refine lv_aload_n hx hb dX10_readLine_59 rfl (lv_at hl 0 rfl) ?_
  refine va_ldcS hx hb hown (hE.2.2.2.2.2.2.2.2.2.1 ("StampedRowsModel", 227, "unsure", 8) (by decide)) dX10_readLine_60 ?_
  obtain ⟨q20, hc, hf⟩ := zbd hf
  refine z_cVis (As := [.ref (E.1 8)]) (rest := []) C hE (c_X10_isWord l D cy E ht St St_letters 8 q20 hc) gV_X10_X10_isWord hd_X10_isWord ⟨Nat.le_of_ble_eq_true rfl, Nat.le_of_ble_eq_true rfl⟩ ⟨Nat.le_refl _, Nat.le_refl _⟩ (va_recv hK hP (ci := 6) (q0 := 0) rfl rfl) hP hD hS (w2 := wMo ht cy St ++ (wAI (fun _ => ht 4) cy 140 St_fresh ++ (wAI (fun _ => ht 2) cy 8 St_letters ++ (wAI (fun _ => ht 13) cy 48 St_marked ++ (wAI (fun _ => ht 16) cy 8 St_ordered ++ (wAI (fun _ => ht 7) cy 64 St_owner ++ (wAI (fun _ => ht 6) cy 325 St_read ++ (wAI (fun _ => ht 14) cy 12 St_slots ++ (wAI (fun _ => ht 1) cy 900 St_tape))))))))) [0, 2] [1, 3, 4, 5, 6, 7, 8] [7, 0, 8, 1, 2, 3, 4, 5, 6] rfl rfl rfl rfl rfl rfl (by decide) hl.1 (Nat.le_of_ble_eq_true rfl) dX10_readLine_62 (fun H locs hP hD hS => ?_)
  refine z_if_eq (tgt := 87) hx hb dX10_readLine_65 (by decide) hf (fun hf => ?_) (fun hf => ?_)
  · exact w_X10_readLine_87 l E ht St_tape C hE St St_fresh St_letters St_marked St_ordered St_owner St_read St_slots H locs ls hf hP hD hS (lv_sub hl [0] rfl)
  · refine lv_aload_n hx hb dX10_readLine_68 rfl (lv_at hl 0 rfl) ?_
    refine va_get (D := D) (ci := 6) (v := .ref (ht 4)) (C := RX10) (T := TX10) (N := 41) hx hb hts in_X10 hown hK hP 0 rfl rfl 16 (by decide) (hts _ q6_61) (fun _ h9 => h9) rfl dX10_readLine_69 ?_
    refine lv_iconst (v := (4 : Int32)) hx hb dX10_readLine_72 (by decide) ?_
    refine z_iald (f := St_fresh) hx hb hK hP 1 0 rfl rfl dX10_readLine_73 hf (fun hf => ?_)
    refine lv_iconst (v := (4 : Int32)) hx hb dX10_readLine_74 (by decide) ?_
    refine z_icmp_ne (tgt := 87) hx hb dX10_readLine_75 (by decide) hf (fun hf => ?_) (fun hf => ?_)
    · exact w_X10_readLine_87 l E ht St_tape C hE St St_fresh St_letters St_marked St_ordered St_owner St_read St_slots H locs ls hf hP hD hS (lv_sub hl [0] rfl)
    · refine lv_aload_n hx hb dX10_readLine_78 rfl (lv_at hl 0 rfl) ?_
      refine lv_iconst (v := (5 : Int32)) hx hb dX10_readLine_79 (by decide) ?_
      refine lv_aload_n hx hb dX10_readLine_80 rfl (lv_at hl 0 rfl) ?_
      refine va_get (D := D) (ci := 6) (v := .int (Mo_at St)) (C := RX10) (T := TX10) (N := 41) hx hb hts in_X10 hown hK hP 0 rfl rfl 4 (by decide) (hts _ q6_49) (fun _ h9 => h9) rfl dX10_readLine_81 ?_
      obtain ⟨q21, hc, hf⟩ := zbd hf
      refine z_cVv (As := [.int (5 : Int32), .int (Mo_at St)]) (rest := []) C (c_X10_wrong l D cy ht St (5 : Int32) (Mo_at St) q21 hc) gV_X10_X10_wrong hd_X10_wrong ⟨Nat.le_of_ble_eq_true rfl, Nat.le_of_ble_eq_true rfl⟩ ⟨Nat.le_refl _, Nat.le_refl _⟩ (va_recv hK hP (ci := 6) (q0 := 0) rfl rfl) hP hD hS (w2 := wMo ht cy q21 ++ (wAI (fun _ => ht 4) cy 140 St_fresh ++ (wAI (fun _ => ht 2) cy 8 St_letters ++ (wAI (fun _ => ht 13) cy 48 St_marked ++ (wAI (fun _ => ht 16) cy 8 St_ordered ++ (wAI (fun _ => ht 7) cy 64 St_owner ++ (wAI (fun _ => ht 6) cy 325 St_read ++ (wAI (fun _ => ht 14) cy 12 St_slots ++ (wAI (fun _ => ht 1) cy 900 St_tape))))))))) [0] [1, 2, 3, 4, 5, 6, 7, 8] [8, 0, 1, 2, 3, 4, 5, 6, 7] rfl rfl rfl rfl rfl rfl (by decide) hl.1 (Nat.le_of_ble_eq_true rfl) dX10_readLine_84 (fun H locs hP hD hS => ?_)
      exact w_X10_readLine_87 l E ht St_tape C hE q21 St_fresh St_letters St_marked St_ordered St_owner St_read St_slots H locs ls hf hP hD hS (lv_sub hl [0] rfl)
def b_X10_readLine_38 (St_tape : Nat → Int32) (St : SMo) (St_fresh : Nat → Int32) (St_letters : Nat → Int32) (St_marked : Nat → Int32) (St_ordered : Nat → Int32) (St_owner : Nat → Int32) (St_read : Nat → Int32) (St_slots : Nat → Int32) : Option (SMo × (Nat → Int32) × (Nat → Int32) × (Nat → Int32) × (Nat → Int32) × (Nat → Int32) × (Nat → Int32) × (Nat → Int32)) :=
  (f_X10_isWord St St_letters 1).bind (fun q22 =>
    (if q22 = 0 then
      (b_X10_readLine_59 St_tape St St_fresh St_letters St_marked St_ordered St_owner St_read St_slots)
      else
      (if zib (6 : Int32) 140 then (if (St_fresh (6 : Int32).toNatClampNeg) = (12 : Int32) then
          (f_X10_wrong St (5 : Int32) (Mo_at St)).bind (fun q23 =>
            (b_X10_readLine_87 St_tape q23 St_fresh St_letters St_marked St_ordered St_owner St_read St_slots))
          else
          (b_X10_readLine_59 St_tape St St_fresh St_letters St_marked St_ordered St_owner St_read St_slots)) else none)))
set_option maxHeartbeats 4000000 in
set_option maxRecDepth 100000 in
theorem w_X10_readLine_38 {p : Program} {e : Env} {s : State} {m : MethodId} {below : List Frame} {meth : Method} {c : Code} {A : Nat → Prop} {D : va_G} {cy : Nat → ClassId} {args : Array Value} {r : SMo × (Nat → Int32) × (Nat → Int32) × (Nat → Int32) × (Nat → Int32) × (Nat → Int32) × (Nat → Int32) × (Nat → Int32)} (l : Launch) (E : zEn) (ht : Nat → Nat) (St_tape : Nat → Int32) (C : zX p s m meth c cX10_readLine 1 args RX10 none A D (zty cy)) (hE : zE E A s s.heap) :
    ∀ (St : SMo) (St_fresh : Nat → Int32) (St_letters : Nat → Int32) (St_marked : Nat → Int32) (St_ordered : Nat → Int32) (St_owner : Nat → Int32) (St_read : Nat → Int32) (St_slots : Nat → Int32) (H : Heap) (locs : List Loc) (ls : Array Slot), b_X10_readLine_38 St_tape St St_fresh St_letters St_marked St_ordered St_owner St_read St_slots = some r → va_P D vwCl (wMo ht cy St ++ (wAI (fun _ => ht 4) cy 140 St_fresh ++ (wAI (fun _ => ht 2) cy 8 St_letters ++ (wAI (fun _ => ht 13) cy 48 St_marked ++ (wAI (fun _ => ht 16) cy 8 St_ordered ++ (wAI (fun _ => ht 7) cy 64 St_owner ++ (wAI (fun _ => ht 6) cy 325 St_read ++ (wAI (fun _ => ht 14) cy 12 St_slots ++ (wAI (fun _ => ht 1) cy 900 St_tape))))))))) H → va_D A (wMo ht cy St ++ (wAI (fun _ => ht 4) cy 140 St_fresh ++ (wAI (fun _ => ht 2) cy 8 St_letters ++ (wAI (fun _ => ht 13) cy 48 St_marked ++ (wAI (fun _ => ht 16) cy 8 St_ordered ++ (wAI (fun _ => ht 7) cy 64 St_owner ++ (wAI (fun _ => ht 6) cy 325 St_read ++ (wAI (fun _ => ht 14) cy 12 St_slots ++ (wAI (fun _ => ht 1) cy 900 St_tape))))))))) → va_S A s.heap H locs → lv_has ls 1 [(0, .ref (ht 0))] → W p l e (zRm 9 221) s m args below meth c H locs 0 0 (MQ below (zQV D (zty cy) A (wMo ht cy r.1 ++ (wAI (fun _ => ht 4) cy 140 r.2.1 ++ (wAI (fun _ => ht 2) cy 8 r.2.2.1 ++ (wAI (fun _ => ht 13) cy 48 r.2.2.2.1 ++ (wAI (fun _ => ht 16) cy 8 r.2.2.2.2.1 ++ (wAI (fun _ => ht 7) cy 64 r.2.2.2.2.2.1 ++ (wAI (fun _ => ht 6) cy 325 r.2.2.2.2.2.2.1 ++ (wAI (fun _ => ht 14) cy 12 r.2.2.2.2.2.2.2 ++ (wAI (fun _ => ht 1) cy 900 St_tape)))))))))) args s 0 0 A) (F0 m 38 ls []) := by
  obtain ⟨hx, hb, hr, hts, hown, hlocks, hml, hA, hK⟩ := id C
  intro St St_fresh St_letters St_marked St_ordered St_owner St_read St_slots H locs ls hf hP hD hS hl
  refine lv_aload_n hx hb dX10_readLine_38 rfl (lv_at hl 0 rfl) ?_
  refine va_ldcS hx hb hown (hE.2.2.2.2.2.2.2.2.2.1 ("StampedRowsModel", 213, "begin", 1) (by decide)) dX10_readLine_39 ?_
  obtain ⟨q22, hc, hf⟩ := zbd hf
  refine z_cVis (As := [.ref (E.1 1)]) (rest := []) C hE (c_X10_isWord l D cy E ht St St_letters 1 q22 hc) gV_X10_X10_isWord hd_X10_isWord ⟨Nat.le_of_ble_eq_true rfl, Nat.le_of_ble_eq_true rfl⟩ ⟨Nat.le_refl _, Nat.le_refl _⟩ (va_recv hK hP (ci := 6) (q0 := 0) rfl rfl) hP hD hS (w2 := wMo ht cy St ++ (wAI (fun _ => ht 4) cy 140 St_fresh ++ (wAI (fun _ => ht 2) cy 8 St_letters ++ (wAI (fun _ => ht 13) cy 48 St_marked ++ (wAI (fun _ => ht 16) cy 8 St_ordered ++ (wAI (fun _ => ht 7) cy 64 St_owner ++ (wAI (fun _ => ht 6) cy 325 St_read ++ (wAI (fun _ => ht 14) cy 12 St_slots ++ (wAI (fun _ => ht 1) cy 900 St_tape))))))))) [0, 2] [1, 3, 4, 5, 6, 7, 8] [7, 0, 8, 1, 2, 3, 4, 5, 6] rfl rfl rfl rfl rfl rfl (by decide) hl.1 (Nat.le_of_ble_eq_true rfl) dX10_readLine_41 (fun H locs hP hD hS => ?_)
  refine z_if_eq (tgt := 59) hx hb dX10_readLine_44 (by decide) hf (fun hf => ?_) (fun hf => ?_)
  · exact w_X10_readLine_59 l E ht St_tape C hE St St_fresh St_letters St_marked St_ordered St_owner St_read St_slots H locs ls hf hP hD hS (lv_sub hl [0] rfl)
  · refine lv_aload_n hx hb dX10_readLine_47 rfl (lv_at hl 0 rfl) ?_
    refine va_get (D := D) (ci := 6) (v := .ref (ht 4)) (C := RX10) (T := TX10) (N := 41) hx hb hts in_X10 hown hK hP 0 rfl rfl 16 (by decide) (hts _ q6_61) (fun _ h9 => h9) rfl dX10_readLine_48 ?_
    refine lv_bipush (v := (6 : Int32)) hx hb dX10_readLine_51 (by decide) ?_
    refine z_iald (f := St_fresh) hx hb hK hP 1 0 rfl rfl dX10_readLine_53 hf (fun hf => ?_)
    refine lv_bipush (v := (12 : Int32)) hx hb dX10_readLine_54 (by decide) ?_
    refine z_icmp_eq (tgt := 78) hx hb dX10_readLine_56 (by decide) hf (fun hf => ?_) (fun hf => ?_)
    · refine lv_aload_n hx hb dX10_readLine_78 rfl (lv_at hl 0 rfl) ?_
      refine lv_iconst (v := (5 : Int32)) hx hb dX10_readLine_79 (by decide) ?_
      refine lv_aload_n hx hb dX10_readLine_80 rfl (lv_at hl 0 rfl) ?_
      refine va_get (D := D) (ci := 6) (v := .int (Mo_at St)) (C := RX10) (T := TX10) (N := 41) hx hb hts in_X10 hown hK hP 0 rfl rfl 4 (by decide) (hts _ q6_49) (fun _ h9 => h9) rfl dX10_readLine_81 ?_
      obtain ⟨q23, hc, hf⟩ := zbd hf
      refine z_cVv (As := [.int (5 : Int32), .int (Mo_at St)]) (rest := []) C (c_X10_wrong l D cy ht St (5 : Int32) (Mo_at St) q23 hc) gV_X10_X10_wrong hd_X10_wrong ⟨Nat.le_of_ble_eq_true rfl, Nat.le_of_ble_eq_true rfl⟩ ⟨Nat.le_refl _, Nat.le_refl _⟩ (va_recv hK hP (ci := 6) (q0 := 0) rfl rfl) hP hD hS (w2 := wMo ht cy q23 ++ (wAI (fun _ => ht 4) cy 140 St_fresh ++ (wAI (fun _ => ht 2) cy 8 St_letters ++ (wAI (fun _ => ht 13) cy 48 St_marked ++ (wAI (fun _ => ht 16) cy 8 St_ordered ++ (wAI (fun _ => ht 7) cy 64 St_owner ++ (wAI (fun _ => ht 6) cy 325 St_read ++ (wAI (fun _ => ht 14) cy 12 St_slots ++ (wAI (fun _ => ht 1) cy 900 St_tape))))))))) [0] [1, 2, 3, 4, 5, 6, 7, 8] [8, 0, 1, 2, 3, 4, 5, 6, 7] rfl rfl rfl rfl rfl rfl (by decide) hl.1 (Nat.le_of_ble_eq_true rfl) dX10_readLine_84 (fun H locs hP hD hS => ?_)
      exact w_X10_readLine_87 l E ht St_tape C hE q23 St_fresh St_letters St_marked St_ordered St_owner St_read St_slots H locs ls hf hP hD hS (lv_sub hl [0] rfl)
    · exact w_X10_readLine_59 l E ht St_tape C hE St St_fresh St_letters St_marked St_ordered St_owner St_read St_slots H locs ls hf hP hD hS (lv_sub hl [0] rfl)
def f_X10_readLine (St : SMo) (St_fresh : Nat → Int32) (St_letters : Nat → Int32) (St_marked : Nat → Int32) (St_ordered : Nat → Int32) (St_owner : Nat → Int32) (St_read : Nat → Int32) (St_slots : Nat → Int32) (St_tape : Nat → Int32) : Option (SMo × (Nat → Int32) × (Nat → Int32) × (Nat → Int32) × (Nat → Int32) × (Nat → Int32) × (Nat → Int32) × (Nat → Int32)) :=
  (if (Mo_failed St) = 0 then
    (f_X10_isWord St St_letters 0).bind (fun q24 =>
      (if q24 = 0 then
        (f_X10_isLine St St_letters).bind (fun q25 =>
          (if q25 = 0 then
            (f_X10_wrong St (1 : Int32) (Mo_at St)).bind (fun q26 =>
              (b_X10_readLine_38 St_tape q26 St_fresh St_letters St_marked St_ordered St_owner St_read St_slots))
            else
            (b_X10_readLine_38 St_tape St St_fresh St_letters St_marked St_ordered St_owner St_read St_slots)))
        else
        (f_X10_storeLine St St_fresh St_letters St_read St_tape).bind (fun q27 =>
          some (q27.1, q27.2.1, q27.2.2.1, St_marked, St_ordered, St_owner, q27.2.2.2, St_slots))))
    else
    some (St, St_fresh, St_letters, St_marked, St_ordered, St_owner, St_read, St_slots))
set_option maxHeartbeats 4000000 in
set_option maxRecDepth 100000 in
theorem c_X10_readLine (l : Launch) (D : va_G) (cy : Nat → ClassId) (E : zEn) (ht : Nat → Nat) (St : SMo) (St_fresh : Nat → Int32) (St_letters : Nat → Int32) (St_marked : Nat → Int32) (St_ordered : Nat → Int32) (St_owner : Nat → Int32) (St_read : Nat → Int32) (St_slots : Nat → Int32) (St_tape : Nat → Int32) (r : SMo × (Nat → Int32) × (Nat → Int32) × (Nat → Int32) × (Nat → Int32) × (Nat → Int32) × (Nat → Int32) × (Nat → Int32)) (hf : f_X10_readLine St St_fresh St_letters St_marked St_ordered St_owner St_read St_slots St_tape = some r) : zCVs l yX10_readLine cX10_readLine 1 none 9 221 D (zty cy) E [.ref (ht 0)] (wMo ht cy St ++ (wAI (fun _ => ht 4) cy 140 St_fresh ++ (wAI (fun _ => ht 2) cy 8 St_letters ++ (wAI (fun _ => ht 13) cy 48 St_marked ++ (wAI (fun _ => ht 16) cy 8 St_ordered ++ (wAI (fun _ => ht 7) cy 64 St_owner ++ (wAI (fun _ => ht 6) cy 325 St_read ++ (wAI (fun _ => ht 14) cy 12 St_slots ++ (wAI (fun _ => ht 1) cy 900 St_tape))))))))) (wMo ht cy r.1 ++ (wAI (fun _ => ht 4) cy 140 r.2.1 ++ (wAI (fun _ => ht 2) cy 8 r.2.2.1 ++ (wAI (fun _ => ht 13) cy 48 r.2.2.2.1 ++ (wAI (fun _ => ht 16) cy 8 r.2.2.2.2.1 ++ (wAI (fun _ => ht 7) cy 64 r.2.2.2.2.2.1 ++ (wAI (fun _ => ht 6) cy 325 r.2.2.2.2.2.2.1 ++ (wAI (fun _ => ht 14) cy 12 r.2.2.2.2.2.2.2 ++ (wAI (fun _ => ht 1) cy 900 St_tape))))))))) := by
  refine zCVs_of (by decide +kernel) (Nat.le_of_ble_eq_true rfl) ?_
  intro p e s m below meth c A ls C hE hP hD hS hl
  generalize hargs : ([.ref (ht 0)] : List Value).toArray = args at C ⊢
  have C : zX p s m meth c cX10_readLine 1 args RX10 none A D (zty cy) := C
  obtain ⟨hx, hb, hr, hts, hown, hlocks, hml, hA, hK⟩ := id C
  have hl : lv_has ls 1 [(0, .ref (ht 0))] := hl
  generalize hH : s.heap = H at hP ⊢
  have hS : va_S A s.heap H [] := by rw [← hH]; exact hS
  generalize ([] : List Loc) = locs at hS ⊢
  refine lv_aload_n hx hb dX10_readLine_0 rfl (lv_at hl 0 rfl) ?_
  refine va_get (D := D) (ci := 6) (v := .int (Mo_failed St)) (C := RX10) (T := TX10) (N := 41) hx hb hts in_X10 hown hK hP 0 rfl rfl 13 (by decide) (hts _ q6_58) (fun _ h9 => h9) rfl dX10_readLine_1 ?_
  refine z_if_eq (tgt := 8) hx hb dX10_readLine_4 (by decide) hf (fun hf => ?_) (fun hf => ?_)
  · refine lv_aload_n hx hb dX10_readLine_8 rfl (lv_at hl 0 rfl) ?_
    refine va_ldcS hx hb hown (hE.2.2.2.2.2.2.2.2.2.1 ("StampedRowsModel", 211, "store", 0) (by decide)) dX10_readLine_9 ?_
    obtain ⟨q24, hc, hf⟩ := zbd hf
    refine z_cVis (As := [.ref (E.1 0)]) (rest := []) C hE (c_X10_isWord l D cy E ht St St_letters 0 q24 hc) gV_X10_X10_isWord hd_X10_isWord ⟨Nat.le_of_ble_eq_true rfl, Nat.le_of_ble_eq_true rfl⟩ ⟨Nat.le_refl _, Nat.le_refl _⟩ (va_recv hK hP (ci := 6) (q0 := 0) rfl rfl) hP hD hS (w2 := wMo ht cy St ++ (wAI (fun _ => ht 4) cy 140 St_fresh ++ (wAI (fun _ => ht 2) cy 8 St_letters ++ (wAI (fun _ => ht 13) cy 48 St_marked ++ (wAI (fun _ => ht 16) cy 8 St_ordered ++ (wAI (fun _ => ht 7) cy 64 St_owner ++ (wAI (fun _ => ht 6) cy 325 St_read ++ (wAI (fun _ => ht 14) cy 12 St_slots ++ (wAI (fun _ => ht 1) cy 900 St_tape))))))))) [0, 2] [1, 3, 4, 5, 6, 7, 8] [7, 0, 8, 1, 2, 3, 4, 5, 6] rfl rfl rfl rfl rfl rfl (by decide) hl.1 (Nat.le_of_ble_eq_true rfl) dX10_readLine_11 (fun H locs hP hD hS => ?_)
    refine z_if_eq (tgt := 22) hx hb dX10_readLine_14 (by decide) hf (fun hf => ?_) (fun hf => ?_)
    · refine lv_aload_n hx hb dX10_readLine_22 rfl (lv_at hl 0 rfl) ?_
      obtain ⟨q25, hc, hf⟩ := zbd hf
      refine z_cVis (As := []) (rest := []) C hE (c_X10_isLine l D cy E ht St St_letters q25 hc) gV_X10_X10_isLine hd_X10_isLine ⟨Nat.le_of_ble_eq_true rfl, Nat.le_of_ble_eq_true rfl⟩ ⟨Nat.le_refl _, Nat.le_refl _⟩ (va_recv hK hP (ci := 6) (q0 := 0) rfl rfl) hP hD hS (w2 := wMo ht cy St ++ (wAI (fun _ => ht 4) cy 140 St_fresh ++ (wAI (fun _ => ht 2) cy 8 St_letters ++ (wAI (fun _ => ht 13) cy 48 St_marked ++ (wAI (fun _ => ht 16) cy 8 St_ordered ++ (wAI (fun _ => ht 7) cy 64 St_owner ++ (wAI (fun _ => ht 6) cy 325 St_read ++ (wAI (fun _ => ht 14) cy 12 St_slots ++ (wAI (fun _ => ht 1) cy 900 St_tape))))))))) [0, 2] [1, 3, 4, 5, 6, 7, 8] [7, 0, 8, 1, 2, 3, 4, 5, 6] rfl rfl rfl rfl rfl rfl (by decide) hl.1 (Nat.le_of_ble_eq_true rfl) dX10_readLine_23 (fun H locs hP hD hS => ?_)
      refine z_if_ne (tgt := 38) hx hb dX10_readLine_26 (by decide) hf (fun hf => ?_) (fun hf => ?_)
      · exact w_X10_readLine_38 l E ht St_tape C hE St St_fresh St_letters St_marked St_ordered St_owner St_read St_slots H locs ls hf hP hD hS (lv_sub hl [0] rfl)
      · refine lv_aload_n hx hb dX10_readLine_29 rfl (lv_at hl 0 rfl) ?_
        refine lv_iconst (v := (1 : Int32)) hx hb dX10_readLine_30 (by decide) ?_
        refine lv_aload_n hx hb dX10_readLine_31 rfl (lv_at hl 0 rfl) ?_
        refine va_get (D := D) (ci := 6) (v := .int (Mo_at St)) (C := RX10) (T := TX10) (N := 41) hx hb hts in_X10 hown hK hP 0 rfl rfl 4 (by decide) (hts _ q6_49) (fun _ h9 => h9) rfl dX10_readLine_32 ?_
        obtain ⟨q26, hc, hf⟩ := zbd hf
        refine z_cVv (As := [.int (1 : Int32), .int (Mo_at St)]) (rest := []) C (c_X10_wrong l D cy ht St (1 : Int32) (Mo_at St) q26 hc) gV_X10_X10_wrong hd_X10_wrong ⟨Nat.le_of_ble_eq_true rfl, Nat.le_of_ble_eq_true rfl⟩ ⟨Nat.le_refl _, Nat.le_refl _⟩ (va_recv hK hP (ci := 6) (q0 := 0) rfl rfl) hP hD hS (w2 := wMo ht cy q26 ++ (wAI (fun _ => ht 4) cy 140 St_fresh ++ (wAI (fun _ => ht 2) cy 8 St_letters ++ (wAI (fun _ => ht 13) cy 48 St_marked ++ (wAI (fun _ => ht 16) cy 8 St_ordered ++ (wAI (fun _ => ht 7) cy 64 St_owner ++ (wAI (fun _ => ht 6) cy 325 St_read ++ (wAI (fun _ => ht 14) cy 12 St_slots ++ (wAI (fun _ => ht 1) cy 900 St_tape))))))))) [0] [1, 2, 3, 4, 5, 6, 7, 8] [8, 0, 1, 2, 3, 4, 5, 6, 7] rfl rfl rfl rfl rfl rfl (by decide) hl.1 (Nat.le_of_ble_eq_true rfl) dX10_readLine_35 (fun H locs hP hD hS => ?_)
        exact w_X10_readLine_38 l E ht St_tape C hE q26 St_fresh St_letters St_marked St_ordered St_owner St_read St_slots H locs ls hf hP hD hS (lv_sub hl [0] rfl)
    · refine lv_aload_n hx hb dX10_readLine_17 rfl (lv_at hl 0 rfl) ?_
      obtain ⟨q27, hc, hf⟩ := zbd hf
      refine z_cVvs (As := []) (rest := []) C hE (c_X10_storeLine l D cy E ht St St_fresh St_letters St_read St_tape q27 hc) gV_X10_X10_storeLine hd_X10_storeLine ⟨Nat.le_of_ble_eq_true rfl, Nat.le_of_ble_eq_true rfl⟩ ⟨Nat.le_refl _, Nat.le_refl _⟩ (va_recv hK hP (ci := 6) (q0 := 0) rfl rfl) hP hD hS (w2 := wMo ht cy q27.1 ++ (wAI (fun _ => ht 4) cy 140 q27.2.1 ++ (wAI (fun _ => ht 2) cy 8 q27.2.2.1 ++ (wAI (fun _ => ht 13) cy 48 St_marked ++ (wAI (fun _ => ht 16) cy 8 St_ordered ++ (wAI (fun _ => ht 7) cy 64 St_owner ++ (wAI (fun _ => ht 6) cy 325 q27.2.2.2 ++ (wAI (fun _ => ht 14) cy 12 St_slots ++ (wAI (fun _ => ht 1) cy 900 St_tape))))))))) [0, 1, 2, 6, 8] [3, 4, 5, 7] [4, 5, 6, 0, 1, 2, 7, 3, 8] rfl rfl rfl rfl rfl rfl (by decide) hl.1 (Nat.le_of_ble_eq_true rfl) dX10_readLine_18 (fun H locs hP hD hS => ?_)
      obtain rfl := Option.some.inj hf
      exact z_vret C hP hD hS dX10_readLine_21
  · obtain rfl := Option.some.inj hf
    exact z_vret C hP hD hS dX10_readLine_7
def b_X10_store_235 (St_tape : Nat → Int32) (x1 : Int32) (St : SMo) (St_fresh : Nat → Int32) (St_letters : Nat → Int32) (St_marked : Nat → Int32) (St_order : Nat → Int32) (St_ordered : Nat → Int32) (St_owned : Nat → Int32) (St_owner : Nat → Int32) (St_r : Nat → Int32) (St_read : Nat → Int32) (St_slots : Nat → Int32) (St_st : Nat → Int32) (St_told : Nat → Int32) : Option (Int32 × SMo × (Nat → Int32) × (Nat → Int32) × (Nat → Int32) × (Nat → Int32) × (Nat → Int32) × (Nat → Int32) × (Nat → Int32) × (Nat → Int32) × (Nat → Int32) × (Nat → Int32) × (Nat → Int32) × (Nat → Int32)) :=
  (if (Mo_failed St) = 0 then
    (f_X10_copy 140 140 St_fresh St_r (0 : Int32) (0 : Int32) (140 : Int32)).bind (fun q1 =>
      (f_X10_copy 325 325 St_read St_told (0 : Int32) (0 : Int32) (325 : Int32)).bind (fun q2 =>
        (f_X10_copy 325 325 St_read St_st (0 : Int32) (0 : Int32) (325 : Int32)).bind (fun q3 =>
          (f_X10_copy 64 64 St_owner St_owned (0 : Int32) (0 : Int32) (64 : Int32)).bind (fun q4 =>
            (f_X10_copy 8 8 St_ordered St_order (0 : Int32) (0 : Int32) (8 : Int32)).bind (fun q5 =>
              (f_X10_versionsOf q3).bind (fun q6 =>
                some (q6, (mkMo (Mo_thrown St) (Mo_taped St) (Mo_size St) (Mo_at St) (Mo_end St) (Mo_token St) (Mo_whole St) (Mo_nameSize St) (Mo_fault St) (Mo_place St) (Mo_trouble St) (Mo_failed St) (1 : Int32) (0 : Int32) (0 : Int32) (Mo_ring St) (Mo_refused St) (Mo_setMany St) (Mo_someOf St) (Mo_allOf St) (Mo_firstRest St) (Mo_allWeight St) (Mo_seenWeight St) (Mo_sumWeight St)), St_fresh, St_letters, St_marked, q5, St_ordered, q4, St_owner, q1, St_read, St_slots, q3, q2)))))))
    else
    (if zib (0 : Int32) 140 then (f_X10_no (mkMo (Mo_thrown St) (Mo_taped St) (Mo_size St) (Mo_at St) (Mo_end St) (Mo_token St) (Mo_whole St) (Mo_nameSize St) (Mo_fault St) (Mo_place St) (Mo_trouble St) (Mo_failed St) (Mo_hasStore St) (Mo_undos St) (Mo_images St) (St_r (0 : Int32).toNatClampNeg) (Mo_refused St) (Mo_setMany St) (Mo_someOf St) (Mo_allOf St) (Mo_firstRest St) (Mo_allWeight St) (Mo_seenWeight St) (Mo_sumWeight St)) (4 : Int32)).bind (fun q7 =>
        some (q7.1, q7.2, St_fresh, St_letters, St_marked, St_order, St_ordered, St_owned, St_owner, St_r, St_read, St_slots, St_st, St_told)) else none))
set_option maxHeartbeats 4000000 in
set_option maxRecDepth 100000 in
theorem w_X10_store_235 {p : Program} {e : Env} {s : State} {m : MethodId} {below : List Frame} {meth : Method} {c : Code} {A : Nat → Prop} {D : va_G} {cy : Nat → ClassId} {args : Array Value} {r : Int32 × SMo × (Nat → Int32) × (Nat → Int32) × (Nat → Int32) × (Nat → Int32) × (Nat → Int32) × (Nat → Int32) × (Nat → Int32) × (Nat → Int32) × (Nat → Int32) × (Nat → Int32) × (Nat → Int32) × (Nat → Int32)} (l : Launch) (E : zEn) (ht : Nat → Nat) (St_tape : Nat → Int32) (x1 : Int32) (C : zX p s m meth c cX10_store 3 args RX10 (some FieldType.int) A D (zty cy)) (hE : zE E A s s.heap) :
    ∀ (St : SMo) (St_fresh : Nat → Int32) (St_letters : Nat → Int32) (St_marked : Nat → Int32) (St_order : Nat → Int32) (St_ordered : Nat → Int32) (St_owned : Nat → Int32) (St_owner : Nat → Int32) (St_r : Nat → Int32) (St_read : Nat → Int32) (St_slots : Nat → Int32) (St_st : Nat → Int32) (St_told : Nat → Int32) (H : Heap) (locs : List Loc) (ls : Array Slot), b_X10_store_235 St_tape x1 St St_fresh St_letters St_marked St_order St_ordered St_owned St_owner St_r St_read St_slots St_st St_told = some r → va_P D vwCl (wMo ht cy St ++ (wAI (fun _ => ht 4) cy 140 St_fresh ++ (wAI (fun _ => ht 2) cy 8 St_letters ++ (wAI (fun _ => ht 13) cy 48 St_marked ++ (wAI (fun _ => ht 15) cy 8 St_order ++ (wAI (fun _ => ht 16) cy 8 St_ordered ++ (wAI (fun _ => ht 8) cy 64 St_owned ++ (wAI (fun _ => ht 7) cy 64 St_owner ++ (wAI (fun _ => ht 3) cy 140 St_r ++ (wAI (fun _ => ht 6) cy 325 St_read ++ (wAI (fun _ => ht 14) cy 12 St_slots ++ (wAI (fun _ => ht 9) cy 325 St_st ++ (wAI (fun _ => ht 1) cy 900 St_tape ++ (wAI (fun _ => ht 5) cy 325 St_told)))))))))))))) H → va_D A (wMo ht cy St ++ (wAI (fun _ => ht 4) cy 140 St_fresh ++ (wAI (fun _ => ht 2) cy 8 St_letters ++ (wAI (fun _ => ht 13) cy 48 St_marked ++ (wAI (fun _ => ht 15) cy 8 St_order ++ (wAI (fun _ => ht 16) cy 8 St_ordered ++ (wAI (fun _ => ht 8) cy 64 St_owned ++ (wAI (fun _ => ht 7) cy 64 St_owner ++ (wAI (fun _ => ht 3) cy 140 St_r ++ (wAI (fun _ => ht 6) cy 325 St_read ++ (wAI (fun _ => ht 14) cy 12 St_slots ++ (wAI (fun _ => ht 9) cy 325 St_st ++ (wAI (fun _ => ht 1) cy 900 St_tape ++ (wAI (fun _ => ht 5) cy 325 St_told)))))))))))))) → va_S A s.heap H locs → lv_has ls 3 [(0, .ref (ht 0))] → W p l e (zRm 10 241) s m args below meth c H locs 0 0 (MQ below (zQI D (zty cy) A (wMo ht cy r.2.1 ++ (wAI (fun _ => ht 4) cy 140 r.2.2.1 ++ (wAI (fun _ => ht 2) cy 8 r.2.2.2.1 ++ (wAI (fun _ => ht 13) cy 48 r.2.2.2.2.1 ++ (wAI (fun _ => ht 15) cy 8 r.2.2.2.2.2.1 ++ (wAI (fun _ => ht 16) cy 8 r.2.2.2.2.2.2.1 ++ (wAI (fun _ => ht 8) cy 64 r.2.2.2.2.2.2.2.1 ++ (wAI (fun _ => ht 7) cy 64 r.2.2.2.2.2.2.2.2.1 ++ (wAI (fun _ => ht 3) cy 140 r.2.2.2.2.2.2.2.2.2.1 ++ (wAI (fun _ => ht 6) cy 325 r.2.2.2.2.2.2.2.2.2.2.1 ++ (wAI (fun _ => ht 14) cy 12 r.2.2.2.2.2.2.2.2.2.2.2.1 ++ (wAI (fun _ => ht 9) cy 325 r.2.2.2.2.2.2.2.2.2.2.2.2.1 ++ (wAI (fun _ => ht 1) cy 900 St_tape ++ (wAI (fun _ => ht 5) cy 325 r.2.2.2.2.2.2.2.2.2.2.2.2.2)))))))))))))) r.1) args s 0 0 A) (F0 m 235 ls []) := by
  obtain ⟨hx, hb, hr, hts, hown, hlocks, hml, hA, hK⟩ := id C
  intro St St_fresh St_letters St_marked St_order St_ordered St_owned St_owner St_r St_read St_slots St_st St_told H locs ls hf hP hD hS hl
  refine lv_aload_n hx hb dX10_store_235 rfl (lv_at hl 0 rfl) ?_
  refine va_get (D := D) (ci := 6) (v := .int (Mo_failed St)) (C := RX10) (T := TX10) (N := 41) hx hb hts in_X10 hown hK hP 0 rfl rfl 13 (by decide) (hts _ q6_58) (fun _ h9 => h9) rfl dX10_store_236 ?_
  refine z_if_eq (tgt := 258) hx hb dX10_store_239 (by decide) hf (fun hf => ?_) (fun hf => ?_)
  · refine lv_aload_n hx hb dX10_store_258 rfl (lv_at hl 0 rfl) ?_
    refine va_get (D := D) (ci := 6) (v := .ref (ht 4)) (C := RX10) (T := TX10) (N := 41) hx hb hts in_X10 hown hK hP 0 rfl rfl 16 (by decide) (hts _ q6_61) (fun _ h9 => h9) rfl dX10_store_259 ?_
    refine lv_iconst (v := (0 : Int32)) hx hb dX10_store_262 (by decide) ?_
    refine lv_aload_n hx hb dX10_store_263 rfl (lv_at hl 0 rfl) ?_
    refine va_get (D := D) (ci := 6) (v := .ref (ht 3)) (C := RX10) (T := TX10) (N := 41) hx hb hts in_X10 hown hK hP 0 rfl rfl 15 (by decide) (hts _ q6_60) (fun _ h9 => h9) rfl dX10_store_264 ?_
    refine lv_iconst (v := (0 : Int32)) hx hb dX10_store_267 (by decide) ?_
    refine lv_sipush (v := (140 : Int32)) hx hb dX10_store_268 (by decide) ?_
    obtain ⟨q1, hc, hf⟩ := zbd hf
    refine z_cSv (As := [.ref (ht 4), .int (0 : Int32), .ref (ht 3), .int (0 : Int32), .int (140 : Int32)]) (rest := []) C (c_X10_copy l D cy (fun _ => ht 4) (fun _ => ht 3) 140 140 St_fresh St_r (0 : Int32) (0 : Int32) (140 : Int32) q1 hc) gS_X10_X10_copy hd_X10_copy ⟨Nat.le_of_ble_eq_true rfl, Nat.le_of_ble_eq_true rfl⟩ ⟨Nat.le_refl _, Nat.le_refl _⟩ hP hD hS (w2 := wMo ht cy St ++ (wAI (fun _ => ht 4) cy 140 St_fresh ++ (wAI (fun _ => ht 2) cy 8 St_letters ++ (wAI (fun _ => ht 13) cy 48 St_marked ++ (wAI (fun _ => ht 15) cy 8 St_order ++ (wAI (fun _ => ht 16) cy 8 St_ordered ++ (wAI (fun _ => ht 8) cy 64 St_owned ++ (wAI (fun _ => ht 7) cy 64 St_owner ++ (wAI (fun _ => ht 3) cy 140 q1 ++ (wAI (fun _ => ht 6) cy 325 St_read ++ (wAI (fun _ => ht 14) cy 12 St_slots ++ (wAI (fun _ => ht 9) cy 325 St_st ++ (wAI (fun _ => ht 1) cy 900 St_tape ++ (wAI (fun _ => ht 5) cy 325 St_told)))))))))))))) [1, 8] [0, 2, 3, 4, 5, 6, 7, 9, 10, 11, 12, 13] [0, 12, 1, 2, 3, 4, 5, 6, 13, 7, 8, 9, 10, 11] rfl rfl rfl rfl rfl rfl (by decide) hl.1 (Nat.le_of_ble_eq_true rfl) dX10_store_271 (fun H locs hP hD hS => ?_)
    refine lv_aload_n hx hb dX10_store_274 rfl (lv_at hl 0 rfl) ?_
    refine va_get (D := D) (ci := 6) (v := .ref (ht 6)) (C := RX10) (T := TX10) (N := 41) hx hb hts in_X10 hown hK hP 0 rfl rfl 18 (by decide) (hts _ q6_63) (fun _ h9 => h9) rfl dX10_store_275 ?_
    refine lv_iconst (v := (0 : Int32)) hx hb dX10_store_278 (by decide) ?_
    refine lv_aload_n hx hb dX10_store_279 rfl (lv_at hl 0 rfl) ?_
    refine va_get (D := D) (ci := 6) (v := .ref (ht 5)) (C := RX10) (T := TX10) (N := 41) hx hb hts in_X10 hown hK hP 0 rfl rfl 17 (by decide) (hts _ q6_62) (fun _ h9 => h9) rfl dX10_store_280 ?_
    refine lv_iconst (v := (0 : Int32)) hx hb dX10_store_283 (by decide) ?_
    refine lv_sipush (v := (325 : Int32)) hx hb dX10_store_284 (by decide) ?_
    obtain ⟨q2, hc, hf⟩ := zbd hf
    refine z_cSv (As := [.ref (ht 6), .int (0 : Int32), .ref (ht 5), .int (0 : Int32), .int (325 : Int32)]) (rest := []) C (c_X10_copy l D cy (fun _ => ht 6) (fun _ => ht 5) 325 325 St_read St_told (0 : Int32) (0 : Int32) (325 : Int32) q2 hc) gS_X10_X10_copy hd_X10_copy ⟨Nat.le_of_ble_eq_true rfl, Nat.le_of_ble_eq_true rfl⟩ ⟨Nat.le_refl _, Nat.le_refl _⟩ hP hD hS (w2 := wMo ht cy St ++ (wAI (fun _ => ht 4) cy 140 St_fresh ++ (wAI (fun _ => ht 2) cy 8 St_letters ++ (wAI (fun _ => ht 13) cy 48 St_marked ++ (wAI (fun _ => ht 15) cy 8 St_order ++ (wAI (fun _ => ht 16) cy 8 St_ordered ++ (wAI (fun _ => ht 8) cy 64 St_owned ++ (wAI (fun _ => ht 7) cy 64 St_owner ++ (wAI (fun _ => ht 3) cy 140 q1 ++ (wAI (fun _ => ht 6) cy 325 St_read ++ (wAI (fun _ => ht 14) cy 12 St_slots ++ (wAI (fun _ => ht 9) cy 325 St_st ++ (wAI (fun _ => ht 1) cy 900 St_tape ++ (wAI (fun _ => ht 5) cy 325 q2)))))))))))))) [9, 13] [0, 1, 2, 3, 4, 5, 6, 7, 8, 10, 11, 12] [0, 1, 2, 3, 4, 5, 6, 7, 8, 12, 9, 10, 11, 13] rfl rfl rfl rfl rfl rfl (by decide) hl.1 (Nat.le_of_ble_eq_true rfl) dX10_store_287 (fun H locs hP hD hS => ?_)
    refine lv_aload_n hx hb dX10_store_290 rfl (lv_at hl 0 rfl) ?_
    refine va_get (D := D) (ci := 6) (v := .ref (ht 6)) (C := RX10) (T := TX10) (N := 41) hx hb hts in_X10 hown hK hP 0 rfl rfl 18 (by decide) (hts _ q6_63) (fun _ h9 => h9) rfl dX10_store_291 ?_
    refine lv_iconst (v := (0 : Int32)) hx hb dX10_store_294 (by decide) ?_
    refine lv_aload_n hx hb dX10_store_295 rfl (lv_at hl 0 rfl) ?_
    refine va_get (D := D) (ci := 6) (v := .ref (ht 9)) (C := RX10) (T := TX10) (N := 41) hx hb hts in_X10 hown hK hP 0 rfl rfl 21 (by decide) (hts _ q6_66) (fun _ h9 => h9) rfl dX10_store_296 ?_
    refine lv_iconst (v := (0 : Int32)) hx hb dX10_store_299 (by decide) ?_
    refine lv_sipush (v := (325 : Int32)) hx hb dX10_store_300 (by decide) ?_
    obtain ⟨q3, hc, hf⟩ := zbd hf
    refine z_cSv (As := [.ref (ht 6), .int (0 : Int32), .ref (ht 9), .int (0 : Int32), .int (325 : Int32)]) (rest := []) C (c_X10_copy l D cy (fun _ => ht 6) (fun _ => ht 9) 325 325 St_read St_st (0 : Int32) (0 : Int32) (325 : Int32) q3 hc) gS_X10_X10_copy hd_X10_copy ⟨Nat.le_of_ble_eq_true rfl, Nat.le_of_ble_eq_true rfl⟩ ⟨Nat.le_refl _, Nat.le_refl _⟩ hP hD hS (w2 := wMo ht cy St ++ (wAI (fun _ => ht 4) cy 140 St_fresh ++ (wAI (fun _ => ht 2) cy 8 St_letters ++ (wAI (fun _ => ht 13) cy 48 St_marked ++ (wAI (fun _ => ht 15) cy 8 St_order ++ (wAI (fun _ => ht 16) cy 8 St_ordered ++ (wAI (fun _ => ht 8) cy 64 St_owned ++ (wAI (fun _ => ht 7) cy 64 St_owner ++ (wAI (fun _ => ht 3) cy 140 q1 ++ (wAI (fun _ => ht 6) cy 325 St_read ++ (wAI (fun _ => ht 14) cy 12 St_slots ++ (wAI (fun _ => ht 9) cy 325 q3 ++ (wAI (fun _ => ht 1) cy 900 St_tape ++ (wAI (fun _ => ht 5) cy 325 q2)))))))))))))) [9, 11] [0, 1, 2, 3, 4, 5, 6, 7, 8, 10, 12, 13] [0, 1, 2, 3, 4, 5, 6, 7, 8, 12, 9, 13, 10, 11] rfl rfl rfl rfl rfl rfl (by decide) hl.1 (Nat.le_of_ble_eq_true rfl) dX10_store_303 (fun H locs hP hD hS => ?_)
    refine lv_aload_n hx hb dX10_store_306 rfl (lv_at hl 0 rfl) ?_
    refine va_get (D := D) (ci := 6) (v := .ref (ht 7)) (C := RX10) (T := TX10) (N := 41) hx hb hts in_X10 hown hK hP 0 rfl rfl 19 (by decide) (hts _ q6_64) (fun _ h9 => h9) rfl dX10_store_307 ?_
    refine lv_iconst (v := (0 : Int32)) hx hb dX10_store_310 (by decide) ?_
    refine lv_aload_n hx hb dX10_store_311 rfl (lv_at hl 0 rfl) ?_
    refine va_get (D := D) (ci := 6) (v := .ref (ht 8)) (C := RX10) (T := TX10) (N := 41) hx hb hts in_X10 hown hK hP 0 rfl rfl 20 (by decide) (hts _ q6_65) (fun _ h9 => h9) rfl dX10_store_312 ?_
    refine lv_iconst (v := (0 : Int32)) hx hb dX10_store_315 (by decide) ?_
    refine lv_bipush (v := (64 : Int32)) hx hb dX10_store_316 (by decide) ?_
    obtain ⟨q4, hc, hf⟩ := zbd hf
    refine z_cSv (As := [.ref (ht 7), .int (0 : Int32), .ref (ht 8), .int (0 : Int32), .int (64 : Int32)]) (rest := []) C (c_X10_copy l D cy (fun _ => ht 7) (fun _ => ht 8) 64 64 St_owner St_owned (0 : Int32) (0 : Int32) (64 : Int32) q4 hc) gS_X10_X10_copy hd_X10_copy ⟨Nat.le_of_ble_eq_true rfl, Nat.le_of_ble_eq_true rfl⟩ ⟨Nat.le_refl _, Nat.le_refl _⟩ hP hD hS (w2 := wMo ht cy St ++ (wAI (fun _ => ht 4) cy 140 St_fresh ++ (wAI (fun _ => ht 2) cy 8 St_letters ++ (wAI (fun _ => ht 13) cy 48 St_marked ++ (wAI (fun _ => ht 15) cy 8 St_order ++ (wAI (fun _ => ht 16) cy 8 St_ordered ++ (wAI (fun _ => ht 8) cy 64 q4 ++ (wAI (fun _ => ht 7) cy 64 St_owner ++ (wAI (fun _ => ht 3) cy 140 q1 ++ (wAI (fun _ => ht 6) cy 325 St_read ++ (wAI (fun _ => ht 14) cy 12 St_slots ++ (wAI (fun _ => ht 9) cy 325 q3 ++ (wAI (fun _ => ht 1) cy 900 St_tape ++ (wAI (fun _ => ht 5) cy 325 q2)))))))))))))) [7, 6] [0, 1, 2, 3, 4, 5, 8, 9, 10, 11, 12, 13] [0, 1, 2, 3, 4, 5, 13, 12, 6, 7, 8, 9, 10, 11] rfl rfl rfl rfl rfl rfl (by decide) hl.1 (Nat.le_of_ble_eq_true rfl) dX10_store_318 (fun H locs hP hD hS => ?_)
    refine lv_aload_n hx hb dX10_store_321 rfl (lv_at hl 0 rfl) ?_
    refine va_get (D := D) (ci := 6) (v := .ref (ht 16)) (C := RX10) (T := TX10) (N := 41) hx hb hts in_X10 hown hK hP 0 rfl rfl 32 (by decide) (hts _ q6_77) (fun _ h9 => h9) rfl dX10_store_322 ?_
    refine lv_iconst (v := (0 : Int32)) hx hb dX10_store_325 (by decide) ?_
    refine lv_aload_n hx hb dX10_store_326 rfl (lv_at hl 0 rfl) ?_
    refine va_get (D := D) (ci := 6) (v := .ref (ht 15)) (C := RX10) (T := TX10) (N := 41) hx hb hts in_X10 hown hK hP 0 rfl rfl 31 (by decide) (hts _ q6_76) (fun _ h9 => h9) rfl dX10_store_327 ?_
    refine lv_iconst (v := (0 : Int32)) hx hb dX10_store_330 (by decide) ?_
    refine lv_bipush (v := (8 : Int32)) hx hb dX10_store_331 (by decide) ?_
    obtain ⟨q5, hc, hf⟩ := zbd hf
    refine z_cSv (As := [.ref (ht 16), .int (0 : Int32), .ref (ht 15), .int (0 : Int32), .int (8 : Int32)]) (rest := []) C (c_X10_copy l D cy (fun _ => ht 16) (fun _ => ht 15) 8 8 St_ordered St_order (0 : Int32) (0 : Int32) (8 : Int32) q5 hc) gS_X10_X10_copy hd_X10_copy ⟨Nat.le_of_ble_eq_true rfl, Nat.le_of_ble_eq_true rfl⟩ ⟨Nat.le_refl _, Nat.le_refl _⟩ hP hD hS (w2 := wMo ht cy St ++ (wAI (fun _ => ht 4) cy 140 St_fresh ++ (wAI (fun _ => ht 2) cy 8 St_letters ++ (wAI (fun _ => ht 13) cy 48 St_marked ++ (wAI (fun _ => ht 15) cy 8 q5 ++ (wAI (fun _ => ht 16) cy 8 St_ordered ++ (wAI (fun _ => ht 8) cy 64 q4 ++ (wAI (fun _ => ht 7) cy 64 St_owner ++ (wAI (fun _ => ht 3) cy 140 q1 ++ (wAI (fun _ => ht 6) cy 325 St_read ++ (wAI (fun _ => ht 14) cy 12 St_slots ++ (wAI (fun _ => ht 9) cy 325 q3 ++ (wAI (fun _ => ht 1) cy 900 St_tape ++ (wAI (fun _ => ht 5) cy 325 q2)))))))))))))) [5, 4] [0, 1, 2, 3, 6, 7, 8, 9, 10, 11, 12, 13] [0, 1, 2, 3, 13, 12, 4, 5, 6, 7, 8, 9, 10, 11] rfl rfl rfl rfl rfl rfl (by decide) hl.1 (Nat.le_of_ble_eq_true rfl) dX10_store_333 (fun H locs hP hD hS => ?_)
    refine lv_aload_n hx hb dX10_store_336 rfl (lv_at hl 0 rfl) ?_
    refine lv_iconst (v := (1 : Int32)) hx hb dX10_store_337 (by decide) ?_
    refine z_put (w2 := vMo ht cy (Mo_thrown St) (Mo_taped St) (Mo_size St) (Mo_at St) (Mo_end St) (Mo_token St) (Mo_whole St) (Mo_nameSize St) (Mo_fault St) (Mo_place St) (Mo_trouble St) (Mo_failed St) (1 : Int32) (Mo_undos St) (Mo_images St) (Mo_ring St) (Mo_refused St) (Mo_setMany St) (Mo_someOf St) (Mo_allOf St) (Mo_firstRest St) (Mo_allWeight St) (Mo_seenWeight St) (Mo_sumWeight St) ++ (wAI (fun _ => ht 4) cy 140 St_fresh ++ (wAI (fun _ => ht 2) cy 8 St_letters ++ (wAI (fun _ => ht 13) cy 48 St_marked ++ (wAI (fun _ => ht 15) cy 8 q5 ++ (wAI (fun _ => ht 16) cy 8 St_ordered ++ (wAI (fun _ => ht 8) cy 64 q4 ++ (wAI (fun _ => ht 7) cy 64 St_owner ++ (wAI (fun _ => ht 3) cy 140 q1 ++ (wAI (fun _ => ht 6) cy 325 St_read ++ (wAI (fun _ => ht 14) cy 12 St_slots ++ (wAI (fun _ => ht 9) cy 325 q3 ++ (wAI (fun _ => ht 1) cy 900 St_tape ++ (wAI (fun _ => ht 5) cy 325 q2)))))))))))))) hx hb hts in_X10 tyX10 tyX10_ok nmX10 hown hK hP hD hS 0 rfl rfl 14 (by decide) (hts _ q6_59) (fun _ h9 => h9) rfl rfl rfl (Nat.le_of_ble_eq_true rfl) dX10_store_338 rfl (fun H locs hP hD hS => ?_)
    refine lv_aload_n hx hb dX10_store_341 rfl (lv_at hl 0 rfl) ?_
    refine lv_iconst (v := (0 : Int32)) hx hb dX10_store_342 (by decide) ?_
    refine z_put (w2 := vMo ht cy (Mo_thrown St) (Mo_taped St) (Mo_size St) (Mo_at St) (Mo_end St) (Mo_token St) (Mo_whole St) (Mo_nameSize St) (Mo_fault St) (Mo_place St) (Mo_trouble St) (Mo_failed St) (1 : Int32) (0 : Int32) (Mo_images St) (Mo_ring St) (Mo_refused St) (Mo_setMany St) (Mo_someOf St) (Mo_allOf St) (Mo_firstRest St) (Mo_allWeight St) (Mo_seenWeight St) (Mo_sumWeight St) ++ (wAI (fun _ => ht 4) cy 140 St_fresh ++ (wAI (fun _ => ht 2) cy 8 St_letters ++ (wAI (fun _ => ht 13) cy 48 St_marked ++ (wAI (fun _ => ht 15) cy 8 q5 ++ (wAI (fun _ => ht 16) cy 8 St_ordered ++ (wAI (fun _ => ht 8) cy 64 q4 ++ (wAI (fun _ => ht 7) cy 64 St_owner ++ (wAI (fun _ => ht 3) cy 140 q1 ++ (wAI (fun _ => ht 6) cy 325 St_read ++ (wAI (fun _ => ht 14) cy 12 St_slots ++ (wAI (fun _ => ht 9) cy 325 q3 ++ (wAI (fun _ => ht 1) cy 900 St_tape ++ (wAI (fun _ => ht 5) cy 325 q2)))))))))))))) hx hb hts in_X10 tyX10 tyX10_ok nmX10 hown hK hP hD hS 0 rfl rfl 25 (by decide) (hts _ q6_70) (fun _ h9 => h9) rfl rfl rfl (Nat.le_of_ble_eq_true rfl) dX10_store_343 rfl (fun H locs hP hD hS => ?_)
    refine lv_aload_n hx hb dX10_store_346 rfl (lv_at hl 0 rfl) ?_
    refine lv_iconst (v := (0 : Int32)) hx hb dX10_store_347 (by decide) ?_
    refine z_put (w2 := vMo ht cy (Mo_thrown St) (Mo_taped St) (Mo_size St) (Mo_at St) (Mo_end St) (Mo_token St) (Mo_whole St) (Mo_nameSize St) (Mo_fault St) (Mo_place St) (Mo_trouble St) (Mo_failed St) (1 : Int32) (0 : Int32) (0 : Int32) (Mo_ring St) (Mo_refused St) (Mo_setMany St) (Mo_someOf St) (Mo_allOf St) (Mo_firstRest St) (Mo_allWeight St) (Mo_seenWeight St) (Mo_sumWeight St) ++ (wAI (fun _ => ht 4) cy 140 St_fresh ++ (wAI (fun _ => ht 2) cy 8 St_letters ++ (wAI (fun _ => ht 13) cy 48 St_marked ++ (wAI (fun _ => ht 15) cy 8 q5 ++ (wAI (fun _ => ht 16) cy 8 St_ordered ++ (wAI (fun _ => ht 8) cy 64 q4 ++ (wAI (fun _ => ht 7) cy 64 St_owner ++ (wAI (fun _ => ht 3) cy 140 q1 ++ (wAI (fun _ => ht 6) cy 325 St_read ++ (wAI (fun _ => ht 14) cy 12 St_slots ++ (wAI (fun _ => ht 9) cy 325 q3 ++ (wAI (fun _ => ht 1) cy 900 St_tape ++ (wAI (fun _ => ht 5) cy 325 q2)))))))))))))) hx hb hts in_X10 tyX10 tyX10_ok nmX10 hown hK hP hD hS 0 rfl rfl 26 (by decide) (hts _ q6_71) (fun _ h9 => h9) rfl rfl rfl (Nat.le_of_ble_eq_true rfl) dX10_store_348 rfl (fun H locs hP hD hS => ?_)
    refine lv_aload_n hx hb dX10_store_351 rfl (lv_at hl 0 rfl) ?_
    refine va_get (D := D) (ci := 6) (v := .ref (ht 9)) (C := RX10) (T := TX10) (N := 41) hx hb hts in_X10 hown hK hP 0 rfl rfl 21 (by decide) (hts _ q6_66) (fun _ h9 => h9) rfl dX10_store_352 ?_
    obtain ⟨q6, hc, hf⟩ := zbd hf
    refine z_cSi (As := [.ref (ht 9)]) (rest := []) C (c_X10_versionsOf l D cy (fun _ => ht 9) q3 q6 hc) gS_X10_X10_versionsOf hd_X10_versionsOf ⟨Nat.le_of_ble_eq_true rfl, Nat.le_of_ble_eq_true rfl⟩ ⟨Nat.le_refl _, Nat.le_refl _⟩ hP hD hS (w2 := vMo ht cy (Mo_thrown St) (Mo_taped St) (Mo_size St) (Mo_at St) (Mo_end St) (Mo_token St) (Mo_whole St) (Mo_nameSize St) (Mo_fault St) (Mo_place St) (Mo_trouble St) (Mo_failed St) (1 : Int32) (0 : Int32) (0 : Int32) (Mo_ring St) (Mo_refused St) (Mo_setMany St) (Mo_someOf St) (Mo_allOf St) (Mo_firstRest St) (Mo_allWeight St) (Mo_seenWeight St) (Mo_sumWeight St) ++ (wAI (fun _ => ht 4) cy 140 St_fresh ++ (wAI (fun _ => ht 2) cy 8 St_letters ++ (wAI (fun _ => ht 13) cy 48 St_marked ++ (wAI (fun _ => ht 15) cy 8 q5 ++ (wAI (fun _ => ht 16) cy 8 St_ordered ++ (wAI (fun _ => ht 8) cy 64 q4 ++ (wAI (fun _ => ht 7) cy 64 St_owner ++ (wAI (fun _ => ht 3) cy 140 q1 ++ (wAI (fun _ => ht 6) cy 325 St_read ++ (wAI (fun _ => ht 14) cy 12 St_slots ++ (wAI (fun _ => ht 9) cy 325 q3 ++ (wAI (fun _ => ht 1) cy 900 St_tape ++ (wAI (fun _ => ht 5) cy 325 q2)))))))))))))) [11] [0, 1, 2, 3, 4, 5, 6, 7, 8, 9, 10, 12, 13] [0, 1, 2, 3, 4, 5, 6, 7, 8, 9, 10, 13, 11, 12] rfl rfl rfl rfl rfl rfl (by decide) hl.1 (Nat.le_of_ble_eq_true rfl) dX10_store_355 (fun H locs hP hD hS => ?_)
    obtain rfl := Option.some.inj hf
    rw [← wMo_mk ht] at hP hD
    exact z_iret (v := q6) C hP hD hS dX10_store_358
  · refine lv_aload_n hx hb dX10_store_242 rfl (lv_at hl 0 rfl) ?_
    refine lv_aload_n hx hb dX10_store_243 rfl (lv_at hl 0 rfl) ?_
    refine va_get (D := D) (ci := 6) (v := .ref (ht 3)) (C := RX10) (T := TX10) (N := 41) hx hb hts in_X10 hown hK hP 0 rfl rfl 15 (by decide) (hts _ q6_60) (fun _ h9 => h9) rfl dX10_store_244 ?_
    refine lv_iconst (v := (0 : Int32)) hx hb dX10_store_247 (by decide) ?_
    refine z_iald (f := St_r) hx hb hK hP 8 0 rfl rfl dX10_store_248 hf (fun hf => ?_)
    refine z_put (w2 := vMo ht cy (Mo_thrown St) (Mo_taped St) (Mo_size St) (Mo_at St) (Mo_end St) (Mo_token St) (Mo_whole St) (Mo_nameSize St) (Mo_fault St) (Mo_place St) (Mo_trouble St) (Mo_failed St) (Mo_hasStore St) (Mo_undos St) (Mo_images St) (St_r (0 : Int32).toNatClampNeg) (Mo_refused St) (Mo_setMany St) (Mo_someOf St) (Mo_allOf St) (Mo_firstRest St) (Mo_allWeight St) (Mo_seenWeight St) (Mo_sumWeight St) ++ (wAI (fun _ => ht 4) cy 140 St_fresh ++ (wAI (fun _ => ht 2) cy 8 St_letters ++ (wAI (fun _ => ht 13) cy 48 St_marked ++ (wAI (fun _ => ht 15) cy 8 St_order ++ (wAI (fun _ => ht 16) cy 8 St_ordered ++ (wAI (fun _ => ht 8) cy 64 St_owned ++ (wAI (fun _ => ht 7) cy 64 St_owner ++ (wAI (fun _ => ht 3) cy 140 St_r ++ (wAI (fun _ => ht 6) cy 325 St_read ++ (wAI (fun _ => ht 14) cy 12 St_slots ++ (wAI (fun _ => ht 9) cy 325 St_st ++ (wAI (fun _ => ht 1) cy 900 St_tape ++ (wAI (fun _ => ht 5) cy 325 St_told)))))))))))))) hx hb hts in_X10 tyX10 tyX10_ok nmX10 hown hK hP hD hS 0 rfl rfl 27 (by decide) (hts _ q6_72) (fun _ h9 => h9) rfl rfl rfl (Nat.le_of_ble_eq_true rfl) dX10_store_249 rfl (fun H locs hP hD hS => ?_)
    refine lv_aload_n hx hb dX10_store_252 rfl (lv_at hl 0 rfl) ?_
    refine lv_iconst (v := (4 : Int32)) hx hb dX10_store_253 (by decide) ?_
    obtain ⟨q7, hc, hf⟩ := zbd hf
    rw [← wMo_mk ht] at hP hD
    refine z_cVi (As := [.int (4 : Int32)]) (rest := []) C (c_X10_no l D cy ht (mkMo (Mo_thrown St) (Mo_taped St) (Mo_size St) (Mo_at St) (Mo_end St) (Mo_token St) (Mo_whole St) (Mo_nameSize St) (Mo_fault St) (Mo_place St) (Mo_trouble St) (Mo_failed St) (Mo_hasStore St) (Mo_undos St) (Mo_images St) (St_r (0 : Int32).toNatClampNeg) (Mo_refused St) (Mo_setMany St) (Mo_someOf St) (Mo_allOf St) (Mo_firstRest St) (Mo_allWeight St) (Mo_seenWeight St) (Mo_sumWeight St)) (4 : Int32) q7 hc) gV_X10_X10_no hd_X10_no ⟨Nat.le_of_ble_eq_true rfl, Nat.le_of_ble_eq_true rfl⟩ ⟨Nat.le_refl _, Nat.le_refl _⟩ (va_recv hK hP (ci := 6) (q0 := 0) rfl rfl) hP hD hS (w2 := wMo ht cy q7.2 ++ (wAI (fun _ => ht 4) cy 140 St_fresh ++ (wAI (fun _ => ht 2) cy 8 St_letters ++ (wAI (fun _ => ht 13) cy 48 St_marked ++ (wAI (fun _ => ht 15) cy 8 St_order ++ (wAI (fun _ => ht 16) cy 8 St_ordered ++ (wAI (fun _ => ht 8) cy 64 St_owned ++ (wAI (fun _ => ht 7) cy 64 St_owner ++ (wAI (fun _ => ht 3) cy 140 St_r ++ (wAI (fun _ => ht 6) cy 325 St_read ++ (wAI (fun _ => ht 14) cy 12 St_slots ++ (wAI (fun _ => ht 9) cy 325 St_st ++ (wAI (fun _ => ht 1) cy 900 St_tape ++ (wAI (fun _ => ht 5) cy 325 St_told)))))))))))))) [0] [1, 2, 3, 4, 5, 6, 7, 8, 9, 10, 11, 12, 13] [13, 0, 1, 2, 3, 4, 5, 6, 7, 8, 9, 10, 11, 12] rfl rfl rfl rfl rfl rfl (by decide) hl.1 (Nat.le_of_ble_eq_true rfl) dX10_store_254 (fun H locs hP hD hS => ?_)
    obtain rfl := Option.some.inj hf
    exact z_iret (v := q7.1) C hP hD hS dX10_store_257
def b_X10_store_208 (St_tape : Nat → Int32) (x1 : Int32) (St : SMo) (St_fresh : Nat → Int32) (St_letters : Nat → Int32) (St_marked : Nat → Int32) (St_order : Nat → Int32) (St_ordered : Nat → Int32) (St_owned : Nat → Int32) (St_owner : Nat → Int32) (St_r : Nat → Int32) (St_read : Nat → Int32) (St_slots : Nat → Int32) (St_st : Nat → Int32) (St_told : Nat → Int32) : Option (Int32 × SMo × (Nat → Int32) × (Nat → Int32) × (Nat → Int32) × (Nat → Int32) × (Nat → Int32) × (Nat → Int32) × (Nat → Int32) × (Nat → Int32) × (Nat → Int32) × (Nat → Int32) × (Nat → Int32) × (Nat → Int32)) :=
  (if (Mo_failed St) = 0 then
    (if zib (7 : Int32) 140 then (if (St_fresh (7 : Int32).toNatClampNeg) = 0 then
        (f_X10_wrong St (6 : Int32) (Mo_at St)).bind (fun q8 =>
          (b_X10_store_235 St_tape x1 q8 St_fresh St_letters St_marked St_order St_ordered St_owned St_owner St_r St_read St_slots St_st St_told))
        else
        (b_X10_store_235 St_tape x1 St St_fresh St_letters St_marked St_order St_ordered St_owned St_owner St_r St_read St_slots St_st St_told)) else none)
    else
    (b_X10_store_235 St_tape x1 St St_fresh St_letters St_marked St_order St_ordered St_owned St_owner St_r St_read St_slots St_st St_told))
set_option maxHeartbeats 4000000 in
set_option maxRecDepth 100000 in
theorem w_X10_store_208 {p : Program} {e : Env} {s : State} {m : MethodId} {below : List Frame} {meth : Method} {c : Code} {A : Nat → Prop} {D : va_G} {cy : Nat → ClassId} {args : Array Value} {r : Int32 × SMo × (Nat → Int32) × (Nat → Int32) × (Nat → Int32) × (Nat → Int32) × (Nat → Int32) × (Nat → Int32) × (Nat → Int32) × (Nat → Int32) × (Nat → Int32) × (Nat → Int32) × (Nat → Int32) × (Nat → Int32)} (l : Launch) (E : zEn) (ht : Nat → Nat) (St_tape : Nat → Int32) (x1 : Int32) (C : zX p s m meth c cX10_store 3 args RX10 (some FieldType.int) A D (zty cy)) (hE : zE E A s s.heap) :
    ∀ (St : SMo) (St_fresh : Nat → Int32) (St_letters : Nat → Int32) (St_marked : Nat → Int32) (St_order : Nat → Int32) (St_ordered : Nat → Int32) (St_owned : Nat → Int32) (St_owner : Nat → Int32) (St_r : Nat → Int32) (St_read : Nat → Int32) (St_slots : Nat → Int32) (St_st : Nat → Int32) (St_told : Nat → Int32) (H : Heap) (locs : List Loc) (ls : Array Slot), b_X10_store_208 St_tape x1 St St_fresh St_letters St_marked St_order St_ordered St_owned St_owner St_r St_read St_slots St_st St_told = some r → va_P D vwCl (wMo ht cy St ++ (wAI (fun _ => ht 4) cy 140 St_fresh ++ (wAI (fun _ => ht 2) cy 8 St_letters ++ (wAI (fun _ => ht 13) cy 48 St_marked ++ (wAI (fun _ => ht 15) cy 8 St_order ++ (wAI (fun _ => ht 16) cy 8 St_ordered ++ (wAI (fun _ => ht 8) cy 64 St_owned ++ (wAI (fun _ => ht 7) cy 64 St_owner ++ (wAI (fun _ => ht 3) cy 140 St_r ++ (wAI (fun _ => ht 6) cy 325 St_read ++ (wAI (fun _ => ht 14) cy 12 St_slots ++ (wAI (fun _ => ht 9) cy 325 St_st ++ (wAI (fun _ => ht 1) cy 900 St_tape ++ (wAI (fun _ => ht 5) cy 325 St_told)))))))))))))) H → va_D A (wMo ht cy St ++ (wAI (fun _ => ht 4) cy 140 St_fresh ++ (wAI (fun _ => ht 2) cy 8 St_letters ++ (wAI (fun _ => ht 13) cy 48 St_marked ++ (wAI (fun _ => ht 15) cy 8 St_order ++ (wAI (fun _ => ht 16) cy 8 St_ordered ++ (wAI (fun _ => ht 8) cy 64 St_owned ++ (wAI (fun _ => ht 7) cy 64 St_owner ++ (wAI (fun _ => ht 3) cy 140 St_r ++ (wAI (fun _ => ht 6) cy 325 St_read ++ (wAI (fun _ => ht 14) cy 12 St_slots ++ (wAI (fun _ => ht 9) cy 325 St_st ++ (wAI (fun _ => ht 1) cy 900 St_tape ++ (wAI (fun _ => ht 5) cy 325 St_told)))))))))))))) → va_S A s.heap H locs → lv_has ls 3 [(0, .ref (ht 0))] → W p l e (zRm 10 241) s m args below meth c H locs 0 0 (MQ below (zQI D (zty cy) A (wMo ht cy r.2.1 ++ (wAI (fun _ => ht 4) cy 140 r.2.2.1 ++ (wAI (fun _ => ht 2) cy 8 r.2.2.2.1 ++ (wAI (fun _ => ht 13) cy 48 r.2.2.2.2.1 ++ (wAI (fun _ => ht 15) cy 8 r.2.2.2.2.2.1 ++ (wAI (fun _ => ht 16) cy 8 r.2.2.2.2.2.2.1 ++ (wAI (fun _ => ht 8) cy 64 r.2.2.2.2.2.2.2.1 ++ (wAI (fun _ => ht 7) cy 64 r.2.2.2.2.2.2.2.2.1 ++ (wAI (fun _ => ht 3) cy 140 r.2.2.2.2.2.2.2.2.2.1 ++ (wAI (fun _ => ht 6) cy 325 r.2.2.2.2.2.2.2.2.2.2.1 ++ (wAI (fun _ => ht 14) cy 12 r.2.2.2.2.2.2.2.2.2.2.2.1 ++ (wAI (fun _ => ht 9) cy 325 r.2.2.2.2.2.2.2.2.2.2.2.2.1 ++ (wAI (fun _ => ht 1) cy 900 St_tape ++ (wAI (fun _ => ht 5) cy 325 r.2.2.2.2.2.2.2.2.2.2.2.2.2)))))))))))))) r.1) args s 0 0 A) (F0 m 208 ls []) := by
  obtain ⟨hx, hb, hr, hts, hown, hlocks, hml, hA, hK⟩ := id C
  intro St St_fresh St_letters St_marked St_order St_ordered St_owned St_owner St_r St_read St_slots St_st St_told H locs ls hf hP hD hS hl
  refine lv_aload_n hx hb dX10_store_208 rfl (lv_at hl 0 rfl) ?_
  refine va_get (D := D) (ci := 6) (v := .int (Mo_failed St)) (C := RX10) (T := TX10) (N := 41) hx hb hts in_X10 hown hK hP 0 rfl rfl 13 (by decide) (hts _ q6_58) (fun _ h9 => h9) rfl dX10_store_209 ?_
  refine z_if_ne (tgt := 235) hx hb dX10_store_212 (by decide) hf (fun hf => ?_) (fun hf => ?_)
  · exact w_X10_store_235 l E ht St_tape x1 C hE St St_fresh St_letters St_marked St_order St_ordered St_owned St_owner St_r St_read St_slots St_st St_told H locs ls hf hP hD hS (lv_sub hl [0] rfl)
  · refine lv_aload_n hx hb dX10_store_215 rfl (lv_at hl 0 rfl) ?_
    refine va_get (D := D) (ci := 6) (v := .ref (ht 4)) (C := RX10) (T := TX10) (N := 41) hx hb hts in_X10 hown hK hP 0 rfl rfl 16 (by decide) (hts _ q6_61) (fun _ h9 => h9) rfl dX10_store_216 ?_
    refine lv_bipush (v := (7 : Int32)) hx hb dX10_store_219 (by decide) ?_
    refine z_iald (f := St_fresh) hx hb hK hP 1 0 rfl rfl dX10_store_221 hf (fun hf => ?_)
    refine z_if_ne (tgt := 235) hx hb dX10_store_222 (by decide) hf (fun hf => ?_) (fun hf => ?_)
    · exact w_X10_store_235 l E ht St_tape x1 C hE St St_fresh St_letters St_marked St_order St_ordered St_owned St_owner St_r St_read St_slots St_st St_told H locs ls hf hP hD hS (lv_sub hl [0] rfl)
    · refine lv_aload_n hx hb dX10_store_225 rfl (lv_at hl 0 rfl) ?_
      refine lv_bipush (v := (6 : Int32)) hx hb dX10_store_226 (by decide) ?_
      refine lv_aload_n hx hb dX10_store_228 rfl (lv_at hl 0 rfl) ?_
      refine va_get (D := D) (ci := 6) (v := .int (Mo_at St)) (C := RX10) (T := TX10) (N := 41) hx hb hts in_X10 hown hK hP 0 rfl rfl 4 (by decide) (hts _ q6_49) (fun _ h9 => h9) rfl dX10_store_229 ?_
      obtain ⟨q8, hc, hf⟩ := zbd hf
      refine z_cVv (As := [.int (6 : Int32), .int (Mo_at St)]) (rest := []) C (c_X10_wrong l D cy ht St (6 : Int32) (Mo_at St) q8 hc) gV_X10_X10_wrong hd_X10_wrong ⟨Nat.le_of_ble_eq_true rfl, Nat.le_of_ble_eq_true rfl⟩ ⟨Nat.le_refl _, Nat.le_refl _⟩ (va_recv hK hP (ci := 6) (q0 := 0) rfl rfl) hP hD hS (w2 := wMo ht cy q8 ++ (wAI (fun _ => ht 4) cy 140 St_fresh ++ (wAI (fun _ => ht 2) cy 8 St_letters ++ (wAI (fun _ => ht 13) cy 48 St_marked ++ (wAI (fun _ => ht 15) cy 8 St_order ++ (wAI (fun _ => ht 16) cy 8 St_ordered ++ (wAI (fun _ => ht 8) cy 64 St_owned ++ (wAI (fun _ => ht 7) cy 64 St_owner ++ (wAI (fun _ => ht 3) cy 140 St_r ++ (wAI (fun _ => ht 6) cy 325 St_read ++ (wAI (fun _ => ht 14) cy 12 St_slots ++ (wAI (fun _ => ht 9) cy 325 St_st ++ (wAI (fun _ => ht 1) cy 900 St_tape ++ (wAI (fun _ => ht 5) cy 325 St_told)))))))))))))) [0] [1, 2, 3, 4, 5, 6, 7, 8, 9, 10, 11, 12, 13] [13, 0, 1, 2, 3, 4, 5, 6, 7, 8, 9, 10, 11, 12] rfl rfl rfl rfl rfl rfl (by decide) hl.1 (Nat.le_of_ble_eq_true rfl) dX10_store_232 (fun H locs hP hD hS => ?_)
      exact w_X10_store_235 l E ht St_tape x1 C hE q8 St_fresh St_letters St_marked St_order St_ordered St_owned St_owner St_r St_read St_slots St_st St_told H locs ls hf hP hD hS (lv_sub hl [0] rfl)
def b_X10_store_185 (St_tape : Nat → Int32) (x1 : Int32) (St : SMo) (St_fresh : Nat → Int32) (St_letters : Nat → Int32) (St_marked : Nat → Int32) (St_order : Nat → Int32) (St_ordered : Nat → Int32) (St_owned : Nat → Int32) (St_owner : Nat → Int32) (St_r : Nat → Int32) (St_read : Nat → Int32) (St_slots : Nat → Int32) (St_st : Nat → Int32) (St_told : Nat → Int32) : Option (Int32 × SMo × (Nat → Int32) × (Nat → Int32) × (Nat → Int32) × (Nat → Int32) × (Nat → Int32) × (Nat → Int32) × (Nat → Int32) × (Nat → Int32) × (Nat → Int32) × (Nat → Int32) × (Nat → Int32) × (Nat → Int32)) :=
  (if (Mo_failed St) = 0 then
    (if (Mo_token St) = 0 then
      (b_X10_store_208 St_tape x1 St St_fresh St_letters St_marked St_order St_ordered St_owned St_owner St_r St_read St_slots St_st St_told)
      else
      (f_X10_wrong St (1 : Int32) (Mo_at St)).bind (fun q9 =>
        (b_X10_store_208 St_tape x1 q9 St_fresh St_letters St_marked St_order St_ordered St_owned St_owner St_r St_read St_slots St_st St_told)))
    else
    (b_X10_store_208 St_tape x1 St St_fresh St_letters St_marked St_order St_ordered St_owned St_owner St_r St_read St_slots St_st St_told))
set_option maxHeartbeats 4000000 in
set_option maxRecDepth 100000 in
theorem w_X10_store_185 {p : Program} {e : Env} {s : State} {m : MethodId} {below : List Frame} {meth : Method} {c : Code} {A : Nat → Prop} {D : va_G} {cy : Nat → ClassId} {args : Array Value} {r : Int32 × SMo × (Nat → Int32) × (Nat → Int32) × (Nat → Int32) × (Nat → Int32) × (Nat → Int32) × (Nat → Int32) × (Nat → Int32) × (Nat → Int32) × (Nat → Int32) × (Nat → Int32) × (Nat → Int32) × (Nat → Int32)} (l : Launch) (E : zEn) (ht : Nat → Nat) (St_tape : Nat → Int32) (x1 : Int32) (C : zX p s m meth c cX10_store 3 args RX10 (some FieldType.int) A D (zty cy)) (hE : zE E A s s.heap) :
    ∀ (St : SMo) (St_fresh : Nat → Int32) (St_letters : Nat → Int32) (St_marked : Nat → Int32) (St_order : Nat → Int32) (St_ordered : Nat → Int32) (St_owned : Nat → Int32) (St_owner : Nat → Int32) (St_r : Nat → Int32) (St_read : Nat → Int32) (St_slots : Nat → Int32) (St_st : Nat → Int32) (St_told : Nat → Int32) (H : Heap) (locs : List Loc) (ls : Array Slot), b_X10_store_185 St_tape x1 St St_fresh St_letters St_marked St_order St_ordered St_owned St_owner St_r St_read St_slots St_st St_told = some r → va_P D vwCl (wMo ht cy St ++ (wAI (fun _ => ht 4) cy 140 St_fresh ++ (wAI (fun _ => ht 2) cy 8 St_letters ++ (wAI (fun _ => ht 13) cy 48 St_marked ++ (wAI (fun _ => ht 15) cy 8 St_order ++ (wAI (fun _ => ht 16) cy 8 St_ordered ++ (wAI (fun _ => ht 8) cy 64 St_owned ++ (wAI (fun _ => ht 7) cy 64 St_owner ++ (wAI (fun _ => ht 3) cy 140 St_r ++ (wAI (fun _ => ht 6) cy 325 St_read ++ (wAI (fun _ => ht 14) cy 12 St_slots ++ (wAI (fun _ => ht 9) cy 325 St_st ++ (wAI (fun _ => ht 1) cy 900 St_tape ++ (wAI (fun _ => ht 5) cy 325 St_told)))))))))))))) H → va_D A (wMo ht cy St ++ (wAI (fun _ => ht 4) cy 140 St_fresh ++ (wAI (fun _ => ht 2) cy 8 St_letters ++ (wAI (fun _ => ht 13) cy 48 St_marked ++ (wAI (fun _ => ht 15) cy 8 St_order ++ (wAI (fun _ => ht 16) cy 8 St_ordered ++ (wAI (fun _ => ht 8) cy 64 St_owned ++ (wAI (fun _ => ht 7) cy 64 St_owner ++ (wAI (fun _ => ht 3) cy 140 St_r ++ (wAI (fun _ => ht 6) cy 325 St_read ++ (wAI (fun _ => ht 14) cy 12 St_slots ++ (wAI (fun _ => ht 9) cy 325 St_st ++ (wAI (fun _ => ht 1) cy 900 St_tape ++ (wAI (fun _ => ht 5) cy 325 St_told)))))))))))))) → va_S A s.heap H locs → lv_has ls 3 [(0, .ref (ht 0))] → W p l e (zRm 10 241) s m args below meth c H locs 0 0 (MQ below (zQI D (zty cy) A (wMo ht cy r.2.1 ++ (wAI (fun _ => ht 4) cy 140 r.2.2.1 ++ (wAI (fun _ => ht 2) cy 8 r.2.2.2.1 ++ (wAI (fun _ => ht 13) cy 48 r.2.2.2.2.1 ++ (wAI (fun _ => ht 15) cy 8 r.2.2.2.2.2.1 ++ (wAI (fun _ => ht 16) cy 8 r.2.2.2.2.2.2.1 ++ (wAI (fun _ => ht 8) cy 64 r.2.2.2.2.2.2.2.1 ++ (wAI (fun _ => ht 7) cy 64 r.2.2.2.2.2.2.2.2.1 ++ (wAI (fun _ => ht 3) cy 140 r.2.2.2.2.2.2.2.2.2.1 ++ (wAI (fun _ => ht 6) cy 325 r.2.2.2.2.2.2.2.2.2.2.1 ++ (wAI (fun _ => ht 14) cy 12 r.2.2.2.2.2.2.2.2.2.2.2.1 ++ (wAI (fun _ => ht 9) cy 325 r.2.2.2.2.2.2.2.2.2.2.2.2.1 ++ (wAI (fun _ => ht 1) cy 900 St_tape ++ (wAI (fun _ => ht 5) cy 325 r.2.2.2.2.2.2.2.2.2.2.2.2.2)))))))))))))) r.1) args s 0 0 A) (F0 m 185 ls []) := by
  obtain ⟨hx, hb, hr, hts, hown, hlocks, hml, hA, hK⟩ := id C
  intro St St_fresh St_letters St_marked St_order St_ordered St_owned St_owner St_r St_read St_slots St_st St_told H locs ls hf hP hD hS hl
  refine lv_aload_n hx hb dX10_store_185 rfl (lv_at hl 0 rfl) ?_
  refine va_get (D := D) (ci := 6) (v := .int (Mo_failed St)) (C := RX10) (T := TX10) (N := 41) hx hb hts in_X10 hown hK hP 0 rfl rfl 13 (by decide) (hts _ q6_58) (fun _ h9 => h9) rfl dX10_store_186 ?_
  refine z_if_ne (tgt := 208) hx hb dX10_store_189 (by decide) hf (fun hf => ?_) (fun hf => ?_)
  · exact w_X10_store_208 l E ht St_tape x1 C hE St St_fresh St_letters St_marked St_order St_ordered St_owned St_owner St_r St_read St_slots St_st St_told H locs ls hf hP hD hS (lv_sub hl [0] rfl)
  · refine lv_aload_n hx hb dX10_store_192 rfl (lv_at hl 0 rfl) ?_
    refine va_get (D := D) (ci := 6) (v := .int (Mo_token St)) (C := RX10) (T := TX10) (N := 41) hx hb hts in_X10 hown hK hP 0 rfl rfl 6 (by decide) (hts _ q6_51) (fun _ h9 => h9) rfl dX10_store_193 ?_
    refine z_if_eq (tgt := 208) hx hb dX10_store_196 (by decide) hf (fun hf => ?_) (fun hf => ?_)
    · exact w_X10_store_208 l E ht St_tape x1 C hE St St_fresh St_letters St_marked St_order St_ordered St_owned St_owner St_r St_read St_slots St_st St_told H locs ls hf hP hD hS (lv_sub hl [0] rfl)
    · refine lv_aload_n hx hb dX10_store_199 rfl (lv_at hl 0 rfl) ?_
      refine lv_iconst (v := (1 : Int32)) hx hb dX10_store_200 (by decide) ?_
      refine lv_aload_n hx hb dX10_store_201 rfl (lv_at hl 0 rfl) ?_
      refine va_get (D := D) (ci := 6) (v := .int (Mo_at St)) (C := RX10) (T := TX10) (N := 41) hx hb hts in_X10 hown hK hP 0 rfl rfl 4 (by decide) (hts _ q6_49) (fun _ h9 => h9) rfl dX10_store_202 ?_
      obtain ⟨q9, hc, hf⟩ := zbd hf
      refine z_cVv (As := [.int (1 : Int32), .int (Mo_at St)]) (rest := []) C (c_X10_wrong l D cy ht St (1 : Int32) (Mo_at St) q9 hc) gV_X10_X10_wrong hd_X10_wrong ⟨Nat.le_of_ble_eq_true rfl, Nat.le_of_ble_eq_true rfl⟩ ⟨Nat.le_refl _, Nat.le_refl _⟩ (va_recv hK hP (ci := 6) (q0 := 0) rfl rfl) hP hD hS (w2 := wMo ht cy q9 ++ (wAI (fun _ => ht 4) cy 140 St_fresh ++ (wAI (fun _ => ht 2) cy 8 St_letters ++ (wAI (fun _ => ht 13) cy 48 St_marked ++ (wAI (fun _ => ht 15) cy 8 St_order ++ (wAI (fun _ => ht 16) cy 8 St_ordered ++ (wAI (fun _ => ht 8) cy 64 St_owned ++ (wAI (fun _ => ht 7) cy 64 St_owner ++ (wAI (fun _ => ht 3) cy 140 St_r ++ (wAI (fun _ => ht 6) cy 325 St_read ++ (wAI (fun _ => ht 14) cy 12 St_slots ++ (wAI (fun _ => ht 9) cy 325 St_st ++ (wAI (fun _ => ht 1) cy 900 St_tape ++ (wAI (fun _ => ht 5) cy 325 St_told)))))))))))))) [0] [1, 2, 3, 4, 5, 6, 7, 8, 9, 10, 11, 12, 13] [13, 0, 1, 2, 3, 4, 5, 6, 7, 8, 9, 10, 11, 12] rfl rfl rfl rfl rfl rfl (by decide) hl.1 (Nat.le_of_ble_eq_true rfl) dX10_store_205 (fun H locs hP hD hS => ?_)
      exact w_X10_store_208 l E ht St_tape x1 C hE q9 St_fresh St_letters St_marked St_order St_ordered St_owned St_owner St_r St_read St_slots St_st St_told H locs ls hf hP hD hS (lv_sub hl [0] rfl)
def b_X10_store_158 (St_tape : Nat → Int32) (x1 : Int32) (k158 : SMo → (Nat → Int32) → (Nat → Int32) → (Nat → Int32) → (Nat → Int32) → (Nat → Int32) → (Nat → Int32) → (Nat → Int32) → (Nat → Int32) → (Nat → Int32) → (Nat → Int32) → (Nat → Int32) → (Nat → Int32) → Option (Int32 × SMo × (Nat → Int32) × (Nat → Int32) × (Nat → Int32) × (Nat → Int32) × (Nat → Int32) × (Nat → Int32) × (Nat → Int32) × (Nat → Int32) × (Nat → Int32) × (Nat → Int32) × (Nat → Int32) × (Nat → Int32))) (St : SMo) (St_fresh : Nat → Int32) (St_letters : Nat → Int32) (St_marked : Nat → Int32) (St_order : Nat → Int32) (St_ordered : Nat → Int32) (St_owned : Nat → Int32) (St_owner : Nat → Int32) (St_r : Nat → Int32) (St_read : Nat → Int32) (St_slots : Nat → Int32) (St_st : Nat → Int32) (St_told : Nat → Int32) : Option (Int32 × SMo × (Nat → Int32) × (Nat → Int32) × (Nat → Int32) × (Nat → Int32) × (Nat → Int32) × (Nat → Int32) × (Nat → Int32) × (Nat → Int32) × (Nat → Int32) × (Nat → Int32) × (Nat → Int32) × (Nat → Int32)) :=
  (if (Mo_failed St) = 0 then
    (if (Mo_token St) = (59 : Int32) then
      (f_X10_step St St_letters St_tape).bind (fun q10 =>
        (f_X10_readLine q10.1 St_fresh q10.2 St_marked St_ordered St_owner St_read St_slots St_tape).bind (fun q11 =>
          (k158 q11.1 q11.2.1 q11.2.2.1 q11.2.2.2.1 St_order q11.2.2.2.2.1 St_owned q11.2.2.2.2.2.1 St_r q11.2.2.2.2.2.2.1 q11.2.2.2.2.2.2.2 St_st St_told)))
      else
      (b_X10_store_185 St_tape x1 St St_fresh St_letters St_marked St_order St_ordered St_owned St_owner St_r St_read St_slots St_st St_told))
    else
    (b_X10_store_185 St_tape x1 St St_fresh St_letters St_marked St_order St_ordered St_owned St_owner St_r St_read St_slots St_st St_told))
set_option maxHeartbeats 4000000 in
set_option maxRecDepth 100000 in
theorem w_X10_store_158 {p : Program} {e : Env} {s : State} {m : MethodId} {below : List Frame} {meth : Method} {c : Code} {A : Nat → Prop} {D : va_G} {cy : Nat → ClassId} {args : Array Value} {r : Int32 × SMo × (Nat → Int32) × (Nat → Int32) × (Nat → Int32) × (Nat → Int32) × (Nat → Int32) × (Nat → Int32) × (Nat → Int32) × (Nat → Int32) × (Nat → Int32) × (Nat → Int32) × (Nat → Int32) × (Nat → Int32)} (l : Launch) (E : zEn) (ht : Nat → Nat) (St_tape : Nat → Int32) (x1 : Int32) (C : zX p s m meth c cX10_store 3 args RX10 (some FieldType.int) A D (zty cy)) (hE : zE E A s s.heap) :
    ∀ (n : Nat) (St : SMo) (St_fresh : Nat → Int32) (St_letters : Nat → Int32) (St_marked : Nat → Int32) (St_order : Nat → Int32) (St_ordered : Nat → Int32) (St_owned : Nat → Int32) (St_owner : Nat → Int32) (St_r : Nat → Int32) (St_read : Nat → Int32) (St_slots : Nat → Int32) (St_st : Nat → Int32) (St_told : Nat → Int32) (H : Heap) (locs : List Loc) (ls : Array Slot), zl13 (b_X10_store_158 St_tape x1) n St St_fresh St_letters St_marked St_order St_ordered St_owned St_owner St_r St_read St_slots St_st St_told = some r → va_P D vwCl (wMo ht cy St ++ (wAI (fun _ => ht 4) cy 140 St_fresh ++ (wAI (fun _ => ht 2) cy 8 St_letters ++ (wAI (fun _ => ht 13) cy 48 St_marked ++ (wAI (fun _ => ht 15) cy 8 St_order ++ (wAI (fun _ => ht 16) cy 8 St_ordered ++ (wAI (fun _ => ht 8) cy 64 St_owned ++ (wAI (fun _ => ht 7) cy 64 St_owner ++ (wAI (fun _ => ht 3) cy 140 St_r ++ (wAI (fun _ => ht 6) cy 325 St_read ++ (wAI (fun _ => ht 14) cy 12 St_slots ++ (wAI (fun _ => ht 9) cy 325 St_st ++ (wAI (fun _ => ht 1) cy 900 St_tape ++ (wAI (fun _ => ht 5) cy 325 St_told)))))))))))))) H → va_D A (wMo ht cy St ++ (wAI (fun _ => ht 4) cy 140 St_fresh ++ (wAI (fun _ => ht 2) cy 8 St_letters ++ (wAI (fun _ => ht 13) cy 48 St_marked ++ (wAI (fun _ => ht 15) cy 8 St_order ++ (wAI (fun _ => ht 16) cy 8 St_ordered ++ (wAI (fun _ => ht 8) cy 64 St_owned ++ (wAI (fun _ => ht 7) cy 64 St_owner ++ (wAI (fun _ => ht 3) cy 140 St_r ++ (wAI (fun _ => ht 6) cy 325 St_read ++ (wAI (fun _ => ht 14) cy 12 St_slots ++ (wAI (fun _ => ht 9) cy 325 St_st ++ (wAI (fun _ => ht 1) cy 900 St_tape ++ (wAI (fun _ => ht 5) cy 325 St_told)))))))))))))) → va_S A s.heap H locs → lv_has ls 3 [(0, .ref (ht 0))] → W p l e (zRm 10 241) s m args below meth c H locs 0 0 (MQ below (zQI D (zty cy) A (wMo ht cy r.2.1 ++ (wAI (fun _ => ht 4) cy 140 r.2.2.1 ++ (wAI (fun _ => ht 2) cy 8 r.2.2.2.1 ++ (wAI (fun _ => ht 13) cy 48 r.2.2.2.2.1 ++ (wAI (fun _ => ht 15) cy 8 r.2.2.2.2.2.1 ++ (wAI (fun _ => ht 16) cy 8 r.2.2.2.2.2.2.1 ++ (wAI (fun _ => ht 8) cy 64 r.2.2.2.2.2.2.2.1 ++ (wAI (fun _ => ht 7) cy 64 r.2.2.2.2.2.2.2.2.1 ++ (wAI (fun _ => ht 3) cy 140 r.2.2.2.2.2.2.2.2.2.1 ++ (wAI (fun _ => ht 6) cy 325 r.2.2.2.2.2.2.2.2.2.2.1 ++ (wAI (fun _ => ht 14) cy 12 r.2.2.2.2.2.2.2.2.2.2.2.1 ++ (wAI (fun _ => ht 9) cy 325 r.2.2.2.2.2.2.2.2.2.2.2.2.1 ++ (wAI (fun _ => ht 1) cy 900 St_tape ++ (wAI (fun _ => ht 5) cy 325 r.2.2.2.2.2.2.2.2.2.2.2.2.2)))))))))))))) r.1) args s 0 0 A) (F0 m 158 ls []) := by
  obtain ⟨hx, hb, hr, hts, hown, hlocks, hml, hA, hK⟩ := id C
  intro n
  induction n with
  | zero => intro St St_fresh St_letters St_marked St_order St_ordered St_owned St_owner St_r St_read St_slots St_st St_told H locs ls hf; exact zno hf
  | succ n ih =>
    intro St St_fresh St_letters St_marked St_order St_ordered St_owned St_owner St_r St_read St_slots St_st St_told H locs ls hf hP hD hS hl
    have hf : b_X10_store_158 St_tape x1 (zl13 (b_X10_store_158 St_tape x1) n) St St_fresh St_letters St_marked St_order St_ordered St_owned St_owner St_r St_read St_slots St_st St_told = some r := hf
    have K158 := ih
    refine lv_aload_n hx hb dX10_store_158 rfl (lv_at hl 0 rfl) ?_
    refine va_get (D := D) (ci := 6) (v := .int (Mo_failed St)) (C := RX10) (T := TX10) (N := 41) hx hb hts in_X10 hown hK hP 0 rfl rfl 13 (by decide) (hts _ q6_58) (fun _ h9 => h9) rfl dX10_store_159 ?_
    refine z_if_ne (tgt := 185) hx hb dX10_store_162 (by decide) hf (fun hf => ?_) (fun hf => ?_)
    · exact w_X10_store_185 l E ht St_tape x1 C hE St St_fresh St_letters St_marked St_order St_ordered St_owned St_owner St_r St_read St_slots St_st St_told H locs ls hf hP hD hS (lv_sub hl [0] rfl)
    · refine lv_aload_n hx hb dX10_store_165 rfl (lv_at hl 0 rfl) ?_
      refine va_get (D := D) (ci := 6) (v := .int (Mo_token St)) (C := RX10) (T := TX10) (N := 41) hx hb hts in_X10 hown hK hP 0 rfl rfl 6 (by decide) (hts _ q6_51) (fun _ h9 => h9) rfl dX10_store_166 ?_
      refine lv_bipush (v := (59 : Int32)) hx hb dX10_store_169 (by decide) ?_
      refine z_icmp_ne (tgt := 185) hx hb dX10_store_171 (by decide) hf (fun hf => ?_) (fun hf => ?_)
      · exact w_X10_store_185 l E ht St_tape x1 C hE St St_fresh St_letters St_marked St_order St_ordered St_owned St_owner St_r St_read St_slots St_st St_told H locs ls hf hP hD hS (lv_sub hl [0] rfl)
      · refine lv_aload_n hx hb dX10_store_174 rfl (lv_at hl 0 rfl) ?_
        obtain ⟨q10, hc, hf⟩ := zbd hf
        refine z_cVv (As := []) (rest := []) C (c_X10_step l D cy ht St St_letters St_tape q10 hc) gV_X10_X10_step hd_X10_step ⟨Nat.le_of_ble_eq_true rfl, Nat.le_of_ble_eq_true rfl⟩ ⟨Nat.le_refl _, Nat.le_refl _⟩ (va_recv hK hP (ci := 6) (q0 := 0) rfl rfl) hP hD hS (w2 := wMo ht cy q10.1 ++ (wAI (fun _ => ht 4) cy 140 St_fresh ++ (wAI (fun _ => ht 2) cy 8 q10.2 ++ (wAI (fun _ => ht 13) cy 48 St_marked ++ (wAI (fun _ => ht 15) cy 8 St_order ++ (wAI (fun _ => ht 16) cy 8 St_ordered ++ (wAI (fun _ => ht 8) cy 64 St_owned ++ (wAI (fun _ => ht 7) cy 64 St_owner ++ (wAI (fun _ => ht 3) cy 140 St_r ++ (wAI (fun _ => ht 6) cy 325 St_read ++ (wAI (fun _ => ht 14) cy 12 St_slots ++ (wAI (fun _ => ht 9) cy 325 St_st ++ (wAI (fun _ => ht 1) cy 900 St_tape ++ (wAI (fun _ => ht 5) cy 325 St_told)))))))))))))) [0, 2, 12] [1, 3, 4, 5, 6, 7, 8, 9, 10, 11, 13] [11, 0, 12, 1, 2, 3, 4, 5, 6, 7, 8, 9, 13, 10] rfl rfl rfl rfl rfl rfl (by decide) hl.1 (Nat.le_of_ble_eq_true rfl) dX10_store_175 (fun H locs hP hD hS => ?_)
        refine lv_aload_n hx hb dX10_store_178 rfl (lv_at hl 0 rfl) ?_
        obtain ⟨q11, hc, hf⟩ := zbd hf
        refine z_cVvs (As := []) (rest := []) C hE (c_X10_readLine l D cy E ht q10.1 St_fresh q10.2 St_marked St_ordered St_owner St_read St_slots St_tape q11 hc) gV_X10_X10_readLine hd_X10_readLine ⟨Nat.le_of_ble_eq_true rfl, Nat.le_of_ble_eq_true rfl⟩ ⟨Nat.le_refl _, Nat.le_refl _⟩ (va_recv hK hP (ci := 6) (q0 := 0) rfl rfl) hP hD hS (w2 := wMo ht cy q11.1 ++ (wAI (fun _ => ht 4) cy 140 q11.2.1 ++ (wAI (fun _ => ht 2) cy 8 q11.2.2.1 ++ (wAI (fun _ => ht 13) cy 48 q11.2.2.2.1 ++ (wAI (fun _ => ht 15) cy 8 St_order ++ (wAI (fun _ => ht 16) cy 8 q11.2.2.2.2.1 ++ (wAI (fun _ => ht 8) cy 64 St_owned ++ (wAI (fun _ => ht 7) cy 64 q11.2.2.2.2.2.1 ++ (wAI (fun _ => ht 3) cy 140 St_r ++ (wAI (fun _ => ht 6) cy 325 q11.2.2.2.2.2.2.1 ++ (wAI (fun _ => ht 14) cy 12 q11.2.2.2.2.2.2.2 ++ (wAI (fun _ => ht 9) cy 325 St_st ++ (wAI (fun _ => ht 1) cy 900 St_tape ++ (wAI (fun _ => ht 5) cy 325 St_told)))))))))))))) [0, 1, 2, 3, 5, 7, 9, 10, 12] [4, 6, 8, 11, 13] [5, 6, 7, 8, 0, 9, 1, 10, 2, 11, 12, 3, 13, 4] rfl rfl rfl rfl rfl rfl (by decide) hl.1 (Nat.le_of_ble_eq_true rfl) dX10_store_179 (fun H locs hP hD hS => ?_)
        refine lv_goto (tgt := 158) hx hb dX10_store_182 (by decide) ?_
        exact K158 q11.1 q11.2.1 q11.2.2.1 q11.2.2.2.1 St_order q11.2.2.2.2.1 St_owned q11.2.2.2.2.2.1 St_r q11.2.2.2.2.2.2.1 q11.2.2.2.2.2.2.2 St_st St_told H locs ls hf hP hD hS (lv_sub hl [0] rfl)
def b_X10_store_121 (St_tape : Nat → Int32) (x1 : Int32) (k121 : SMo → (Nat → Int32) → (Nat → Int32) → (Nat → Int32) → (Nat → Int32) → (Nat → Int32) → (Nat → Int32) → (Nat → Int32) → (Nat → Int32) → (Nat → Int32) → (Nat → Int32) → (Nat → Int32) → (Nat → Int32) → Int32 → Option (Int32 × SMo × (Nat → Int32) × (Nat → Int32) × (Nat → Int32) × (Nat → Int32) × (Nat → Int32) × (Nat → Int32) × (Nat → Int32) × (Nat → Int32) × (Nat → Int32) × (Nat → Int32) × (Nat → Int32) × (Nat → Int32))) (St : SMo) (St_fresh : Nat → Int32) (St_letters : Nat → Int32) (St_marked : Nat → Int32) (St_order : Nat → Int32) (St_ordered : Nat → Int32) (St_owned : Nat → Int32) (St_owner : Nat → Int32) (St_r : Nat → Int32) (St_read : Nat → Int32) (St_slots : Nat → Int32) (St_st : Nat → Int32) (St_told : Nat → Int32) (v2 : Int32) : Option (Int32 × SMo × (Nat → Int32) × (Nat → Int32) × (Nat → Int32) × (Nat → Int32) × (Nat → Int32) × (Nat → Int32) × (Nat → Int32) × (Nat → Int32) × (Nat → Int32) × (Nat → Int32) × (Nat → Int32) × (Nat → Int32)) :=
  (if (12 : Int32) ≤ v2 then
    (f_X10_step (mkMo (Mo_thrown St) (Mo_taped St) x1 (Mo_at St) (0 : Int32) (Mo_token St) (Mo_whole St) (Mo_nameSize St) (Mo_fault St) (Mo_place St) (Mo_trouble St) (Mo_failed St) (Mo_hasStore St) (Mo_undos St) (Mo_images St) (Mo_ring St) (Mo_refused St) (Mo_setMany St) (Mo_someOf St) (Mo_allOf St) (Mo_firstRest St) (Mo_allWeight St) (Mo_seenWeight St) (Mo_sumWeight St)) St_letters St_tape).bind (fun q12 =>
      (f_X10_readLine q12.1 St_fresh q12.2 St_marked St_ordered St_owner St_read St_slots St_tape).bind (fun q13 =>
        (zl13 (b_X10_store_158 St_tape x1) FU q13.1 q13.2.1 q13.2.2.1 q13.2.2.2.1 St_order q13.2.2.2.2.1 St_owned q13.2.2.2.2.2.1 St_r q13.2.2.2.2.2.2.1 q13.2.2.2.2.2.2.2 St_st St_told)))
    else
    (if zib v2 12 then (k121 St St_fresh St_letters St_marked St_order St_ordered St_owned St_owner St_r St_read (upd St_slots v2.toNatClampNeg (0 : Int32)) St_st St_told (v2 + (1 : Int32))) else none))
set_option maxHeartbeats 4000000 in
set_option maxRecDepth 100000 in
theorem w_X10_store_121 {p : Program} {e : Env} {s : State} {m : MethodId} {below : List Frame} {meth : Method} {c : Code} {A : Nat → Prop} {D : va_G} {cy : Nat → ClassId} {args : Array Value} {r : Int32 × SMo × (Nat → Int32) × (Nat → Int32) × (Nat → Int32) × (Nat → Int32) × (Nat → Int32) × (Nat → Int32) × (Nat → Int32) × (Nat → Int32) × (Nat → Int32) × (Nat → Int32) × (Nat → Int32) × (Nat → Int32)} (l : Launch) (E : zEn) (ht : Nat → Nat) (St_tape : Nat → Int32) (x1 : Int32) (C : zX p s m meth c cX10_store 3 args RX10 (some FieldType.int) A D (zty cy)) (hE : zE E A s s.heap) :
    ∀ (n : Nat) (St : SMo) (St_fresh : Nat → Int32) (St_letters : Nat → Int32) (St_marked : Nat → Int32) (St_order : Nat → Int32) (St_ordered : Nat → Int32) (St_owned : Nat → Int32) (St_owner : Nat → Int32) (St_r : Nat → Int32) (St_read : Nat → Int32) (St_slots : Nat → Int32) (St_st : Nat → Int32) (St_told : Nat → Int32) (v2 : Int32) (H : Heap) (locs : List Loc) (ls : Array Slot), zl14 (b_X10_store_121 St_tape x1) n St St_fresh St_letters St_marked St_order St_ordered St_owned St_owner St_r St_read St_slots St_st St_told v2 = some r → va_P D vwCl (wMo ht cy St ++ (wAI (fun _ => ht 4) cy 140 St_fresh ++ (wAI (fun _ => ht 2) cy 8 St_letters ++ (wAI (fun _ => ht 13) cy 48 St_marked ++ (wAI (fun _ => ht 15) cy 8 St_order ++ (wAI (fun _ => ht 16) cy 8 St_ordered ++ (wAI (fun _ => ht 8) cy 64 St_owned ++ (wAI (fun _ => ht 7) cy 64 St_owner ++ (wAI (fun _ => ht 3) cy 140 St_r ++ (wAI (fun _ => ht 6) cy 325 St_read ++ (wAI (fun _ => ht 14) cy 12 St_slots ++ (wAI (fun _ => ht 9) cy 325 St_st ++ (wAI (fun _ => ht 1) cy 900 St_tape ++ (wAI (fun _ => ht 5) cy 325 St_told)))))))))))))) H → va_D A (wMo ht cy St ++ (wAI (fun _ => ht 4) cy 140 St_fresh ++ (wAI (fun _ => ht 2) cy 8 St_letters ++ (wAI (fun _ => ht 13) cy 48 St_marked ++ (wAI (fun _ => ht 15) cy 8 St_order ++ (wAI (fun _ => ht 16) cy 8 St_ordered ++ (wAI (fun _ => ht 8) cy 64 St_owned ++ (wAI (fun _ => ht 7) cy 64 St_owner ++ (wAI (fun _ => ht 3) cy 140 St_r ++ (wAI (fun _ => ht 6) cy 325 St_read ++ (wAI (fun _ => ht 14) cy 12 St_slots ++ (wAI (fun _ => ht 9) cy 325 St_st ++ (wAI (fun _ => ht 1) cy 900 St_tape ++ (wAI (fun _ => ht 5) cy 325 St_told)))))))))))))) → va_S A s.heap H locs → lv_has ls 3 [(0, .ref (ht 0)), (1, .int x1), (2, .int v2)] → W p l e (zRm 10 241) s m args below meth c H locs 0 0 (MQ below (zQI D (zty cy) A (wMo ht cy r.2.1 ++ (wAI (fun _ => ht 4) cy 140 r.2.2.1 ++ (wAI (fun _ => ht 2) cy 8 r.2.2.2.1 ++ (wAI (fun _ => ht 13) cy 48 r.2.2.2.2.1 ++ (wAI (fun _ => ht 15) cy 8 r.2.2.2.2.2.1 ++ (wAI (fun _ => ht 16) cy 8 r.2.2.2.2.2.2.1 ++ (wAI (fun _ => ht 8) cy 64 r.2.2.2.2.2.2.2.1 ++ (wAI (fun _ => ht 7) cy 64 r.2.2.2.2.2.2.2.2.1 ++ (wAI (fun _ => ht 3) cy 140 r.2.2.2.2.2.2.2.2.2.1 ++ (wAI (fun _ => ht 6) cy 325 r.2.2.2.2.2.2.2.2.2.2.1 ++ (wAI (fun _ => ht 14) cy 12 r.2.2.2.2.2.2.2.2.2.2.2.1 ++ (wAI (fun _ => ht 9) cy 325 r.2.2.2.2.2.2.2.2.2.2.2.2.1 ++ (wAI (fun _ => ht 1) cy 900 St_tape ++ (wAI (fun _ => ht 5) cy 325 r.2.2.2.2.2.2.2.2.2.2.2.2.2)))))))))))))) r.1) args s 0 0 A) (F0 m 121 ls []) := by
  obtain ⟨hx, hb, hr, hts, hown, hlocks, hml, hA, hK⟩ := id C
  intro n
  induction n with
  | zero => intro St St_fresh St_letters St_marked St_order St_ordered St_owned St_owner St_r St_read St_slots St_st St_told v2 H locs ls hf; exact zno hf
  | succ n ih =>
    intro St St_fresh St_letters St_marked St_order St_ordered St_owned St_owner St_r St_read St_slots St_st St_told v2 H locs ls hf hP hD hS hl
    have hf : b_X10_store_121 St_tape x1 (zl14 (b_X10_store_121 St_tape x1) n) St St_fresh St_letters St_marked St_order St_ordered St_owned St_owner St_r St_read St_slots St_st St_told v2 = some r := hf
    have K121 := ih
    refine lv_iload_n hx hb dX10_store_121 rfl (lv_at hl 2 rfl) ?_
    refine lv_bipush (v := (12 : Int32)) hx hb dX10_store_122 (by decide) ?_
    refine z_icmp_ge (tgt := 140) hx hb dX10_store_124 (by decide) hf (fun hf => ?_) (fun hf => ?_)
    · refine lv_aload_n hx hb dX10_store_140 rfl (lv_at hl 0 rfl) ?_
      refine lv_iload_n hx hb dX10_store_141 rfl (lv_at hl 1 rfl) ?_
      refine z_put (w2 := vMo ht cy (Mo_thrown St) (Mo_taped St) x1 (Mo_at St) (Mo_end St) (Mo_token St) (Mo_whole St) (Mo_nameSize St) (Mo_fault St) (Mo_place St) (Mo_trouble St) (Mo_failed St) (Mo_hasStore St) (Mo_undos St) (Mo_images St) (Mo_ring St) (Mo_refused St) (Mo_setMany St) (Mo_someOf St) (Mo_allOf St) (Mo_firstRest St) (Mo_allWeight St) (Mo_seenWeight St) (Mo_sumWeight St) ++ (wAI (fun _ => ht 4) cy 140 St_fresh ++ (wAI (fun _ => ht 2) cy 8 St_letters ++ (wAI (fun _ => ht 13) cy 48 St_marked ++ (wAI (fun _ => ht 15) cy 8 St_order ++ (wAI (fun _ => ht 16) cy 8 St_ordered ++ (wAI (fun _ => ht 8) cy 64 St_owned ++ (wAI (fun _ => ht 7) cy 64 St_owner ++ (wAI (fun _ => ht 3) cy 140 St_r ++ (wAI (fun _ => ht 6) cy 325 St_read ++ (wAI (fun _ => ht 14) cy 12 St_slots ++ (wAI (fun _ => ht 9) cy 325 St_st ++ (wAI (fun _ => ht 1) cy 900 St_tape ++ (wAI (fun _ => ht 5) cy 325 St_told)))))))))))))) hx hb hts in_X10 tyX10 tyX10_ok nmX10 hown hK hP hD hS 0 rfl rfl 3 (by decide) (hts _ q6_48) (fun _ h9 => h9) rfl rfl rfl (Nat.le_of_ble_eq_true rfl) dX10_store_142 rfl (fun H locs hP hD hS => ?_)
      refine lv_aload_n hx hb dX10_store_145 rfl (lv_at hl 0 rfl) ?_
      refine lv_iconst (v := (0 : Int32)) hx hb dX10_store_146 (by decide) ?_
      refine z_put (w2 := vMo ht cy (Mo_thrown St) (Mo_taped St) x1 (Mo_at St) (0 : Int32) (Mo_token St) (Mo_whole St) (Mo_nameSize St) (Mo_fault St) (Mo_place St) (Mo_trouble St) (Mo_failed St) (Mo_hasStore St) (Mo_undos St) (Mo_images St) (Mo_ring St) (Mo_refused St) (Mo_setMany St) (Mo_someOf St) (Mo_allOf St) (Mo_firstRest St) (Mo_allWeight St) (Mo_seenWeight St) (Mo_sumWeight St) ++ (wAI (fun _ => ht 4) cy 140 St_fresh ++ (wAI (fun _ => ht 2) cy 8 St_letters ++ (wAI (fun _ => ht 13) cy 48 St_marked ++ (wAI (fun _ => ht 15) cy 8 St_order ++ (wAI (fun _ => ht 16) cy 8 St_ordered ++ (wAI (fun _ => ht 8) cy 64 St_owned ++ (wAI (fun _ => ht 7) cy 64 St_owner ++ (wAI (fun _ => ht 3) cy 140 St_r ++ (wAI (fun _ => ht 6) cy 325 St_read ++ (wAI (fun _ => ht 14) cy 12 St_slots ++ (wAI (fun _ => ht 9) cy 325 St_st ++ (wAI (fun _ => ht 1) cy 900 St_tape ++ (wAI (fun _ => ht 5) cy 325 St_told)))))))))))))) hx hb hts in_X10 tyX10 tyX10_ok nmX10 hown hK hP hD hS 0 rfl rfl 5 (by decide) (hts _ q6_50) (fun _ h9 => h9) rfl rfl rfl (Nat.le_of_ble_eq_true rfl) dX10_store_147 rfl (fun H locs hP hD hS => ?_)
      refine lv_aload_n hx hb dX10_store_150 rfl (lv_at hl 0 rfl) ?_
      obtain ⟨q12, hc, hf⟩ := zbd hf
      rw [← wMo_mk ht] at hP hD
      refine z_cVv (As := []) (rest := []) C (c_X10_step l D cy ht (mkMo (Mo_thrown St) (Mo_taped St) x1 (Mo_at St) (0 : Int32) (Mo_token St) (Mo_whole St) (Mo_nameSize St) (Mo_fault St) (Mo_place St) (Mo_trouble St) (Mo_failed St) (Mo_hasStore St) (Mo_undos St) (Mo_images St) (Mo_ring St) (Mo_refused St) (Mo_setMany St) (Mo_someOf St) (Mo_allOf St) (Mo_firstRest St) (Mo_allWeight St) (Mo_seenWeight St) (Mo_sumWeight St)) St_letters St_tape q12 hc) gV_X10_X10_step hd_X10_step ⟨Nat.le_of_ble_eq_true rfl, Nat.le_of_ble_eq_true rfl⟩ ⟨Nat.le_refl _, Nat.le_refl _⟩ (va_recv hK hP (ci := 6) (q0 := 0) rfl rfl) hP hD hS (w2 := wMo ht cy q12.1 ++ (wAI (fun _ => ht 4) cy 140 St_fresh ++ (wAI (fun _ => ht 2) cy 8 q12.2 ++ (wAI (fun _ => ht 13) cy 48 St_marked ++ (wAI (fun _ => ht 15) cy 8 St_order ++ (wAI (fun _ => ht 16) cy 8 St_ordered ++ (wAI (fun _ => ht 8) cy 64 St_owned ++ (wAI (fun _ => ht 7) cy 64 St_owner ++ (wAI (fun _ => ht 3) cy 140 St_r ++ (wAI (fun _ => ht 6) cy 325 St_read ++ (wAI (fun _ => ht 14) cy 12 St_slots ++ (wAI (fun _ => ht 9) cy 325 St_st ++ (wAI (fun _ => ht 1) cy 900 St_tape ++ (wAI (fun _ => ht 5) cy 325 St_told)))))))))))))) [0, 2, 12] [1, 3, 4, 5, 6, 7, 8, 9, 10, 11, 13] [11, 0, 12, 1, 2, 3, 4, 5, 6, 7, 8, 9, 13, 10] rfl rfl rfl rfl rfl rfl (by decide) hl.1 (Nat.le_of_ble_eq_true rfl) dX10_store_151 (fun H locs hP hD hS => ?_)
      refine lv_aload_n hx hb dX10_store_154 rfl (lv_at hl 0 rfl) ?_
      obtain ⟨q13, hc, hf⟩ := zbd hf
      refine z_cVvs (As := []) (rest := []) C hE (c_X10_readLine l D cy E ht q12.1 St_fresh q12.2 St_marked St_ordered St_owner St_read St_slots St_tape q13 hc) gV_X10_X10_readLine hd_X10_readLine ⟨Nat.le_of_ble_eq_true rfl, Nat.le_of_ble_eq_true rfl⟩ ⟨Nat.le_refl _, Nat.le_refl _⟩ (va_recv hK hP (ci := 6) (q0 := 0) rfl rfl) hP hD hS (w2 := wMo ht cy q13.1 ++ (wAI (fun _ => ht 4) cy 140 q13.2.1 ++ (wAI (fun _ => ht 2) cy 8 q13.2.2.1 ++ (wAI (fun _ => ht 13) cy 48 q13.2.2.2.1 ++ (wAI (fun _ => ht 15) cy 8 St_order ++ (wAI (fun _ => ht 16) cy 8 q13.2.2.2.2.1 ++ (wAI (fun _ => ht 8) cy 64 St_owned ++ (wAI (fun _ => ht 7) cy 64 q13.2.2.2.2.2.1 ++ (wAI (fun _ => ht 3) cy 140 St_r ++ (wAI (fun _ => ht 6) cy 325 q13.2.2.2.2.2.2.1 ++ (wAI (fun _ => ht 14) cy 12 q13.2.2.2.2.2.2.2 ++ (wAI (fun _ => ht 9) cy 325 St_st ++ (wAI (fun _ => ht 1) cy 900 St_tape ++ (wAI (fun _ => ht 5) cy 325 St_told)))))))))))))) [0, 1, 2, 3, 5, 7, 9, 10, 12] [4, 6, 8, 11, 13] [5, 6, 7, 8, 0, 9, 1, 10, 2, 11, 12, 3, 13, 4] rfl rfl rfl rfl rfl rfl (by decide) hl.1 (Nat.le_of_ble_eq_true rfl) dX10_store_155 (fun H locs hP hD hS => ?_)
      exact w_X10_store_158 l E ht St_tape x1 C hE FU q13.1 q13.2.1 q13.2.2.1 q13.2.2.2.1 St_order q13.2.2.2.2.1 St_owned q13.2.2.2.2.2.1 St_r q13.2.2.2.2.2.2.1 q13.2.2.2.2.2.2.2 St_st St_told H locs ls hf hP hD hS (lv_sub hl [0] rfl)
    · refine lv_aload_n hx hb dX10_store_127 rfl (lv_at hl 0 rfl) ?_
      refine va_get (D := D) (ci := 6) (v := .ref (ht 14)) (C := RX10) (T := TX10) (N := 41) hx hb hts in_X10 hown hK hP 0 rfl rfl 30 (by decide) (hts _ q6_75) (fun _ h9 => h9) rfl dX10_store_128 ?_
      refine lv_iload_n hx hb dX10_store_131 rfl (lv_at hl 2 rfl) ?_
      refine lv_iconst (v := (0 : Int32)) hx hb dX10_store_132 (by decide) ?_
      refine z_iast (f := St_slots) (w2 := wMo ht cy St ++ (wAI (fun _ => ht 4) cy 140 St_fresh ++ (wAI (fun _ => ht 2) cy 8 St_letters ++ (wAI (fun _ => ht 13) cy 48 St_marked ++ (wAI (fun _ => ht 15) cy 8 St_order ++ (wAI (fun _ => ht 16) cy 8 St_ordered ++ (wAI (fun _ => ht 8) cy 64 St_owned ++ (wAI (fun _ => ht 7) cy 64 St_owner ++ (wAI (fun _ => ht 3) cy 140 St_r ++ (wAI (fun _ => ht 6) cy 325 St_read ++ (wAI (fun _ => ht 14) cy 12 (upd St_slots v2.toNatClampNeg (0 : Int32)) ++ (wAI (fun _ => ht 9) cy 325 St_st ++ (wAI (fun _ => ht 1) cy 900 St_tape ++ (wAI (fun _ => ht 5) cy 325 St_told)))))))))))))) hx hb hK hP hD hS 10 0 rfl rfl dX10_store_133 hf rfl (fun hf H locs hP hD hS => ?_)
      refine lv_iinc (v := (v2 + (1 : Int32))) (lv' := [(2, .int (v2 + (1 : Int32))), (0, .ref (ht 0)), (1, .int x1)]) hx hb dX10_store_134 hl (k := 2) rfl rfl (by decide) rfl (fun ls hl => ?_)
      refine lv_goto (tgt := 121) hx hb dX10_store_137 (by decide) ?_
      exact K121 St St_fresh St_letters St_marked St_order St_ordered St_owned St_owner St_r St_read (upd St_slots v2.toNatClampNeg (0 : Int32)) St_st St_told (v2 + (1 : Int32)) H locs ls hf hP hD hS (lv_sub hl [1, 2, 0] rfl)
def b_X10_store_100 (St_tape : Nat → Int32) (x1 : Int32) (k100 : SMo → (Nat → Int32) → (Nat → Int32) → (Nat → Int32) → (Nat → Int32) → (Nat → Int32) → (Nat → Int32) → (Nat → Int32) → (Nat → Int32) → (Nat → Int32) → (Nat → Int32) → (Nat → Int32) → (Nat → Int32) → Int32 → Option (Int32 × SMo × (Nat → Int32) × (Nat → Int32) × (Nat → Int32) × (Nat → Int32) × (Nat → Int32) × (Nat → Int32) × (Nat → Int32) × (Nat → Int32) × (Nat → Int32) × (Nat → Int32) × (Nat → Int32) × (Nat → Int32))) (St : SMo) (St_fresh : Nat → Int32) (St_letters : Nat → Int32) (St_marked : Nat → Int32) (St_order : Nat → Int32) (St_ordered : Nat → Int32) (St_owned : Nat → Int32) (St_owner : Nat → Int32) (St_r : Nat → Int32) (St_read : Nat → Int32) (St_slots : Nat → Int32) (St_st : Nat → Int32) (St_told : Nat → Int32) (v2 : Int32) : Option (Int32 × SMo × (Nat → Int32) × (Nat → Int32) × (Nat → Int32) × (Nat → Int32) × (Nat → Int32) × (Nat → Int32) × (Nat → Int32) × (Nat → Int32) × (Nat → Int32) × (Nat → Int32) × (Nat → Int32) × (Nat → Int32)) :=
  (if (64 : Int32) ≤ v2 then
    (zl14 (b_X10_store_121 St_tape x1) FU St St_fresh St_letters St_marked St_order St_ordered St_owned St_owner St_r St_read St_slots St_st St_told (0 : Int32))
    else
    (if zib v2 64 then (k100 St St_fresh St_letters St_marked St_order St_ordered St_owned (upd St_owner v2.toNatClampNeg (0 : Int32)) St_r St_read St_slots St_st St_told (v2 + (1 : Int32))) else none))
set_option maxHeartbeats 4000000 in
set_option maxRecDepth 100000 in
theorem w_X10_store_100 {p : Program} {e : Env} {s : State} {m : MethodId} {below : List Frame} {meth : Method} {c : Code} {A : Nat → Prop} {D : va_G} {cy : Nat → ClassId} {args : Array Value} {r : Int32 × SMo × (Nat → Int32) × (Nat → Int32) × (Nat → Int32) × (Nat → Int32) × (Nat → Int32) × (Nat → Int32) × (Nat → Int32) × (Nat → Int32) × (Nat → Int32) × (Nat → Int32) × (Nat → Int32) × (Nat → Int32)} (l : Launch) (E : zEn) (ht : Nat → Nat) (St_tape : Nat → Int32) (x1 : Int32) (C : zX p s m meth c cX10_store 3 args RX10 (some FieldType.int) A D (zty cy)) (hE : zE E A s s.heap) :
    ∀ (n : Nat) (St : SMo) (St_fresh : Nat → Int32) (St_letters : Nat → Int32) (St_marked : Nat → Int32) (St_order : Nat → Int32) (St_ordered : Nat → Int32) (St_owned : Nat → Int32) (St_owner : Nat → Int32) (St_r : Nat → Int32) (St_read : Nat → Int32) (St_slots : Nat → Int32) (St_st : Nat → Int32) (St_told : Nat → Int32) (v2 : Int32) (H : Heap) (locs : List Loc) (ls : Array Slot), zl14 (b_X10_store_100 St_tape x1) n St St_fresh St_letters St_marked St_order St_ordered St_owned St_owner St_r St_read St_slots St_st St_told v2 = some r → va_P D vwCl (wMo ht cy St ++ (wAI (fun _ => ht 4) cy 140 St_fresh ++ (wAI (fun _ => ht 2) cy 8 St_letters ++ (wAI (fun _ => ht 13) cy 48 St_marked ++ (wAI (fun _ => ht 15) cy 8 St_order ++ (wAI (fun _ => ht 16) cy 8 St_ordered ++ (wAI (fun _ => ht 8) cy 64 St_owned ++ (wAI (fun _ => ht 7) cy 64 St_owner ++ (wAI (fun _ => ht 3) cy 140 St_r ++ (wAI (fun _ => ht 6) cy 325 St_read ++ (wAI (fun _ => ht 14) cy 12 St_slots ++ (wAI (fun _ => ht 9) cy 325 St_st ++ (wAI (fun _ => ht 1) cy 900 St_tape ++ (wAI (fun _ => ht 5) cy 325 St_told)))))))))))))) H → va_D A (wMo ht cy St ++ (wAI (fun _ => ht 4) cy 140 St_fresh ++ (wAI (fun _ => ht 2) cy 8 St_letters ++ (wAI (fun _ => ht 13) cy 48 St_marked ++ (wAI (fun _ => ht 15) cy 8 St_order ++ (wAI (fun _ => ht 16) cy 8 St_ordered ++ (wAI (fun _ => ht 8) cy 64 St_owned ++ (wAI (fun _ => ht 7) cy 64 St_owner ++ (wAI (fun _ => ht 3) cy 140 St_r ++ (wAI (fun _ => ht 6) cy 325 St_read ++ (wAI (fun _ => ht 14) cy 12 St_slots ++ (wAI (fun _ => ht 9) cy 325 St_st ++ (wAI (fun _ => ht 1) cy 900 St_tape ++ (wAI (fun _ => ht 5) cy 325 St_told)))))))))))))) → va_S A s.heap H locs → lv_has ls 3 [(0, .ref (ht 0)), (1, .int x1), (2, .int v2)] → W p l e (zRm 10 241) s m args below meth c H locs 0 0 (MQ below (zQI D (zty cy) A (wMo ht cy r.2.1 ++ (wAI (fun _ => ht 4) cy 140 r.2.2.1 ++ (wAI (fun _ => ht 2) cy 8 r.2.2.2.1 ++ (wAI (fun _ => ht 13) cy 48 r.2.2.2.2.1 ++ (wAI (fun _ => ht 15) cy 8 r.2.2.2.2.2.1 ++ (wAI (fun _ => ht 16) cy 8 r.2.2.2.2.2.2.1 ++ (wAI (fun _ => ht 8) cy 64 r.2.2.2.2.2.2.2.1 ++ (wAI (fun _ => ht 7) cy 64 r.2.2.2.2.2.2.2.2.1 ++ (wAI (fun _ => ht 3) cy 140 r.2.2.2.2.2.2.2.2.2.1 ++ (wAI (fun _ => ht 6) cy 325 r.2.2.2.2.2.2.2.2.2.2.1 ++ (wAI (fun _ => ht 14) cy 12 r.2.2.2.2.2.2.2.2.2.2.2.1 ++ (wAI (fun _ => ht 9) cy 325 r.2.2.2.2.2.2.2.2.2.2.2.2.1 ++ (wAI (fun _ => ht 1) cy 900 St_tape ++ (wAI (fun _ => ht 5) cy 325 r.2.2.2.2.2.2.2.2.2.2.2.2.2)))))))))))))) r.1) args s 0 0 A) (F0 m 100 ls []) := by
  obtain ⟨hx, hb, hr, hts, hown, hlocks, hml, hA, hK⟩ := id C
  intro n
  induction n with
  | zero => intro St St_fresh St_letters St_marked St_order St_ordered St_owned St_owner St_r St_read St_slots St_st St_told v2 H locs ls hf; exact zno hf
  | succ n ih =>
    intro St St_fresh St_letters St_marked St_order St_ordered St_owned St_owner St_r St_read St_slots St_st St_told v2 H locs ls hf hP hD hS hl
    have hf : b_X10_store_100 St_tape x1 (zl14 (b_X10_store_100 St_tape x1) n) St St_fresh St_letters St_marked St_order St_ordered St_owned St_owner St_r St_read St_slots St_st St_told v2 = some r := hf
    have K100 := ih
    refine lv_iload_n hx hb dX10_store_100 rfl (lv_at hl 2 rfl) ?_
    refine lv_bipush (v := (64 : Int32)) hx hb dX10_store_101 (by decide) ?_
    refine z_icmp_ge (tgt := 119) hx hb dX10_store_103 (by decide) hf (fun hf => ?_) (fun hf => ?_)
    · refine lv_iconst (v := (0 : Int32)) hx hb dX10_store_119 (by decide) ?_
      refine lv_istore_n (lv' := [(2, .int (0 : Int32)), (0, .ref (ht 0)), (1, .int x1)]) hx hb dX10_store_120 rfl hl (by decide) rfl (fun ls hl => ?_)
      exact w_X10_store_121 l E ht St_tape x1 C hE FU St St_fresh St_letters St_marked St_order St_ordered St_owned St_owner St_r St_read St_slots St_st St_told (0 : Int32) H locs ls hf hP hD hS (lv_sub hl [1, 2, 0] rfl)
    · refine lv_aload_n hx hb dX10_store_106 rfl (lv_at hl 0 rfl) ?_
      refine va_get (D := D) (ci := 6) (v := .ref (ht 7)) (C := RX10) (T := TX10) (N := 41) hx hb hts in_X10 hown hK hP 0 rfl rfl 19 (by decide) (hts _ q6_64) (fun _ h9 => h9) rfl dX10_store_107 ?_
      refine lv_iload_n hx hb dX10_store_110 rfl (lv_at hl 2 rfl) ?_
      refine lv_iconst (v := (0 : Int32)) hx hb dX10_store_111 (by decide) ?_
      refine z_iast (f := St_owner) (w2 := wMo ht cy St ++ (wAI (fun _ => ht 4) cy 140 St_fresh ++ (wAI (fun _ => ht 2) cy 8 St_letters ++ (wAI (fun _ => ht 13) cy 48 St_marked ++ (wAI (fun _ => ht 15) cy 8 St_order ++ (wAI (fun _ => ht 16) cy 8 St_ordered ++ (wAI (fun _ => ht 8) cy 64 St_owned ++ (wAI (fun _ => ht 7) cy 64 (upd St_owner v2.toNatClampNeg (0 : Int32)) ++ (wAI (fun _ => ht 3) cy 140 St_r ++ (wAI (fun _ => ht 6) cy 325 St_read ++ (wAI (fun _ => ht 14) cy 12 St_slots ++ (wAI (fun _ => ht 9) cy 325 St_st ++ (wAI (fun _ => ht 1) cy 900 St_tape ++ (wAI (fun _ => ht 5) cy 325 St_told)))))))))))))) hx hb hK hP hD hS 7 0 rfl rfl dX10_store_112 hf rfl (fun hf H locs hP hD hS => ?_)
      refine lv_iinc (v := (v2 + (1 : Int32))) (lv' := [(2, .int (v2 + (1 : Int32))), (0, .ref (ht 0)), (1, .int x1)]) hx hb dX10_store_113 hl (k := 2) rfl rfl (by decide) rfl (fun ls hl => ?_)
      refine lv_goto (tgt := 100) hx hb dX10_store_116 (by decide) ?_
      exact K100 St St_fresh St_letters St_marked St_order St_ordered St_owned (upd St_owner v2.toNatClampNeg (0 : Int32)) St_r St_read St_slots St_st St_told (v2 + (1 : Int32)) H locs ls hf hP hD hS (lv_sub hl [1, 2, 0] rfl)
def b_X10_store_61 (St_tape : Nat → Int32) (x1 : Int32) (k61 : SMo → (Nat → Int32) → (Nat → Int32) → (Nat → Int32) → (Nat → Int32) → (Nat → Int32) → (Nat → Int32) → (Nat → Int32) → (Nat → Int32) → (Nat → Int32) → (Nat → Int32) → (Nat → Int32) → (Nat → Int32) → Int32 → Option (Int32 × SMo × (Nat → Int32) × (Nat → Int32) × (Nat → Int32) × (Nat → Int32) × (Nat → Int32) × (Nat → Int32) × (Nat → Int32) × (Nat → Int32) × (Nat → Int32) × (Nat → Int32) × (Nat → Int32) × (Nat → Int32))) (St : SMo) (St_fresh : Nat → Int32) (St_letters : Nat → Int32) (St_marked : Nat → Int32) (St_order : Nat → Int32) (St_ordered : Nat → Int32) (St_owned : Nat → Int32) (St_owner : Nat → Int32) (St_r : Nat → Int32) (St_read : Nat → Int32) (St_slots : Nat → Int32) (St_st : Nat → Int32) (St_told : Nat → Int32) (v2 : Int32) : Option (Int32 × SMo × (Nat → Int32) × (Nat → Int32) × (Nat → Int32) × (Nat → Int32) × (Nat → Int32) × (Nat → Int32) × (Nat → Int32) × (Nat → Int32) × (Nat → Int32) × (Nat → Int32) × (Nat → Int32) × (Nat → Int32)) :=
  (if (325 : Int32) ≤ v2 then
    (zl14 (b_X10_store_100 St_tape x1) FU St St_fresh St_letters St_marked St_order St_ordered St_owned St_owner St_r St_read St_slots St_st St_told (0 : Int32))
    else
    (f_X10_in v2 (304 : Int32) (309 : Int32)).bind (fun q14 =>
      (if q14 = 0 then
        (if zib v2 325 then (k61 St St_fresh St_letters St_marked St_order St_ordered St_owned St_owner St_r (upd St_read v2.toNatClampNeg (0 : Int32)) St_slots St_st St_told (v2 + (1 : Int32))) else none)
        else
        (if zib v2 325 then (k61 St St_fresh St_letters St_marked St_order St_ordered St_owned St_owner St_r (upd St_read v2.toNatClampNeg (-1 : Int32)) St_slots St_st St_told (v2 + (1 : Int32))) else none))))
set_option maxHeartbeats 4000000 in
set_option maxRecDepth 100000 in
theorem w_X10_store_61 {p : Program} {e : Env} {s : State} {m : MethodId} {below : List Frame} {meth : Method} {c : Code} {A : Nat → Prop} {D : va_G} {cy : Nat → ClassId} {args : Array Value} {r : Int32 × SMo × (Nat → Int32) × (Nat → Int32) × (Nat → Int32) × (Nat → Int32) × (Nat → Int32) × (Nat → Int32) × (Nat → Int32) × (Nat → Int32) × (Nat → Int32) × (Nat → Int32) × (Nat → Int32) × (Nat → Int32)} (l : Launch) (E : zEn) (ht : Nat → Nat) (St_tape : Nat → Int32) (x1 : Int32) (C : zX p s m meth c cX10_store 3 args RX10 (some FieldType.int) A D (zty cy)) (hE : zE E A s s.heap) :
    ∀ (n : Nat) (St : SMo) (St_fresh : Nat → Int32) (St_letters : Nat → Int32) (St_marked : Nat → Int32) (St_order : Nat → Int32) (St_ordered : Nat → Int32) (St_owned : Nat → Int32) (St_owner : Nat → Int32) (St_r : Nat → Int32) (St_read : Nat → Int32) (St_slots : Nat → Int32) (St_st : Nat → Int32) (St_told : Nat → Int32) (v2 : Int32) (H : Heap) (locs : List Loc) (ls : Array Slot), zl14 (b_X10_store_61 St_tape x1) n St St_fresh St_letters St_marked St_order St_ordered St_owned St_owner St_r St_read St_slots St_st St_told v2 = some r → va_P D vwCl (wMo ht cy St ++ (wAI (fun _ => ht 4) cy 140 St_fresh ++ (wAI (fun _ => ht 2) cy 8 St_letters ++ (wAI (fun _ => ht 13) cy 48 St_marked ++ (wAI (fun _ => ht 15) cy 8 St_order ++ (wAI (fun _ => ht 16) cy 8 St_ordered ++ (wAI (fun _ => ht 8) cy 64 St_owned ++ (wAI (fun _ => ht 7) cy 64 St_owner ++ (wAI (fun _ => ht 3) cy 140 St_r ++ (wAI (fun _ => ht 6) cy 325 St_read ++ (wAI (fun _ => ht 14) cy 12 St_slots ++ (wAI (fun _ => ht 9) cy 325 St_st ++ (wAI (fun _ => ht 1) cy 900 St_tape ++ (wAI (fun _ => ht 5) cy 325 St_told)))))))))))))) H → va_D A (wMo ht cy St ++ (wAI (fun _ => ht 4) cy 140 St_fresh ++ (wAI (fun _ => ht 2) cy 8 St_letters ++ (wAI (fun _ => ht 13) cy 48 St_marked ++ (wAI (fun _ => ht 15) cy 8 St_order ++ (wAI (fun _ => ht 16) cy 8 St_ordered ++ (wAI (fun _ => ht 8) cy 64 St_owned ++ (wAI (fun _ => ht 7) cy 64 St_owner ++ (wAI (fun _ => ht 3) cy 140 St_r ++ (wAI (fun _ => ht 6) cy 325 St_read ++ (wAI (fun _ => ht 14) cy 12 St_slots ++ (wAI (fun _ => ht 9) cy 325 St_st ++ (wAI (fun _ => ht 1) cy 900 St_tape ++ (wAI (fun _ => ht 5) cy 325 St_told)))))))))))))) → va_S A s.heap H locs → lv_has ls 3 [(0, .ref (ht 0)), (1, .int x1), (2, .int v2)] → W p l e (zRm 10 241) s m args below meth c H locs 0 0 (MQ below (zQI D (zty cy) A (wMo ht cy r.2.1 ++ (wAI (fun _ => ht 4) cy 140 r.2.2.1 ++ (wAI (fun _ => ht 2) cy 8 r.2.2.2.1 ++ (wAI (fun _ => ht 13) cy 48 r.2.2.2.2.1 ++ (wAI (fun _ => ht 15) cy 8 r.2.2.2.2.2.1 ++ (wAI (fun _ => ht 16) cy 8 r.2.2.2.2.2.2.1 ++ (wAI (fun _ => ht 8) cy 64 r.2.2.2.2.2.2.2.1 ++ (wAI (fun _ => ht 7) cy 64 r.2.2.2.2.2.2.2.2.1 ++ (wAI (fun _ => ht 3) cy 140 r.2.2.2.2.2.2.2.2.2.1 ++ (wAI (fun _ => ht 6) cy 325 r.2.2.2.2.2.2.2.2.2.2.1 ++ (wAI (fun _ => ht 14) cy 12 r.2.2.2.2.2.2.2.2.2.2.2.1 ++ (wAI (fun _ => ht 9) cy 325 r.2.2.2.2.2.2.2.2.2.2.2.2.1 ++ (wAI (fun _ => ht 1) cy 900 St_tape ++ (wAI (fun _ => ht 5) cy 325 r.2.2.2.2.2.2.2.2.2.2.2.2.2)))))))))))))) r.1) args s 0 0 A) (F0 m 61 ls []) := by
  obtain ⟨hx, hb, hr, hts, hown, hlocks, hml, hA, hK⟩ := id C
  intro n
  induction n with
  | zero => intro St St_fresh St_letters St_marked St_order St_ordered St_owned St_owner St_r St_read St_slots St_st St_told v2 H locs ls hf; exact zno hf
  | succ n ih =>
    intro St St_fresh St_letters St_marked St_order St_ordered St_owned St_owner St_r St_read St_slots St_st St_told v2 H locs ls hf hP hD hS hl
    have hf : b_X10_store_61 St_tape x1 (zl14 (b_X10_store_61 St_tape x1) n) St St_fresh St_letters St_marked St_order St_ordered St_owned St_owner St_r St_read St_slots St_st St_told v2 = some r := hf
    have K61 := ih
    refine lv_iload_n hx hb dX10_store_61 rfl (lv_at hl 2 rfl) ?_
    refine lv_sipush (v := (325 : Int32)) hx hb dX10_store_62 (by decide) ?_
    refine z_icmp_ge (tgt := 98) hx hb dX10_store_65 (by decide) hf (fun hf => ?_) (fun hf => ?_)
    · refine lv_iconst (v := (0 : Int32)) hx hb dX10_store_98 (by decide) ?_
      refine lv_istore_n (lv' := [(2, .int (0 : Int32)), (0, .ref (ht 0)), (1, .int x1)]) hx hb dX10_store_99 rfl hl (by decide) rfl (fun ls hl => ?_)
      exact w_X10_store_100 l E ht St_tape x1 C hE FU St St_fresh St_letters St_marked St_order St_ordered St_owned St_owner St_r St_read St_slots St_st St_told (0 : Int32) H locs ls hf hP hD hS (lv_sub hl [1, 2, 0] rfl)
    · refine lv_aload_n hx hb dX10_store_68 rfl (lv_at hl 0 rfl) ?_
      refine va_get (D := D) (ci := 6) (v := .ref (ht 6)) (C := RX10) (T := TX10) (N := 41) hx hb hts in_X10 hown hK hP 0 rfl rfl 18 (by decide) (hts _ q6_63) (fun _ h9 => h9) rfl dX10_store_69 ?_
      refine lv_iload_n hx hb dX10_store_72 rfl (lv_at hl 2 rfl) ?_
      refine lv_iload_n hx hb dX10_store_73 rfl (lv_at hl 2 rfl) ?_
      refine lv_sipush (v := (304 : Int32)) hx hb dX10_store_74 (by decide) ?_
      refine lv_sipush (v := (309 : Int32)) hx hb dX10_store_77 (by decide) ?_
      obtain ⟨q14, hc, hf⟩ := zbd hf
      refine z_cSiE (As := [.int v2, .int (304 : Int32), .int (309 : Int32)]) (rest := [.int v2, .ref (ht 6)]) C (c_X10_in l D cy v2 (304 : Int32) (309 : Int32) q14 hc) gS_X10_X10_in hd_X10_in ⟨Nat.le_of_ble_eq_true rfl, Nat.le_of_ble_eq_true rfl⟩ ⟨Nat.le_refl _, Nat.le_refl _⟩ hP hD hS hl.1 (Nat.le_of_ble_eq_true rfl) dX10_store_80 (fun H locs hP hD hS => ?_)
      refine z_if_eq (tgt := 90) hx hb dX10_store_83 (by decide) hf (fun hf => ?_) (fun hf => ?_)
      · refine lv_iconst (v := (0 : Int32)) hx hb dX10_store_90 (by decide) ?_
        refine z_iast (f := St_read) (w2 := wMo ht cy St ++ (wAI (fun _ => ht 4) cy 140 St_fresh ++ (wAI (fun _ => ht 2) cy 8 St_letters ++ (wAI (fun _ => ht 13) cy 48 St_marked ++ (wAI (fun _ => ht 15) cy 8 St_order ++ (wAI (fun _ => ht 16) cy 8 St_ordered ++ (wAI (fun _ => ht 8) cy 64 St_owned ++ (wAI (fun _ => ht 7) cy 64 St_owner ++ (wAI (fun _ => ht 3) cy 140 St_r ++ (wAI (fun _ => ht 6) cy 325 (upd St_read v2.toNatClampNeg (0 : Int32)) ++ (wAI (fun _ => ht 14) cy 12 St_slots ++ (wAI (fun _ => ht 9) cy 325 St_st ++ (wAI (fun _ => ht 1) cy 900 St_tape ++ (wAI (fun _ => ht 5) cy 325 St_told)))))))))))))) hx hb hK hP hD hS 9 0 rfl rfl dX10_store_91 hf rfl (fun hf H locs hP hD hS => ?_)
        refine lv_iinc (v := (v2 + (1 : Int32))) (lv' := [(2, .int (v2 + (1 : Int32))), (0, .ref (ht 0)), (1, .int x1)]) hx hb dX10_store_92 hl (k := 2) rfl rfl (by decide) rfl (fun ls hl => ?_)
        refine lv_goto (tgt := 61) hx hb dX10_store_95 (by decide) ?_
        exact K61 St St_fresh St_letters St_marked St_order St_ordered St_owned St_owner St_r (upd St_read v2.toNatClampNeg (0 : Int32)) St_slots St_st St_told (v2 + (1 : Int32)) H locs ls hf hP hD hS (lv_sub hl [1, 2, 0] rfl)
      · refine lv_iconst (v := (-1 : Int32)) hx hb dX10_store_86 (by decide) ?_
        refine lv_goto (tgt := 91) hx hb dX10_store_87 (by decide) ?_
        refine z_iast (f := St_read) (w2 := wMo ht cy St ++ (wAI (fun _ => ht 4) cy 140 St_fresh ++ (wAI (fun _ => ht 2) cy 8 St_letters ++ (wAI (fun _ => ht 13) cy 48 St_marked ++ (wAI (fun _ => ht 15) cy 8 St_order ++ (wAI (fun _ => ht 16) cy 8 St_ordered ++ (wAI (fun _ => ht 8) cy 64 St_owned ++ (wAI (fun _ => ht 7) cy 64 St_owner ++ (wAI (fun _ => ht 3) cy 140 St_r ++ (wAI (fun _ => ht 6) cy 325 (upd St_read v2.toNatClampNeg (-1 : Int32)) ++ (wAI (fun _ => ht 14) cy 12 St_slots ++ (wAI (fun _ => ht 9) cy 325 St_st ++ (wAI (fun _ => ht 1) cy 900 St_tape ++ (wAI (fun _ => ht 5) cy 325 St_told)))))))))))))) hx hb hK hP hD hS 9 0 rfl rfl dX10_store_91 hf rfl (fun hf H locs hP hD hS => ?_)
        refine lv_iinc (v := (v2 + (1 : Int32))) (lv' := [(2, .int (v2 + (1 : Int32))), (0, .ref (ht 0)), (1, .int x1)]) hx hb dX10_store_92 hl (k := 2) rfl rfl (by decide) rfl (fun ls hl => ?_)
        refine lv_goto (tgt := 61) hx hb dX10_store_95 (by decide) ?_
        exact K61 St St_fresh St_letters St_marked St_order St_ordered St_owned St_owner St_r (upd St_read v2.toNatClampNeg (-1 : Int32)) St_slots St_st St_told (v2 + (1 : Int32)) H locs ls hf hP hD hS (lv_sub hl [1, 2, 0] rfl)
def b_X10_store_39 (St_tape : Nat → Int32) (x1 : Int32) (k39 : SMo → (Nat → Int32) → (Nat → Int32) → (Nat → Int32) → (Nat → Int32) → (Nat → Int32) → (Nat → Int32) → (Nat → Int32) → (Nat → Int32) → (Nat → Int32) → (Nat → Int32) → (Nat → Int32) → (Nat → Int32) → Int32 → Option (Int32 × SMo × (Nat → Int32) × (Nat → Int32) × (Nat → Int32) × (Nat → Int32) × (Nat → Int32) × (Nat → Int32) × (Nat → Int32) × (Nat → Int32) × (Nat → Int32) × (Nat → Int32) × (Nat → Int32) × (Nat → Int32))) (St : SMo) (St_fresh : Nat → Int32) (St_letters : Nat → Int32) (St_marked : Nat → Int32) (St_order : Nat → Int32) (St_ordered : Nat → Int32) (St_owned : Nat → Int32) (St_owner : Nat → Int32) (St_r : Nat → Int32) (St_read : Nat → Int32) (St_slots : Nat → Int32) (St_st : Nat → Int32) (St_told : Nat → Int32) (v2 : Int32) : Option (Int32 × SMo × (Nat → Int32) × (Nat → Int32) × (Nat → Int32) × (Nat → Int32) × (Nat → Int32) × (Nat → Int32) × (Nat → Int32) × (Nat → Int32) × (Nat → Int32) × (Nat → Int32) × (Nat → Int32) × (Nat → Int32)) :=
  (if (140 : Int32) ≤ v2 then
    (zl14 (b_X10_store_61 St_tape x1) FU St St_fresh St_letters St_marked St_order St_ordered St_owned St_owner St_r St_read St_slots St_st St_told (0 : Int32))
    else
    (if zib v2 140 then (k39 St (upd St_fresh v2.toNatClampNeg (0 : Int32)) St_letters St_marked St_order St_ordered St_owned St_owner St_r St_read St_slots St_st St_told (v2 + (1 : Int32))) else none))
set_option maxHeartbeats 4000000 in
set_option maxRecDepth 100000 in
theorem w_X10_store_39 {p : Program} {e : Env} {s : State} {m : MethodId} {below : List Frame} {meth : Method} {c : Code} {A : Nat → Prop} {D : va_G} {cy : Nat → ClassId} {args : Array Value} {r : Int32 × SMo × (Nat → Int32) × (Nat → Int32) × (Nat → Int32) × (Nat → Int32) × (Nat → Int32) × (Nat → Int32) × (Nat → Int32) × (Nat → Int32) × (Nat → Int32) × (Nat → Int32) × (Nat → Int32) × (Nat → Int32)} (l : Launch) (E : zEn) (ht : Nat → Nat) (St_tape : Nat → Int32) (x1 : Int32) (C : zX p s m meth c cX10_store 3 args RX10 (some FieldType.int) A D (zty cy)) (hE : zE E A s s.heap) :
    ∀ (n : Nat) (St : SMo) (St_fresh : Nat → Int32) (St_letters : Nat → Int32) (St_marked : Nat → Int32) (St_order : Nat → Int32) (St_ordered : Nat → Int32) (St_owned : Nat → Int32) (St_owner : Nat → Int32) (St_r : Nat → Int32) (St_read : Nat → Int32) (St_slots : Nat → Int32) (St_st : Nat → Int32) (St_told : Nat → Int32) (v2 : Int32) (H : Heap) (locs : List Loc) (ls : Array Slot), zl14 (b_X10_store_39 St_tape x1) n St St_fresh St_letters St_marked St_order St_ordered St_owned St_owner St_r St_read St_slots St_st St_told v2 = some r → va_P D vwCl (wMo ht cy St ++ (wAI (fun _ => ht 4) cy 140 St_fresh ++ (wAI (fun _ => ht 2) cy 8 St_letters ++ (wAI (fun _ => ht 13) cy 48 St_marked ++ (wAI (fun _ => ht 15) cy 8 St_order ++ (wAI (fun _ => ht 16) cy 8 St_ordered ++ (wAI (fun _ => ht 8) cy 64 St_owned ++ (wAI (fun _ => ht 7) cy 64 St_owner ++ (wAI (fun _ => ht 3) cy 140 St_r ++ (wAI (fun _ => ht 6) cy 325 St_read ++ (wAI (fun _ => ht 14) cy 12 St_slots ++ (wAI (fun _ => ht 9) cy 325 St_st ++ (wAI (fun _ => ht 1) cy 900 St_tape ++ (wAI (fun _ => ht 5) cy 325 St_told)))))))))))))) H → va_D A (wMo ht cy St ++ (wAI (fun _ => ht 4) cy 140 St_fresh ++ (wAI (fun _ => ht 2) cy 8 St_letters ++ (wAI (fun _ => ht 13) cy 48 St_marked ++ (wAI (fun _ => ht 15) cy 8 St_order ++ (wAI (fun _ => ht 16) cy 8 St_ordered ++ (wAI (fun _ => ht 8) cy 64 St_owned ++ (wAI (fun _ => ht 7) cy 64 St_owner ++ (wAI (fun _ => ht 3) cy 140 St_r ++ (wAI (fun _ => ht 6) cy 325 St_read ++ (wAI (fun _ => ht 14) cy 12 St_slots ++ (wAI (fun _ => ht 9) cy 325 St_st ++ (wAI (fun _ => ht 1) cy 900 St_tape ++ (wAI (fun _ => ht 5) cy 325 St_told)))))))))))))) → va_S A s.heap H locs → lv_has ls 3 [(0, .ref (ht 0)), (1, .int x1), (2, .int v2)] → W p l e (zRm 10 241) s m args below meth c H locs 0 0 (MQ below (zQI D (zty cy) A (wMo ht cy r.2.1 ++ (wAI (fun _ => ht 4) cy 140 r.2.2.1 ++ (wAI (fun _ => ht 2) cy 8 r.2.2.2.1 ++ (wAI (fun _ => ht 13) cy 48 r.2.2.2.2.1 ++ (wAI (fun _ => ht 15) cy 8 r.2.2.2.2.2.1 ++ (wAI (fun _ => ht 16) cy 8 r.2.2.2.2.2.2.1 ++ (wAI (fun _ => ht 8) cy 64 r.2.2.2.2.2.2.2.1 ++ (wAI (fun _ => ht 7) cy 64 r.2.2.2.2.2.2.2.2.1 ++ (wAI (fun _ => ht 3) cy 140 r.2.2.2.2.2.2.2.2.2.1 ++ (wAI (fun _ => ht 6) cy 325 r.2.2.2.2.2.2.2.2.2.2.1 ++ (wAI (fun _ => ht 14) cy 12 r.2.2.2.2.2.2.2.2.2.2.2.1 ++ (wAI (fun _ => ht 9) cy 325 r.2.2.2.2.2.2.2.2.2.2.2.2.1 ++ (wAI (fun _ => ht 1) cy 900 St_tape ++ (wAI (fun _ => ht 5) cy 325 r.2.2.2.2.2.2.2.2.2.2.2.2.2)))))))))))))) r.1) args s 0 0 A) (F0 m 39 ls []) := by
  obtain ⟨hx, hb, hr, hts, hown, hlocks, hml, hA, hK⟩ := id C
  intro n
  induction n with
  | zero => intro St St_fresh St_letters St_marked St_order St_ordered St_owned St_owner St_r St_read St_slots St_st St_told v2 H locs ls hf; exact zno hf
  | succ n ih =>
    intro St St_fresh St_letters St_marked St_order St_ordered St_owned St_owner St_r St_read St_slots St_st St_told v2 H locs ls hf hP hD hS hl
    have hf : b_X10_store_39 St_tape x1 (zl14 (b_X10_store_39 St_tape x1) n) St St_fresh St_letters St_marked St_order St_ordered St_owned St_owner St_r St_read St_slots St_st St_told v2 = some r := hf
    have K39 := ih
    refine lv_iload_n hx hb dX10_store_39 rfl (lv_at hl 2 rfl) ?_
    refine lv_sipush (v := (140 : Int32)) hx hb dX10_store_40 (by decide) ?_
    refine z_icmp_ge (tgt := 59) hx hb dX10_store_43 (by decide) hf (fun hf => ?_) (fun hf => ?_)
    · refine lv_iconst (v := (0 : Int32)) hx hb dX10_store_59 (by decide) ?_
      refine lv_istore_n (lv' := [(2, .int (0 : Int32)), (0, .ref (ht 0)), (1, .int x1)]) hx hb dX10_store_60 rfl hl (by decide) rfl (fun ls hl => ?_)
      exact w_X10_store_61 l E ht St_tape x1 C hE FU St St_fresh St_letters St_marked St_order St_ordered St_owned St_owner St_r St_read St_slots St_st St_told (0 : Int32) H locs ls hf hP hD hS (lv_sub hl [1, 2, 0] rfl)
    · refine lv_aload_n hx hb dX10_store_46 rfl (lv_at hl 0 rfl) ?_
      refine va_get (D := D) (ci := 6) (v := .ref (ht 4)) (C := RX10) (T := TX10) (N := 41) hx hb hts in_X10 hown hK hP 0 rfl rfl 16 (by decide) (hts _ q6_61) (fun _ h9 => h9) rfl dX10_store_47 ?_
      refine lv_iload_n hx hb dX10_store_50 rfl (lv_at hl 2 rfl) ?_
      refine lv_iconst (v := (0 : Int32)) hx hb dX10_store_51 (by decide) ?_
      refine z_iast (f := St_fresh) (w2 := wMo ht cy St ++ (wAI (fun _ => ht 4) cy 140 (upd St_fresh v2.toNatClampNeg (0 : Int32)) ++ (wAI (fun _ => ht 2) cy 8 St_letters ++ (wAI (fun _ => ht 13) cy 48 St_marked ++ (wAI (fun _ => ht 15) cy 8 St_order ++ (wAI (fun _ => ht 16) cy 8 St_ordered ++ (wAI (fun _ => ht 8) cy 64 St_owned ++ (wAI (fun _ => ht 7) cy 64 St_owner ++ (wAI (fun _ => ht 3) cy 140 St_r ++ (wAI (fun _ => ht 6) cy 325 St_read ++ (wAI (fun _ => ht 14) cy 12 St_slots ++ (wAI (fun _ => ht 9) cy 325 St_st ++ (wAI (fun _ => ht 1) cy 900 St_tape ++ (wAI (fun _ => ht 5) cy 325 St_told)))))))))))))) hx hb hK hP hD hS 1 0 rfl rfl dX10_store_52 hf rfl (fun hf H locs hP hD hS => ?_)
      refine lv_iinc (v := (v2 + (1 : Int32))) (lv' := [(2, .int (v2 + (1 : Int32))), (0, .ref (ht 0)), (1, .int x1)]) hx hb dX10_store_53 hl (k := 2) rfl rfl (by decide) rfl (fun ls hl => ?_)
      refine lv_goto (tgt := 39) hx hb dX10_store_56 (by decide) ?_
      exact K39 St (upd St_fresh v2.toNatClampNeg (0 : Int32)) St_letters St_marked St_order St_ordered St_owned St_owner St_r St_read St_slots St_st St_told (v2 + (1 : Int32)) H locs ls hf hP hD hS (lv_sub hl [1, 2, 0] rfl)
def f_X10_store (St : SMo) (St_fresh : Nat → Int32) (St_letters : Nat → Int32) (St_marked : Nat → Int32) (St_order : Nat → Int32) (St_ordered : Nat → Int32) (St_owned : Nat → Int32) (St_owner : Nat → Int32) (St_r : Nat → Int32) (St_read : Nat → Int32) (St_slots : Nat → Int32) (St_st : Nat → Int32) (St_tape : Nat → Int32) (St_told : Nat → Int32) (x1 : Int32) : Option (Int32 × SMo × (Nat → Int32) × (Nat → Int32) × (Nat → Int32) × (Nat → Int32) × (Nat → Int32) × (Nat → Int32) × (Nat → Int32) × (Nat → Int32) × (Nat → Int32) × (Nat → Int32) × (Nat → Int32) × (Nat → Int32)) :=
  (f_X10_anew St).bind (fun q15 =>
    (f_X10_in x1 (0 : Int32) (Mo_taped q15)).bind (fun q16 =>
      (if q16 = 0 then
        (f_X10_no q15 (2 : Int32)).bind (fun q17 =>
          some (q17.1, q17.2, St_fresh, St_letters, St_marked, St_order, St_ordered, St_owned, St_owner, St_r, St_read, St_slots, St_st, St_told))
        else
        (zl14 (b_X10_store_39 St_tape x1) FU (mkMo (Mo_thrown q15) (0 : Int32) (Mo_size q15) (Mo_at q15) (Mo_end q15) (Mo_token q15) (Mo_whole q15) (Mo_nameSize q15) (0 : Int32) (Mo_place q15) (Mo_trouble q15) (0 : Int32) (Mo_hasStore q15) (Mo_undos q15) (Mo_images q15) (Mo_ring q15) (Mo_refused q15) (Mo_setMany q15) (Mo_someOf q15) (Mo_allOf q15) (Mo_firstRest q15) (Mo_allWeight q15) (Mo_seenWeight q15) (Mo_sumWeight q15)) St_fresh St_letters St_marked St_order St_ordered St_owned St_owner St_r St_read St_slots St_st St_told (0 : Int32)))))
set_option maxHeartbeats 4000000 in
set_option maxRecDepth 100000 in
theorem c_X10_store (l : Launch) (D : va_G) (cy : Nat → ClassId) (E : zEn) (ht : Nat → Nat) (St : SMo) (St_fresh : Nat → Int32) (St_letters : Nat → Int32) (St_marked : Nat → Int32) (St_order : Nat → Int32) (St_ordered : Nat → Int32) (St_owned : Nat → Int32) (St_owner : Nat → Int32) (St_r : Nat → Int32) (St_read : Nat → Int32) (St_slots : Nat → Int32) (St_st : Nat → Int32) (St_tape : Nat → Int32) (St_told : Nat → Int32) (x1 : Int32) (r : Int32 × SMo × (Nat → Int32) × (Nat → Int32) × (Nat → Int32) × (Nat → Int32) × (Nat → Int32) × (Nat → Int32) × (Nat → Int32) × (Nat → Int32) × (Nat → Int32) × (Nat → Int32) × (Nat → Int32) × (Nat → Int32)) (hf : f_X10_store St St_fresh St_letters St_marked St_order St_ordered St_owned St_owner St_r St_read St_slots St_st St_tape St_told x1 = some r) : zCIs l yX10_store cX10_store 3 (some FieldType.int) 10 241 D (zty cy) E [.ref (ht 0), .int x1] (wMo ht cy St ++ (wAI (fun _ => ht 4) cy 140 St_fresh ++ (wAI (fun _ => ht 2) cy 8 St_letters ++ (wAI (fun _ => ht 13) cy 48 St_marked ++ (wAI (fun _ => ht 15) cy 8 St_order ++ (wAI (fun _ => ht 16) cy 8 St_ordered ++ (wAI (fun _ => ht 8) cy 64 St_owned ++ (wAI (fun _ => ht 7) cy 64 St_owner ++ (wAI (fun _ => ht 3) cy 140 St_r ++ (wAI (fun _ => ht 6) cy 325 St_read ++ (wAI (fun _ => ht 14) cy 12 St_slots ++ (wAI (fun _ => ht 9) cy 325 St_st ++ (wAI (fun _ => ht 1) cy 900 St_tape ++ (wAI (fun _ => ht 5) cy 325 St_told)))))))))))))) (wMo ht cy r.2.1 ++ (wAI (fun _ => ht 4) cy 140 r.2.2.1 ++ (wAI (fun _ => ht 2) cy 8 r.2.2.2.1 ++ (wAI (fun _ => ht 13) cy 48 r.2.2.2.2.1 ++ (wAI (fun _ => ht 15) cy 8 r.2.2.2.2.2.1 ++ (wAI (fun _ => ht 16) cy 8 r.2.2.2.2.2.2.1 ++ (wAI (fun _ => ht 8) cy 64 r.2.2.2.2.2.2.2.1 ++ (wAI (fun _ => ht 7) cy 64 r.2.2.2.2.2.2.2.2.1 ++ (wAI (fun _ => ht 3) cy 140 r.2.2.2.2.2.2.2.2.2.1 ++ (wAI (fun _ => ht 6) cy 325 r.2.2.2.2.2.2.2.2.2.2.1 ++ (wAI (fun _ => ht 14) cy 12 r.2.2.2.2.2.2.2.2.2.2.2.1 ++ (wAI (fun _ => ht 9) cy 325 r.2.2.2.2.2.2.2.2.2.2.2.2.1 ++ (wAI (fun _ => ht 1) cy 900 St_tape ++ (wAI (fun _ => ht 5) cy 325 r.2.2.2.2.2.2.2.2.2.2.2.2.2)))))))))))))) r.1 := by
  refine zCIs_of (by decide +kernel) (Nat.le_of_ble_eq_true rfl) ?_
  intro p e s m below meth c A ls C hE hP hD hS hl
  generalize hargs : ([.ref (ht 0), .int x1] : List Value).toArray = args at C ⊢
  have C : zX p s m meth c cX10_store 3 args RX10 (some FieldType.int) A D (zty cy) := C
  obtain ⟨hx, hb, hr, hts, hown, hlocks, hml, hA, hK⟩ := id C
  have hl : lv_has ls 3 [(0, .ref (ht 0)), (1, .int x1)] := hl
  generalize hH : s.heap = H at hP ⊢
  have hS : va_S A s.heap H [] := by rw [← hH]; exact hS
  generalize ([] : List Loc) = locs at hS ⊢
  refine lv_aload_n hx hb dX10_store_0 rfl (lv_at hl 0 rfl) ?_
  obtain ⟨q15, hc, hf⟩ := zbd hf
  refine z_cVv (As := []) (rest := []) C (c_X10_anew l D cy ht St q15 hc) gV_X10_X10_anew hd_X10_anew ⟨Nat.le_of_ble_eq_true rfl, Nat.le_of_ble_eq_true rfl⟩ ⟨Nat.le_refl _, Nat.le_refl _⟩ (va_recv hK hP (ci := 6) (q0 := 0) rfl rfl) hP hD hS (w2 := wMo ht cy q15 ++ (wAI (fun _ => ht 4) cy 140 St_fresh ++ (wAI (fun _ => ht 2) cy 8 St_letters ++ (wAI (fun _ => ht 13) cy 48 St_marked ++ (wAI (fun _ => ht 15) cy 8 St_order ++ (wAI (fun _ => ht 16) cy 8 St_ordered ++ (wAI (fun _ => ht 8) cy 64 St_owned ++ (wAI (fun _ => ht 7) cy 64 St_owner ++ (wAI (fun _ => ht 3) cy 140 St_r ++ (wAI (fun _ => ht 6) cy 325 St_read ++ (wAI (fun _ => ht 14) cy 12 St_slots ++ (wAI (fun _ => ht 9) cy 325 St_st ++ (wAI (fun _ => ht 1) cy 900 St_tape ++ (wAI (fun _ => ht 5) cy 325 St_told)))))))))))))) [0] [1, 2, 3, 4, 5, 6, 7, 8, 9, 10, 11, 12, 13] [13, 0, 1, 2, 3, 4, 5, 6, 7, 8, 9, 10, 11, 12] rfl rfl rfl rfl rfl rfl (by decide) hl.1 (Nat.le_of_ble_eq_true rfl) dX10_store_1 (fun H locs hP hD hS => ?_)
  refine lv_iload_n hx hb dX10_store_4 rfl (lv_at hl 1 rfl) ?_
  refine lv_iconst (v := (0 : Int32)) hx hb dX10_store_5 (by decide) ?_
  refine lv_aload_n hx hb dX10_store_6 rfl (lv_at hl 0 rfl) ?_
  refine va_get (D := D) (ci := 6) (v := .int (Mo_taped q15)) (C := RX10) (T := TX10) (N := 41) hx hb hts in_X10 hown hK hP 0 rfl rfl 2 (by decide) (hts _ q6_47) (fun _ h9 => h9) rfl dX10_store_7 ?_
  obtain ⟨q16, hc, hf⟩ := zbd hf
  refine z_cSiE (As := [.int x1, .int (0 : Int32), .int (Mo_taped q15)]) (rest := []) C (c_X10_in l D cy x1 (0 : Int32) (Mo_taped q15) q16 hc) gS_X10_X10_in hd_X10_in ⟨Nat.le_of_ble_eq_true rfl, Nat.le_of_ble_eq_true rfl⟩ ⟨Nat.le_refl _, Nat.le_refl _⟩ hP hD hS hl.1 (Nat.le_of_ble_eq_true rfl) dX10_store_10 (fun H locs hP hD hS => ?_)
  refine z_if_ne (tgt := 22) hx hb dX10_store_13 (by decide) hf (fun hf => ?_) (fun hf => ?_)
  · refine lv_aload_n hx hb dX10_store_22 rfl (lv_at hl 0 rfl) ?_
    refine lv_iconst (v := (0 : Int32)) hx hb dX10_store_23 (by decide) ?_
    refine z_put (w2 := vMo ht cy (Mo_thrown q15) (0 : Int32) (Mo_size q15) (Mo_at q15) (Mo_end q15) (Mo_token q15) (Mo_whole q15) (Mo_nameSize q15) (Mo_fault q15) (Mo_place q15) (Mo_trouble q15) (Mo_failed q15) (Mo_hasStore q15) (Mo_undos q15) (Mo_images q15) (Mo_ring q15) (Mo_refused q15) (Mo_setMany q15) (Mo_someOf q15) (Mo_allOf q15) (Mo_firstRest q15) (Mo_allWeight q15) (Mo_seenWeight q15) (Mo_sumWeight q15) ++ (wAI (fun _ => ht 4) cy 140 St_fresh ++ (wAI (fun _ => ht 2) cy 8 St_letters ++ (wAI (fun _ => ht 13) cy 48 St_marked ++ (wAI (fun _ => ht 15) cy 8 St_order ++ (wAI (fun _ => ht 16) cy 8 St_ordered ++ (wAI (fun _ => ht 8) cy 64 St_owned ++ (wAI (fun _ => ht 7) cy 64 St_owner ++ (wAI (fun _ => ht 3) cy 140 St_r ++ (wAI (fun _ => ht 6) cy 325 St_read ++ (wAI (fun _ => ht 14) cy 12 St_slots ++ (wAI (fun _ => ht 9) cy 325 St_st ++ (wAI (fun _ => ht 1) cy 900 St_tape ++ (wAI (fun _ => ht 5) cy 325 St_told)))))))))))))) hx hb hts in_X10 tyX10 tyX10_ok nmX10 hown hK hP hD hS 0 rfl rfl 2 (by decide) (hts _ q6_47) (fun _ h9 => h9) rfl rfl rfl (Nat.le_of_ble_eq_true rfl) dX10_store_24 rfl (fun H locs hP hD hS => ?_)
    refine lv_aload_n hx hb dX10_store_27 rfl (lv_at hl 0 rfl) ?_
    refine lv_iconst (v := (0 : Int32)) hx hb dX10_store_28 (by decide) ?_
    refine z_put (w2 := vMo ht cy (Mo_thrown q15) (0 : Int32) (Mo_size q15) (Mo_at q15) (Mo_end q15) (Mo_token q15) (Mo_whole q15) (Mo_nameSize q15) (0 : Int32) (Mo_place q15) (Mo_trouble q15) (Mo_failed q15) (Mo_hasStore q15) (Mo_undos q15) (Mo_images q15) (Mo_ring q15) (Mo_refused q15) (Mo_setMany q15) (Mo_someOf q15) (Mo_allOf q15) (Mo_firstRest q15) (Mo_allWeight q15) (Mo_seenWeight q15) (Mo_sumWeight q15) ++ (wAI (fun _ => ht 4) cy 140 St_fresh ++ (wAI (fun _ => ht 2) cy 8 St_letters ++ (wAI (fun _ => ht 13) cy 48 St_marked ++ (wAI (fun _ => ht 15) cy 8 St_order ++ (wAI (fun _ => ht 16) cy 8 St_ordered ++ (wAI (fun _ => ht 8) cy 64 St_owned ++ (wAI (fun _ => ht 7) cy 64 St_owner ++ (wAI (fun _ => ht 3) cy 140 St_r ++ (wAI (fun _ => ht 6) cy 325 St_read ++ (wAI (fun _ => ht 14) cy 12 St_slots ++ (wAI (fun _ => ht 9) cy 325 St_st ++ (wAI (fun _ => ht 1) cy 900 St_tape ++ (wAI (fun _ => ht 5) cy 325 St_told)))))))))))))) hx hb hts in_X10 tyX10 tyX10_ok nmX10 hown hK hP hD hS 0 rfl rfl 9 (by decide) (hts _ q6_54) (fun _ h9 => h9) rfl rfl rfl (Nat.le_of_ble_eq_true rfl) dX10_store_29 rfl (fun H locs hP hD hS => ?_)
    refine lv_aload_n hx hb dX10_store_32 rfl (lv_at hl 0 rfl) ?_
    refine lv_iconst (v := (0 : Int32)) hx hb dX10_store_33 (by decide) ?_
    refine z_put (w2 := vMo ht cy (Mo_thrown q15) (0 : Int32) (Mo_size q15) (Mo_at q15) (Mo_end q15) (Mo_token q15) (Mo_whole q15) (Mo_nameSize q15) (0 : Int32) (Mo_place q15) (Mo_trouble q15) (0 : Int32) (Mo_hasStore q15) (Mo_undos q15) (Mo_images q15) (Mo_ring q15) (Mo_refused q15) (Mo_setMany q15) (Mo_someOf q15) (Mo_allOf q15) (Mo_firstRest q15) (Mo_allWeight q15) (Mo_seenWeight q15) (Mo_sumWeight q15) ++ (wAI (fun _ => ht 4) cy 140 St_fresh ++ (wAI (fun _ => ht 2) cy 8 St_letters ++ (wAI (fun _ => ht 13) cy 48 St_marked ++ (wAI (fun _ => ht 15) cy 8 St_order ++ (wAI (fun _ => ht 16) cy 8 St_ordered ++ (wAI (fun _ => ht 8) cy 64 St_owned ++ (wAI (fun _ => ht 7) cy 64 St_owner ++ (wAI (fun _ => ht 3) cy 140 St_r ++ (wAI (fun _ => ht 6) cy 325 St_read ++ (wAI (fun _ => ht 14) cy 12 St_slots ++ (wAI (fun _ => ht 9) cy 325 St_st ++ (wAI (fun _ => ht 1) cy 900 St_tape ++ (wAI (fun _ => ht 5) cy 325 St_told)))))))))))))) hx hb hts in_X10 tyX10 tyX10_ok nmX10 hown hK hP hD hS 0 rfl rfl 13 (by decide) (hts _ q6_58) (fun _ h9 => h9) rfl rfl rfl (Nat.le_of_ble_eq_true rfl) dX10_store_34 rfl (fun H locs hP hD hS => ?_)
    refine lv_iconst (v := (0 : Int32)) hx hb dX10_store_37 (by decide) ?_
    refine lv_istore_n (lv' := [(2, .int (0 : Int32)), (0, .ref (ht 0)), (1, .int x1)]) hx hb dX10_store_38 rfl hl (by decide) rfl (fun ls hl => ?_)
    rw [← wMo_mk ht] at hP hD
    exact w_X10_store_39 l E ht St_tape x1 C hE FU (mkMo (Mo_thrown q15) (0 : Int32) (Mo_size q15) (Mo_at q15) (Mo_end q15) (Mo_token q15) (Mo_whole q15) (Mo_nameSize q15) (0 : Int32) (Mo_place q15) (Mo_trouble q15) (0 : Int32) (Mo_hasStore q15) (Mo_undos q15) (Mo_images q15) (Mo_ring q15) (Mo_refused q15) (Mo_setMany q15) (Mo_someOf q15) (Mo_allOf q15) (Mo_firstRest q15) (Mo_allWeight q15) (Mo_seenWeight q15) (Mo_sumWeight q15)) St_fresh St_letters St_marked St_order St_ordered St_owned St_owner St_r St_read St_slots St_st St_told (0 : Int32) H locs ls hf hP hD hS (lv_sub hl [1, 2, 0] rfl)
  · refine lv_aload_n hx hb dX10_store_16 rfl (lv_at hl 0 rfl) ?_
    refine lv_iconst (v := (2 : Int32)) hx hb dX10_store_17 (by decide) ?_
    obtain ⟨q17, hc, hf⟩ := zbd hf
    refine z_cVi (As := [.int (2 : Int32)]) (rest := []) C (c_X10_no l D cy ht q15 (2 : Int32) q17 hc) gV_X10_X10_no hd_X10_no ⟨Nat.le_of_ble_eq_true rfl, Nat.le_of_ble_eq_true rfl⟩ ⟨Nat.le_refl _, Nat.le_refl _⟩ (va_recv hK hP (ci := 6) (q0 := 0) rfl rfl) hP hD hS (w2 := wMo ht cy q17.2 ++ (wAI (fun _ => ht 4) cy 140 St_fresh ++ (wAI (fun _ => ht 2) cy 8 St_letters ++ (wAI (fun _ => ht 13) cy 48 St_marked ++ (wAI (fun _ => ht 15) cy 8 St_order ++ (wAI (fun _ => ht 16) cy 8 St_ordered ++ (wAI (fun _ => ht 8) cy 64 St_owned ++ (wAI (fun _ => ht 7) cy 64 St_owner ++ (wAI (fun _ => ht 3) cy 140 St_r ++ (wAI (fun _ => ht 6) cy 325 St_read ++ (wAI (fun _ => ht 14) cy 12 St_slots ++ (wAI (fun _ => ht 9) cy 325 St_st ++ (wAI (fun _ => ht 1) cy 900 St_tape ++ (wAI (fun _ => ht 5) cy 325 St_told)))))))))))))) [0] [1, 2, 3, 4, 5, 6, 7, 8, 9, 10, 11, 12, 13] [13, 0, 1, 2, 3, 4, 5, 6, 7, 8, 9, 10, 11, 12] rfl rfl rfl rfl rfl rfl (by decide) hl.1 (Nat.le_of_ble_eq_true rfl) dX10_store_18 (fun H locs hP hD hS => ?_)
    obtain rfl := Option.some.inj hf
    exact z_iret (v := q17.1) C hP hD hS dX10_store_21
