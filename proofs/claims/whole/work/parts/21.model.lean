theorem hd_X10_copy : yX10_copy.cls ≠ "java/lang/invoke/MethodHandle" ∧ yX10_copy.cls ≠ "java/lang/invoke/VarHandle" ∧ (parseMethodDescriptor yX10_copy.desc).map (fun d => d.parameters.length) = some 5 := by decide +kernel
theorem gS_X10_X10_copy : GoodIn WT (va_wsS RX10 256 yX10_copy (.code yX10_copy cX10_copy 6 none :: WT)) := gzS q7_174 q7_175 q1_8 q7_176
theorem hd_X10_anew : yX10_anew.cls = RX10 ∧ yX10_anew.cls ≠ "java/lang/invoke/MethodHandle" ∧ yX10_anew.cls ≠ "java/lang/invoke/VarHandle" ∧ (parseMethodDescriptor yX10_anew.desc).map (fun d => d.parameters.length) = some 0 := by decide +kernel
theorem gV_X10_X10_anew : GoodIn WT (wsV RX10 247 RX10 yX10_anew (.code yX10_anew cX10_anew 1 none :: WT)) := gzV q6_181 q6_183 s_X10_anew q1_8 q6_184
theorem hd_X10_chainOf : yX10_chainOf.cls = RX10 ∧ yX10_chainOf.cls ≠ "java/lang/invoke/MethodHandle" ∧ yX10_chainOf.cls ≠ "java/lang/invoke/VarHandle" ∧ (parseMethodDescriptor yX10_chainOf.desc).map (fun d => d.parameters.length) = some 2 := by decide +kernel
theorem gV_X10_X10_chainOf : GoodIn WT (wsV RX10 373 RX10 yX10_chainOf (.code yX10_chainOf cX10_chainOf 6 (some FieldType.int) :: WT)) := gzV q8_44 q8_46 s_X10_chainOf q1_8 q8_47
theorem hd_X10_clearOn : yX10_clearOn.cls = RX10 ∧ yX10_clearOn.cls ≠ "java/lang/invoke/MethodHandle" ∧ yX10_clearOn.cls ≠ "java/lang/invoke/VarHandle" ∧ (parseMethodDescriptor yX10_clearOn.desc).map (fun d => d.parameters.length) = some 1 := by decide +kernel
theorem gV_X10_X10_clearOn : GoodIn WT (wsV RX10 339 RX10 yX10_clearOn (.code yX10_clearOn cX10_clearOn 4 (some FieldType.int) :: WT)) := gzV q7_142 q7_144 s_X10_clearOn q1_8 q7_145
theorem hd_X10_deadOf : yX10_deadOf.cls = RX10 ∧ yX10_deadOf.cls ≠ "java/lang/invoke/MethodHandle" ∧ yX10_deadOf.cls ≠ "java/lang/invoke/VarHandle" ∧ (parseMethodDescriptor yX10_deadOf.desc).map (fun d => d.parameters.length) = some 1 := by decide +kernel
theorem gV_X10_X10_deadOf : GoodIn WT (wsV RX10 364 RX10 yX10_deadOf (.code yX10_deadOf cX10_deadOf 4 (some FieldType.int) :: WT)) := gzV q8_20 q8_22 s_X10_deadOf q1_8 q8_23
theorem hd_X10_endOn : yX10_endOn.cls = RX10 ∧ yX10_endOn.cls ≠ "java/lang/invoke/MethodHandle" ∧ yX10_endOn.cls ≠ "java/lang/invoke/VarHandle" ∧ (parseMethodDescriptor yX10_endOn.desc).map (fun d => d.parameters.length) = some 3 := by decide +kernel
theorem gV_X10_X10_endOn : GoodIn WT (wsV RX10 336 RX10 yX10_endOn (.code yX10_endOn cX10_endOn 5 (some FieldType.int) :: WT)) := gzV q7_134 q7_136 s_X10_endOn q1_8 q7_137
theorem hd_X10_ends : yX10_ends.cls = RX10 ∧ yX10_ends.cls ≠ "java/lang/invoke/MethodHandle" ∧ yX10_ends.cls ≠ "java/lang/invoke/VarHandle" ∧ (parseMethodDescriptor yX10_ends.desc).map (fun d => d.parameters.length) = some 0 := by decide +kernel
theorem gV_X10_X10_ends : GoodIn WT (wsV RX10 312 RX10 yX10_ends (.code yX10_ends cX10_ends 1 (some FieldType.boolean) :: WT)) := gzV q7_31 q7_33 s_X10_ends q1_8 q7_34
theorem hd_X10_freezeOn : yX10_freezeOn.cls = RX10 ∧ yX10_freezeOn.cls ≠ "java/lang/invoke/MethodHandle" ∧ yX10_freezeOn.cls ≠ "java/lang/invoke/VarHandle" ∧ (parseMethodDescriptor yX10_freezeOn.desc).map (fun d => d.parameters.length) = some 1 := by decide +kernel
theorem gV_X10_X10_freezeOn : GoodIn WT (wsV RX10 342 RX10 yX10_freezeOn (.code yX10_freezeOn cX10_freezeOn 4 (some FieldType.int) :: WT)) := gzV q7_154 q7_156 s_X10_freezeOn q1_8 q7_157
theorem hd_X10_isRow : yX10_isRow.cls = RX10 ∧ yX10_isRow.cls ≠ "java/lang/invoke/MethodHandle" ∧ yX10_isRow.cls ≠ "java/lang/invoke/VarHandle" ∧ (parseMethodDescriptor yX10_isRow.desc).map (fun d => d.parameters.length) = some 1 := by decide +kernel
theorem gV_X10_X10_isRow : GoodIn WT (wsV RX10 370 RX10 yX10_isRow (.code yX10_isRow cX10_isRow 2 (some FieldType.boolean) :: WT)) := gzV q8_36 q8_38 s_X10_isRow q1_8 q8_39
theorem hd_X10_isSlot : yX10_isSlot.cls = RX10 ∧ yX10_isSlot.cls ≠ "java/lang/invoke/MethodHandle" ∧ yX10_isSlot.cls ≠ "java/lang/invoke/VarHandle" ∧ (parseMethodDescriptor yX10_isSlot.desc).map (fun d => d.parameters.length) = some 1 := by decide +kernel
theorem gV_X10_X10_isSlot : GoodIn WT (wsV RX10 355 RX10 yX10_isSlot (.code yX10_isSlot cX10_isSlot 2 (some FieldType.boolean) :: WT)) := gzV q7_232 q7_234 s_X10_isSlot q1_8 q7_235
theorem hd_X10_isStamp : yX10_isStamp.cls = RX10 ∧ yX10_isStamp.cls ≠ "java/lang/invoke/MethodHandle" ∧ yX10_isStamp.cls ≠ "java/lang/invoke/VarHandle" ∧ (parseMethodDescriptor yX10_isStamp.desc).map (fun d => d.parameters.length) = some 1 := by decide +kernel
theorem gV_X10_X10_isStamp : GoodIn WT (wsV RX10 345 RX10 yX10_isStamp (.code yX10_isStamp cX10_isStamp 2 (some FieldType.boolean) :: WT)) := gzV q7_196 q7_198 s_X10_isStamp q1_8 q7_199
theorem hd_X10_isVersion : yX10_isVersion.cls = RX10 ∧ yX10_isVersion.cls ≠ "java/lang/invoke/MethodHandle" ∧ yX10_isVersion.cls ≠ "java/lang/invoke/VarHandle" ∧ (parseMethodDescriptor yX10_isVersion.desc).map (fun d => d.parameters.length) = some 1 := by decide +kernel
theorem gV_X10_X10_isVersion : GoodIn WT (wsV RX10 367 RX10 yX10_isVersion (.code yX10_isVersion cX10_isVersion 2 (some FieldType.boolean) :: WT)) := gzV q8_28 q8_30 s_X10_isVersion q1_8 q8_31
theorem hd_X10_mayRefuse : yX10_mayRefuse.cls = RX10 ∧ yX10_mayRefuse.cls ≠ "java/lang/invoke/MethodHandle" ∧ yX10_mayRefuse.cls ≠ "java/lang/invoke/VarHandle" ∧ (parseMethodDescriptor yX10_mayRefuse.desc).map (fun d => d.parameters.length) = some 1 := by decide +kernel
theorem gV_X10_X10_mayRefuse : GoodIn WT (wsV RX10 319 RX10 yX10_mayRefuse (.code yX10_mayRefuse cX10_mayRefuse 2 none :: WT)) := gzV q7_70 q7_72 s_X10_mayRefuse q1_8 q7_73
theorem hd_X10_no : yX10_no.cls = RX10 ∧ yX10_no.cls ≠ "java/lang/invoke/MethodHandle" ∧ yX10_no.cls ≠ "java/lang/invoke/VarHandle" ∧ (parseMethodDescriptor yX10_no.desc).map (fun d => d.parameters.length) = some 1 := by decide +kernel
theorem gV_X10_X10_no : GoodIn WT (wsV RX10 250 RX10 yX10_no (.code yX10_no cX10_no 2 (some FieldType.int) :: WT)) := gzV q6_188 q6_190 s_X10_no q1_8 q6_191
theorem hd_X10_pass : yX10_pass.cls = RX10 ∧ yX10_pass.cls ≠ "java/lang/invoke/MethodHandle" ∧ yX10_pass.cls ≠ "java/lang/invoke/VarHandle" ∧ (parseMethodDescriptor yX10_pass.desc).map (fun d => d.parameters.length) = some 0 := by decide +kernel
theorem gV_X10_X10_pass : GoodIn WT (wsV RX10 237 RX10 yX10_pass (.code yX10_pass cX10_pass 1 none :: WT)) := gzV q6_234 q6_236 s_X10_pass q1_8 q6_237
theorem hd_X10_roomOf : yX10_roomOf.cls = RX10 ∧ yX10_roomOf.cls ≠ "java/lang/invoke/MethodHandle" ∧ yX10_roomOf.cls ≠ "java/lang/invoke/VarHandle" ∧ (parseMethodDescriptor yX10_roomOf.desc).map (fun d => d.parameters.length) = some 1 := by decide +kernel
theorem gV_X10_X10_roomOf : GoodIn WT (wsV RX10 352 RX10 yX10_roomOf (.code yX10_roomOf cX10_roomOf 3 (some FieldType.int) :: WT)) := gzV q7_216 q7_218 s_X10_roomOf q1_8 q7_219
theorem hd_X10_snapshotOf : yX10_snapshotOf.cls = RX10 ∧ yX10_snapshotOf.cls ≠ "java/lang/invoke/MethodHandle" ∧ yX10_snapshotOf.cls ≠ "java/lang/invoke/VarHandle" ∧ (parseMethodDescriptor yX10_snapshotOf.desc).map (fun d => d.parameters.length) = some 1 := by decide +kernel
theorem gV_X10_X10_snapshotOf : GoodIn WT (wsV RX10 358 RX10 yX10_snapshotOf (.code yX10_snapshotOf cX10_snapshotOf 4 (some FieldType.int) :: WT)) := gzV q7_236 q7_238 s_X10_snapshotOf q1_8 q7_239
theorem hd_X10_step : yX10_step.cls = RX10 ∧ yX10_step.cls ≠ "java/lang/invoke/MethodHandle" ∧ yX10_step.cls ≠ "java/lang/invoke/VarHandle" ∧ (parseMethodDescriptor yX10_step.desc).map (fun d => d.parameters.length) = some 0 := by decide +kernel
theorem gV_X10_X10_step : GoodIn WT (wsV RX10 204 RX10 yX10_step (.code yX10_step cX10_step 4 none :: WT)) := gzV q6_192 q6_194 s_X10_step q1_8 q6_195
theorem hd_X10_why : yX10_why.cls = RX10 ∧ yX10_why.cls ≠ "java/lang/invoke/MethodHandle" ∧ yX10_why.cls ≠ "java/lang/invoke/VarHandle" ∧ (parseMethodDescriptor yX10_why.desc).map (fun d => d.parameters.length) = some 2 := by decide +kernel
theorem gV_X10_X10_why : GoodIn WT (wsV RX10 348 RX10 yX10_why (.code yX10_why cX10_why 3 (some FieldType.int) :: WT)) := gzV q7_200 q7_202 s_X10_why q1_8 q7_203
theorem hd_X10_withStamp : yX10_withStamp.cls = RX10 ∧ yX10_withStamp.cls ≠ "java/lang/invoke/MethodHandle" ∧ yX10_withStamp.cls ≠ "java/lang/invoke/VarHandle" ∧ (parseMethodDescriptor yX10_withStamp.desc).map (fun d => d.parameters.length) = some 2 := by decide +kernel
theorem gV_X10_X10_withStamp : GoodIn WT (wsV RX10 361 RX10 yX10_withStamp (.code yX10_withStamp cX10_withStamp 5 (some FieldType.int) :: WT)) := gzV q8_0 q8_2 s_X10_withStamp q1_8 q8_3
theorem hd_X10_wrong : yX10_wrong.cls = RX10 ∧ yX10_wrong.cls ≠ "java/lang/invoke/MethodHandle" ∧ yX10_wrong.cls ≠ "java/lang/invoke/VarHandle" ∧ (parseMethodDescriptor yX10_wrong.desc).map (fun d => d.parameters.length) = some 2 := by decide +kernel
theorem gV_X10_X10_wrong : GoodIn WT (wsV RX10 207 RX10 yX10_wrong (.code yX10_wrong cX10_wrong 3 none :: WT)) := gzV q6_221 q6_223 s_X10_wrong q1_8 q6_224
def f_X10_wrong (St : SMo) (x1 : Int32) (x2 : Int32) : Option (SMo) :=
  (if (Mo_failed St) = 0 then
    some (mkMo (Mo_thrown St) (Mo_taped St) (Mo_size St) (Mo_at St) (Mo_end St) (Mo_token St) (Mo_whole St) (Mo_nameSize St) x1 x2 (Mo_trouble St) (1 : Int32) (Mo_hasStore St) (Mo_undos St) (Mo_images St) (Mo_ring St) (Mo_refused St) (Mo_setMany St) (Mo_someOf St) (Mo_allOf St) (Mo_firstRest St) (Mo_allWeight St) (Mo_seenWeight St) (Mo_sumWeight St))
    else
    some St)
set_option maxHeartbeats 4000000 in
set_option maxRecDepth 100000 in
theorem c_X10_wrong (l : Launch) (D : va_G) (cy : Nat → ClassId) (ht : Nat → Nat) (St : SMo) (x1 : Int32) (x2 : Int32) (r : SMo) (hf : f_X10_wrong St x1 x2 = some r) : zCV l yX10_wrong cX10_wrong 3 none 0 0 D (zty cy) [.ref (ht 0), .int x1, .int x2] (wMo ht cy St) (wMo ht cy r) := by
  refine zCV_of (by decide +kernel) (Nat.le_of_ble_eq_true rfl) ?_
  intro p e s m below meth c A ls C hP hD hS hl
  generalize hargs : ([.ref (ht 0), .int x1, .int x2] : List Value).toArray = args at C ⊢
  have C : zX p s m meth c cX10_wrong 3 args RX10 none A D (zty cy) := C
  obtain ⟨hx, hb, hr, hts, hown, hlocks, hml, hA, hK⟩ := id C
  have hl : lv_has ls 3 [(0, .ref (ht 0)), (1, .int x1), (2, .int x2)] := hl
  generalize hH : s.heap = H at hP ⊢
  have hS : va_S A s.heap H [] := by rw [← hH]; exact hS
  generalize ([] : List Loc) = locs at hS ⊢
  refine lv_aload_n hx hb dX10_wrong_0 rfl (lv_at hl 0 rfl) ?_
  refine va_get (D := D) (ci := 6) (v := .int (Mo_failed St)) (C := RX10) (T := TX10) (N := 41) hx hb hts in_X10 hown hK hP 0 rfl rfl 13 (by decide) (hts _ q6_58) (fun _ h9 => h9) rfl dX10_wrong_1 ?_
  refine z_if_eq (tgt := 8) hx hb dX10_wrong_4 (by decide) hf (fun hf => ?_) (fun hf => ?_)
  · refine lv_aload_n hx hb dX10_wrong_8 rfl (lv_at hl 0 rfl) ?_
    refine lv_iconst (v := (1 : Int32)) hx hb dX10_wrong_9 (by decide) ?_
    refine z_put (w2 := vMo ht cy (Mo_thrown St) (Mo_taped St) (Mo_size St) (Mo_at St) (Mo_end St) (Mo_token St) (Mo_whole St) (Mo_nameSize St) (Mo_fault St) (Mo_place St) (Mo_trouble St) (1 : Int32) (Mo_hasStore St) (Mo_undos St) (Mo_images St) (Mo_ring St) (Mo_refused St) (Mo_setMany St) (Mo_someOf St) (Mo_allOf St) (Mo_firstRest St) (Mo_allWeight St) (Mo_seenWeight St) (Mo_sumWeight St)) hx hb hts in_X10 tyX10 tyX10_ok nmX10 hown hK hP hD hS 0 rfl rfl 13 (by decide) (hts _ q6_58) (fun _ h9 => h9) rfl rfl rfl (Nat.le_of_ble_eq_true rfl) dX10_wrong_10 rfl (fun H locs hP hD hS => ?_)
    refine lv_aload_n hx hb dX10_wrong_13 rfl (lv_at hl 0 rfl) ?_
    refine lv_iload_n hx hb dX10_wrong_14 rfl (lv_at hl 1 rfl) ?_
    refine z_put (w2 := vMo ht cy (Mo_thrown St) (Mo_taped St) (Mo_size St) (Mo_at St) (Mo_end St) (Mo_token St) (Mo_whole St) (Mo_nameSize St) x1 (Mo_place St) (Mo_trouble St) (1 : Int32) (Mo_hasStore St) (Mo_undos St) (Mo_images St) (Mo_ring St) (Mo_refused St) (Mo_setMany St) (Mo_someOf St) (Mo_allOf St) (Mo_firstRest St) (Mo_allWeight St) (Mo_seenWeight St) (Mo_sumWeight St)) hx hb hts in_X10 tyX10 tyX10_ok nmX10 hown hK hP hD hS 0 rfl rfl 9 (by decide) (hts _ q6_54) (fun _ h9 => h9) rfl rfl rfl (Nat.le_of_ble_eq_true rfl) dX10_wrong_15 rfl (fun H locs hP hD hS => ?_)
    refine lv_aload_n hx hb dX10_wrong_18 rfl (lv_at hl 0 rfl) ?_
    refine lv_iload_n hx hb dX10_wrong_19 rfl (lv_at hl 2 rfl) ?_
    refine z_put (w2 := vMo ht cy (Mo_thrown St) (Mo_taped St) (Mo_size St) (Mo_at St) (Mo_end St) (Mo_token St) (Mo_whole St) (Mo_nameSize St) x1 x2 (Mo_trouble St) (1 : Int32) (Mo_hasStore St) (Mo_undos St) (Mo_images St) (Mo_ring St) (Mo_refused St) (Mo_setMany St) (Mo_someOf St) (Mo_allOf St) (Mo_firstRest St) (Mo_allWeight St) (Mo_seenWeight St) (Mo_sumWeight St)) hx hb hts in_X10 tyX10 tyX10_ok nmX10 hown hK hP hD hS 0 rfl rfl 10 (by decide) (hts _ q6_55) (fun _ h9 => h9) rfl rfl rfl (Nat.le_of_ble_eq_true rfl) dX10_wrong_20 rfl (fun H locs hP hD hS => ?_)
    obtain rfl := Option.some.inj hf
    rw [← wMo_mk ht] at hP hD
    exact z_vret C hP hD hS dX10_wrong_23
  · obtain rfl := Option.some.inj hf
    exact z_vret C hP hD hS dX10_wrong_7
def b_X10_find_44 (St : SMo) (St_fresh : Nat → Int32) (St_letters : Nat → Int32) (k2 : Int32 → Option (Int32)) (k44 : Int32 → Int32 → Int32 → Option (Int32)) (v1 : Int32) (v2 : Int32) (v3 : Int32) : Option (Int32) :=
  (if (Mo_nameSize St) ≤ v3 then
    (if v2 = 0 then
      (k2 (v1 + (1 : Int32)))
      else
      some v1)
    else
    (if v2 = 0 then
      (if v2 = 0 then
        (k2 (v1 + (1 : Int32)))
        else
        some v1)
      else
      (if zib (((44 : Int32) + ((8 : Int32) * v1)) + v3) 140 then (if zib v3 8 then (if (St_fresh (((44 : Int32) + ((8 : Int32) * v1)) + v3).toNatClampNeg) = (St_letters v3.toNatClampNeg) then
            (k44 v1 (1 : Int32) (v3 + (1 : Int32)))
            else
            (k44 v1 (0 : Int32) (v3 + (1 : Int32)))) else none) else none)))
set_option maxHeartbeats 4000000 in
set_option maxRecDepth 100000 in
theorem w_X10_find_44 {p : Program} {e : Env} {s : State} {m : MethodId} {below : List Frame} {meth : Method} {c : Code} {A : Nat → Prop} {D : va_G} {cy : Nat → ClassId} {args : Array Value} {r : Int32} (l : Launch) (ht : Nat → Nat) (St : SMo) (St_fresh : Nat → Int32) (St_letters : Nat → Int32) {k2 : Int32 → Option (Int32)} (C : zX p s m meth c cX10_find 4 args RX10 (some FieldType.int) A D (zty cy))
    (K2 : ∀ (v1 : Int32) (H : Heap) (locs : List Loc) (ls : Array Slot), k2 v1 = some r → va_P D vwCl (wMo ht cy St ++ (wAI (fun _ => ht 4) cy 140 St_fresh ++ (wAI (fun _ => ht 2) cy 8 St_letters))) H → va_D A (wMo ht cy St ++ (wAI (fun _ => ht 4) cy 140 St_fresh ++ (wAI (fun _ => ht 2) cy 8 St_letters))) → va_S A s.heap H locs → lv_has ls 4 [(0, .ref (ht 0)), (1, .int v1)] → W p l e (zRm 0 0) s m args below meth c H locs 0 0 (MQ below (zQI D (zty cy) A (wMo ht cy St ++ (wAI (fun _ => ht 4) cy 140 St_fresh ++ (wAI (fun _ => ht 2) cy 8 St_letters))) r) args s 0 0 A) (F0 m 2 ls [])) :
    ∀ (n : Nat) (v1 : Int32) (v2 : Int32) (v3 : Int32) (H : Heap) (locs : List Loc) (ls : Array Slot), zl3 (b_X10_find_44 St St_fresh St_letters k2) n v1 v2 v3 = some r → va_P D vwCl (wMo ht cy St ++ (wAI (fun _ => ht 4) cy 140 St_fresh ++ (wAI (fun _ => ht 2) cy 8 St_letters))) H → va_D A (wMo ht cy St ++ (wAI (fun _ => ht 4) cy 140 St_fresh ++ (wAI (fun _ => ht 2) cy 8 St_letters))) → va_S A s.heap H locs → lv_has ls 4 [(0, .ref (ht 0)), (1, .int v1), (2, .int v2), (3, .int v3)] → W p l e (zRm 0 0) s m args below meth c H locs 0 0 (MQ below (zQI D (zty cy) A (wMo ht cy St ++ (wAI (fun _ => ht 4) cy 140 St_fresh ++ (wAI (fun _ => ht 2) cy 8 St_letters))) r) args s 0 0 A) (F0 m 44 ls []) := by
  obtain ⟨hx, hb, hr, hts, hown, hlocks, hml, hA, hK⟩ := id C
  intro n
  induction n with
  | zero => intro v1 v2 v3 H locs ls hf; exact zno hf
  | succ n ih =>
    intro v1 v2 v3 H locs ls hf hP hD hS hl
    have hf : b_X10_find_44 St St_fresh St_letters k2 (zl3 (b_X10_find_44 St St_fresh St_letters k2) n) v1 v2 v3 = some r := hf
    have K44 := ih
    refine lv_iload_n hx hb dX10_find_44 rfl (lv_at hl 3 rfl) ?_
    refine lv_aload_n hx hb dX10_find_45 rfl (lv_at hl 0 rfl) ?_
    refine va_get (D := D) (ci := 6) (v := .int (Mo_nameSize St)) (C := RX10) (T := TX10) (N := 41) hx hb hts in_X10 hown hK hP 0 rfl rfl 8 (by decide) (hts _ q6_53) (fun _ h9 => h9) rfl dX10_find_46 ?_
    refine z_icmp_ge (tgt := 91) hx hb dX10_find_49 (by decide) hf (fun hf => ?_) (fun hf => ?_)
    · refine lv_iload_n hx hb dX10_find_91 rfl (lv_at hl 2 rfl) ?_
      refine z_if_eq (tgt := 97) hx hb dX10_find_92 (by decide) hf (fun hf => ?_) (fun hf => ?_)
      · refine lv_iinc (v := (v1 + (1 : Int32))) (lv' := [(1, .int (v1 + (1 : Int32))), (0, .ref (ht 0)), (2, .int v2), (3, .int v3)]) hx hb dX10_find_97 hl (k := 1) rfl rfl (by decide) rfl (fun ls hl => ?_)
        refine lv_goto (tgt := 2) hx hb dX10_find_100 (by decide) ?_
        exact K2 (v1 + (1 : Int32)) H locs ls hf hP hD hS (lv_sub hl [1, 0] rfl)
      · refine lv_iload_n hx hb dX10_find_95 rfl (lv_at hl 1 rfl) ?_
        obtain rfl := Option.some.inj hf
        exact z_iret (v := v1) C hP hD hS dX10_find_96
    · refine lv_iload_n hx hb dX10_find_52 rfl (lv_at hl 2 rfl) ?_
      refine z_if_eq (tgt := 91) hx hb dX10_find_53 (by decide) hf (fun hf => ?_) (fun hf => ?_)
      · refine lv_iload_n hx hb dX10_find_91 rfl (lv_at hl 2 rfl) ?_
        refine z_if_eq (tgt := 97) hx hb dX10_find_92 (by decide) hf (fun hf => ?_) (fun hf => ?_)
        · refine lv_iinc (v := (v1 + (1 : Int32))) (lv' := [(1, .int (v1 + (1 : Int32))), (0, .ref (ht 0)), (2, .int v2), (3, .int v3)]) hx hb dX10_find_97 hl (k := 1) rfl rfl (by decide) rfl (fun ls hl => ?_)
          refine lv_goto (tgt := 2) hx hb dX10_find_100 (by decide) ?_
          exact K2 (v1 + (1 : Int32)) H locs ls hf hP hD hS (lv_sub hl [1, 0] rfl)
        · refine lv_iload_n hx hb dX10_find_95 rfl (lv_at hl 1 rfl) ?_
          obtain rfl := Option.some.inj hf
          exact z_iret (v := v1) C hP hD hS dX10_find_96
      · refine lv_aload_n hx hb dX10_find_56 rfl (lv_at hl 0 rfl) ?_
        refine va_get (D := D) (ci := 6) (v := .ref (ht 4)) (C := RX10) (T := TX10) (N := 41) hx hb hts in_X10 hown hK hP 0 rfl rfl 16 (by decide) (hts _ q6_61) (fun _ h9 => h9) rfl dX10_find_57 ?_
        refine lv_bipush (v := (44 : Int32)) hx hb dX10_find_60 (by decide) ?_
        refine lv_bipush (v := (8 : Int32)) hx hb dX10_find_62 (by decide) ?_
        refine lv_iload_n hx hb dX10_find_64 rfl (lv_at hl 1 rfl) ?_
        refine lv_imul hx hb dX10_find_65 ?_
        refine lv_iadd hx hb dX10_find_66 ?_
        refine lv_iload_n hx hb dX10_find_67 rfl (lv_at hl 3 rfl) ?_
        refine lv_iadd hx hb dX10_find_68 ?_
        refine z_iald (f := St_fresh) hx hb hK hP 1 0 rfl rfl dX10_find_69 hf (fun hf => ?_)
        refine lv_aload_n hx hb dX10_find_70 rfl (lv_at hl 0 rfl) ?_
        refine va_get (D := D) (ci := 6) (v := .ref (ht 2)) (C := RX10) (T := TX10) (N := 41) hx hb hts in_X10 hown hK hP 0 rfl rfl 12 (by decide) (hts _ q6_57) (fun _ h9 => h9) rfl dX10_find_71 ?_
        refine lv_iload_n hx hb dX10_find_74 rfl (lv_at hl 3 rfl) ?_
        refine z_iald (f := St_letters) hx hb hK hP 2 0 rfl rfl dX10_find_75 hf (fun hf => ?_)
        refine z_icmp_ne (tgt := 83) hx hb dX10_find_76 (by decide) hf (fun hf => ?_) (fun hf => ?_)
        · refine lv_iconst (v := (0 : Int32)) hx hb dX10_find_83 (by decide) ?_
          refine lv_istore_n (lv' := [(2, .int (0 : Int32)), (0, .ref (ht 0)), (1, .int v1), (3, .int v3)]) hx hb dX10_find_84 rfl hl (by decide) rfl (fun ls hl => ?_)
          refine lv_iinc (v := (v3 + (1 : Int32))) (lv' := [(3, .int (v3 + (1 : Int32))), (2, .int (0 : Int32)), (0, .ref (ht 0)), (1, .int v1)]) hx hb dX10_find_85 hl (k := 3) rfl rfl (by decide) rfl (fun ls hl => ?_)
          refine lv_goto (tgt := 44) hx hb dX10_find_88 (by decide) ?_
          exact K44 v1 (0 : Int32) (v3 + (1 : Int32)) H locs ls hf hP hD hS (lv_sub hl [2, 3, 1, 0] rfl)
        · refine lv_iconst (v := (1 : Int32)) hx hb dX10_find_79 (by decide) ?_
          refine lv_goto (tgt := 84) hx hb dX10_find_80 (by decide) ?_
          refine lv_istore_n (lv' := [(2, .int (1 : Int32)), (0, .ref (ht 0)), (1, .int v1), (3, .int v3)]) hx hb dX10_find_84 rfl hl (by decide) rfl (fun ls hl => ?_)
          refine lv_iinc (v := (v3 + (1 : Int32))) (lv' := [(3, .int (v3 + (1 : Int32))), (2, .int (1 : Int32)), (0, .ref (ht 0)), (1, .int v1)]) hx hb dX10_find_85 hl (k := 3) rfl rfl (by decide) rfl (fun ls hl => ?_)
          refine lv_goto (tgt := 44) hx hb dX10_find_88 (by decide) ?_
          exact K44 v1 (1 : Int32) (v3 + (1 : Int32)) H locs ls hf hP hD hS (lv_sub hl [2, 3, 1, 0] rfl)
def b_X10_find_2 (St : SMo) (St_fresh : Nat → Int32) (St_letters : Nat → Int32) (k2 : Int32 → Option (Int32)) (v1 : Int32) : Option (Int32) :=
  (if (12 : Int32) ≤ v1 then
    some (-1 : Int32)
    else
    (if zib ((32 : Int32) + v1) 140 then (if (St_fresh ((32 : Int32) + v1).toNatClampNeg) ≤ 0 then
        (zl3 (b_X10_find_44 St St_fresh St_letters k2) FU v1 (0 : Int32) (0 : Int32))
        else
        (if zib ((32 : Int32) + v1) 140 then (if (St_fresh ((32 : Int32) + v1).toNatClampNeg) = (Mo_nameSize St) then
            (zl3 (b_X10_find_44 St St_fresh St_letters k2) FU v1 (1 : Int32) (0 : Int32))
            else
            (zl3 (b_X10_find_44 St St_fresh St_letters k2) FU v1 (0 : Int32) (0 : Int32))) else none)) else none))
set_option maxHeartbeats 4000000 in
set_option maxRecDepth 100000 in
theorem w_X10_find_2 {p : Program} {e : Env} {s : State} {m : MethodId} {below : List Frame} {meth : Method} {c : Code} {A : Nat → Prop} {D : va_G} {cy : Nat → ClassId} {args : Array Value} {r : Int32} (l : Launch) (ht : Nat → Nat) (St : SMo) (St_fresh : Nat → Int32) (St_letters : Nat → Int32) (C : zX p s m meth c cX10_find 4 args RX10 (some FieldType.int) A D (zty cy)) :
    ∀ (n : Nat) (v1 : Int32) (H : Heap) (locs : List Loc) (ls : Array Slot), zl1 (b_X10_find_2 St St_fresh St_letters) n v1 = some r → va_P D vwCl (wMo ht cy St ++ (wAI (fun _ => ht 4) cy 140 St_fresh ++ (wAI (fun _ => ht 2) cy 8 St_letters))) H → va_D A (wMo ht cy St ++ (wAI (fun _ => ht 4) cy 140 St_fresh ++ (wAI (fun _ => ht 2) cy 8 St_letters))) → va_S A s.heap H locs → lv_has ls 4 [(0, .ref (ht 0)), (1, .int v1)] → W p l e (zRm 0 0) s m args below meth c H locs 0 0 (MQ below (zQI D (zty cy) A (wMo ht cy St ++ (wAI (fun _ => ht 4) cy 140 St_fresh ++ (wAI (fun _ => ht 2) cy 8 St_letters))) r) args s 0 0 A) (F0 m 2 ls []) := by
  obtain ⟨hx, hb, hr, hts, hown, hlocks, hml, hA, hK⟩ := id C
  intro n
  induction n with
  | zero => intro v1 H locs ls hf; exact zno hf
  | succ n ih =>
    intro v1 H locs ls hf hP hD hS hl
    have hf : b_X10_find_2 St St_fresh St_letters (zl1 (b_X10_find_2 St St_fresh St_letters) n) v1 = some r := hf
    have K2 := ih
    refine lv_iload_n hx hb dX10_find_2 rfl (lv_at hl 1 rfl) ?_
    refine lv_bipush (v := (12 : Int32)) hx hb dX10_find_3 (by decide) ?_
    refine z_icmp_ge (tgt := 103) hx hb dX10_find_5 (by decide) hf (fun hf => ?_) (fun hf => ?_)
    · refine lv_iconst (v := (-1 : Int32)) hx hb dX10_find_103 (by decide) ?_
      obtain rfl := Option.some.inj hf
      exact z_iret (v := (-1 : Int32)) C hP hD hS dX10_find_104
    · refine lv_aload_n hx hb dX10_find_8 rfl (lv_at hl 0 rfl) ?_
      refine va_get (D := D) (ci := 6) (v := .ref (ht 4)) (C := RX10) (T := TX10) (N := 41) hx hb hts in_X10 hown hK hP 0 rfl rfl 16 (by decide) (hts _ q6_61) (fun _ h9 => h9) rfl dX10_find_9 ?_
      refine lv_bipush (v := (32 : Int32)) hx hb dX10_find_12 (by decide) ?_
      refine lv_iload_n hx hb dX10_find_14 rfl (lv_at hl 1 rfl) ?_
      refine lv_iadd hx hb dX10_find_15 ?_
      refine z_iald (f := St_fresh) hx hb hK hP 1 0 rfl rfl dX10_find_16 hf (fun hf => ?_)
      refine z_if_le (tgt := 40) hx hb dX10_find_17 (by decide) hf (fun hf => ?_) (fun hf => ?_)
      · refine lv_iconst (v := (0 : Int32)) hx hb dX10_find_40 (by decide) ?_
        refine lv_istore_n (lv' := [(2, .int (0 : Int32)), (0, .ref (ht 0)), (1, .int v1)]) hx hb dX10_find_41 rfl hl (by decide) rfl (fun ls hl => ?_)
        refine lv_iconst (v := (0 : Int32)) hx hb dX10_find_42 (by decide) ?_
        refine lv_istore_n (lv' := [(3, .int (0 : Int32)), (2, .int (0 : Int32)), (0, .ref (ht 0)), (1, .int v1)]) hx hb dX10_find_43 rfl hl (by decide) rfl (fun ls hl => ?_)
        exact w_X10_find_44 l ht St St_fresh St_letters C K2 FU v1 (0 : Int32) (0 : Int32) H locs ls hf hP hD hS (lv_sub hl [2, 3, 1, 0] rfl)
      · refine lv_aload_n hx hb dX10_find_20 rfl (lv_at hl 0 rfl) ?_
        refine va_get (D := D) (ci := 6) (v := .ref (ht 4)) (C := RX10) (T := TX10) (N := 41) hx hb hts in_X10 hown hK hP 0 rfl rfl 16 (by decide) (hts _ q6_61) (fun _ h9 => h9) rfl dX10_find_21 ?_
        refine lv_bipush (v := (32 : Int32)) hx hb dX10_find_24 (by decide) ?_
        refine lv_iload_n hx hb dX10_find_26 rfl (lv_at hl 1 rfl) ?_
        refine lv_iadd hx hb dX10_find_27 ?_
        refine z_iald (f := St_fresh) hx hb hK hP 1 0 rfl rfl dX10_find_28 hf (fun hf => ?_)
        refine lv_aload_n hx hb dX10_find_29 rfl (lv_at hl 0 rfl) ?_
        refine va_get (D := D) (ci := 6) (v := .int (Mo_nameSize St)) (C := RX10) (T := TX10) (N := 41) hx hb hts in_X10 hown hK hP 0 rfl rfl 8 (by decide) (hts _ q6_53) (fun _ h9 => h9) rfl dX10_find_30 ?_
        refine z_icmp_ne (tgt := 40) hx hb dX10_find_33 (by decide) hf (fun hf => ?_) (fun hf => ?_)
        · refine lv_iconst (v := (0 : Int32)) hx hb dX10_find_40 (by decide) ?_
          refine lv_istore_n (lv' := [(2, .int (0 : Int32)), (0, .ref (ht 0)), (1, .int v1)]) hx hb dX10_find_41 rfl hl (by decide) rfl (fun ls hl => ?_)
          refine lv_iconst (v := (0 : Int32)) hx hb dX10_find_42 (by decide) ?_
          refine lv_istore_n (lv' := [(3, .int (0 : Int32)), (2, .int (0 : Int32)), (0, .ref (ht 0)), (1, .int v1)]) hx hb dX10_find_43 rfl hl (by decide) rfl (fun ls hl => ?_)
          exact w_X10_find_44 l ht St St_fresh St_letters C K2 FU v1 (0 : Int32) (0 : Int32) H locs ls hf hP hD hS (lv_sub hl [2, 3, 1, 0] rfl)
        · refine lv_iconst (v := (1 : Int32)) hx hb dX10_find_36 (by decide) ?_
          refine lv_goto (tgt := 41) hx hb dX10_find_37 (by decide) ?_
          refine lv_istore_n (lv' := [(2, .int (1 : Int32)), (0, .ref (ht 0)), (1, .int v1)]) hx hb dX10_find_41 rfl hl (by decide) rfl (fun ls hl => ?_)
          refine lv_iconst (v := (0 : Int32)) hx hb dX10_find_42 (by decide) ?_
          refine lv_istore_n (lv' := [(3, .int (0 : Int32)), (2, .int (1 : Int32)), (0, .ref (ht 0)), (1, .int v1)]) hx hb dX10_find_43 rfl hl (by decide) rfl (fun ls hl => ?_)
          exact w_X10_find_44 l ht St St_fresh St_letters C K2 FU v1 (1 : Int32) (0 : Int32) H locs ls hf hP hD hS (lv_sub hl [2, 3, 1, 0] rfl)
def f_X10_find (St : SMo) (St_fresh : Nat → Int32) (St_letters : Nat → Int32) : Option (Int32) :=
  (zl1 (b_X10_find_2 St St_fresh St_letters) FU (0 : Int32))
set_option maxHeartbeats 4000000 in
set_option maxRecDepth 100000 in
theorem c_X10_find (l : Launch) (D : va_G) (cy : Nat → ClassId) (ht : Nat → Nat) (St : SMo) (St_fresh : Nat → Int32) (St_letters : Nat → Int32) (r : Int32) (hf : f_X10_find St St_fresh St_letters = some r) : zCI l yX10_find cX10_find 4 (some FieldType.int) 0 0 D (zty cy) [.ref (ht 0)] (wMo ht cy St ++ (wAI (fun _ => ht 4) cy 140 St_fresh ++ (wAI (fun _ => ht 2) cy 8 St_letters))) (wMo ht cy St ++ (wAI (fun _ => ht 4) cy 140 St_fresh ++ (wAI (fun _ => ht 2) cy 8 St_letters))) r := by
  refine zCI_of (by decide +kernel) (Nat.le_of_ble_eq_true rfl) ?_
  intro p e s m below meth c A ls C hP hD hS hl
  generalize hargs : ([.ref (ht 0)] : List Value).toArray = args at C ⊢
  have C : zX p s m meth c cX10_find 4 args RX10 (some FieldType.int) A D (zty cy) := C
  obtain ⟨hx, hb, hr, hts, hown, hlocks, hml, hA, hK⟩ := id C
  have hl : lv_has ls 4 [(0, .ref (ht 0))] := hl
  generalize hH : s.heap = H at hP ⊢
  have hS : va_S A s.heap H [] := by rw [← hH]; exact hS
  generalize ([] : List Loc) = locs at hS ⊢
  refine lv_iconst (v := (0 : Int32)) hx hb dX10_find_0 (by decide) ?_
  refine lv_istore_n (lv' := [(1, .int (0 : Int32)), (0, .ref (ht 0))]) hx hb dX10_find_1 rfl hl (by decide) rfl (fun ls hl => ?_)
  exact w_X10_find_2 l ht St St_fresh St_letters C FU (0 : Int32) H locs ls hf hP hD hS (lv_sub hl [1, 0] rfl)
def f_X10_pass (St : SMo) (St_letters : Nat → Int32) (St_tape : Nat → Int32) : Option (SMo × (Nat → Int32)) :=
  (if (Mo_failed St) = 0 then
    (f_X10_step St St_letters St_tape).bind (fun q1 =>
      some (q1.1, q1.2))
    else
    some (St, St_letters))
set_option maxHeartbeats 4000000 in
set_option maxRecDepth 100000 in
theorem c_X10_pass (l : Launch) (D : va_G) (cy : Nat → ClassId) (ht : Nat → Nat) (St : SMo) (St_letters : Nat → Int32) (St_tape : Nat → Int32) (r : SMo × (Nat → Int32)) (hf : f_X10_pass St St_letters St_tape = some r) : zCV l yX10_pass cX10_pass 1 none 2 44 D (zty cy) [.ref (ht 0)] (wMo ht cy St ++ (wAI (fun _ => ht 2) cy 8 St_letters ++ (wAI (fun _ => ht 1) cy 900 St_tape))) (wMo ht cy r.1 ++ (wAI (fun _ => ht 2) cy 8 r.2 ++ (wAI (fun _ => ht 1) cy 900 St_tape))) := by
  refine zCV_of (by decide +kernel) (Nat.le_of_ble_eq_true rfl) ?_
  intro p e s m below meth c A ls C hP hD hS hl
  generalize hargs : ([.ref (ht 0)] : List Value).toArray = args at C ⊢
  have C : zX p s m meth c cX10_pass 1 args RX10 none A D (zty cy) := C
  obtain ⟨hx, hb, hr, hts, hown, hlocks, hml, hA, hK⟩ := id C
  have hl : lv_has ls 1 [(0, .ref (ht 0))] := hl
  generalize hH : s.heap = H at hP ⊢
  have hS : va_S A s.heap H [] := by rw [← hH]; exact hS
  generalize ([] : List Loc) = locs at hS ⊢
  refine lv_aload_n hx hb dX10_pass_0 rfl (lv_at hl 0 rfl) ?_
  refine va_get (D := D) (ci := 6) (v := .int (Mo_failed St)) (C := RX10) (T := TX10) (N := 41) hx hb hts in_X10 hown hK hP 0 rfl rfl 13 (by decide) (hts _ q6_58) (fun _ h9 => h9) rfl dX10_pass_1 ?_
  refine z_if_ne (tgt := 11) hx hb dX10_pass_4 (by decide) hf (fun hf => ?_) (fun hf => ?_)
  · obtain rfl := Option.some.inj hf
    exact z_vret C hP hD hS dX10_pass_11
  · refine lv_aload_n hx hb dX10_pass_7 rfl (lv_at hl 0 rfl) ?_
    obtain ⟨q1, hc, hf⟩ := zbd hf
    refine z_cVv0 (As := []) (rest := []) C (c_X10_step l D cy ht St St_letters St_tape q1 hc) gV_X10_X10_step hd_X10_step ⟨Nat.le_of_ble_eq_true rfl, Nat.le_of_ble_eq_true rfl⟩ ⟨Nat.le_refl _, Nat.le_refl _⟩ (va_recv hK hP (ci := 6) (q0 := 0) rfl rfl) hP hD hS hl.1 (Nat.le_of_ble_eq_true rfl) dX10_pass_8 (fun H locs hP hD hS => ?_)
    have hP : va_P D vwCl (wMo ht cy q1.1 ++ (wAI (fun _ => ht 2) cy 8 q1.2 ++ (wAI (fun _ => ht 1) cy 900 St_tape))) H := hP
    have hD : va_D A (wMo ht cy q1.1 ++ (wAI (fun _ => ht 2) cy 8 q1.2 ++ (wAI (fun _ => ht 1) cy 900 St_tape))) := hD
    obtain rfl := Option.some.inj hf
    exact z_vret C hP hD hS dX10_pass_11
def b_X10_number_50 (St_tape : Nat → Int32) (x1 : Int32) (x2 : Int32) (St : SMo) (St_letters : Nat → Int32) : Option (Int32 × SMo × (Nat → Int32)) :=
  (f_X10_pass St St_letters St_tape).bind (fun q1 =>
    (if (Mo_failed q1.1) = 0 then
      some ((Mo_whole St), q1.1, q1.2)
      else
      some (x1, q1.1, q1.2)))
set_option maxHeartbeats 4000000 in
set_option maxRecDepth 100000 in
theorem w_X10_number_50 {p : Program} {e : Env} {s : State} {m : MethodId} {below : List Frame} {meth : Method} {c : Code} {A : Nat → Prop} {D : va_G} {cy : Nat → ClassId} {args : Array Value} {r : Int32 × SMo × (Nat → Int32)} (l : Launch) (ht : Nat → Nat) (St_tape : Nat → Int32) (x1 : Int32) (x2 : Int32) (C : zX p s m meth c cX10_number 4 args RX10 (some FieldType.int) A D (zty cy)) :
    ∀ (St : SMo) (St_letters : Nat → Int32) (H : Heap) (locs : List Loc) (ls : Array Slot), b_X10_number_50 St_tape x1 x2 St St_letters = some r → va_P D vwCl (wMo ht cy St ++ (wAI (fun _ => ht 2) cy 8 St_letters ++ (wAI (fun _ => ht 1) cy 900 St_tape))) H → va_D A (wMo ht cy St ++ (wAI (fun _ => ht 2) cy 8 St_letters ++ (wAI (fun _ => ht 1) cy 900 St_tape))) → va_S A s.heap H locs → lv_has ls 4 [(0, .ref (ht 0)), (1, .int x1)] → W p l e (zRm 3 64) s m args below meth c H locs 0 0 (MQ below (zQI D (zty cy) A (wMo ht cy r.2.1 ++ (wAI (fun _ => ht 2) cy 8 r.2.2 ++ (wAI (fun _ => ht 1) cy 900 St_tape))) r.1) args s 0 0 A) (F0 m 50 ls []) := by
  obtain ⟨hx, hb, hr, hts, hown, hlocks, hml, hA, hK⟩ := id C
  intro St St_letters H locs ls hf hP hD hS hl
  refine lv_aload_n hx hb dX10_number_50 rfl (lv_at hl 0 rfl) ?_
  refine va_get (D := D) (ci := 6) (v := .int (Mo_whole St)) (C := RX10) (T := TX10) (N := 41) hx hb hts in_X10 hown hK hP 0 rfl rfl 7 (by decide) (hts _ q6_52) (fun _ h9 => h9) rfl dX10_number_51 ?_
  refine lv_istore_n (lv' := [(3, .int (Mo_whole St)), (0, .ref (ht 0)), (1, .int x1)]) hx hb dX10_number_54 rfl hl (by decide) rfl (fun ls hl => ?_)
  refine lv_aload_n hx hb dX10_number_55 rfl (lv_at hl 1 rfl) ?_
  obtain ⟨q1, hc, hf⟩ := zbd hf
  refine z_cVv0 (As := []) (rest := []) C (c_X10_pass l D cy ht St St_letters St_tape q1 hc) gV_X10_X10_pass hd_X10_pass ⟨Nat.le_of_ble_eq_true rfl, Nat.le_of_ble_eq_true rfl⟩ ⟨Nat.le_refl _, Nat.le_refl _⟩ (va_recv hK hP (ci := 6) (q0 := 0) rfl rfl) hP hD hS hl.1 (Nat.le_of_ble_eq_true rfl) dX10_number_56 (fun H locs hP hD hS => ?_)
  have hP : va_P D vwCl (wMo ht cy q1.1 ++ (wAI (fun _ => ht 2) cy 8 q1.2 ++ (wAI (fun _ => ht 1) cy 900 St_tape))) H := hP
  have hD : va_D A (wMo ht cy q1.1 ++ (wAI (fun _ => ht 2) cy 8 q1.2 ++ (wAI (fun _ => ht 1) cy 900 St_tape))) := hD
  refine lv_aload_n hx hb dX10_number_59 rfl (lv_at hl 1 rfl) ?_
  refine va_get (D := D) (ci := 6) (v := .int (Mo_failed q1.1)) (C := RX10) (T := TX10) (N := 41) hx hb hts in_X10 hown hK hP 0 rfl rfl 13 (by decide) (hts _ q6_58) (fun _ h9 => h9) rfl dX10_number_60 ?_
  refine z_if_eq (tgt := 70) hx hb dX10_number_63 (by decide) hf (fun hf => ?_) (fun hf => ?_)
  · refine lv_iload_n hx hb dX10_number_70 rfl (lv_at hl 0 rfl) ?_
    obtain rfl := Option.some.inj hf
    exact z_iret (v := (Mo_whole St)) C hP hD hS dX10_number_71
  · refine lv_iload_n hx hb dX10_number_66 rfl (lv_at hl 2 rfl) ?_
    refine lv_goto (tgt := 71) hx hb dX10_number_67 (by decide) ?_
    obtain rfl := Option.some.inj hf
    exact z_iret (v := x1) C hP hD hS dX10_number_71
def f_X10_number (St : SMo) (St_letters : Nat → Int32) (St_tape : Nat → Int32) (x1 : Int32) (x2 : Int32) : Option (Int32 × SMo × (Nat → Int32)) :=
  (if (Mo_failed St) = 0 then
    (if (Mo_token St) = (3 : Int32) then
      (f_X10_in (Mo_whole St) x1 x2).bind (fun q2 =>
        (if q2 = 0 then
          (f_X10_wrong St (4 : Int32) (Mo_at St)).bind (fun q3 =>
            (b_X10_number_50 St_tape x1 x2 q3 St_letters))
          else
          (b_X10_number_50 St_tape x1 x2 St St_letters)))
      else
      (f_X10_wrong St (1 : Int32) (Mo_at St)).bind (fun q4 =>
        (b_X10_number_50 St_tape x1 x2 q4 St_letters)))
    else
    some (x1, St, St_letters))
set_option maxHeartbeats 4000000 in
set_option maxRecDepth 100000 in
theorem c_X10_number (l : Launch) (D : va_G) (cy : Nat → ClassId) (ht : Nat → Nat) (St : SMo) (St_letters : Nat → Int32) (St_tape : Nat → Int32) (x1 : Int32) (x2 : Int32) (r : Int32 × SMo × (Nat → Int32)) (hf : f_X10_number St St_letters St_tape x1 x2 = some r) : zCI l yX10_number cX10_number 4 (some FieldType.int) 3 64 D (zty cy) [.ref (ht 0), .int x1, .int x2] (wMo ht cy St ++ (wAI (fun _ => ht 2) cy 8 St_letters ++ (wAI (fun _ => ht 1) cy 900 St_tape))) (wMo ht cy r.2.1 ++ (wAI (fun _ => ht 2) cy 8 r.2.2 ++ (wAI (fun _ => ht 1) cy 900 St_tape))) r.1 := by
  refine zCI_of (by decide +kernel) (Nat.le_of_ble_eq_true rfl) ?_
  intro p e s m below meth c A ls C hP hD hS hl
  generalize hargs : ([.ref (ht 0), .int x1, .int x2] : List Value).toArray = args at C ⊢
  have C : zX p s m meth c cX10_number 4 args RX10 (some FieldType.int) A D (zty cy) := C
  obtain ⟨hx, hb, hr, hts, hown, hlocks, hml, hA, hK⟩ := id C
  have hl : lv_has ls 4 [(0, .ref (ht 0)), (1, .int x1), (2, .int x2)] := hl
  generalize hH : s.heap = H at hP ⊢
  have hS : va_S A s.heap H [] := by rw [← hH]; exact hS
  generalize ([] : List Loc) = locs at hS ⊢
  refine lv_aload_n hx hb dX10_number_0 rfl (lv_at hl 0 rfl) ?_
  refine va_get (D := D) (ci := 6) (v := .int (Mo_failed St)) (C := RX10) (T := TX10) (N := 41) hx hb hts in_X10 hown hK hP 0 rfl rfl 13 (by decide) (hts _ q6_58) (fun _ h9 => h9) rfl dX10_number_1 ?_
  refine z_if_eq (tgt := 9) hx hb dX10_number_4 (by decide) hf (fun hf => ?_) (fun hf => ?_)
  · refine lv_aload_n hx hb dX10_number_9 rfl (lv_at hl 0 rfl) ?_
    refine va_get (D := D) (ci := 6) (v := .int (Mo_token St)) (C := RX10) (T := TX10) (N := 41) hx hb hts in_X10 hown hK hP 0 rfl rfl 6 (by decide) (hts _ q6_51) (fun _ h9 => h9) rfl dX10_number_10 ?_
    refine lv_iconst (v := (3 : Int32)) hx hb dX10_number_13 (by decide) ?_
    refine z_icmp_eq (tgt := 29) hx hb dX10_number_14 (by decide) hf (fun hf => ?_) (fun hf => ?_)
    · refine lv_aload_n hx hb dX10_number_29 rfl (lv_at hl 0 rfl) ?_
      refine va_get (D := D) (ci := 6) (v := .int (Mo_whole St)) (C := RX10) (T := TX10) (N := 41) hx hb hts in_X10 hown hK hP 0 rfl rfl 7 (by decide) (hts _ q6_52) (fun _ h9 => h9) rfl dX10_number_30 ?_
      refine lv_iload_n hx hb dX10_number_33 rfl (lv_at hl 1 rfl) ?_
      refine lv_iload_n hx hb dX10_number_34 rfl (lv_at hl 2 rfl) ?_
      obtain ⟨q2, hc, hf⟩ := zbd hf
      refine z_cSiE (As := [.int (Mo_whole St), .int x1, .int x2]) (rest := []) C (c_X10_in l D cy (Mo_whole St) x1 x2 q2 hc) gS_X10_X10_in hd_X10_in ⟨Nat.le_of_ble_eq_true rfl, Nat.le_of_ble_eq_true rfl⟩ ⟨Nat.le_refl _, Nat.le_refl _⟩ hP hD hS hl.1 (Nat.le_of_ble_eq_true rfl) dX10_number_35 (fun H locs hP hD hS => ?_)
      refine z_if_ne (tgt := 50) hx hb dX10_number_38 (by decide) hf (fun hf => ?_) (fun hf => ?_)
      · exact w_X10_number_50 l ht St_tape x1 x2 C St St_letters H locs ls hf hP hD hS (lv_sub hl [0, 1] rfl)
      · refine lv_aload_n hx hb dX10_number_41 rfl (lv_at hl 0 rfl) ?_
        refine lv_iconst (v := (4 : Int32)) hx hb dX10_number_42 (by decide) ?_
        refine lv_aload_n hx hb dX10_number_43 rfl (lv_at hl 0 rfl) ?_
        refine va_get (D := D) (ci := 6) (v := .int (Mo_at St)) (C := RX10) (T := TX10) (N := 41) hx hb hts in_X10 hown hK hP 0 rfl rfl 4 (by decide) (hts _ q6_49) (fun _ h9 => h9) rfl dX10_number_44 ?_
        obtain ⟨q3, hc, hf⟩ := zbd hf
        refine z_cVv (As := [.int (4 : Int32), .int (Mo_at St)]) (rest := []) C (c_X10_wrong l D cy ht St (4 : Int32) (Mo_at St) q3 hc) gV_X10_X10_wrong hd_X10_wrong ⟨Nat.le_of_ble_eq_true rfl, Nat.le_of_ble_eq_true rfl⟩ ⟨Nat.le_refl _, Nat.le_refl _⟩ (va_recv hK hP (ci := 6) (q0 := 0) rfl rfl) hP hD hS (w2 := wMo ht cy q3 ++ (wAI (fun _ => ht 2) cy 8 St_letters ++ (wAI (fun _ => ht 1) cy 900 St_tape))) [0] [1, 2] [2, 0, 1] rfl rfl rfl rfl rfl rfl (by decide) hl.1 (Nat.le_of_ble_eq_true rfl) dX10_number_47 (fun H locs hP hD hS => ?_)
        exact w_X10_number_50 l ht St_tape x1 x2 C q3 St_letters H locs ls hf hP hD hS (lv_sub hl [0, 1] rfl)
    · refine lv_aload_n hx hb dX10_number_17 rfl (lv_at hl 0 rfl) ?_
      refine lv_iconst (v := (1 : Int32)) hx hb dX10_number_18 (by decide) ?_
      refine lv_aload_n hx hb dX10_number_19 rfl (lv_at hl 0 rfl) ?_
      refine va_get (D := D) (ci := 6) (v := .int (Mo_at St)) (C := RX10) (T := TX10) (N := 41) hx hb hts in_X10 hown hK hP 0 rfl rfl 4 (by decide) (hts _ q6_49) (fun _ h9 => h9) rfl dX10_number_20 ?_
      obtain ⟨q4, hc, hf⟩ := zbd hf
      refine z_cVv (As := [.int (1 : Int32), .int (Mo_at St)]) (rest := []) C (c_X10_wrong l D cy ht St (1 : Int32) (Mo_at St) q4 hc) gV_X10_X10_wrong hd_X10_wrong ⟨Nat.le_of_ble_eq_true rfl, Nat.le_of_ble_eq_true rfl⟩ ⟨Nat.le_refl _, Nat.le_refl _⟩ (va_recv hK hP (ci := 6) (q0 := 0) rfl rfl) hP hD hS (w2 := wMo ht cy q4 ++ (wAI (fun _ => ht 2) cy 8 St_letters ++ (wAI (fun _ => ht 1) cy 900 St_tape))) [0] [1, 2] [2, 0, 1] rfl rfl rfl rfl rfl rfl (by decide) hl.1 (Nat.le_of_ble_eq_true rfl) dX10_number_23 (fun H locs hP hD hS => ?_)
      refine lv_goto (tgt := 50) hx hb dX10_number_26 (by decide) ?_
      exact w_X10_number_50 l ht St_tape x1 x2 C q4 St_letters H locs ls hf hP hD hS (lv_sub hl [0, 1] rfl)
  · refine lv_iload_n hx hb dX10_number_7 rfl (lv_at hl 1 rfl) ?_
    obtain rfl := Option.some.inj hf
    exact z_iret (v := x1) C hP hD hS dX10_number_8
def b_X10_versionsOf_4 (Sp1 : Nat → Int32) (k4 : Int32 → Int32 → Option (Int32)) (v1 : Int32) (v2 : Int32) : Option (Int32) :=
  (if (48 : Int32) ≤ v2 then
    some v1
    else
    (if zib ((0 : Int32) + v2) 325 then (if (Sp1 ((0 : Int32) + v2).toNatClampNeg) ≤ 0 then
        (k4 (v1 + (0 : Int32)) (v2 + (1 : Int32)))
        else
        (k4 (v1 + (1 : Int32)) (v2 + (1 : Int32)))) else none))
set_option maxHeartbeats 4000000 in
set_option maxRecDepth 100000 in
theorem w_X10_versionsOf_4 {p : Program} {e : Env} {s : State} {m : MethodId} {below : List Frame} {meth : Method} {c : Code} {A : Nat → Prop} {D : va_G} {cy : Nat → ClassId} {args : Array Value} {r : Int32} (l : Launch) (hp1 : Nat → Nat) (Sp1 : Nat → Int32) (C : zX p s m meth c cX10_versionsOf 3 args RX10 (some FieldType.int) A D (zty cy)) :
    ∀ (n : Nat) (v1 : Int32) (v2 : Int32) (H : Heap) (locs : List Loc) (ls : Array Slot), zl2 (b_X10_versionsOf_4 Sp1) n v1 v2 = some r → va_P D vwCl (wAI hp1 cy 325 Sp1) H → va_D A (wAI hp1 cy 325 Sp1) → va_S A s.heap H locs → lv_has ls 3 [(0, .ref (hp1 0)), (1, .int v1), (2, .int v2)] → W p l e (zRm 0 0) s m args below meth c H locs 0 0 (MQ below (zQI D (zty cy) A (wAI hp1 cy 325 Sp1) r) args s 0 0 A) (F0 m 4 ls []) := by
  obtain ⟨hx, hb, hr, hts, hown, hlocks, hml, hA, hK⟩ := id C
  intro n
  induction n with
  | zero => intro v1 v2 H locs ls hf; exact zno hf
  | succ n ih =>
    intro v1 v2 H locs ls hf hP hD hS hl
    have hf : b_X10_versionsOf_4 Sp1 (zl2 (b_X10_versionsOf_4 Sp1) n) v1 v2 = some r := hf
    have K4 := ih
    refine lv_iload_n hx hb dX10_versionsOf_4 rfl (lv_at hl 2 rfl) ?_
    refine lv_bipush (v := (48 : Int32)) hx hb dX10_versionsOf_5 (by decide) ?_
    refine z_icmp_ge (tgt := 32) hx hb dX10_versionsOf_7 (by decide) hf (fun hf => ?_) (fun hf => ?_)
    · refine lv_iload_n hx hb dX10_versionsOf_32 rfl (lv_at hl 1 rfl) ?_
      obtain rfl := Option.some.inj hf
      exact z_iret (v := v1) C hP hD hS dX10_versionsOf_33
    · refine lv_iload_n hx hb dX10_versionsOf_10 rfl (lv_at hl 1 rfl) ?_
      refine lv_aload_n hx hb dX10_versionsOf_11 rfl (lv_at hl 0 rfl) ?_
      refine lv_iconst (v := (0 : Int32)) hx hb dX10_versionsOf_12 (by decide) ?_
      refine lv_iload_n hx hb dX10_versionsOf_13 rfl (lv_at hl 2 rfl) ?_
      refine lv_iadd hx hb dX10_versionsOf_14 ?_
      refine z_iald (f := Sp1) hx hb hK hP 0 0 rfl rfl dX10_versionsOf_15 hf (fun hf => ?_)
      refine z_if_le (tgt := 23) hx hb dX10_versionsOf_16 (by decide) hf (fun hf => ?_) (fun hf => ?_)
      · refine lv_iconst (v := (0 : Int32)) hx hb dX10_versionsOf_23 (by decide) ?_
        refine lv_iadd hx hb dX10_versionsOf_24 ?_
        refine lv_istore_n (lv' := [(1, .int (v1 + (0 : Int32))), (0, .ref (hp1 0)), (2, .int v2)]) hx hb dX10_versionsOf_25 rfl hl (by decide) rfl (fun ls hl => ?_)
        refine lv_iinc (v := (v2 + (1 : Int32))) (lv' := [(2, .int (v2 + (1 : Int32))), (1, .int (v1 + (0 : Int32))), (0, .ref (hp1 0))]) hx hb dX10_versionsOf_26 hl (k := 2) rfl rfl (by decide) rfl (fun ls hl => ?_)
        refine lv_goto (tgt := 4) hx hb dX10_versionsOf_29 (by decide) ?_
        exact K4 (v1 + (0 : Int32)) (v2 + (1 : Int32)) H locs ls hf hP hD hS (lv_sub hl [2, 1, 0] rfl)
      · refine lv_iconst (v := (1 : Int32)) hx hb dX10_versionsOf_19 (by decide) ?_
        refine lv_goto (tgt := 24) hx hb dX10_versionsOf_20 (by decide) ?_
        refine lv_iadd hx hb dX10_versionsOf_24 ?_
        refine lv_istore_n (lv' := [(1, .int (v1 + (1 : Int32))), (0, .ref (hp1 0)), (2, .int v2)]) hx hb dX10_versionsOf_25 rfl hl (by decide) rfl (fun ls hl => ?_)
        refine lv_iinc (v := (v2 + (1 : Int32))) (lv' := [(2, .int (v2 + (1 : Int32))), (1, .int (v1 + (1 : Int32))), (0, .ref (hp1 0))]) hx hb dX10_versionsOf_26 hl (k := 2) rfl rfl (by decide) rfl (fun ls hl => ?_)
        refine lv_goto (tgt := 4) hx hb dX10_versionsOf_29 (by decide) ?_
        exact K4 (v1 + (1 : Int32)) (v2 + (1 : Int32)) H locs ls hf hP hD hS (lv_sub hl [2, 1, 0] rfl)
def f_X10_versionsOf (Sp1 : Nat → Int32) : Option (Int32) :=
  (zl2 (b_X10_versionsOf_4 Sp1) FU (0 : Int32) (0 : Int32))
set_option maxHeartbeats 4000000 in
set_option maxRecDepth 100000 in
theorem c_X10_versionsOf (l : Launch) (D : va_G) (cy : Nat → ClassId) (hp1 : Nat → Nat) (Sp1 : Nat → Int32) (r : Int32) (hf : f_X10_versionsOf Sp1 = some r) : zCI l yX10_versionsOf cX10_versionsOf 3 (some FieldType.int) 0 0 D (zty cy) [.ref (hp1 0)] (wAI hp1 cy 325 Sp1) (wAI hp1 cy 325 Sp1) r := by
  refine zCI_of (by decide +kernel) (Nat.le_of_ble_eq_true rfl) ?_
  intro p e s m below meth c A ls C hP hD hS hl
  generalize hargs : ([.ref (hp1 0)] : List Value).toArray = args at C ⊢
  have C : zX p s m meth c cX10_versionsOf 3 args RX10 (some FieldType.int) A D (zty cy) := C
  obtain ⟨hx, hb, hr, hts, hown, hlocks, hml, hA, hK⟩ := id C
  have hl : lv_has ls 3 [(0, .ref (hp1 0))] := hl
  generalize hH : s.heap = H at hP ⊢
  have hS : va_S A s.heap H [] := by rw [← hH]; exact hS
  generalize ([] : List Loc) = locs at hS ⊢
  refine lv_iconst (v := (0 : Int32)) hx hb dX10_versionsOf_0 (by decide) ?_
  refine lv_istore_n (lv' := [(1, .int (0 : Int32)), (0, .ref (hp1 0))]) hx hb dX10_versionsOf_1 rfl hl (by decide) rfl (fun ls hl => ?_)
  refine lv_iconst (v := (0 : Int32)) hx hb dX10_versionsOf_2 (by decide) ?_
  refine lv_istore_n (lv' := [(2, .int (0 : Int32)), (1, .int (0 : Int32)), (0, .ref (hp1 0))]) hx hb dX10_versionsOf_3 rfl hl (by decide) rfl (fun ls hl => ?_)
  exact w_X10_versionsOf_4 l hp1 Sp1 C FU (0 : Int32) (0 : Int32) H locs ls hf hP hD hS (lv_sub hl [2, 1, 0] rfl)
def f_X10_ends (St : SMo) : Option (Int32 × SMo) :=
  (if (Mo_failed St) = 0 then
    (if (Mo_token St) = (59 : Int32) then
      (if (Mo_failed St) = 0 then
        some ((1 : Int32), St)
        else
        some ((0 : Int32), St))
      else
      (if (Mo_token St) = 0 then
        (if (Mo_failed St) = 0 then
          some ((1 : Int32), St)
          else
          some ((0 : Int32), St))
        else
        (f_X10_wrong St (1 : Int32) (Mo_at St)).bind (fun q1 =>
          (if (Mo_failed q1) = 0 then
            some ((1 : Int32), q1)
            else
            some ((0 : Int32), q1)))))
    else
    (if (Mo_failed St) = 0 then
      some ((1 : Int32), St)
      else
      some ((0 : Int32), St)))
set_option maxHeartbeats 4000000 in
set_option maxRecDepth 100000 in
theorem c_X10_ends (l : Launch) (D : va_G) (cy : Nat → ClassId) (ht : Nat → Nat) (St : SMo) (r : Int32 × SMo) (hf : f_X10_ends St = some r) : zCI l yX10_ends cX10_ends 1 (some FieldType.boolean) 1 22 D (zty cy) [.ref (ht 0)] (wMo ht cy St) (wMo ht cy r.2) r.1 := by
  refine zCI_of (by decide +kernel) (Nat.le_of_ble_eq_true rfl) ?_
  intro p e s m below meth c A ls C hP hD hS hl
  generalize hargs : ([.ref (ht 0)] : List Value).toArray = args at C ⊢
  have C : zX p s m meth c cX10_ends 1 args RX10 (some FieldType.boolean) A D (zty cy) := C
  obtain ⟨hx, hb, hr, hts, hown, hlocks, hml, hA, hK⟩ := id C
  have hl : lv_has ls 1 [(0, .ref (ht 0))] := hl
  generalize hH : s.heap = H at hP ⊢
  have hS : va_S A s.heap H [] := by rw [← hH]; exact hS
  generalize ([] : List Loc) = locs at hS ⊢
  refine lv_aload_n hx hb dX10_ends_0 rfl (lv_at hl 0 rfl) ?_
  refine va_get (D := D) (ci := 6) (v := .int (Mo_failed St)) (C := RX10) (T := TX10) (N := 41) hx hb hts in_X10 hown hK hP 0 rfl rfl 13 (by decide) (hts _ q6_58) (fun _ h9 => h9) rfl dX10_ends_1 ?_
  refine z_if_ne (tgt := 32) hx hb dX10_ends_4 (by decide) hf (fun hf => ?_) (fun hf => ?_)
  · refine lv_aload_n hx hb dX10_ends_32 rfl (lv_at hl 0 rfl) ?_
    refine va_get (D := D) (ci := 6) (v := .int (Mo_failed St)) (C := RX10) (T := TX10) (N := 41) hx hb hts in_X10 hown hK hP 0 rfl rfl 13 (by decide) (hts _ q6_58) (fun _ h9 => h9) rfl dX10_ends_33 ?_
    refine z_if_ne (tgt := 43) hx hb dX10_ends_36 (by decide) hf (fun hf => ?_) (fun hf => ?_)
    · refine lv_iconst (v := (0 : Int32)) hx hb dX10_ends_43 (by decide) ?_
      obtain rfl := Option.some.inj hf
      exact z_zret (v := (0 : Int32)) C rfl hP hD hS dX10_ends_44
    · refine lv_iconst (v := (1 : Int32)) hx hb dX10_ends_39 (by decide) ?_
      refine lv_goto (tgt := 44) hx hb dX10_ends_40 (by decide) ?_
      obtain rfl := Option.some.inj hf
      exact z_zret (v := (1 : Int32)) C rfl hP hD hS dX10_ends_44
  · refine lv_aload_n hx hb dX10_ends_7 rfl (lv_at hl 0 rfl) ?_
    refine va_get (D := D) (ci := 6) (v := .int (Mo_token St)) (C := RX10) (T := TX10) (N := 41) hx hb hts in_X10 hown hK hP 0 rfl rfl 6 (by decide) (hts _ q6_51) (fun _ h9 => h9) rfl dX10_ends_8 ?_
    refine lv_bipush (v := (59 : Int32)) hx hb dX10_ends_11 (by decide) ?_
    refine z_icmp_eq (tgt := 32) hx hb dX10_ends_13 (by decide) hf (fun hf => ?_) (fun hf => ?_)
    · refine lv_aload_n hx hb dX10_ends_32 rfl (lv_at hl 0 rfl) ?_
      refine va_get (D := D) (ci := 6) (v := .int (Mo_failed St)) (C := RX10) (T := TX10) (N := 41) hx hb hts in_X10 hown hK hP 0 rfl rfl 13 (by decide) (hts _ q6_58) (fun _ h9 => h9) rfl dX10_ends_33 ?_
      refine z_if_ne (tgt := 43) hx hb dX10_ends_36 (by decide) hf (fun hf => ?_) (fun hf => ?_)
      · refine lv_iconst (v := (0 : Int32)) hx hb dX10_ends_43 (by decide) ?_
        obtain rfl := Option.some.inj hf
        exact z_zret (v := (0 : Int32)) C rfl hP hD hS dX10_ends_44
      · refine lv_iconst (v := (1 : Int32)) hx hb dX10_ends_39 (by decide) ?_
        refine lv_goto (tgt := 44) hx hb dX10_ends_40 (by decide) ?_
        obtain rfl := Option.some.inj hf
        exact z_zret (v := (1 : Int32)) C rfl hP hD hS dX10_ends_44
    · refine lv_aload_n hx hb dX10_ends_16 rfl (lv_at hl 0 rfl) ?_
      refine va_get (D := D) (ci := 6) (v := .int (Mo_token St)) (C := RX10) (T := TX10) (N := 41) hx hb hts in_X10 hown hK hP 0 rfl rfl 6 (by decide) (hts _ q6_51) (fun _ h9 => h9) rfl dX10_ends_17 ?_
      refine z_if_eq (tgt := 32) hx hb dX10_ends_20 (by decide) hf (fun hf => ?_) (fun hf => ?_)
      · refine lv_aload_n hx hb dX10_ends_32 rfl (lv_at hl 0 rfl) ?_
        refine va_get (D := D) (ci := 6) (v := .int (Mo_failed St)) (C := RX10) (T := TX10) (N := 41) hx hb hts in_X10 hown hK hP 0 rfl rfl 13 (by decide) (hts _ q6_58) (fun _ h9 => h9) rfl dX10_ends_33 ?_
        refine z_if_ne (tgt := 43) hx hb dX10_ends_36 (by decide) hf (fun hf => ?_) (fun hf => ?_)
        · refine lv_iconst (v := (0 : Int32)) hx hb dX10_ends_43 (by decide) ?_
          obtain rfl := Option.some.inj hf
          exact z_zret (v := (0 : Int32)) C rfl hP hD hS dX10_ends_44
        · refine lv_iconst (v := (1 : Int32)) hx hb dX10_ends_39 (by decide) ?_
          refine lv_goto (tgt := 44) hx hb dX10_ends_40 (by decide) ?_
          obtain rfl := Option.some.inj hf
          exact z_zret (v := (1 : Int32)) C rfl hP hD hS dX10_ends_44
      · refine lv_aload_n hx hb dX10_ends_23 rfl (lv_at hl 0 rfl) ?_
        refine lv_iconst (v := (1 : Int32)) hx hb dX10_ends_24 (by decide) ?_
        refine lv_aload_n hx hb dX10_ends_25 rfl (lv_at hl 0 rfl) ?_
        refine va_get (D := D) (ci := 6) (v := .int (Mo_at St)) (C := RX10) (T := TX10) (N := 41) hx hb hts in_X10 hown hK hP 0 rfl rfl 4 (by decide) (hts _ q6_49) (fun _ h9 => h9) rfl dX10_ends_26 ?_
        obtain ⟨q1, hc, hf⟩ := zbd hf
        refine z_cVv0 (As := [.int (1 : Int32), .int (Mo_at St)]) (rest := []) C (c_X10_wrong l D cy ht St (1 : Int32) (Mo_at St) q1 hc) gV_X10_X10_wrong hd_X10_wrong ⟨Nat.le_of_ble_eq_true rfl, Nat.le_of_ble_eq_true rfl⟩ ⟨Nat.le_refl _, Nat.le_refl _⟩ (va_recv hK hP (ci := 6) (q0 := 0) rfl rfl) hP hD hS hl.1 (Nat.le_of_ble_eq_true rfl) dX10_ends_29 (fun H locs hP hD hS => ?_)
        have hP : va_P D vwCl (wMo ht cy q1) H := hP
        have hD : va_D A (wMo ht cy q1) := hD
        refine lv_aload_n hx hb dX10_ends_32 rfl (lv_at hl 0 rfl) ?_
        refine va_get (D := D) (ci := 6) (v := .int (Mo_failed q1)) (C := RX10) (T := TX10) (N := 41) hx hb hts in_X10 hown hK hP 0 rfl rfl 13 (by decide) (hts _ q6_58) (fun _ h9 => h9) rfl dX10_ends_33 ?_
        refine z_if_ne (tgt := 43) hx hb dX10_ends_36 (by decide) hf (fun hf => ?_) (fun hf => ?_)
        · refine lv_iconst (v := (0 : Int32)) hx hb dX10_ends_43 (by decide) ?_
          obtain rfl := Option.some.inj hf
          exact z_zret (v := (0 : Int32)) C rfl hP hD hS dX10_ends_44
        · refine lv_iconst (v := (1 : Int32)) hx hb dX10_ends_39 (by decide) ?_
          refine lv_goto (tgt := 44) hx hb dX10_ends_40 (by decide) ?_
          obtain rfl := Option.some.inj hf
          exact z_zret (v := (1 : Int32)) C rfl hP hD hS dX10_ends_44
def f_X10_mayRefuse (St : SMo) (x1 : Int32) : Option (SMo) :=
  (if x1 = 0 then
    some St
    else
    (f_X10_wrong St (8 : Int32) (Mo_at St)).bind (fun q1 =>
      some q1))
set_option maxHeartbeats 4000000 in
set_option maxRecDepth 100000 in
theorem c_X10_mayRefuse (l : Launch) (D : va_G) (cy : Nat → ClassId) (ht : Nat → Nat) (St : SMo) (x1 : Int32) (r : SMo) (hf : f_X10_mayRefuse St x1 = some r) : zCV l yX10_mayRefuse cX10_mayRefuse 2 none 1 22 D (zty cy) [.ref (ht 0), .int x1] (wMo ht cy St) (wMo ht cy r) := by
  refine zCV_of (by decide +kernel) (Nat.le_of_ble_eq_true rfl) ?_
  intro p e s m below meth c A ls C hP hD hS hl
  generalize hargs : ([.ref (ht 0), .int x1] : List Value).toArray = args at C ⊢
  have C : zX p s m meth c cX10_mayRefuse 2 args RX10 none A D (zty cy) := C
  obtain ⟨hx, hb, hr, hts, hown, hlocks, hml, hA, hK⟩ := id C
  have hl : lv_has ls 2 [(0, .ref (ht 0)), (1, .int x1)] := hl
  generalize hH : s.heap = H at hP ⊢
  have hS : va_S A s.heap H [] := by rw [← hH]; exact hS
  generalize ([] : List Loc) = locs at hS ⊢
  refine lv_iload_n hx hb dX10_mayRefuse_0 rfl (lv_at hl 1 rfl) ?_
  refine z_if_eq (tgt := 14) hx hb dX10_mayRefuse_1 (by decide) hf (fun hf => ?_) (fun hf => ?_)
  · obtain rfl := Option.some.inj hf
    exact z_vret C hP hD hS dX10_mayRefuse_14
  · refine lv_aload_n hx hb dX10_mayRefuse_4 rfl (lv_at hl 0 rfl) ?_
    refine lv_bipush (v := (8 : Int32)) hx hb dX10_mayRefuse_5 (by decide) ?_
    refine lv_aload_n hx hb dX10_mayRefuse_7 rfl (lv_at hl 0 rfl) ?_
    refine va_get (D := D) (ci := 6) (v := .int (Mo_at St)) (C := RX10) (T := TX10) (N := 41) hx hb hts in_X10 hown hK hP 0 rfl rfl 4 (by decide) (hts _ q6_49) (fun _ h9 => h9) rfl dX10_mayRefuse_8 ?_
    obtain ⟨q1, hc, hf⟩ := zbd hf
    refine z_cVv0 (As := [.int (8 : Int32), .int (Mo_at St)]) (rest := []) C (c_X10_wrong l D cy ht St (8 : Int32) (Mo_at St) q1 hc) gV_X10_X10_wrong hd_X10_wrong ⟨Nat.le_of_ble_eq_true rfl, Nat.le_of_ble_eq_true rfl⟩ ⟨Nat.le_refl _, Nat.le_refl _⟩ (va_recv hK hP (ci := 6) (q0 := 0) rfl rfl) hP hD hS hl.1 (Nat.le_of_ble_eq_true rfl) dX10_mayRefuse_11 (fun H locs hP hD hS => ?_)
    have hP : va_P D vwCl (wMo ht cy q1) H := hP
    have hD : va_D A (wMo ht cy q1) := hD
    obtain rfl := Option.some.inj hf
    exact z_vret C hP hD hS dX10_mayRefuse_14
def f_X10_allLine (St : SMo) (St_letters : Nat → Int32) (St_marked : Nat → Int32) (St_read : Nat → Int32) (St_tape : Nat → Int32) (x1 : Int32) : Option (SMo × (Nat → Int32) × (Nat → Int32) × (Nat → Int32)) :=
  (f_X10_step St St_letters St_tape).bind (fun q1 =>
    (f_X10_ends q1.1).bind (fun q2 =>
      (if q2.1 = 0 then
        some (q2.2, q1.2, St_marked, St_read)
        else
        (if x1 = 0 then
          (f_X10_freezeOn q2.2 St_marked St_read).bind (fun q3 =>
            (if q3.1 = 0 then
              (f_X10_mayRefuse q2.2 (1 : Int32)).bind (fun q5 =>
                some (q5, q1.2, q3.2.1, q3.2.2))
              else
              (f_X10_mayRefuse q2.2 (0 : Int32)).bind (fun q4 =>
                some (q4, q1.2, q3.2.1, q3.2.2))))
          else
          (f_X10_clearOn q2.2 St_marked St_read).bind (fun q6 =>
            (if q6.1 = 0 then
              (f_X10_mayRefuse q2.2 (1 : Int32)).bind (fun q8 =>
                some (q8, q1.2, q6.2.1, q6.2.2))
              else
              (f_X10_mayRefuse q2.2 (0 : Int32)).bind (fun q7 =>
                some (q7, q1.2, q6.2.1, q6.2.2))))))))
set_option maxHeartbeats 4000000 in
set_option maxRecDepth 100000 in
theorem c_X10_allLine (l : Launch) (D : va_G) (cy : Nat → ClassId) (ht : Nat → Nat) (St : SMo) (St_letters : Nat → Int32) (St_marked : Nat → Int32) (St_read : Nat → Int32) (St_tape : Nat → Int32) (x1 : Int32) (r : SMo × (Nat → Int32) × (Nat → Int32) × (Nat → Int32)) (hf : f_X10_allLine St St_letters St_marked St_read St_tape x1 = some r) : zCV l yX10_allLine cX10_allLine 2 none 6 138 D (zty cy) [.ref (ht 0), .int x1] (wMo ht cy St ++ (wAI (fun _ => ht 2) cy 8 St_letters ++ (wAI (fun _ => ht 13) cy 48 St_marked ++ (wAI (fun _ => ht 6) cy 325 St_read ++ (wAI (fun _ => ht 1) cy 900 St_tape))))) (wMo ht cy r.1 ++ (wAI (fun _ => ht 2) cy 8 r.2.1 ++ (wAI (fun _ => ht 13) cy 48 r.2.2.1 ++ (wAI (fun _ => ht 6) cy 325 r.2.2.2 ++ (wAI (fun _ => ht 1) cy 900 St_tape))))) := by
  refine zCV_of (by decide +kernel) (Nat.le_of_ble_eq_true rfl) ?_
  intro p e s m below meth c A ls C hP hD hS hl
  generalize hargs : ([.ref (ht 0), .int x1] : List Value).toArray = args at C ⊢
  have C : zX p s m meth c cX10_allLine 2 args RX10 none A D (zty cy) := C
  obtain ⟨hx, hb, hr, hts, hown, hlocks, hml, hA, hK⟩ := id C
  have hl : lv_has ls 2 [(0, .ref (ht 0)), (1, .int x1)] := hl
  generalize hH : s.heap = H at hP ⊢
  have hS : va_S A s.heap H [] := by rw [← hH]; exact hS
  generalize ([] : List Loc) = locs at hS ⊢
  refine lv_aload_n hx hb dX10_allLine_0 rfl (lv_at hl 0 rfl) ?_
  obtain ⟨q1, hc, hf⟩ := zbd hf
  refine z_cVv (As := []) (rest := []) C (c_X10_step l D cy ht St St_letters St_tape q1 hc) gV_X10_X10_step hd_X10_step ⟨Nat.le_of_ble_eq_true rfl, Nat.le_of_ble_eq_true rfl⟩ ⟨Nat.le_refl _, Nat.le_refl _⟩ (va_recv hK hP (ci := 6) (q0 := 0) rfl rfl) hP hD hS (w2 := wMo ht cy q1.1 ++ (wAI (fun _ => ht 2) cy 8 q1.2 ++ (wAI (fun _ => ht 13) cy 48 St_marked ++ (wAI (fun _ => ht 6) cy 325 St_read ++ (wAI (fun _ => ht 1) cy 900 St_tape))))) [0, 1, 4] [2, 3] [2, 3, 0, 1, 4] rfl rfl rfl rfl rfl rfl (by decide) hl.1 (Nat.le_of_ble_eq_true rfl) dX10_allLine_1 (fun H locs hP hD hS => ?_)
  refine lv_aload_n hx hb dX10_allLine_4 rfl (lv_at hl 0 rfl) ?_
  obtain ⟨q2, hc, hf⟩ := zbd hf
  refine z_cVi (As := []) (rest := []) C (c_X10_ends l D cy ht q1.1 q2 hc) gV_X10_X10_ends hd_X10_ends ⟨Nat.le_of_ble_eq_true rfl, Nat.le_of_ble_eq_true rfl⟩ ⟨Nat.le_refl _, Nat.le_refl _⟩ (va_recv hK hP (ci := 6) (q0 := 0) rfl rfl) hP hD hS (w2 := wMo ht cy q2.2 ++ (wAI (fun _ => ht 2) cy 8 q1.2 ++ (wAI (fun _ => ht 13) cy 48 St_marked ++ (wAI (fun _ => ht 6) cy 325 St_read ++ (wAI (fun _ => ht 1) cy 900 St_tape))))) [0] [1, 2, 3, 4] [4, 0, 1, 2, 3] rfl rfl rfl rfl rfl rfl (by decide) hl.1 (Nat.le_of_ble_eq_true rfl) dX10_allLine_5 (fun H locs hP hD hS => ?_)
  refine z_if_ne (tgt := 12) hx hb dX10_allLine_8 (by decide) hf (fun hf => ?_) (fun hf => ?_)
  · refine lv_aload_n hx hb dX10_allLine_12 rfl (lv_at hl 0 rfl) ?_
    refine lv_iload_n hx hb dX10_allLine_13 rfl (lv_at hl 1 rfl) ?_
    refine z_if_eq (tgt := 28) hx hb dX10_allLine_14 (by decide) hf (fun hf => ?_) (fun hf => ?_)
    · refine lv_aload_n hx hb dX10_allLine_28 rfl (lv_at hl 0 rfl) ?_
      refine lv_aload_n hx hb dX10_allLine_29 rfl (lv_at hl 0 rfl) ?_
      refine va_get (D := D) (ci := 6) (v := .ref (ht 6)) (C := RX10) (T := TX10) (N := 41) hx hb hts in_X10 hown hK hP 0 rfl rfl 18 (by decide) (hts _ q6_63) (fun _ h9 => h9) rfl dX10_allLine_30 ?_
      obtain ⟨q3, hc, hf⟩ := zbd hf
      refine z_cVi (As := [.ref (ht 6)]) (rest := [.ref (ht 0)]) C (c_X10_freezeOn l D cy ht (fun _ => ht 6) q2.2 St_marked St_read q3 hc) gV_X10_X10_freezeOn hd_X10_freezeOn ⟨Nat.le_of_ble_eq_true rfl, Nat.le_of_ble_eq_true rfl⟩ ⟨Nat.le_refl _, Nat.le_refl _⟩ (va_recv hK hP (ci := 6) (q0 := 0) rfl rfl) hP hD hS (w2 := wMo ht cy q2.2 ++ (wAI (fun _ => ht 2) cy 8 q1.2 ++ (wAI (fun _ => ht 13) cy 48 q3.2.1 ++ (wAI (fun _ => ht 6) cy 325 q3.2.2 ++ (wAI (fun _ => ht 1) cy 900 St_tape))))) [0, 2, 3] [1, 4] [2, 0, 3, 4, 1] rfl rfl rfl rfl rfl rfl (by decide) hl.1 (Nat.le_of_ble_eq_true rfl) dX10_allLine_33 (fun H locs hP hD hS => ?_)
      refine z_if_ne (tgt := 43) hx hb dX10_allLine_36 (by decide) hf (fun hf => ?_) (fun hf => ?_)
      · refine lv_iconst (v := (0 : Int32)) hx hb dX10_allLine_43 (by decide) ?_
        obtain ⟨q4, hc, hf⟩ := zbd hf
        refine z_cVv (As := [.int (0 : Int32)]) (rest := []) C (c_X10_mayRefuse l D cy ht q2.2 (0 : Int32) q4 hc) gV_X10_X10_mayRefuse hd_X10_mayRefuse ⟨Nat.le_of_ble_eq_true rfl, Nat.le_of_ble_eq_true rfl⟩ ⟨Nat.le_refl _, Nat.le_refl _⟩ (va_recv hK hP (ci := 6) (q0 := 0) rfl rfl) hP hD hS (w2 := wMo ht cy q4 ++ (wAI (fun _ => ht 2) cy 8 q1.2 ++ (wAI (fun _ => ht 13) cy 48 q3.2.1 ++ (wAI (fun _ => ht 6) cy 325 q3.2.2 ++ (wAI (fun _ => ht 1) cy 900 St_tape))))) [0] [1, 2, 3, 4] [4, 0, 1, 2, 3] rfl rfl rfl rfl rfl rfl (by decide) hl.1 (Nat.le_of_ble_eq_true rfl) dX10_allLine_44 (fun H locs hP hD hS => ?_)
        obtain rfl := Option.some.inj hf
        exact z_vret C hP hD hS dX10_allLine_47
      · refine lv_iconst (v := (1 : Int32)) hx hb dX10_allLine_39 (by decide) ?_
        refine lv_goto (tgt := 44) hx hb dX10_allLine_40 (by decide) ?_
        obtain ⟨q5, hc, hf⟩ := zbd hf
        refine z_cVv (As := [.int (1 : Int32)]) (rest := []) C (c_X10_mayRefuse l D cy ht q2.2 (1 : Int32) q5 hc) gV_X10_X10_mayRefuse hd_X10_mayRefuse ⟨Nat.le_of_ble_eq_true rfl, Nat.le_of_ble_eq_true rfl⟩ ⟨Nat.le_refl _, Nat.le_refl _⟩ (va_recv hK hP (ci := 6) (q0 := 0) rfl rfl) hP hD hS (w2 := wMo ht cy q5 ++ (wAI (fun _ => ht 2) cy 8 q1.2 ++ (wAI (fun _ => ht 13) cy 48 q3.2.1 ++ (wAI (fun _ => ht 6) cy 325 q3.2.2 ++ (wAI (fun _ => ht 1) cy 900 St_tape))))) [0] [1, 2, 3, 4] [4, 0, 1, 2, 3] rfl rfl rfl rfl rfl rfl (by decide) hl.1 (Nat.le_of_ble_eq_true rfl) dX10_allLine_44 (fun H locs hP hD hS => ?_)
        obtain rfl := Option.some.inj hf
        exact z_vret C hP hD hS dX10_allLine_47
    · refine lv_aload_n hx hb dX10_allLine_17 rfl (lv_at hl 0 rfl) ?_
      refine lv_aload_n hx hb dX10_allLine_18 rfl (lv_at hl 0 rfl) ?_
      refine va_get (D := D) (ci := 6) (v := .ref (ht 6)) (C := RX10) (T := TX10) (N := 41) hx hb hts in_X10 hown hK hP 0 rfl rfl 18 (by decide) (hts _ q6_63) (fun _ h9 => h9) rfl dX10_allLine_19 ?_
      obtain ⟨q6, hc, hf⟩ := zbd hf
      refine z_cVi (As := [.ref (ht 6)]) (rest := [.ref (ht 0)]) C (c_X10_clearOn l D cy ht (fun _ => ht 6) q2.2 St_marked St_read q6 hc) gV_X10_X10_clearOn hd_X10_clearOn ⟨Nat.le_of_ble_eq_true rfl, Nat.le_of_ble_eq_true rfl⟩ ⟨Nat.le_refl _, Nat.le_refl _⟩ (va_recv hK hP (ci := 6) (q0 := 0) rfl rfl) hP hD hS (w2 := wMo ht cy q2.2 ++ (wAI (fun _ => ht 2) cy 8 q1.2 ++ (wAI (fun _ => ht 13) cy 48 q6.2.1 ++ (wAI (fun _ => ht 6) cy 325 q6.2.2 ++ (wAI (fun _ => ht 1) cy 900 St_tape))))) [0, 2, 3] [1, 4] [2, 0, 3, 4, 1] rfl rfl rfl rfl rfl rfl (by decide) hl.1 (Nat.le_of_ble_eq_true rfl) dX10_allLine_22 (fun H locs hP hD hS => ?_)
      refine lv_goto (tgt := 36) hx hb dX10_allLine_25 (by decide) ?_
      refine z_if_ne (tgt := 43) hx hb dX10_allLine_36 (by decide) hf (fun hf => ?_) (fun hf => ?_)
      · refine lv_iconst (v := (0 : Int32)) hx hb dX10_allLine_43 (by decide) ?_
        obtain ⟨q7, hc, hf⟩ := zbd hf
        refine z_cVv (As := [.int (0 : Int32)]) (rest := []) C (c_X10_mayRefuse l D cy ht q2.2 (0 : Int32) q7 hc) gV_X10_X10_mayRefuse hd_X10_mayRefuse ⟨Nat.le_of_ble_eq_true rfl, Nat.le_of_ble_eq_true rfl⟩ ⟨Nat.le_refl _, Nat.le_refl _⟩ (va_recv hK hP (ci := 6) (q0 := 0) rfl rfl) hP hD hS (w2 := wMo ht cy q7 ++ (wAI (fun _ => ht 2) cy 8 q1.2 ++ (wAI (fun _ => ht 13) cy 48 q6.2.1 ++ (wAI (fun _ => ht 6) cy 325 q6.2.2 ++ (wAI (fun _ => ht 1) cy 900 St_tape))))) [0] [1, 2, 3, 4] [4, 0, 1, 2, 3] rfl rfl rfl rfl rfl rfl (by decide) hl.1 (Nat.le_of_ble_eq_true rfl) dX10_allLine_44 (fun H locs hP hD hS => ?_)
        obtain rfl := Option.some.inj hf
        exact z_vret C hP hD hS dX10_allLine_47
      · refine lv_iconst (v := (1 : Int32)) hx hb dX10_allLine_39 (by decide) ?_
        refine lv_goto (tgt := 44) hx hb dX10_allLine_40 (by decide) ?_
        obtain ⟨q8, hc, hf⟩ := zbd hf
        refine z_cVv (As := [.int (1 : Int32)]) (rest := []) C (c_X10_mayRefuse l D cy ht q2.2 (1 : Int32) q8 hc) gV_X10_X10_mayRefuse hd_X10_mayRefuse ⟨Nat.le_of_ble_eq_true rfl, Nat.le_of_ble_eq_true rfl⟩ ⟨Nat.le_refl _, Nat.le_refl _⟩ (va_recv hK hP (ci := 6) (q0 := 0) rfl rfl) hP hD hS (w2 := wMo ht cy q8 ++ (wAI (fun _ => ht 2) cy 8 q1.2 ++ (wAI (fun _ => ht 13) cy 48 q6.2.1 ++ (wAI (fun _ => ht 6) cy 325 q6.2.2 ++ (wAI (fun _ => ht 1) cy 900 St_tape))))) [0] [1, 2, 3, 4] [4, 0, 1, 2, 3] rfl rfl rfl rfl rfl rfl (by decide) hl.1 (Nat.le_of_ble_eq_true rfl) dX10_allLine_44 (fun H locs hP hD hS => ?_)
        obtain rfl := Option.some.inj hf
        exact z_vret C hP hD hS dX10_allLine_47
  · obtain rfl := Option.some.inj hf
    exact z_vret C hP hD hS dX10_allLine_11
def f_X10_fault (St : SMo) : Option (Int32 × SMo) :=
  some ((Mo_fault St), (mkMo (0 : Int32) (Mo_taped St) (Mo_size St) (Mo_at St) (Mo_end St) (Mo_token St) (Mo_whole St) (Mo_nameSize St) (Mo_fault St) (Mo_place St) (Mo_trouble St) (Mo_failed St) (Mo_hasStore St) (Mo_undos St) (Mo_images St) (Mo_ring St) (Mo_refused St) (Mo_setMany St) (Mo_someOf St) (Mo_allOf St) (Mo_firstRest St) (Mo_allWeight St) (Mo_seenWeight St) (Mo_sumWeight St)))
set_option maxHeartbeats 4000000 in
set_option maxRecDepth 100000 in
theorem c_X10_fault (l : Launch) (D : va_G) (cy : Nat → ClassId) (ht : Nat → Nat) (St : SMo) (r : Int32 × SMo) (hf : f_X10_fault St = some r) : zCI l yX10_fault cX10_fault 1 (some FieldType.int) 0 0 D (zty cy) [.ref (ht 0)] (wMo ht cy St) (wMo ht cy r.2) r.1 := by
  refine zCI_of (by decide +kernel) (Nat.le_of_ble_eq_true rfl) ?_
  intro p e s m below meth c A ls C hP hD hS hl
  generalize hargs : ([.ref (ht 0)] : List Value).toArray = args at C ⊢
  have C : zX p s m meth c cX10_fault 1 args RX10 (some FieldType.int) A D (zty cy) := C
  obtain ⟨hx, hb, hr, hts, hown, hlocks, hml, hA, hK⟩ := id C
  have hl : lv_has ls 1 [(0, .ref (ht 0))] := hl
  generalize hH : s.heap = H at hP ⊢
  have hS : va_S A s.heap H [] := by rw [← hH]; exact hS
  generalize ([] : List Loc) = locs at hS ⊢
  refine lv_aload_n hx hb dX10_fault_0 rfl (lv_at hl 0 rfl) ?_
  refine lv_iconst (v := (0 : Int32)) hx hb dX10_fault_1 (by decide) ?_
  refine z_put (w2 := vMo ht cy (0 : Int32) (Mo_taped St) (Mo_size St) (Mo_at St) (Mo_end St) (Mo_token St) (Mo_whole St) (Mo_nameSize St) (Mo_fault St) (Mo_place St) (Mo_trouble St) (Mo_failed St) (Mo_hasStore St) (Mo_undos St) (Mo_images St) (Mo_ring St) (Mo_refused St) (Mo_setMany St) (Mo_someOf St) (Mo_allOf St) (Mo_firstRest St) (Mo_allWeight St) (Mo_seenWeight St) (Mo_sumWeight St)) hx hb hts in_X10 tyX10 tyX10_ok nmX10 hown hK hP hD hS 0 rfl rfl 0 (by decide) (hts _ q6_45) (fun _ h9 => h9) rfl rfl rfl (Nat.le_of_ble_eq_true rfl) dX10_fault_2 rfl (fun H locs hP hD hS => ?_)
  refine lv_aload_n hx hb dX10_fault_5 rfl (lv_at hl 0 rfl) ?_
  refine va_get (D := D) (ci := 6) (v := .int (Mo_fault St)) (C := RX10) (T := TX10) (N := 41) hx hb hts in_X10 hown hK hP 0 rfl rfl 9 (by decide) (hts _ q6_54) (fun _ h9 => h9) rfl dX10_fault_6 ?_
  obtain rfl := Option.some.inj hf
  rw [← wMo_mk ht] at hP hD
  exact z_iret (v := (Mo_fault St)) C hP hD hS dX10_fault_9
def f_X10_where (St : SMo) : Option (Int32 × SMo) :=
  (if (Mo_trouble St) = (4 : Int32) then
    some ((Mo_place St), (mkMo (0 : Int32) (Mo_taped St) (Mo_size St) (Mo_at St) (Mo_end St) (Mo_token St) (Mo_whole St) (Mo_nameSize St) (Mo_fault St) (Mo_place St) (Mo_trouble St) (Mo_failed St) (Mo_hasStore St) (Mo_undos St) (Mo_images St) (Mo_ring St) (Mo_refused St) (Mo_setMany St) (Mo_someOf St) (Mo_allOf St) (Mo_firstRest St) (Mo_allWeight St) (Mo_seenWeight St) (Mo_sumWeight St)))
    else
    some ((-1 : Int32), (mkMo (0 : Int32) (Mo_taped St) (Mo_size St) (Mo_at St) (Mo_end St) (Mo_token St) (Mo_whole St) (Mo_nameSize St) (Mo_fault St) (Mo_place St) (Mo_trouble St) (Mo_failed St) (Mo_hasStore St) (Mo_undos St) (Mo_images St) (Mo_ring St) (Mo_refused St) (Mo_setMany St) (Mo_someOf St) (Mo_allOf St) (Mo_firstRest St) (Mo_allWeight St) (Mo_seenWeight St) (Mo_sumWeight St))))
set_option maxHeartbeats 4000000 in
set_option maxRecDepth 100000 in
theorem c_X10_where (l : Launch) (D : va_G) (cy : Nat → ClassId) (ht : Nat → Nat) (St : SMo) (r : Int32 × SMo) (hf : f_X10_where St = some r) : zCI l yX10_where cX10_where 1 (some FieldType.int) 0 0 D (zty cy) [.ref (ht 0)] (wMo ht cy St) (wMo ht cy r.2) r.1 := by
  refine zCI_of (by decide +kernel) (Nat.le_of_ble_eq_true rfl) ?_
  intro p e s m below meth c A ls C hP hD hS hl
  generalize hargs : ([.ref (ht 0)] : List Value).toArray = args at C ⊢
  have C : zX p s m meth c cX10_where 1 args RX10 (some FieldType.int) A D (zty cy) := C
  obtain ⟨hx, hb, hr, hts, hown, hlocks, hml, hA, hK⟩ := id C
  have hl : lv_has ls 1 [(0, .ref (ht 0))] := hl
  generalize hH : s.heap = H at hP ⊢
  have hS : va_S A s.heap H [] := by rw [← hH]; exact hS
  generalize ([] : List Loc) = locs at hS ⊢
  refine lv_aload_n hx hb dX10_where_0 rfl (lv_at hl 0 rfl) ?_
  refine lv_iconst (v := (0 : Int32)) hx hb dX10_where_1 (by decide) ?_
  refine z_put (w2 := vMo ht cy (0 : Int32) (Mo_taped St) (Mo_size St) (Mo_at St) (Mo_end St) (Mo_token St) (Mo_whole St) (Mo_nameSize St) (Mo_fault St) (Mo_place St) (Mo_trouble St) (Mo_failed St) (Mo_hasStore St) (Mo_undos St) (Mo_images St) (Mo_ring St) (Mo_refused St) (Mo_setMany St) (Mo_someOf St) (Mo_allOf St) (Mo_firstRest St) (Mo_allWeight St) (Mo_seenWeight St) (Mo_sumWeight St)) hx hb hts in_X10 tyX10 tyX10_ok nmX10 hown hK hP hD hS 0 rfl rfl 0 (by decide) (hts _ q6_45) (fun _ h9 => h9) rfl rfl rfl (Nat.le_of_ble_eq_true rfl) dX10_where_2 rfl (fun H locs hP hD hS => ?_)
  refine lv_aload_n hx hb dX10_where_5 rfl (lv_at hl 0 rfl) ?_
  refine va_get (D := D) (ci := 6) (v := .int (Mo_trouble St)) (C := RX10) (T := TX10) (N := 41) hx hb hts in_X10 hown hK hP 0 rfl rfl 11 (by decide) (hts _ q6_56) (fun _ h9 => h9) rfl dX10_where_6 ?_
  refine lv_iconst (v := (4 : Int32)) hx hb dX10_where_9 (by decide) ?_
  refine z_icmp_ne (tgt := 20) hx hb dX10_where_10 (by decide) hf (fun hf => ?_) (fun hf => ?_)
  · refine lv_iconst (v := (-1 : Int32)) hx hb dX10_where_20 (by decide) ?_
    obtain rfl := Option.some.inj hf
    rw [← wMo_mk ht] at hP hD
    exact z_iret (v := (-1 : Int32)) C hP hD hS dX10_where_21
  · refine lv_aload_n hx hb dX10_where_13 rfl (lv_at hl 0 rfl) ?_
    refine va_get (D := D) (ci := 6) (v := .int (Mo_place St)) (C := RX10) (T := TX10) (N := 41) hx hb hts in_X10 hown hK hP 0 rfl rfl 10 (by decide) (hts _ q6_55) (fun _ h9 => h9) rfl dX10_where_14 ?_
    refine lv_goto (tgt := 21) hx hb dX10_where_17 (by decide) ?_
    obtain rfl := Option.some.inj hf
    rw [← wMo_mk ht] at hP hD
    exact z_iret (v := (Mo_place St)) C hP hD hS dX10_where_21
def f_X10_isSlot (St : SMo) (St_st : Nat → Int32) (x1 : Int32) : Option (Int32) :=
  (if (Mo_hasStore St) = 0 then
    some (0 : Int32)
    else
    (f_X10_in x1 (0 : Int32) (5 : Int32)).bind (fun q1 =>
      (if q1 = 0 then
        some (0 : Int32)
        else
        (f_X10_doesRun St_st x1).bind (fun q2 =>
          (if q2 = 0 then
            some (0 : Int32)
            else
            some (1 : Int32))))))
set_option maxHeartbeats 4000000 in
set_option maxRecDepth 100000 in
theorem c_X10_isSlot (l : Launch) (D : va_G) (cy : Nat → ClassId) (ht : Nat → Nat) (St : SMo) (St_st : Nat → Int32) (x1 : Int32) (r : Int32) (hf : f_X10_isSlot St St_st x1 = some r) : zCI l yX10_isSlot cX10_isSlot 2 (some FieldType.boolean) 1 22 D (zty cy) [.ref (ht 0), .int x1] (wMo ht cy St ++ (wAI (fun _ => ht 9) cy 325 St_st)) (wMo ht cy St ++ (wAI (fun _ => ht 9) cy 325 St_st)) r := by
  refine zCI_of (by decide +kernel) (Nat.le_of_ble_eq_true rfl) ?_
  intro p e s m below meth c A ls C hP hD hS hl
  generalize hargs : ([.ref (ht 0), .int x1] : List Value).toArray = args at C ⊢
  have C : zX p s m meth c cX10_isSlot 2 args RX10 (some FieldType.boolean) A D (zty cy) := C
  obtain ⟨hx, hb, hr, hts, hown, hlocks, hml, hA, hK⟩ := id C
  have hl : lv_has ls 2 [(0, .ref (ht 0)), (1, .int x1)] := hl
  generalize hH : s.heap = H at hP ⊢
  have hS : va_S A s.heap H [] := by rw [← hH]; exact hS
  generalize ([] : List Loc) = locs at hS ⊢
  refine lv_aload_n hx hb dX10_isSlot_0 rfl (lv_at hl 0 rfl) ?_
  refine va_get (D := D) (ci := 6) (v := .int (Mo_hasStore St)) (C := RX10) (T := TX10) (N := 41) hx hb hts in_X10 hown hK hP 0 rfl rfl 14 (by decide) (hts _ q6_59) (fun _ h9 => h9) rfl dX10_isSlot_1 ?_
  refine z_if_eq (tgt := 32) hx hb dX10_isSlot_4 (by decide) hf (fun hf => ?_) (fun hf => ?_)
  · refine lv_iconst (v := (0 : Int32)) hx hb dX10_isSlot_32 (by decide) ?_
    obtain rfl := Option.some.inj hf
    exact z_zret (v := (0 : Int32)) C rfl hP hD hS dX10_isSlot_33
  · refine lv_iload_n hx hb dX10_isSlot_7 rfl (lv_at hl 1 rfl) ?_
    refine lv_iconst (v := (0 : Int32)) hx hb dX10_isSlot_8 (by decide) ?_
    refine lv_iconst (v := (5 : Int32)) hx hb dX10_isSlot_9 (by decide) ?_
    obtain ⟨q1, hc, hf⟩ := zbd hf
    refine z_cSiE (As := [.int x1, .int (0 : Int32), .int (5 : Int32)]) (rest := []) C (c_X10_in l D cy x1 (0 : Int32) (5 : Int32) q1 hc) gS_X10_X10_in hd_X10_in ⟨Nat.le_of_ble_eq_true rfl, Nat.le_of_ble_eq_true rfl⟩ ⟨Nat.le_refl _, Nat.le_refl _⟩ hP hD hS hl.1 (Nat.le_of_ble_eq_true rfl) dX10_isSlot_10 (fun H locs hP hD hS => ?_)
    refine z_if_eq (tgt := 32) hx hb dX10_isSlot_13 (by decide) hf (fun hf => ?_) (fun hf => ?_)
    · refine lv_iconst (v := (0 : Int32)) hx hb dX10_isSlot_32 (by decide) ?_
      obtain rfl := Option.some.inj hf
      exact z_zret (v := (0 : Int32)) C rfl hP hD hS dX10_isSlot_33
    · refine lv_aload_n hx hb dX10_isSlot_16 rfl (lv_at hl 0 rfl) ?_
      refine lv_aload_n hx hb dX10_isSlot_17 rfl (lv_at hl 0 rfl) ?_
      refine va_get (D := D) (ci := 6) (v := .ref (ht 9)) (C := RX10) (T := TX10) (N := 41) hx hb hts in_X10 hown hK hP 0 rfl rfl 21 (by decide) (hts _ q6_66) (fun _ h9 => h9) rfl dX10_isSlot_18 ?_
      refine lv_iload_n hx hb dX10_isSlot_21 rfl (lv_at hl 1 rfl) ?_
      obtain ⟨q2, hc, hf⟩ := zbd hf
      refine z_cVi (As := [.ref (ht 9), .int x1]) (rest := []) C (c_X10_doesRun l D cy ht (fun _ => ht 9) St_st x1 q2 hc) gV_X10_X10_doesRun hd_X10_doesRun ⟨Nat.le_of_ble_eq_true rfl, Nat.le_of_ble_eq_true rfl⟩ ⟨Nat.le_refl _, Nat.le_refl _⟩ (va_recv hK hP (ci := 6) (q0 := 0) rfl rfl) hP hD hS (w2 := wMo ht cy St ++ (wAI (fun _ => ht 9) cy 325 St_st)) [1] [0] [0, 1] rfl rfl rfl rfl rfl rfl (by decide) hl.1 (Nat.le_of_ble_eq_true rfl) dX10_isSlot_22 (fun H locs hP hD hS => ?_)
      refine z_if_eq (tgt := 32) hx hb dX10_isSlot_25 (by decide) hf (fun hf => ?_) (fun hf => ?_)
      · refine lv_iconst (v := (0 : Int32)) hx hb dX10_isSlot_32 (by decide) ?_
        obtain rfl := Option.some.inj hf
        exact z_zret (v := (0 : Int32)) C rfl hP hD hS dX10_isSlot_33
      · refine lv_iconst (v := (1 : Int32)) hx hb dX10_isSlot_28 (by decide) ?_
        refine lv_goto (tgt := 33) hx hb dX10_isSlot_29 (by decide) ?_
        obtain rfl := Option.some.inj hf
        exact z_zret (v := (1 : Int32)) C rfl hP hD hS dX10_isSlot_33
def f_X10_isRow (St : SMo) (St_r : Nat → Int32) (x1 : Int32) : Option (Int32) :=
  (if (Mo_hasStore St) = 0 then
    some (0 : Int32)
    else
    (if zib (1 : Int32) 140 then (f_X10_in x1 (0 : Int32) ((St_r (1 : Int32).toNatClampNeg) - (1 : Int32))).bind (fun q1 =>
        (if q1 = 0 then
          some (0 : Int32)
          else
          some (1 : Int32))) else none))
set_option maxHeartbeats 4000000 in
set_option maxRecDepth 100000 in
theorem c_X10_isRow (l : Launch) (D : va_G) (cy : Nat → ClassId) (ht : Nat → Nat) (St : SMo) (St_r : Nat → Int32) (x1 : Int32) (r : Int32) (hf : f_X10_isRow St St_r x1 = some r) : zCI l yX10_isRow cX10_isRow 2 (some FieldType.boolean) 1 22 D (zty cy) [.ref (ht 0), .int x1] (wMo ht cy St ++ (wAI (fun _ => ht 3) cy 140 St_r)) (wMo ht cy St ++ (wAI (fun _ => ht 3) cy 140 St_r)) r := by
  refine zCI_of (by decide +kernel) (Nat.le_of_ble_eq_true rfl) ?_
  intro p e s m below meth c A ls C hP hD hS hl
  generalize hargs : ([.ref (ht 0), .int x1] : List Value).toArray = args at C ⊢
  have C : zX p s m meth c cX10_isRow 2 args RX10 (some FieldType.boolean) A D (zty cy) := C
  obtain ⟨hx, hb, hr, hts, hown, hlocks, hml, hA, hK⟩ := id C
  have hl : lv_has ls 2 [(0, .ref (ht 0)), (1, .int x1)] := hl
  generalize hH : s.heap = H at hP ⊢
  have hS : va_S A s.heap H [] := by rw [← hH]; exact hS
  generalize ([] : List Loc) = locs at hS ⊢
  refine lv_aload_n hx hb dX10_isRow_0 rfl (lv_at hl 0 rfl) ?_
  refine va_get (D := D) (ci := 6) (v := .int (Mo_hasStore St)) (C := RX10) (T := TX10) (N := 41) hx hb hts in_X10 hown hK hP 0 rfl rfl 14 (by decide) (hts _ q6_59) (fun _ h9 => h9) rfl dX10_isRow_1 ?_
  refine z_if_eq (tgt := 27) hx hb dX10_isRow_4 (by decide) hf (fun hf => ?_) (fun hf => ?_)
  · refine lv_iconst (v := (0 : Int32)) hx hb dX10_isRow_27 (by decide) ?_
    obtain rfl := Option.some.inj hf
    exact z_zret (v := (0 : Int32)) C rfl hP hD hS dX10_isRow_28
  · refine lv_iload_n hx hb dX10_isRow_7 rfl (lv_at hl 1 rfl) ?_
    refine lv_iconst (v := (0 : Int32)) hx hb dX10_isRow_8 (by decide) ?_
    refine lv_aload_n hx hb dX10_isRow_9 rfl (lv_at hl 0 rfl) ?_
    refine va_get (D := D) (ci := 6) (v := .ref (ht 3)) (C := RX10) (T := TX10) (N := 41) hx hb hts in_X10 hown hK hP 0 rfl rfl 15 (by decide) (hts _ q6_60) (fun _ h9 => h9) rfl dX10_isRow_10 ?_
    refine lv_iconst (v := (1 : Int32)) hx hb dX10_isRow_13 (by decide) ?_
    refine z_iald (f := St_r) hx hb hK hP 1 0 rfl rfl dX10_isRow_14 hf (fun hf => ?_)
    refine lv_iconst (v := (1 : Int32)) hx hb dX10_isRow_15 (by decide) ?_
    refine lv_isub hx hb dX10_isRow_16 ?_
    obtain ⟨q1, hc, hf⟩ := zbd hf
    refine z_cSiE (As := [.int x1, .int (0 : Int32), .int ((St_r (1 : Int32).toNatClampNeg) - (1 : Int32))]) (rest := []) C (c_X10_in l D cy x1 (0 : Int32) ((St_r (1 : Int32).toNatClampNeg) - (1 : Int32)) q1 hc) gS_X10_X10_in hd_X10_in ⟨Nat.le_of_ble_eq_true rfl, Nat.le_of_ble_eq_true rfl⟩ ⟨Nat.le_refl _, Nat.le_refl _⟩ hP hD hS hl.1 (Nat.le_of_ble_eq_true rfl) dX10_isRow_17 (fun H locs hP hD hS => ?_)
    refine z_if_eq (tgt := 27) hx hb dX10_isRow_20 (by decide) hf (fun hf => ?_) (fun hf => ?_)
    · refine lv_iconst (v := (0 : Int32)) hx hb dX10_isRow_27 (by decide) ?_
      obtain rfl := Option.some.inj hf
      exact z_zret (v := (0 : Int32)) C rfl hP hD hS dX10_isRow_28
    · refine lv_iconst (v := (1 : Int32)) hx hb dX10_isRow_23 (by decide) ?_
      refine lv_goto (tgt := 28) hx hb dX10_isRow_24 (by decide) ?_
      obtain rfl := Option.some.inj hf
      exact z_zret (v := (1 : Int32)) C rfl hP hD hS dX10_isRow_28
def f_X10_isVersion (St : SMo) (St_st : Nat → Int32) (x1 : Int32) : Option (Int32) :=
  (if (Mo_hasStore St) = 0 then
    some (0 : Int32)
    else
    (f_X10_in x1 (0 : Int32) (47 : Int32)).bind (fun q1 =>
      (if q1 = 0 then
        some (0 : Int32)
        else
        (if zib ((0 : Int32) + x1) 325 then (if (St_st ((0 : Int32) + x1).toNatClampNeg) ≤ 0 then
            some (0 : Int32)
            else
            some (1 : Int32)) else none))))
set_option maxHeartbeats 4000000 in
set_option maxRecDepth 100000 in
theorem c_X10_isVersion (l : Launch) (D : va_G) (cy : Nat → ClassId) (ht : Nat → Nat) (St : SMo) (St_st : Nat → Int32) (x1 : Int32) (r : Int32) (hf : f_X10_isVersion St St_st x1 = some r) : zCI l yX10_isVersion cX10_isVersion 2 (some FieldType.boolean) 1 22 D (zty cy) [.ref (ht 0), .int x1] (wMo ht cy St ++ (wAI (fun _ => ht 9) cy 325 St_st)) (wMo ht cy St ++ (wAI (fun _ => ht 9) cy 325 St_st)) r := by
  refine zCI_of (by decide +kernel) (Nat.le_of_ble_eq_true rfl) ?_
  intro p e s m below meth c A ls C hP hD hS hl
  generalize hargs : ([.ref (ht 0), .int x1] : List Value).toArray = args at C ⊢
  have C : zX p s m meth c cX10_isVersion 2 args RX10 (some FieldType.boolean) A D (zty cy) := C
  obtain ⟨hx, hb, hr, hts, hown, hlocks, hml, hA, hK⟩ := id C
  have hl : lv_has ls 2 [(0, .ref (ht 0)), (1, .int x1)] := hl
  generalize hH : s.heap = H at hP ⊢
  have hS : va_S A s.heap H [] := by rw [← hH]; exact hS
  generalize ([] : List Loc) = locs at hS ⊢
  refine lv_aload_n hx hb dX10_isVersion_0 rfl (lv_at hl 0 rfl) ?_
  refine va_get (D := D) (ci := 6) (v := .int (Mo_hasStore St)) (C := RX10) (T := TX10) (N := 41) hx hb hts in_X10 hown hK hP 0 rfl rfl 14 (by decide) (hts _ q6_59) (fun _ h9 => h9) rfl dX10_isVersion_1 ?_
  refine z_if_eq (tgt := 32) hx hb dX10_isVersion_4 (by decide) hf (fun hf => ?_) (fun hf => ?_)
  · refine lv_iconst (v := (0 : Int32)) hx hb dX10_isVersion_32 (by decide) ?_
    obtain rfl := Option.some.inj hf
    exact z_zret (v := (0 : Int32)) C rfl hP hD hS dX10_isVersion_33
  · refine lv_iload_n hx hb dX10_isVersion_7 rfl (lv_at hl 1 rfl) ?_
    refine lv_iconst (v := (0 : Int32)) hx hb dX10_isVersion_8 (by decide) ?_
    refine lv_bipush (v := (47 : Int32)) hx hb dX10_isVersion_9 (by decide) ?_
    obtain ⟨q1, hc, hf⟩ := zbd hf
    refine z_cSiE (As := [.int x1, .int (0 : Int32), .int (47 : Int32)]) (rest := []) C (c_X10_in l D cy x1 (0 : Int32) (47 : Int32) q1 hc) gS_X10_X10_in hd_X10_in ⟨Nat.le_of_ble_eq_true rfl, Nat.le_of_ble_eq_true rfl⟩ ⟨Nat.le_refl _, Nat.le_refl _⟩ hP hD hS hl.1 (Nat.le_of_ble_eq_true rfl) dX10_isVersion_11 (fun H locs hP hD hS => ?_)
    refine z_if_eq (tgt := 32) hx hb dX10_isVersion_14 (by decide) hf (fun hf => ?_) (fun hf => ?_)
    · refine lv_iconst (v := (0 : Int32)) hx hb dX10_isVersion_32 (by decide) ?_
      obtain rfl := Option.some.inj hf
      exact z_zret (v := (0 : Int32)) C rfl hP hD hS dX10_isVersion_33
    · refine lv_aload_n hx hb dX10_isVersion_17 rfl (lv_at hl 0 rfl) ?_
      refine va_get (D := D) (ci := 6) (v := .ref (ht 9)) (C := RX10) (T := TX10) (N := 41) hx hb hts in_X10 hown hK hP 0 rfl rfl 21 (by decide) (hts _ q6_66) (fun _ h9 => h9) rfl dX10_isVersion_18 ?_
      refine lv_iconst (v := (0 : Int32)) hx hb dX10_isVersion_21 (by decide) ?_
      refine lv_iload_n hx hb dX10_isVersion_22 rfl (lv_at hl 1 rfl) ?_
      refine lv_iadd hx hb dX10_isVersion_23 ?_
      refine z_iald (f := St_st) hx hb hK hP 1 0 rfl rfl dX10_isVersion_24 hf (fun hf => ?_)
      refine z_if_le (tgt := 32) hx hb dX10_isVersion_25 (by decide) hf (fun hf => ?_) (fun hf => ?_)
      · refine lv_iconst (v := (0 : Int32)) hx hb dX10_isVersion_32 (by decide) ?_
        obtain rfl := Option.some.inj hf
        exact z_zret (v := (0 : Int32)) C rfl hP hD hS dX10_isVersion_33
      · refine lv_iconst (v := (1 : Int32)) hx hb dX10_isVersion_28 (by decide) ?_
        refine lv_goto (tgt := 33) hx hb dX10_isVersion_29 (by decide) ?_
        obtain rfl := Option.some.inj hf
        exact z_zret (v := (1 : Int32)) C rfl hP hD hS dX10_isVersion_33
def f_X10_isStamp (St : SMo) (x1 : Int32) : Option (Int32) :=
  (f_X10_in x1 (0 : Int32) ((Mo_ring St) - (1 : Int32))).bind (fun q1 =>
    (if zbo q1 then some q1 else none))
set_option maxHeartbeats 4000000 in
set_option maxRecDepth 100000 in
theorem c_X10_isStamp (l : Launch) (D : va_G) (cy : Nat → ClassId) (ht : Nat → Nat) (St : SMo) (x1 : Int32) (r : Int32) (hf : f_X10_isStamp St x1 = some r) : zCI l yX10_isStamp cX10_isStamp 2 (some FieldType.boolean) 1 22 D (zty cy) [.ref (ht 0), .int x1] (wMo ht cy St) (wMo ht cy St) r := by
  refine zCI_of (by decide +kernel) (Nat.le_of_ble_eq_true rfl) ?_
  intro p e s m below meth c A ls C hP hD hS hl
  generalize hargs : ([.ref (ht 0), .int x1] : List Value).toArray = args at C ⊢
  have C : zX p s m meth c cX10_isStamp 2 args RX10 (some FieldType.boolean) A D (zty cy) := C
  obtain ⟨hx, hb, hr, hts, hown, hlocks, hml, hA, hK⟩ := id C
  have hl : lv_has ls 2 [(0, .ref (ht 0)), (1, .int x1)] := hl
  generalize hH : s.heap = H at hP ⊢
  have hS : va_S A s.heap H [] := by rw [← hH]; exact hS
  generalize ([] : List Loc) = locs at hS ⊢
  refine lv_iload_n hx hb dX10_isStamp_0 rfl (lv_at hl 1 rfl) ?_
  refine lv_iconst (v := (0 : Int32)) hx hb dX10_isStamp_1 (by decide) ?_
  refine lv_aload_n hx hb dX10_isStamp_2 rfl (lv_at hl 0 rfl) ?_
  refine va_get (D := D) (ci := 6) (v := .int (Mo_ring St)) (C := RX10) (T := TX10) (N := 41) hx hb hts in_X10 hown hK hP 0 rfl rfl 27 (by decide) (hts _ q6_72) (fun _ h9 => h9) rfl dX10_isStamp_3 ?_
  refine lv_iconst (v := (1 : Int32)) hx hb dX10_isStamp_6 (by decide) ?_
  refine lv_isub hx hb dX10_isStamp_7 ?_
  obtain ⟨q1, hc, hf⟩ := zbd hf
  refine z_cSiE (As := [.int x1, .int (0 : Int32), .int ((Mo_ring St) - (1 : Int32))]) (rest := []) C (c_X10_in l D cy x1 (0 : Int32) ((Mo_ring St) - (1 : Int32)) q1 hc) gS_X10_X10_in hd_X10_in ⟨Nat.le_of_ble_eq_true rfl, Nat.le_of_ble_eq_true rfl⟩ ⟨Nat.le_refl _, Nat.le_refl _⟩ hP hD hS hl.1 (Nat.le_of_ble_eq_true rfl) dX10_isStamp_8 (fun H locs hP hD hS => ?_)
  obtain ⟨hz, hf⟩ := zgd hf
  obtain rfl := Option.some.inj hf
  exact z_zret (v := q1) C (zbo_n hz) hP hD hS dX10_isStamp_11
def f_X10_why (x1 : Int32) (x2 : Int32) : Option (Int32) :=
  (if x1 = 0 then
    some (1 : Int32)
    else
    (if x2 = 0 then
      some (2 : Int32)
      else
      some (0 : Int32)))
set_option maxHeartbeats 4000000 in
set_option maxRecDepth 100000 in
theorem c_X10_why (l : Launch) (D : va_G) (cy : Nat → ClassId) (ht : Nat → Nat) (x1 : Int32) (x2 : Int32) (r : Int32) (hf : f_X10_why x1 x2 = some r) : zCI l yX10_why cX10_why 3 (some FieldType.int) 0 0 D (zty cy) [.ref (ht 0), .int x1, .int x2] ([]) ([]) r := by
  refine zCI_of (by decide +kernel) (Nat.le_of_ble_eq_true rfl) ?_
  intro p e s m below meth c A ls C hP hD hS hl
  generalize hargs : ([.ref (ht 0), .int x1, .int x2] : List Value).toArray = args at C ⊢
  have C : zX p s m meth c cX10_why 3 args RX10 (some FieldType.int) A D (zty cy) := C
  obtain ⟨hx, hb, hr, hts, hown, hlocks, hml, hA, hK⟩ := id C
  have hl : lv_has ls 3 [(0, .ref (ht 0)), (1, .int x1), (2, .int x2)] := hl
  generalize hH : s.heap = H at hP ⊢
  have hS : va_S A s.heap H [] := by rw [← hH]; exact hS
  generalize ([] : List Loc) = locs at hS ⊢
  refine lv_iload_n hx hb dX10_why_0 rfl (lv_at hl 1 rfl) ?_
  refine z_if_ne (tgt := 8) hx hb dX10_why_1 (by decide) hf (fun hf => ?_) (fun hf => ?_)
  · refine lv_iload_n hx hb dX10_why_8 rfl (lv_at hl 2 rfl) ?_
    refine z_if_eq (tgt := 16) hx hb dX10_why_9 (by decide) hf (fun hf => ?_) (fun hf => ?_)
    · refine lv_iconst (v := (2 : Int32)) hx hb dX10_why_16 (by decide) ?_
      obtain rfl := Option.some.inj hf
      exact z_iret (v := (2 : Int32)) C hP hD hS dX10_why_17
    · refine lv_iconst (v := (0 : Int32)) hx hb dX10_why_12 (by decide) ?_
      refine lv_goto (tgt := 17) hx hb dX10_why_13 (by decide) ?_
      obtain rfl := Option.some.inj hf
      exact z_iret (v := (0 : Int32)) C hP hD hS dX10_why_17
  · refine lv_iconst (v := (1 : Int32)) hx hb dX10_why_4 (by decide) ?_
    refine lv_goto (tgt := 17) hx hb dX10_why_5 (by decide) ?_
    obtain rfl := Option.some.inj hf
    exact z_iret (v := (1 : Int32)) C hP hD hS dX10_why_17
def f_X10_next (St : SMo) (St_st : Nat → Int32) : Option (Int32 × SMo) :=
  (f_X10_anew St).bind (fun q1 =>
    (if (Mo_hasStore q1) = 0 then
      (f_X10_no q1 (1 : Int32)).bind (fun q2 =>
        some (q2.1, q2.2))
      else
      (if zib (323 : Int32) 325 then some ((St_st (323 : Int32).toNatClampNeg), q1) else none)))
set_option maxHeartbeats 4000000 in
set_option maxRecDepth 100000 in
theorem c_X10_next (l : Launch) (D : va_G) (cy : Nat → ClassId) (ht : Nat → Nat) (St : SMo) (St_st : Nat → Int32) (r : Int32 × SMo) (hf : f_X10_next St St_st = some r) : zCI l yX10_next cX10_next 1 (some FieldType.int) 1 21 D (zty cy) [.ref (ht 0)] (wMo ht cy St ++ (wAI (fun _ => ht 9) cy 325 St_st)) (wMo ht cy r.2 ++ (wAI (fun _ => ht 9) cy 325 St_st)) r.1 := by
  refine zCI_of (by decide +kernel) (Nat.le_of_ble_eq_true rfl) ?_
  intro p e s m below meth c A ls C hP hD hS hl
  generalize hargs : ([.ref (ht 0)] : List Value).toArray = args at C ⊢
  have C : zX p s m meth c cX10_next 1 args RX10 (some FieldType.int) A D (zty cy) := C
  obtain ⟨hx, hb, hr, hts, hown, hlocks, hml, hA, hK⟩ := id C
  have hl : lv_has ls 1 [(0, .ref (ht 0))] := hl
  generalize hH : s.heap = H at hP ⊢
  have hS : va_S A s.heap H [] := by rw [← hH]; exact hS
  generalize ([] : List Loc) = locs at hS ⊢
  refine lv_aload_n hx hb dX10_next_0 rfl (lv_at hl 0 rfl) ?_
  obtain ⟨q1, hc, hf⟩ := zbd hf
  refine z_cVv (As := []) (rest := []) C (c_X10_anew l D cy ht St q1 hc) gV_X10_X10_anew hd_X10_anew ⟨Nat.le_of_ble_eq_true rfl, Nat.le_of_ble_eq_true rfl⟩ ⟨Nat.le_refl _, Nat.le_refl _⟩ (va_recv hK hP (ci := 6) (q0 := 0) rfl rfl) hP hD hS (w2 := wMo ht cy q1 ++ (wAI (fun _ => ht 9) cy 325 St_st)) [0] [1] [1, 0] rfl rfl rfl rfl rfl rfl (by decide) hl.1 (Nat.le_of_ble_eq_true rfl) dX10_next_1 (fun H locs hP hD hS => ?_)
  refine lv_aload_n hx hb dX10_next_4 rfl (lv_at hl 0 rfl) ?_
  refine va_get (D := D) (ci := 6) (v := .int (Mo_hasStore q1)) (C := RX10) (T := TX10) (N := 41) hx hb hts in_X10 hown hK hP 0 rfl rfl 14 (by decide) (hts _ q6_59) (fun _ h9 => h9) rfl dX10_next_5 ?_
  refine z_if_eq (tgt := 22) hx hb dX10_next_8 (by decide) hf (fun hf => ?_) (fun hf => ?_)
  · refine lv_aload_n hx hb dX10_next_22 rfl (lv_at hl 0 rfl) ?_
    refine lv_iconst (v := (1 : Int32)) hx hb dX10_next_23 (by decide) ?_
    obtain ⟨q2, hc, hf⟩ := zbd hf
    refine z_cVi (As := [.int (1 : Int32)]) (rest := []) C (c_X10_no l D cy ht q1 (1 : Int32) q2 hc) gV_X10_X10_no hd_X10_no ⟨Nat.le_of_ble_eq_true rfl, Nat.le_of_ble_eq_true rfl⟩ ⟨Nat.le_refl _, Nat.le_refl _⟩ (va_recv hK hP (ci := 6) (q0 := 0) rfl rfl) hP hD hS (w2 := wMo ht cy q2.2 ++ (wAI (fun _ => ht 9) cy 325 St_st)) [0] [1] [1, 0] rfl rfl rfl rfl rfl rfl (by decide) hl.1 (Nat.le_of_ble_eq_true rfl) dX10_next_24 (fun H locs hP hD hS => ?_)
    obtain rfl := Option.some.inj hf
    exact z_iret (v := q2.1) C hP hD hS dX10_next_27
  · refine lv_aload_n hx hb dX10_next_11 rfl (lv_at hl 0 rfl) ?_
    refine va_get (D := D) (ci := 6) (v := .ref (ht 9)) (C := RX10) (T := TX10) (N := 41) hx hb hts in_X10 hown hK hP 0 rfl rfl 21 (by decide) (hts _ q6_66) (fun _ h9 => h9) rfl dX10_next_12 ?_
    refine lv_sipush (v := (323 : Int32)) hx hb dX10_next_15 (by decide) ?_
    refine z_iald (f := St_st) hx hb hK hP 1 0 rfl rfl dX10_next_18 hf (fun hf => ?_)
    refine lv_goto (tgt := 27) hx hb dX10_next_19 (by decide) ?_
    obtain rfl := Option.some.inj hf
    exact z_iret (v := (St_st (323 : Int32).toNatClampNeg)) C hP hD hS dX10_next_27
def f_X10_age (St : SMo) (St_st : Nat → Int32) (x1 : Int32) : Option (Int32 × SMo) :=
  (f_X10_anew St).bind (fun q1 =>
    (f_X10_isStamp q1 x1).bind (fun q2 =>
      (f_X10_why (Mo_hasStore q1) q2).bind (fun q3 =>
        (if q3 = 0 then
          (f_X10_ageOf q1 St_st x1).bind (fun q4 =>
            some (q4, q1))
          else
          (f_X10_no q1 q3).bind (fun q5 =>
            some (q5.1, q5.2))))))
set_option maxHeartbeats 4000000 in
set_option maxRecDepth 100000 in
theorem c_X10_age (l : Launch) (D : va_G) (cy : Nat → ClassId) (ht : Nat → Nat) (St : SMo) (St_st : Nat → Int32) (x1 : Int32) (r : Int32 × SMo) (hf : f_X10_age St St_st x1 = some r) : zCI l yX10_age cX10_age 3 (some FieldType.int) 2 44 D (zty cy) [.ref (ht 0), .int x1] (wMo ht cy St ++ (wAI (fun _ => ht 9) cy 325 St_st)) (wMo ht cy r.2 ++ (wAI (fun _ => ht 9) cy 325 St_st)) r.1 := by
  refine zCI_of (by decide +kernel) (Nat.le_of_ble_eq_true rfl) ?_
  intro p e s m below meth c A ls C hP hD hS hl
  generalize hargs : ([.ref (ht 0), .int x1] : List Value).toArray = args at C ⊢
  have C : zX p s m meth c cX10_age 3 args RX10 (some FieldType.int) A D (zty cy) := C
  obtain ⟨hx, hb, hr, hts, hown, hlocks, hml, hA, hK⟩ := id C
  have hl : lv_has ls 3 [(0, .ref (ht 0)), (1, .int x1)] := hl
  generalize hH : s.heap = H at hP ⊢
  have hS : va_S A s.heap H [] := by rw [← hH]; exact hS
  generalize ([] : List Loc) = locs at hS ⊢
  refine lv_aload_n hx hb dX10_age_0 rfl (lv_at hl 0 rfl) ?_
  obtain ⟨q1, hc, hf⟩ := zbd hf
  refine z_cVv (As := []) (rest := []) C (c_X10_anew l D cy ht St q1 hc) gV_X10_X10_anew hd_X10_anew ⟨Nat.le_of_ble_eq_true rfl, Nat.le_of_ble_eq_true rfl⟩ ⟨Nat.le_refl _, Nat.le_refl _⟩ (va_recv hK hP (ci := 6) (q0 := 0) rfl rfl) hP hD hS (w2 := wMo ht cy q1 ++ (wAI (fun _ => ht 9) cy 325 St_st)) [0] [1] [1, 0] rfl rfl rfl rfl rfl rfl (by decide) hl.1 (Nat.le_of_ble_eq_true rfl) dX10_age_1 (fun H locs hP hD hS => ?_)
  refine lv_aload_n hx hb dX10_age_4 rfl (lv_at hl 0 rfl) ?_
  refine lv_aload_n hx hb dX10_age_5 rfl (lv_at hl 0 rfl) ?_
  refine va_get (D := D) (ci := 6) (v := .int (Mo_hasStore q1)) (C := RX10) (T := TX10) (N := 41) hx hb hts in_X10 hown hK hP 0 rfl rfl 14 (by decide) (hts _ q6_59) (fun _ h9 => h9) rfl dX10_age_6 ?_
  refine lv_aload_n hx hb dX10_age_9 rfl (lv_at hl 0 rfl) ?_
  refine lv_iload_n hx hb dX10_age_10 rfl (lv_at hl 1 rfl) ?_
  obtain ⟨q2, hc, hf⟩ := zbd hf
  refine z_cVi (As := [.int x1]) (rest := [.int (Mo_hasStore q1), .ref (ht 0)]) C (c_X10_isStamp l D cy ht q1 x1 q2 hc) gV_X10_X10_isStamp hd_X10_isStamp ⟨Nat.le_of_ble_eq_true rfl, Nat.le_of_ble_eq_true rfl⟩ ⟨Nat.le_refl _, Nat.le_refl _⟩ (va_recv hK hP (ci := 6) (q0 := 0) rfl rfl) hP hD hS (w2 := wMo ht cy q1 ++ (wAI (fun _ => ht 9) cy 325 St_st)) [0] [1] [1, 0] rfl rfl rfl rfl rfl rfl (by decide) hl.1 (Nat.le_of_ble_eq_true rfl) dX10_age_11 (fun H locs hP hD hS => ?_)
  obtain ⟨q3, hc, hf⟩ := zbd hf
  refine z_cVi (As := [.int (Mo_hasStore q1), .int q2]) (rest := []) C (c_X10_why l D cy ht (Mo_hasStore q1) q2 q3 hc) gV_X10_X10_why hd_X10_why ⟨Nat.le_of_ble_eq_true rfl, Nat.le_of_ble_eq_true rfl⟩ ⟨Nat.le_refl _, Nat.le_refl _⟩ (va_recv hK hP (ci := 6) (q0 := 0) rfl rfl) hP hD hS (w2 := wMo ht cy q1 ++ (wAI (fun _ => ht 9) cy 325 St_st)) [] [0, 1] [0, 1] rfl rfl rfl rfl rfl rfl (by decide) hl.1 (Nat.le_of_ble_eq_true rfl) dX10_age_14 (fun H locs hP hD hS => ?_)
  refine lv_istore_n (lv' := [(2, .int q3), (0, .ref (ht 0)), (1, .int x1)]) hx hb dX10_age_17 rfl hl (by decide) rfl (fun ls hl => ?_)
  refine lv_iload_n hx hb dX10_age_18 rfl (lv_at hl 0 rfl) ?_
  refine z_if_eq (tgt := 30) hx hb dX10_age_19 (by decide) hf (fun hf => ?_) (fun hf => ?_)
  · refine lv_aload_n hx hb dX10_age_30 rfl (lv_at hl 1 rfl) ?_
    refine lv_aload_n hx hb dX10_age_31 rfl (lv_at hl 1 rfl) ?_
    refine va_get (D := D) (ci := 6) (v := .ref (ht 9)) (C := RX10) (T := TX10) (N := 41) hx hb hts in_X10 hown hK hP 0 rfl rfl 21 (by decide) (hts _ q6_66) (fun _ h9 => h9) rfl dX10_age_32 ?_
    refine lv_iload_n hx hb dX10_age_35 rfl (lv_at hl 2 rfl) ?_
    obtain ⟨q4, hc, hf⟩ := zbd hf
    refine z_cVi0 (As := [.ref (ht 9), .int x1]) (rest := []) C (c_X10_ageOf l D cy ht (fun _ => ht 9) q1 St_st x1 q4 hc) gV_X10_X10_ageOf hd_X10_ageOf ⟨Nat.le_of_ble_eq_true rfl, Nat.le_of_ble_eq_true rfl⟩ ⟨Nat.le_refl _, Nat.le_refl _⟩ (va_recv hK hP (ci := 6) (q0 := 0) rfl rfl) hP hD hS hl.1 (Nat.le_of_ble_eq_true rfl) dX10_age_36 (fun H locs hP hD hS => ?_)
    have hP : va_P D vwCl (wMo ht cy q1 ++ (wAI (fun _ => ht 9) cy 325 St_st)) H := hP
    have hD : va_D A (wMo ht cy q1 ++ (wAI (fun _ => ht 9) cy 325 St_st)) := hD
    obtain rfl := Option.some.inj hf
    exact z_iret (v := q4) C hP hD hS dX10_age_39
  · refine lv_aload_n hx hb dX10_age_22 rfl (lv_at hl 1 rfl) ?_
    refine lv_iload_n hx hb dX10_age_23 rfl (lv_at hl 0 rfl) ?_
    obtain ⟨q5, hc, hf⟩ := zbd hf
    refine z_cVi (As := [.int q3]) (rest := []) C (c_X10_no l D cy ht q1 q3 q5 hc) gV_X10_X10_no hd_X10_no ⟨Nat.le_of_ble_eq_true rfl, Nat.le_of_ble_eq_true rfl⟩ ⟨Nat.le_refl _, Nat.le_refl _⟩ (va_recv hK hP (ci := 6) (q0 := 0) rfl rfl) hP hD hS (w2 := wMo ht cy q5.2 ++ (wAI (fun _ => ht 9) cy 325 St_st)) [0] [1] [1, 0] rfl rfl rfl rfl rfl rfl (by decide) hl.1 (Nat.le_of_ble_eq_true rfl) dX10_age_24 (fun H locs hP hD hS => ?_)
    refine lv_goto (tgt := 39) hx hb dX10_age_27 (by decide) ?_
    obtain rfl := Option.some.inj hf
    exact z_iret (v := q5.1) C hP hD hS dX10_age_39
def b_X10_older_30 (x1 : Int32) (x2 : Int32) (St : SMo) (u1 : Int32) (u2 : Int32) : Option (Int32 × SMo) :=
  (f_X10_why u1 u2).bind (fun q1 =>
    (if q1 = 0 then
      (f_X10_isOlder St x1 x2).bind (fun q2 =>
        (if q2 = 0 then
          some ((0 : Int32), St)
          else
          some ((1 : Int32), St)))
      else
      (f_X10_no St q1).bind (fun q3 =>
        some (q3.1, q3.2))))
set_option maxHeartbeats 4000000 in
set_option maxRecDepth 100000 in
theorem w_X10_older_30 {p : Program} {e : Env} {s : State} {m : MethodId} {below : List Frame} {meth : Method} {c : Code} {A : Nat → Prop} {D : va_G} {cy : Nat → ClassId} {args : Array Value} {r : Int32 × SMo} (l : Launch) (ht : Nat → Nat) (x1 : Int32) (x2 : Int32) (C : zX p s m meth c cX10_older 4 args RX10 (some FieldType.int) A D (zty cy)) :
    ∀ (St : SMo) (u1 : Int32) (u2 : Int32) (H : Heap) (locs : List Loc) (ls : Array Slot), b_X10_older_30 x1 x2 St u1 u2 = some r → va_P D vwCl (wMo ht cy St) H → va_D A (wMo ht cy St) → va_S A s.heap H locs → lv_has ls 4 [(0, .ref (ht 0)), (1, .int x1), (2, .int x2)] → W p l e (zRm 2 44) s m args below meth c H locs 0 0 (MQ below (zQI D (zty cy) A (wMo ht cy r.2) r.1) args s 0 0 A) (F0 m 30 ls [.int u2, .int u1, .ref (ht 0)]) := by
  obtain ⟨hx, hb, hr, hts, hown, hlocks, hml, hA, hK⟩ := id C
  intro St u1 u2 H locs ls hf hP hD hS hl
  obtain ⟨q1, hc, hf⟩ := zbd hf
  refine z_cVi (As := [.int u1, .int u2]) (rest := []) C (c_X10_why l D cy ht u1 u2 q1 hc) gV_X10_X10_why hd_X10_why ⟨Nat.le_of_ble_eq_true rfl, Nat.le_of_ble_eq_true rfl⟩ ⟨Nat.le_refl _, Nat.le_refl _⟩ (va_recv hK hP (ci := 6) (q0 := 0) rfl rfl) hP hD hS (w2 := wMo ht cy St) [] [0] [0] rfl rfl rfl rfl rfl rfl (by decide) hl.1 (Nat.le_of_ble_eq_true rfl) dX10_older_30 (fun H locs hP hD hS => ?_)
  refine lv_istore_n (lv' := [(3, .int q1), (0, .ref (ht 0)), (1, .int x1), (2, .int x2)]) hx hb dX10_older_33 rfl hl (by decide) rfl (fun ls hl => ?_)
  refine lv_iload_n hx hb dX10_older_34 rfl (lv_at hl 0 rfl) ?_
  refine z_if_eq (tgt := 44) hx hb dX10_older_35 (by decide) hf (fun hf => ?_) (fun hf => ?_)
  · refine lv_aload_n hx hb dX10_older_44 rfl (lv_at hl 1 rfl) ?_
    refine lv_iload_n hx hb dX10_older_45 rfl (lv_at hl 2 rfl) ?_
    refine lv_iload_n hx hb dX10_older_46 rfl (lv_at hl 3 rfl) ?_
    obtain ⟨q2, hc, hf⟩ := zbd hf
    refine z_cVi0 (As := [.int x1, .int x2]) (rest := []) C (c_X10_isOlder l D cy ht St x1 x2 q2 hc) gV_X10_X10_isOlder hd_X10_isOlder ⟨Nat.le_of_ble_eq_true rfl, Nat.le_of_ble_eq_true rfl⟩ ⟨Nat.le_refl _, Nat.le_refl _⟩ (va_recv hK hP (ci := 6) (q0 := 0) rfl rfl) hP hD hS hl.1 (Nat.le_of_ble_eq_true rfl) dX10_older_47 (fun H locs hP hD hS => ?_)
    have hP : va_P D vwCl (wMo ht cy St) H := hP
    have hD : va_D A (wMo ht cy St) := hD
    refine z_if_eq (tgt := 57) hx hb dX10_older_50 (by decide) hf (fun hf => ?_) (fun hf => ?_)
    · refine lv_iconst (v := (0 : Int32)) hx hb dX10_older_57 (by decide) ?_
      obtain rfl := Option.some.inj hf
      exact z_iret (v := (0 : Int32)) C hP hD hS dX10_older_58
    · refine lv_iconst (v := (1 : Int32)) hx hb dX10_older_53 (by decide) ?_
      refine lv_goto (tgt := 58) hx hb dX10_older_54 (by decide) ?_
      obtain rfl := Option.some.inj hf
      exact z_iret (v := (1 : Int32)) C hP hD hS dX10_older_58
  · refine lv_aload_n hx hb dX10_older_38 rfl (lv_at hl 1 rfl) ?_
    refine lv_iload_n hx hb dX10_older_39 rfl (lv_at hl 0 rfl) ?_
    obtain ⟨q3, hc, hf⟩ := zbd hf
    refine z_cVi0 (As := [.int q1]) (rest := []) C (c_X10_no l D cy ht St q1 q3 hc) gV_X10_X10_no hd_X10_no ⟨Nat.le_of_ble_eq_true rfl, Nat.le_of_ble_eq_true rfl⟩ ⟨Nat.le_refl _, Nat.le_refl _⟩ (va_recv hK hP (ci := 6) (q0 := 0) rfl rfl) hP hD hS hl.1 (Nat.le_of_ble_eq_true rfl) dX10_older_40 (fun H locs hP hD hS => ?_)
    have hP : va_P D vwCl (wMo ht cy q3.2) H := hP
    have hD : va_D A (wMo ht cy q3.2) := hD
    obtain rfl := Option.some.inj hf
    exact z_iret (v := q3.1) C hP hD hS dX10_older_43
def f_X10_older (St : SMo) (x1 : Int32) (x2 : Int32) : Option (Int32 × SMo) :=
  (f_X10_anew St).bind (fun q4 =>
    (f_X10_isStamp q4 x1).bind (fun q5 =>
      (if q5 = 0 then
        (b_X10_older_30 x1 x2 q4 (Mo_hasStore q4) (0 : Int32))
        else
        (f_X10_isStamp q4 x2).bind (fun q6 =>
          (if q6 = 0 then
            (b_X10_older_30 x1 x2 q4 (Mo_hasStore q4) (0 : Int32))
            else
            (b_X10_older_30 x1 x2 q4 (Mo_hasStore q4) (1 : Int32)))))))
set_option maxHeartbeats 4000000 in
set_option maxRecDepth 100000 in
theorem c_X10_older (l : Launch) (D : va_G) (cy : Nat → ClassId) (ht : Nat → Nat) (St : SMo) (x1 : Int32) (x2 : Int32) (r : Int32 × SMo) (hf : f_X10_older St x1 x2 = some r) : zCI l yX10_older cX10_older 4 (some FieldType.int) 2 44 D (zty cy) [.ref (ht 0), .int x1, .int x2] (wMo ht cy St) (wMo ht cy r.2) r.1 := by
  refine zCI_of (by decide +kernel) (Nat.le_of_ble_eq_true rfl) ?_
  intro p e s m below meth c A ls C hP hD hS hl
  generalize hargs : ([.ref (ht 0), .int x1, .int x2] : List Value).toArray = args at C ⊢
  have C : zX p s m meth c cX10_older 4 args RX10 (some FieldType.int) A D (zty cy) := C
  obtain ⟨hx, hb, hr, hts, hown, hlocks, hml, hA, hK⟩ := id C
  have hl : lv_has ls 4 [(0, .ref (ht 0)), (1, .int x1), (2, .int x2)] := hl
  generalize hH : s.heap = H at hP ⊢
  have hS : va_S A s.heap H [] := by rw [← hH]; exact hS
  generalize ([] : List Loc) = locs at hS ⊢
  refine lv_aload_n hx hb dX10_older_0 rfl (lv_at hl 0 rfl) ?_
  obtain ⟨q4, hc, hf⟩ := zbd hf
  refine z_cVv0 (As := []) (rest := []) C (c_X10_anew l D cy ht St q4 hc) gV_X10_X10_anew hd_X10_anew ⟨Nat.le_of_ble_eq_true rfl, Nat.le_of_ble_eq_true rfl⟩ ⟨Nat.le_refl _, Nat.le_refl _⟩ (va_recv hK hP (ci := 6) (q0 := 0) rfl rfl) hP hD hS hl.1 (Nat.le_of_ble_eq_true rfl) dX10_older_1 (fun H locs hP hD hS => ?_)
  have hP : va_P D vwCl (wMo ht cy q4) H := hP
  have hD : va_D A (wMo ht cy q4) := hD
  refine lv_aload_n hx hb dX10_older_4 rfl (lv_at hl 0 rfl) ?_
  refine lv_aload_n hx hb dX10_older_5 rfl (lv_at hl 0 rfl) ?_
  refine va_get (D := D) (ci := 6) (v := .int (Mo_hasStore q4)) (C := RX10) (T := TX10) (N := 41) hx hb hts in_X10 hown hK hP 0 rfl rfl 14 (by decide) (hts _ q6_59) (fun _ h9 => h9) rfl dX10_older_6 ?_
  refine lv_aload_n hx hb dX10_older_9 rfl (lv_at hl 0 rfl) ?_
  refine lv_iload_n hx hb dX10_older_10 rfl (lv_at hl 1 rfl) ?_
  obtain ⟨q5, hc, hf⟩ := zbd hf
  refine z_cVi0 (As := [.int x1]) (rest := [.int (Mo_hasStore q4), .ref (ht 0)]) C (c_X10_isStamp l D cy ht q4 x1 q5 hc) gV_X10_X10_isStamp hd_X10_isStamp ⟨Nat.le_of_ble_eq_true rfl, Nat.le_of_ble_eq_true rfl⟩ ⟨Nat.le_refl _, Nat.le_refl _⟩ (va_recv hK hP (ci := 6) (q0 := 0) rfl rfl) hP hD hS hl.1 (Nat.le_of_ble_eq_true rfl) dX10_older_11 (fun H locs hP hD hS => ?_)
  have hP : va_P D vwCl (wMo ht cy q4) H := hP
  have hD : va_D A (wMo ht cy q4) := hD
  refine z_if_eq (tgt := 29) hx hb dX10_older_14 (by decide) hf (fun hf => ?_) (fun hf => ?_)
  · refine lv_iconst (v := (0 : Int32)) hx hb dX10_older_29 (by decide) ?_
    exact w_X10_older_30 l ht x1 x2 C q4 (Mo_hasStore q4) (0 : Int32) H locs ls hf hP hD hS (lv_sub hl [0, 1, 2] rfl)
  · refine lv_aload_n hx hb dX10_older_17 rfl (lv_at hl 0 rfl) ?_
    refine lv_iload_n hx hb dX10_older_18 rfl (lv_at hl 2 rfl) ?_
    obtain ⟨q6, hc, hf⟩ := zbd hf
    refine z_cVi0 (As := [.int x2]) (rest := [.int (Mo_hasStore q4), .ref (ht 0)]) C (c_X10_isStamp l D cy ht q4 x2 q6 hc) gV_X10_X10_isStamp hd_X10_isStamp ⟨Nat.le_of_ble_eq_true rfl, Nat.le_of_ble_eq_true rfl⟩ ⟨Nat.le_refl _, Nat.le_refl _⟩ (va_recv hK hP (ci := 6) (q0 := 0) rfl rfl) hP hD hS hl.1 (Nat.le_of_ble_eq_true rfl) dX10_older_19 (fun H locs hP hD hS => ?_)
    have hP : va_P D vwCl (wMo ht cy q4) H := hP
    have hD : va_D A (wMo ht cy q4) := hD
    refine z_if_eq (tgt := 29) hx hb dX10_older_22 (by decide) hf (fun hf => ?_) (fun hf => ?_)
    · refine lv_iconst (v := (0 : Int32)) hx hb dX10_older_29 (by decide) ?_
      exact w_X10_older_30 l ht x1 x2 C q4 (Mo_hasStore q4) (0 : Int32) H locs ls hf hP hD hS (lv_sub hl [0, 1, 2] rfl)
    · refine lv_iconst (v := (1 : Int32)) hx hb dX10_older_25 (by decide) ?_
      refine lv_goto (tgt := 30) hx hb dX10_older_26 (by decide) ?_
      exact w_X10_older_30 l ht x1 x2 C q4 (Mo_hasStore q4) (1 : Int32) H locs ls hf hP hD hS (lv_sub hl [0, 1, 2] rfl)
def f_X10_oldest (St : SMo) (St_st : Nat → Int32) : Option (Int32 × SMo) :=
  (f_X10_anew St).bind (fun q1 =>
    (if (Mo_hasStore q1) = 0 then
      (f_X10_no q1 (1 : Int32)).bind (fun q2 =>
        some (q2.1, q2.2))
      else
      (f_X10_usedAge q1 St_st).bind (fun q3 =>
        some (q3, q1))))
set_option maxHeartbeats 4000000 in
set_option maxRecDepth 100000 in
theorem c_X10_oldest (l : Launch) (D : va_G) (cy : Nat → ClassId) (ht : Nat → Nat) (St : SMo) (St_st : Nat → Int32) (r : Int32 × SMo) (hf : f_X10_oldest St St_st = some r) : zCI l yX10_oldest cX10_oldest 1 (some FieldType.int) 4 93 D (zty cy) [.ref (ht 0)] (wMo ht cy St ++ (wAI (fun _ => ht 9) cy 325 St_st)) (wMo ht cy r.2 ++ (wAI (fun _ => ht 9) cy 325 St_st)) r.1 := by
  refine zCI_of (by decide +kernel) (Nat.le_of_ble_eq_true rfl) ?_
  intro p e s m below meth c A ls C hP hD hS hl
  generalize hargs : ([.ref (ht 0)] : List Value).toArray = args at C ⊢
  have C : zX p s m meth c cX10_oldest 1 args RX10 (some FieldType.int) A D (zty cy) := C
  obtain ⟨hx, hb, hr, hts, hown, hlocks, hml, hA, hK⟩ := id C
  have hl : lv_has ls 1 [(0, .ref (ht 0))] := hl
  generalize hH : s.heap = H at hP ⊢
  have hS : va_S A s.heap H [] := by rw [← hH]; exact hS
  generalize ([] : List Loc) = locs at hS ⊢
  refine lv_aload_n hx hb dX10_oldest_0 rfl (lv_at hl 0 rfl) ?_
  obtain ⟨q1, hc, hf⟩ := zbd hf
  refine z_cVv (As := []) (rest := []) C (c_X10_anew l D cy ht St q1 hc) gV_X10_X10_anew hd_X10_anew ⟨Nat.le_of_ble_eq_true rfl, Nat.le_of_ble_eq_true rfl⟩ ⟨Nat.le_refl _, Nat.le_refl _⟩ (va_recv hK hP (ci := 6) (q0 := 0) rfl rfl) hP hD hS (w2 := wMo ht cy q1 ++ (wAI (fun _ => ht 9) cy 325 St_st)) [0] [1] [1, 0] rfl rfl rfl rfl rfl rfl (by decide) hl.1 (Nat.le_of_ble_eq_true rfl) dX10_oldest_1 (fun H locs hP hD hS => ?_)
  refine lv_aload_n hx hb dX10_oldest_4 rfl (lv_at hl 0 rfl) ?_
  refine va_get (D := D) (ci := 6) (v := .int (Mo_hasStore q1)) (C := RX10) (T := TX10) (N := 41) hx hb hts in_X10 hown hK hP 0 rfl rfl 14 (by decide) (hts _ q6_59) (fun _ h9 => h9) rfl dX10_oldest_5 ?_
  refine z_if_eq (tgt := 22) hx hb dX10_oldest_8 (by decide) hf (fun hf => ?_) (fun hf => ?_)
  · refine lv_aload_n hx hb dX10_oldest_22 rfl (lv_at hl 0 rfl) ?_
    refine lv_iconst (v := (1 : Int32)) hx hb dX10_oldest_23 (by decide) ?_
    obtain ⟨q2, hc, hf⟩ := zbd hf
    refine z_cVi (As := [.int (1 : Int32)]) (rest := []) C (c_X10_no l D cy ht q1 (1 : Int32) q2 hc) gV_X10_X10_no hd_X10_no ⟨Nat.le_of_ble_eq_true rfl, Nat.le_of_ble_eq_true rfl⟩ ⟨Nat.le_refl _, Nat.le_refl _⟩ (va_recv hK hP (ci := 6) (q0 := 0) rfl rfl) hP hD hS (w2 := wMo ht cy q2.2 ++ (wAI (fun _ => ht 9) cy 325 St_st)) [0] [1] [1, 0] rfl rfl rfl rfl rfl rfl (by decide) hl.1 (Nat.le_of_ble_eq_true rfl) dX10_oldest_24 (fun H locs hP hD hS => ?_)
    obtain rfl := Option.some.inj hf
    exact z_iret (v := q2.1) C hP hD hS dX10_oldest_27
  · refine lv_aload_n hx hb dX10_oldest_11 rfl (lv_at hl 0 rfl) ?_
    refine lv_aload_n hx hb dX10_oldest_12 rfl (lv_at hl 0 rfl) ?_
    refine va_get (D := D) (ci := 6) (v := .ref (ht 9)) (C := RX10) (T := TX10) (N := 41) hx hb hts in_X10 hown hK hP 0 rfl rfl 21 (by decide) (hts _ q6_66) (fun _ h9 => h9) rfl dX10_oldest_13 ?_
    obtain ⟨q3, hc, hf⟩ := zbd hf
    refine z_cVi0 (As := [.ref (ht 9)]) (rest := []) C (c_X10_usedAge l D cy ht (fun _ => ht 9) q1 St_st q3 hc) gV_X10_X10_usedAge hd_X10_usedAge ⟨Nat.le_of_ble_eq_true rfl, Nat.le_of_ble_eq_true rfl⟩ ⟨Nat.le_refl _, Nat.le_refl _⟩ (va_recv hK hP (ci := 6) (q0 := 0) rfl rfl) hP hD hS hl.1 (Nat.le_of_ble_eq_true rfl) dX10_oldest_16 (fun H locs hP hD hS => ?_)
    have hP : va_P D vwCl (wMo ht cy q1 ++ (wAI (fun _ => ht 9) cy 325 St_st)) H := hP
    have hD : va_D A (wMo ht cy q1 ++ (wAI (fun _ => ht 9) cy 325 St_st)) := hD
    refine lv_goto (tgt := 27) hx hb dX10_oldest_19 (by decide) ?_
    obtain rfl := Option.some.inj hf
    exact z_iret (v := q3) C hP hD hS dX10_oldest_27
def f_X10_roomOf (St : SMo) (Sp1 : Nat → Int32) : Option (Int32) :=
  (f_X10_slotOf Sp1 (-1 : Int32)).bind (fun q1 =>
    (if 0 ≤ q1 then
      (f_X10_usedAge St Sp1).bind (fun q2 =>
        (if 0 ≤ q2 then
          (if ((Mo_ring St) / (2 : Int32)) ≤ q2 then
            some (0 : Int32)
            else
            some (((Mo_ring St) / (2 : Int32)) - q2))
          else
          some (-2 : Int32)))
      else
      some (0 : Int32)))
set_option maxHeartbeats 4000000 in
set_option maxRecDepth 100000 in
theorem c_X10_roomOf (l : Launch) (D : va_G) (cy : Nat → ClassId) (ht : Nat → Nat) (hp1 : Nat → Nat) (St : SMo) (Sp1 : Nat → Int32) (r : Int32) (hf : f_X10_roomOf St Sp1 = some r) : zCI l yX10_roomOf cX10_roomOf 3 (some FieldType.int) 4 93 D (zty cy) [.ref (ht 0), .ref (hp1 0)] (wMo ht cy St ++ (wAI hp1 cy 325 Sp1)) (wMo ht cy St ++ (wAI hp1 cy 325 Sp1)) r := by
  refine zCI_of (by decide +kernel) (Nat.le_of_ble_eq_true rfl) ?_
  intro p e s m below meth c A ls C hP hD hS hl
  generalize hargs : ([.ref (ht 0), .ref (hp1 0)] : List Value).toArray = args at C ⊢
  have C : zX p s m meth c cX10_roomOf 3 args RX10 (some FieldType.int) A D (zty cy) := C
  obtain ⟨hx, hb, hr, hts, hown, hlocks, hml, hA, hK⟩ := id C
  have hl : lv_has ls 3 [(0, .ref (ht 0)), (1, .ref (hp1 0))] := hl
  generalize hH : s.heap = H at hP ⊢
  have hS : va_S A s.heap H [] := by rw [← hH]; exact hS
  generalize ([] : List Loc) = locs at hS ⊢
  refine lv_aload_n hx hb dX10_roomOf_0 rfl (lv_at hl 0 rfl) ?_
  refine lv_aload_n hx hb dX10_roomOf_1 rfl (lv_at hl 1 rfl) ?_
  refine lv_iconst (v := (-1 : Int32)) hx hb dX10_roomOf_2 (by decide) ?_
  obtain ⟨q1, hc, hf⟩ := zbd hf
  refine z_cVi (As := [.ref (hp1 0), .int (-1 : Int32)]) (rest := []) C (c_X10_slotOf l D cy ht hp1 Sp1 (-1 : Int32) q1 hc) gV_X10_X10_slotOf hd_X10_slotOf ⟨Nat.le_of_ble_eq_true rfl, Nat.le_of_ble_eq_true rfl⟩ ⟨Nat.le_refl _, Nat.le_refl _⟩ (va_recv hK hP (ci := 6) (q0 := 0) rfl rfl) hP hD hS (w2 := wMo ht cy St ++ (wAI hp1 cy 325 Sp1)) [1] [0] [0, 1] rfl rfl rfl rfl rfl rfl (by decide) hl.1 (Nat.le_of_ble_eq_true rfl) dX10_roomOf_3 (fun H locs hP hD hS => ?_)
  refine z_if_ge (tgt := 11) hx hb dX10_roomOf_6 (by decide) hf (fun hf => ?_) (fun hf => ?_)
  · refine lv_aload_n hx hb dX10_roomOf_11 rfl (lv_at hl 0 rfl) ?_
    refine lv_aload_n hx hb dX10_roomOf_12 rfl (lv_at hl 1 rfl) ?_
    obtain ⟨q2, hc, hf⟩ := zbd hf
    refine z_cVi0 (As := [.ref (hp1 0)]) (rest := []) C (c_X10_usedAge l D cy ht hp1 St Sp1 q2 hc) gV_X10_X10_usedAge hd_X10_usedAge ⟨Nat.le_of_ble_eq_true rfl, Nat.le_of_ble_eq_true rfl⟩ ⟨Nat.le_refl _, Nat.le_refl _⟩ (va_recv hK hP (ci := 6) (q0 := 0) rfl rfl) hP hD hS hl.1 (Nat.le_of_ble_eq_true rfl) dX10_roomOf_13 (fun H locs hP hD hS => ?_)
    have hP : va_P D vwCl (wMo ht cy St ++ (wAI hp1 cy 325 Sp1)) H := hP
    have hD : va_D A (wMo ht cy St ++ (wAI hp1 cy 325 Sp1)) := hD
    refine lv_istore_n (lv' := [(2, .int q2), (0, .ref (ht 0)), (1, .ref (hp1 0))]) hx hb dX10_roomOf_16 rfl hl (by decide) rfl (fun ls hl => ?_)
    refine lv_iload_n hx hb dX10_roomOf_17 rfl (lv_at hl 0 rfl) ?_
    refine z_if_ge (tgt := 26) hx hb dX10_roomOf_18 (by decide) hf (fun hf => ?_) (fun hf => ?_)
    · refine lv_iload_n hx hb dX10_roomOf_26 rfl (lv_at hl 0 rfl) ?_
      refine lv_aload_n hx hb dX10_roomOf_27 rfl (lv_at hl 1 rfl) ?_
      refine va_get (D := D) (ci := 6) (v := .int (Mo_ring St)) (C := RX10) (T := TX10) (N := 41) hx hb hts in_X10 hown hK hP 0 rfl rfl 27 (by decide) (hts _ q6_72) (fun _ h9 => h9) rfl dX10_roomOf_28 ?_
      refine lv_iconst (v := (2 : Int32)) hx hb dX10_roomOf_31 (by decide) ?_
      refine lv_idiv hx hb dX10_roomOf_32 (by decide) ?_
      refine z_icmp_ge (tgt := 47) hx hb dX10_roomOf_33 (by decide) hf (fun hf => ?_) (fun hf => ?_)
      · refine lv_iconst (v := (0 : Int32)) hx hb dX10_roomOf_47 (by decide) ?_
        obtain rfl := Option.some.inj hf
        exact z_iret (v := (0 : Int32)) C hP hD hS dX10_roomOf_48
      · refine lv_aload_n hx hb dX10_roomOf_36 rfl (lv_at hl 1 rfl) ?_
        refine va_get (D := D) (ci := 6) (v := .int (Mo_ring St)) (C := RX10) (T := TX10) (N := 41) hx hb hts in_X10 hown hK hP 0 rfl rfl 27 (by decide) (hts _ q6_72) (fun _ h9 => h9) rfl dX10_roomOf_37 ?_
        refine lv_iconst (v := (2 : Int32)) hx hb dX10_roomOf_40 (by decide) ?_
        refine lv_idiv hx hb dX10_roomOf_41 (by decide) ?_
        refine lv_iload_n hx hb dX10_roomOf_42 rfl (lv_at hl 0 rfl) ?_
        refine lv_isub hx hb dX10_roomOf_43 ?_
        refine lv_goto (tgt := 48) hx hb dX10_roomOf_44 (by decide) ?_
        obtain rfl := Option.some.inj hf
        exact z_iret (v := (((Mo_ring St) / (2 : Int32)) - q2)) C hP hD hS dX10_roomOf_48
    · refine lv_bipush (v := (-2 : Int32)) hx hb dX10_roomOf_21 (by decide) ?_
      refine lv_goto (tgt := 48) hx hb dX10_roomOf_23 (by decide) ?_
      obtain rfl := Option.some.inj hf
      exact z_iret (v := (-2 : Int32)) C hP hD hS dX10_roomOf_48
  · refine lv_iconst (v := (0 : Int32)) hx hb dX10_roomOf_9 (by decide) ?_
    obtain rfl := Option.some.inj hf
    exact z_iret (v := (0 : Int32)) C hP hD hS dX10_roomOf_10
def f_X10_room (St : SMo) (St_st : Nat → Int32) : Option (Int32 × SMo) :=
  (f_X10_anew St).bind (fun q1 =>
    (if (Mo_hasStore q1) = 0 then
      (f_X10_no q1 (1 : Int32)).bind (fun q2 =>
        some (q2.1, q2.2))
      else
      (f_X10_roomOf q1 St_st).bind (fun q3 =>
        some (q3, q1))))
set_option maxHeartbeats 4000000 in
set_option maxRecDepth 100000 in
theorem c_X10_room (l : Launch) (D : va_G) (cy : Nat → ClassId) (ht : Nat → Nat) (St : SMo) (St_st : Nat → Int32) (r : Int32 × SMo) (hf : f_X10_room St St_st = some r) : zCI l yX10_room cX10_room 1 (some FieldType.int) 5 115 D (zty cy) [.ref (ht 0)] (wMo ht cy St ++ (wAI (fun _ => ht 9) cy 325 St_st)) (wMo ht cy r.2 ++ (wAI (fun _ => ht 9) cy 325 St_st)) r.1 := by
  refine zCI_of (by decide +kernel) (Nat.le_of_ble_eq_true rfl) ?_
  intro p e s m below meth c A ls C hP hD hS hl
  generalize hargs : ([.ref (ht 0)] : List Value).toArray = args at C ⊢
  have C : zX p s m meth c cX10_room 1 args RX10 (some FieldType.int) A D (zty cy) := C
  obtain ⟨hx, hb, hr, hts, hown, hlocks, hml, hA, hK⟩ := id C
  have hl : lv_has ls 1 [(0, .ref (ht 0))] := hl
  generalize hH : s.heap = H at hP ⊢
  have hS : va_S A s.heap H [] := by rw [← hH]; exact hS
  generalize ([] : List Loc) = locs at hS ⊢
  refine lv_aload_n hx hb dX10_room_0 rfl (lv_at hl 0 rfl) ?_
  obtain ⟨q1, hc, hf⟩ := zbd hf
  refine z_cVv (As := []) (rest := []) C (c_X10_anew l D cy ht St q1 hc) gV_X10_X10_anew hd_X10_anew ⟨Nat.le_of_ble_eq_true rfl, Nat.le_of_ble_eq_true rfl⟩ ⟨Nat.le_refl _, Nat.le_refl _⟩ (va_recv hK hP (ci := 6) (q0 := 0) rfl rfl) hP hD hS (w2 := wMo ht cy q1 ++ (wAI (fun _ => ht 9) cy 325 St_st)) [0] [1] [1, 0] rfl rfl rfl rfl rfl rfl (by decide) hl.1 (Nat.le_of_ble_eq_true rfl) dX10_room_1 (fun H locs hP hD hS => ?_)
  refine lv_aload_n hx hb dX10_room_4 rfl (lv_at hl 0 rfl) ?_
  refine va_get (D := D) (ci := 6) (v := .int (Mo_hasStore q1)) (C := RX10) (T := TX10) (N := 41) hx hb hts in_X10 hown hK hP 0 rfl rfl 14 (by decide) (hts _ q6_59) (fun _ h9 => h9) rfl dX10_room_5 ?_
  refine z_if_eq (tgt := 22) hx hb dX10_room_8 (by decide) hf (fun hf => ?_) (fun hf => ?_)
  · refine lv_aload_n hx hb dX10_room_22 rfl (lv_at hl 0 rfl) ?_
    refine lv_iconst (v := (1 : Int32)) hx hb dX10_room_23 (by decide) ?_
    obtain ⟨q2, hc, hf⟩ := zbd hf
    refine z_cVi (As := [.int (1 : Int32)]) (rest := []) C (c_X10_no l D cy ht q1 (1 : Int32) q2 hc) gV_X10_X10_no hd_X10_no ⟨Nat.le_of_ble_eq_true rfl, Nat.le_of_ble_eq_true rfl⟩ ⟨Nat.le_refl _, Nat.le_refl _⟩ (va_recv hK hP (ci := 6) (q0 := 0) rfl rfl) hP hD hS (w2 := wMo ht cy q2.2 ++ (wAI (fun _ => ht 9) cy 325 St_st)) [0] [1] [1, 0] rfl rfl rfl rfl rfl rfl (by decide) hl.1 (Nat.le_of_ble_eq_true rfl) dX10_room_24 (fun H locs hP hD hS => ?_)
    obtain rfl := Option.some.inj hf
    exact z_iret (v := q2.1) C hP hD hS dX10_room_27
  · refine lv_aload_n hx hb dX10_room_11 rfl (lv_at hl 0 rfl) ?_
    refine lv_aload_n hx hb dX10_room_12 rfl (lv_at hl 0 rfl) ?_
    refine va_get (D := D) (ci := 6) (v := .ref (ht 9)) (C := RX10) (T := TX10) (N := 41) hx hb hts in_X10 hown hK hP 0 rfl rfl 21 (by decide) (hts _ q6_66) (fun _ h9 => h9) rfl dX10_room_13 ?_
    obtain ⟨q3, hc, hf⟩ := zbd hf
    refine z_cVi0 (As := [.ref (ht 9)]) (rest := []) C (c_X10_roomOf l D cy ht (fun _ => ht 9) q1 St_st q3 hc) gV_X10_X10_roomOf hd_X10_roomOf ⟨Nat.le_of_ble_eq_true rfl, Nat.le_of_ble_eq_true rfl⟩ ⟨Nat.le_refl _, Nat.le_refl _⟩ (va_recv hK hP (ci := 6) (q0 := 0) rfl rfl) hP hD hS hl.1 (Nat.le_of_ble_eq_true rfl) dX10_room_16 (fun H locs hP hD hS => ?_)
    have hP : va_P D vwCl (wMo ht cy q1 ++ (wAI (fun _ => ht 9) cy 325 St_st)) H := hP
    have hD : va_D A (wMo ht cy q1 ++ (wAI (fun _ => ht 9) cy 325 St_st)) := hD
    refine lv_goto (tgt := 27) hx hb dX10_room_19 (by decide) ?_
    obtain rfl := Option.some.inj hf
    exact z_iret (v := q3) C hP hD hS dX10_room_27
def f_X10_roomFrozen (St : SMo) (St_marked : Nat → Int32) (St_st : Nat → Int32) (St_trial : Nat → Int32) : Option (Int32 × SMo × (Nat → Int32) × (Nat → Int32)) :=
  (f_X10_anew St).bind (fun q1 =>
    (if (Mo_hasStore q1) = 0 then
      (f_X10_no q1 (1 : Int32)).bind (fun q6 =>
        some (q6.1, q6.2, St_marked, St_trial))
      else
      (f_X10_copy 325 325 St_st St_trial (0 : Int32) (0 : Int32) (325 : Int32)).bind (fun q2 =>
        (f_X10_clearOn q1 St_marked q2).bind (fun q3 =>
          (f_X10_freezeOn q1 q3.2.1 q3.2.2).bind (fun q4 =>
            (f_X10_roomOf q1 q4.2.2).bind (fun q5 =>
              some (q5, q1, q4.2.1, q4.2.2)))))))
set_option maxHeartbeats 4000000 in
set_option maxRecDepth 100000 in
theorem c_X10_roomFrozen (l : Launch) (D : va_G) (cy : Nat → ClassId) (ht : Nat → Nat) (St : SMo) (St_marked : Nat → Int32) (St_st : Nat → Int32) (St_trial : Nat → Int32) (r : Int32 × SMo × (Nat → Int32) × (Nat → Int32)) (hf : f_X10_roomFrozen St St_marked St_st St_trial = some r) : zCI l yX10_roomFrozen cX10_roomFrozen 1 (some FieldType.int) 6 138 D (zty cy) [.ref (ht 0)] (wMo ht cy St ++ (wAI (fun _ => ht 13) cy 48 St_marked ++ (wAI (fun _ => ht 9) cy 325 St_st ++ (wAI (fun _ => ht 10) cy 325 St_trial)))) (wMo ht cy r.2.1 ++ (wAI (fun _ => ht 13) cy 48 r.2.2.1 ++ (wAI (fun _ => ht 9) cy 325 St_st ++ (wAI (fun _ => ht 10) cy 325 r.2.2.2)))) r.1 := by
  refine zCI_of (by decide +kernel) (Nat.le_of_ble_eq_true rfl) ?_
  intro p e s m below meth c A ls C hP hD hS hl
  generalize hargs : ([.ref (ht 0)] : List Value).toArray = args at C ⊢
  have C : zX p s m meth c cX10_roomFrozen 1 args RX10 (some FieldType.int) A D (zty cy) := C
  obtain ⟨hx, hb, hr, hts, hown, hlocks, hml, hA, hK⟩ := id C
  have hl : lv_has ls 1 [(0, .ref (ht 0))] := hl
  generalize hH : s.heap = H at hP ⊢
  have hS : va_S A s.heap H [] := by rw [← hH]; exact hS
  generalize ([] : List Loc) = locs at hS ⊢
  refine lv_aload_n hx hb dX10_roomFrozen_0 rfl (lv_at hl 0 rfl) ?_
  obtain ⟨q1, hc, hf⟩ := zbd hf
  refine z_cVv (As := []) (rest := []) C (c_X10_anew l D cy ht St q1 hc) gV_X10_X10_anew hd_X10_anew ⟨Nat.le_of_ble_eq_true rfl, Nat.le_of_ble_eq_true rfl⟩ ⟨Nat.le_refl _, Nat.le_refl _⟩ (va_recv hK hP (ci := 6) (q0 := 0) rfl rfl) hP hD hS (w2 := wMo ht cy q1 ++ (wAI (fun _ => ht 13) cy 48 St_marked ++ (wAI (fun _ => ht 9) cy 325 St_st ++ (wAI (fun _ => ht 10) cy 325 St_trial)))) [0] [1, 2, 3] [3, 0, 1, 2] rfl rfl rfl rfl rfl rfl (by decide) hl.1 (Nat.le_of_ble_eq_true rfl) dX10_roomFrozen_1 (fun H locs hP hD hS => ?_)
  refine lv_aload_n hx hb dX10_roomFrozen_4 rfl (lv_at hl 0 rfl) ?_
  refine va_get (D := D) (ci := 6) (v := .int (Mo_hasStore q1)) (C := RX10) (T := TX10) (N := 41) hx hb hts in_X10 hown hK hP 0 rfl rfl 14 (by decide) (hts _ q6_59) (fun _ h9 => h9) rfl dX10_roomFrozen_5 ?_
  refine z_if_ne (tgt := 17) hx hb dX10_roomFrozen_8 (by decide) hf (fun hf => ?_) (fun hf => ?_)
  · refine lv_aload_n hx hb dX10_roomFrozen_17 rfl (lv_at hl 0 rfl) ?_
    refine va_get (D := D) (ci := 6) (v := .ref (ht 9)) (C := RX10) (T := TX10) (N := 41) hx hb hts in_X10 hown hK hP 0 rfl rfl 21 (by decide) (hts _ q6_66) (fun _ h9 => h9) rfl dX10_roomFrozen_18 ?_
    refine lv_iconst (v := (0 : Int32)) hx hb dX10_roomFrozen_21 (by decide) ?_
    refine lv_aload_n hx hb dX10_roomFrozen_22 rfl (lv_at hl 0 rfl) ?_
    refine va_get (D := D) (ci := 6) (v := .ref (ht 10)) (C := RX10) (T := TX10) (N := 41) hx hb hts in_X10 hown hK hP 0 rfl rfl 22 (by decide) (hts _ q6_67) (fun _ h9 => h9) rfl dX10_roomFrozen_23 ?_
    refine lv_iconst (v := (0 : Int32)) hx hb dX10_roomFrozen_26 (by decide) ?_
    refine lv_sipush (v := (325 : Int32)) hx hb dX10_roomFrozen_27 (by decide) ?_
    obtain ⟨q2, hc, hf⟩ := zbd hf
    refine z_cSv (As := [.ref (ht 9), .int (0 : Int32), .ref (ht 10), .int (0 : Int32), .int (325 : Int32)]) (rest := []) C (c_X10_copy l D cy (fun _ => ht 9) (fun _ => ht 10) 325 325 St_st St_trial (0 : Int32) (0 : Int32) (325 : Int32) q2 hc) gS_X10_X10_copy hd_X10_copy ⟨Nat.le_of_ble_eq_true rfl, Nat.le_of_ble_eq_true rfl⟩ ⟨Nat.le_refl _, Nat.le_refl _⟩ hP hD hS (w2 := wMo ht cy q1 ++ (wAI (fun _ => ht 13) cy 48 St_marked ++ (wAI (fun _ => ht 9) cy 325 St_st ++ (wAI (fun _ => ht 10) cy 325 q2)))) [2, 3] [0, 1] [0, 1, 2, 3] rfl rfl rfl rfl rfl rfl (by decide) hl.1 (Nat.le_of_ble_eq_true rfl) dX10_roomFrozen_30 (fun H locs hP hD hS => ?_)
    refine lv_aload_n hx hb dX10_roomFrozen_33 rfl (lv_at hl 0 rfl) ?_
    refine lv_aload_n hx hb dX10_roomFrozen_34 rfl (lv_at hl 0 rfl) ?_
    refine va_get (D := D) (ci := 6) (v := .ref (ht 10)) (C := RX10) (T := TX10) (N := 41) hx hb hts in_X10 hown hK hP 0 rfl rfl 22 (by decide) (hts _ q6_67) (fun _ h9 => h9) rfl dX10_roomFrozen_35 ?_
    obtain ⟨q3, hc, hf⟩ := zbd hf
    refine z_cVi (As := [.ref (ht 10)]) (rest := []) C (c_X10_clearOn l D cy ht (fun _ => ht 10) q1 St_marked q2 q3 hc) gV_X10_X10_clearOn hd_X10_clearOn ⟨Nat.le_of_ble_eq_true rfl, Nat.le_of_ble_eq_true rfl⟩ ⟨Nat.le_refl _, Nat.le_refl _⟩ (va_recv hK hP (ci := 6) (q0 := 0) rfl rfl) hP hD hS (w2 := wMo ht cy q1 ++ (wAI (fun _ => ht 13) cy 48 q3.2.1 ++ (wAI (fun _ => ht 9) cy 325 St_st ++ (wAI (fun _ => ht 10) cy 325 q3.2.2)))) [0, 1, 3] [2] [1, 2, 0, 3] rfl rfl rfl rfl rfl rfl (by decide) hl.1 (Nat.le_of_ble_eq_true rfl) dX10_roomFrozen_38 (fun H locs hP hD hS => ?_)
    refine lv_pop hx hb dX10_roomFrozen_41 rfl ?_
    refine lv_aload_n hx hb dX10_roomFrozen_42 rfl (lv_at hl 0 rfl) ?_
    refine lv_aload_n hx hb dX10_roomFrozen_43 rfl (lv_at hl 0 rfl) ?_
    refine va_get (D := D) (ci := 6) (v := .ref (ht 10)) (C := RX10) (T := TX10) (N := 41) hx hb hts in_X10 hown hK hP 0 rfl rfl 22 (by decide) (hts _ q6_67) (fun _ h9 => h9) rfl dX10_roomFrozen_44 ?_
    obtain ⟨q4, hc, hf⟩ := zbd hf
    refine z_cVi (As := [.ref (ht 10)]) (rest := []) C (c_X10_freezeOn l D cy ht (fun _ => ht 10) q1 q3.2.1 q3.2.2 q4 hc) gV_X10_X10_freezeOn hd_X10_freezeOn ⟨Nat.le_of_ble_eq_true rfl, Nat.le_of_ble_eq_true rfl⟩ ⟨Nat.le_refl _, Nat.le_refl _⟩ (va_recv hK hP (ci := 6) (q0 := 0) rfl rfl) hP hD hS (w2 := wMo ht cy q1 ++ (wAI (fun _ => ht 13) cy 48 q4.2.1 ++ (wAI (fun _ => ht 9) cy 325 St_st ++ (wAI (fun _ => ht 10) cy 325 q4.2.2)))) [0, 1, 3] [2] [1, 2, 0, 3] rfl rfl rfl rfl rfl rfl (by decide) hl.1 (Nat.le_of_ble_eq_true rfl) dX10_roomFrozen_47 (fun H locs hP hD hS => ?_)
    refine lv_pop hx hb dX10_roomFrozen_50 rfl ?_
    refine lv_aload_n hx hb dX10_roomFrozen_51 rfl (lv_at hl 0 rfl) ?_
    refine lv_aload_n hx hb dX10_roomFrozen_52 rfl (lv_at hl 0 rfl) ?_
    refine va_get (D := D) (ci := 6) (v := .ref (ht 10)) (C := RX10) (T := TX10) (N := 41) hx hb hts in_X10 hown hK hP 0 rfl rfl 22 (by decide) (hts _ q6_67) (fun _ h9 => h9) rfl dX10_roomFrozen_53 ?_
    obtain ⟨q5, hc, hf⟩ := zbd hf
    refine z_cVi (As := [.ref (ht 10)]) (rest := []) C (c_X10_roomOf l D cy ht (fun _ => ht 10) q1 q4.2.2 q5 hc) gV_X10_X10_roomOf hd_X10_roomOf ⟨Nat.le_of_ble_eq_true rfl, Nat.le_of_ble_eq_true rfl⟩ ⟨Nat.le_refl _, Nat.le_refl _⟩ (va_recv hK hP (ci := 6) (q0 := 0) rfl rfl) hP hD hS (w2 := wMo ht cy q1 ++ (wAI (fun _ => ht 13) cy 48 q4.2.1 ++ (wAI (fun _ => ht 9) cy 325 St_st ++ (wAI (fun _ => ht 10) cy 325 q4.2.2)))) [0, 3] [1, 2] [2, 0, 1, 3] rfl rfl rfl rfl rfl rfl (by decide) hl.1 (Nat.le_of_ble_eq_true rfl) dX10_roomFrozen_56 (fun H locs hP hD hS => ?_)
    obtain rfl := Option.some.inj hf
    exact z_iret (v := q5) C hP hD hS dX10_roomFrozen_59
  · refine lv_aload_n hx hb dX10_roomFrozen_11 rfl (lv_at hl 0 rfl) ?_
    refine lv_iconst (v := (1 : Int32)) hx hb dX10_roomFrozen_12 (by decide) ?_
    obtain ⟨q6, hc, hf⟩ := zbd hf
    refine z_cVi (As := [.int (1 : Int32)]) (rest := []) C (c_X10_no l D cy ht q1 (1 : Int32) q6 hc) gV_X10_X10_no hd_X10_no ⟨Nat.le_of_ble_eq_true rfl, Nat.le_of_ble_eq_true rfl⟩ ⟨Nat.le_refl _, Nat.le_refl _⟩ (va_recv hK hP (ci := 6) (q0 := 0) rfl rfl) hP hD hS (w2 := wMo ht cy q6.2 ++ (wAI (fun _ => ht 13) cy 48 St_marked ++ (wAI (fun _ => ht 9) cy 325 St_st ++ (wAI (fun _ => ht 10) cy 325 St_trial)))) [0] [1, 2, 3] [3, 0, 1, 2] rfl rfl rfl rfl rfl rfl (by decide) hl.1 (Nat.le_of_ble_eq_true rfl) dX10_roomFrozen_13 (fun H locs hP hD hS => ?_)
    obtain rfl := Option.some.inj hf
    exact z_iret (v := q6.1) C hP hD hS dX10_roomFrozen_16
def f_X10_horizon (St : SMo) (St_st : Nat → Int32) : Option (Int32 × SMo) :=
  (f_X10_anew St).bind (fun q1 =>
    (if (Mo_hasStore q1) = 0 then
      (f_X10_no q1 (1 : Int32)).bind (fun q2 =>
        some (q2.1, q2.2))
      else
      (f_X10_horizonOf q1 St_st).bind (fun q3 =>
        some (q3, q1))))
set_option maxHeartbeats 4000000 in
set_option maxRecDepth 100000 in
theorem c_X10_horizon (l : Launch) (D : va_G) (cy : Nat → ClassId) (ht : Nat → Nat) (St : SMo) (St_st : Nat → Int32) (r : Int32 × SMo) (hf : f_X10_horizon St St_st = some r) : zCI l yX10_horizon cX10_horizon 1 (some FieldType.int) 4 91 D (zty cy) [.ref (ht 0)] (wMo ht cy St ++ (wAI (fun _ => ht 9) cy 325 St_st)) (wMo ht cy r.2 ++ (wAI (fun _ => ht 9) cy 325 St_st)) r.1 := by
  refine zCI_of (by decide +kernel) (Nat.le_of_ble_eq_true rfl) ?_
  intro p e s m below meth c A ls C hP hD hS hl
  generalize hargs : ([.ref (ht 0)] : List Value).toArray = args at C ⊢
  have C : zX p s m meth c cX10_horizon 1 args RX10 (some FieldType.int) A D (zty cy) := C
  obtain ⟨hx, hb, hr, hts, hown, hlocks, hml, hA, hK⟩ := id C
  have hl : lv_has ls 1 [(0, .ref (ht 0))] := hl
  generalize hH : s.heap = H at hP ⊢
  have hS : va_S A s.heap H [] := by rw [← hH]; exact hS
  generalize ([] : List Loc) = locs at hS ⊢
  refine lv_aload_n hx hb dX10_horizon_0 rfl (lv_at hl 0 rfl) ?_
  obtain ⟨q1, hc, hf⟩ := zbd hf
  refine z_cVv (As := []) (rest := []) C (c_X10_anew l D cy ht St q1 hc) gV_X10_X10_anew hd_X10_anew ⟨Nat.le_of_ble_eq_true rfl, Nat.le_of_ble_eq_true rfl⟩ ⟨Nat.le_refl _, Nat.le_refl _⟩ (va_recv hK hP (ci := 6) (q0 := 0) rfl rfl) hP hD hS (w2 := wMo ht cy q1 ++ (wAI (fun _ => ht 9) cy 325 St_st)) [0] [1] [1, 0] rfl rfl rfl rfl rfl rfl (by decide) hl.1 (Nat.le_of_ble_eq_true rfl) dX10_horizon_1 (fun H locs hP hD hS => ?_)
  refine lv_aload_n hx hb dX10_horizon_4 rfl (lv_at hl 0 rfl) ?_
  refine va_get (D := D) (ci := 6) (v := .int (Mo_hasStore q1)) (C := RX10) (T := TX10) (N := 41) hx hb hts in_X10 hown hK hP 0 rfl rfl 14 (by decide) (hts _ q6_59) (fun _ h9 => h9) rfl dX10_horizon_5 ?_
  refine z_if_eq (tgt := 22) hx hb dX10_horizon_8 (by decide) hf (fun hf => ?_) (fun hf => ?_)
  · refine lv_aload_n hx hb dX10_horizon_22 rfl (lv_at hl 0 rfl) ?_
    refine lv_iconst (v := (1 : Int32)) hx hb dX10_horizon_23 (by decide) ?_
    obtain ⟨q2, hc, hf⟩ := zbd hf
    refine z_cVi (As := [.int (1 : Int32)]) (rest := []) C (c_X10_no l D cy ht q1 (1 : Int32) q2 hc) gV_X10_X10_no hd_X10_no ⟨Nat.le_of_ble_eq_true rfl, Nat.le_of_ble_eq_true rfl⟩ ⟨Nat.le_refl _, Nat.le_refl _⟩ (va_recv hK hP (ci := 6) (q0 := 0) rfl rfl) hP hD hS (w2 := wMo ht cy q2.2 ++ (wAI (fun _ => ht 9) cy 325 St_st)) [0] [1] [1, 0] rfl rfl rfl rfl rfl rfl (by decide) hl.1 (Nat.le_of_ble_eq_true rfl) dX10_horizon_24 (fun H locs hP hD hS => ?_)
    obtain rfl := Option.some.inj hf
    exact z_iret (v := q2.1) C hP hD hS dX10_horizon_27
  · refine lv_aload_n hx hb dX10_horizon_11 rfl (lv_at hl 0 rfl) ?_
    refine lv_aload_n hx hb dX10_horizon_12 rfl (lv_at hl 0 rfl) ?_
    refine va_get (D := D) (ci := 6) (v := .ref (ht 9)) (C := RX10) (T := TX10) (N := 41) hx hb hts in_X10 hown hK hP 0 rfl rfl 21 (by decide) (hts _ q6_66) (fun _ h9 => h9) rfl dX10_horizon_13 ?_
    obtain ⟨q3, hc, hf⟩ := zbd hf
    refine z_cVi0 (As := [.ref (ht 9)]) (rest := []) C (c_X10_horizonOf l D cy ht (fun _ => ht 9) q1 St_st q3 hc) gV_X10_X10_horizonOf hd_X10_horizonOf ⟨Nat.le_of_ble_eq_true rfl, Nat.le_of_ble_eq_true rfl⟩ ⟨Nat.le_refl _, Nat.le_refl _⟩ (va_recv hK hP (ci := 6) (q0 := 0) rfl rfl) hP hD hS hl.1 (Nat.le_of_ble_eq_true rfl) dX10_horizon_16 (fun H locs hP hD hS => ?_)
    have hP : va_P D vwCl (wMo ht cy q1 ++ (wAI (fun _ => ht 9) cy 325 St_st)) H := hP
    have hD : va_D A (wMo ht cy q1 ++ (wAI (fun _ => ht 9) cy 325 St_st)) := hD
    refine lv_goto (tgt := 27) hx hb dX10_horizon_19 (by decide) ?_
    obtain rfl := Option.some.inj hf
    exact z_iret (v := q3) C hP hD hS dX10_horizon_27
def b_X10_snapshotOf_4 (St : SMo) (St_st : Nat → Int32) (x1 : Int32) (k4 : Int32 → Int32 → Option (Int32)) (v2 : Int32) (v3 : Int32) : Option (Int32) :=
  (if (Mo_ring St) ≤ v3 then
    some v2
    else
    (f_X10_isIn St_st x1 v3).bind (fun q1 =>
      (if q1 = 0 then
        (k4 (v2 + (0 : Int32)) (v3 + (1 : Int32)))
        else
        (k4 (v2 + (1 : Int32)) (v3 + (1 : Int32))))))
set_option maxHeartbeats 4000000 in
set_option maxRecDepth 100000 in
theorem w_X10_snapshotOf_4 {p : Program} {e : Env} {s : State} {m : MethodId} {below : List Frame} {meth : Method} {c : Code} {A : Nat → Prop} {D : va_G} {cy : Nat → ClassId} {args : Array Value} {r : Int32} (l : Launch) (ht : Nat → Nat) (St : SMo) (St_st : Nat → Int32) (x1 : Int32) (C : zX p s m meth c cX10_snapshotOf 4 args RX10 (some FieldType.int) A D (zty cy)) :
    ∀ (n : Nat) (v2 : Int32) (v3 : Int32) (H : Heap) (locs : List Loc) (ls : Array Slot), zl2 (b_X10_snapshotOf_4 St St_st x1) n v2 v3 = some r → va_P D vwCl (wMo ht cy St ++ (wAI (fun _ => ht 9) cy 325 St_st)) H → va_D A (wMo ht cy St ++ (wAI (fun _ => ht 9) cy 325 St_st)) → va_S A s.heap H locs → lv_has ls 4 [(0, .ref (ht 0)), (1, .int x1), (2, .int v2), (3, .int v3)] → W p l e (zRm 2 44) s m args below meth c H locs 0 0 (MQ below (zQI D (zty cy) A (wMo ht cy St ++ (wAI (fun _ => ht 9) cy 325 St_st)) r) args s 0 0 A) (F0 m 4 ls []) := by
  obtain ⟨hx, hb, hr, hts, hown, hlocks, hml, hA, hK⟩ := id C
  intro n
  induction n with
  | zero => intro v2 v3 H locs ls hf; exact zno hf
  | succ n ih =>
    intro v2 v3 H locs ls hf hP hD hS hl
    have hf : b_X10_snapshotOf_4 St St_st x1 (zl2 (b_X10_snapshotOf_4 St St_st x1) n) v2 v3 = some r := hf
    have K4 := ih
    refine lv_iload_n hx hb dX10_snapshotOf_4 rfl (lv_at hl 3 rfl) ?_
    refine lv_aload_n hx hb dX10_snapshotOf_5 rfl (lv_at hl 0 rfl) ?_
    refine va_get (D := D) (ci := 6) (v := .int (Mo_ring St)) (C := RX10) (T := TX10) (N := 41) hx hb hts in_X10 hown hK hP 0 rfl rfl 27 (by decide) (hts _ q6_72) (fun _ h9 => h9) rfl dX10_snapshotOf_6 ?_
    refine z_icmp_ge (tgt := 39) hx hb dX10_snapshotOf_9 (by decide) hf (fun hf => ?_) (fun hf => ?_)
    · refine lv_iload_n hx hb dX10_snapshotOf_39 rfl (lv_at hl 2 rfl) ?_
      obtain rfl := Option.some.inj hf
      exact z_iret (v := v2) C hP hD hS dX10_snapshotOf_40
    · refine lv_iload_n hx hb dX10_snapshotOf_12 rfl (lv_at hl 2 rfl) ?_
      refine lv_aload_n hx hb dX10_snapshotOf_13 rfl (lv_at hl 0 rfl) ?_
      refine lv_aload_n hx hb dX10_snapshotOf_14 rfl (lv_at hl 0 rfl) ?_
      refine va_get (D := D) (ci := 6) (v := .ref (ht 9)) (C := RX10) (T := TX10) (N := 41) hx hb hts in_X10 hown hK hP 0 rfl rfl 21 (by decide) (hts _ q6_66) (fun _ h9 => h9) rfl dX10_snapshotOf_15 ?_
      refine lv_iload_n hx hb dX10_snapshotOf_18 rfl (lv_at hl 1 rfl) ?_
      refine lv_iload_n hx hb dX10_snapshotOf_19 rfl (lv_at hl 3 rfl) ?_
      obtain ⟨q1, hc, hf⟩ := zbd hf
      refine z_cVi (As := [.ref (ht 9), .int x1, .int v3]) (rest := [.int v2]) C (c_X10_isIn l D cy ht (fun _ => ht 9) St_st x1 v3 q1 hc) gV_X10_X10_isIn hd_X10_isIn ⟨Nat.le_of_ble_eq_true rfl, Nat.le_of_ble_eq_true rfl⟩ ⟨Nat.le_refl _, Nat.le_refl _⟩ (va_recv hK hP (ci := 6) (q0 := 0) rfl rfl) hP hD hS (w2 := wMo ht cy St ++ (wAI (fun _ => ht 9) cy 325 St_st)) [1] [0] [0, 1] rfl rfl rfl rfl rfl rfl (by decide) hl.1 (Nat.le_of_ble_eq_true rfl) dX10_snapshotOf_20 (fun H locs hP hD hS => ?_)
      refine z_if_eq (tgt := 30) hx hb dX10_snapshotOf_23 (by decide) hf (fun hf => ?_) (fun hf => ?_)
      · refine lv_iconst (v := (0 : Int32)) hx hb dX10_snapshotOf_30 (by decide) ?_
        refine lv_iadd hx hb dX10_snapshotOf_31 ?_
        refine lv_istore_n (lv' := [(2, .int (v2 + (0 : Int32))), (0, .ref (ht 0)), (1, .int x1), (3, .int v3)]) hx hb dX10_snapshotOf_32 rfl hl (by decide) rfl (fun ls hl => ?_)
        refine lv_iinc (v := (v3 + (1 : Int32))) (lv' := [(3, .int (v3 + (1 : Int32))), (2, .int (v2 + (0 : Int32))), (0, .ref (ht 0)), (1, .int x1)]) hx hb dX10_snapshotOf_33 hl (k := 3) rfl rfl (by decide) rfl (fun ls hl => ?_)
        refine lv_goto (tgt := 4) hx hb dX10_snapshotOf_36 (by decide) ?_
        exact K4 (v2 + (0 : Int32)) (v3 + (1 : Int32)) H locs ls hf hP hD hS (lv_sub hl [2, 3, 1, 0] rfl)
      · refine lv_iconst (v := (1 : Int32)) hx hb dX10_snapshotOf_26 (by decide) ?_
        refine lv_goto (tgt := 31) hx hb dX10_snapshotOf_27 (by decide) ?_
        refine lv_iadd hx hb dX10_snapshotOf_31 ?_
        refine lv_istore_n (lv' := [(2, .int (v2 + (1 : Int32))), (0, .ref (ht 0)), (1, .int x1), (3, .int v3)]) hx hb dX10_snapshotOf_32 rfl hl (by decide) rfl (fun ls hl => ?_)
        refine lv_iinc (v := (v3 + (1 : Int32))) (lv' := [(3, .int (v3 + (1 : Int32))), (2, .int (v2 + (1 : Int32))), (0, .ref (ht 0)), (1, .int x1)]) hx hb dX10_snapshotOf_33 hl (k := 3) rfl rfl (by decide) rfl (fun ls hl => ?_)
        refine lv_goto (tgt := 4) hx hb dX10_snapshotOf_36 (by decide) ?_
        exact K4 (v2 + (1 : Int32)) (v3 + (1 : Int32)) H locs ls hf hP hD hS (lv_sub hl [2, 3, 1, 0] rfl)
def f_X10_snapshotOf (St : SMo) (St_st : Nat → Int32) (x1 : Int32) : Option (Int32) :=
  (zl2 (b_X10_snapshotOf_4 St St_st x1) FU (0 : Int32) (0 : Int32))
set_option maxHeartbeats 4000000 in
set_option maxRecDepth 100000 in
theorem c_X10_snapshotOf (l : Launch) (D : va_G) (cy : Nat → ClassId) (ht : Nat → Nat) (St : SMo) (St_st : Nat → Int32) (x1 : Int32) (r : Int32) (hf : f_X10_snapshotOf St St_st x1 = some r) : zCI l yX10_snapshotOf cX10_snapshotOf 4 (some FieldType.int) 2 44 D (zty cy) [.ref (ht 0), .int x1] (wMo ht cy St ++ (wAI (fun _ => ht 9) cy 325 St_st)) (wMo ht cy St ++ (wAI (fun _ => ht 9) cy 325 St_st)) r := by
  refine zCI_of (by decide +kernel) (Nat.le_of_ble_eq_true rfl) ?_
  intro p e s m below meth c A ls C hP hD hS hl
  generalize hargs : ([.ref (ht 0), .int x1] : List Value).toArray = args at C ⊢
  have C : zX p s m meth c cX10_snapshotOf 4 args RX10 (some FieldType.int) A D (zty cy) := C
  obtain ⟨hx, hb, hr, hts, hown, hlocks, hml, hA, hK⟩ := id C
  have hl : lv_has ls 4 [(0, .ref (ht 0)), (1, .int x1)] := hl
  generalize hH : s.heap = H at hP ⊢
  have hS : va_S A s.heap H [] := by rw [← hH]; exact hS
  generalize ([] : List Loc) = locs at hS ⊢
  refine lv_iconst (v := (0 : Int32)) hx hb dX10_snapshotOf_0 (by decide) ?_
  refine lv_istore_n (lv' := [(2, .int (0 : Int32)), (0, .ref (ht 0)), (1, .int x1)]) hx hb dX10_snapshotOf_1 rfl hl (by decide) rfl (fun ls hl => ?_)
  refine lv_iconst (v := (0 : Int32)) hx hb dX10_snapshotOf_2 (by decide) ?_
  refine lv_istore_n (lv' := [(3, .int (0 : Int32)), (2, .int (0 : Int32)), (0, .ref (ht 0)), (1, .int x1)]) hx hb dX10_snapshotOf_3 rfl hl (by decide) rfl (fun ls hl => ?_)
  exact w_X10_snapshotOf_4 l ht St St_st x1 C FU (0 : Int32) (0 : Int32) H locs ls hf hP hD hS (lv_sub hl [2, 3, 1, 0] rfl)
def b_X10_withStamp_5 (St : SMo) (St_st : Nat → Int32) (x1 : Int32) (x2 : Int32) (k5 : Int32 → Int32 → Option (Int32)) (v3 : Int32) (v4 : Int32) : Option (Int32) :=
  (if (48 : Int32) ≤ v4 then
    some v3
    else
    (if zib ((0 : Int32) + v4) 325 then (if (St_st ((0 : Int32) + v4).toNatClampNeg) ≤ 0 then
        (k5 (v3 + (0 : Int32)) (v4 + (1 : Int32)))
        else
        (if zib (x1 + v4) 325 then (if (St_st (x1 + v4).toNatClampNeg) = x2 then
            (k5 (v3 + (1 : Int32)) (v4 + (1 : Int32)))
            else
            (k5 (v3 + (0 : Int32)) (v4 + (1 : Int32)))) else none)) else none))
set_option maxHeartbeats 4000000 in
set_option maxRecDepth 100000 in
theorem w_X10_withStamp_5 {p : Program} {e : Env} {s : State} {m : MethodId} {below : List Frame} {meth : Method} {c : Code} {A : Nat → Prop} {D : va_G} {cy : Nat → ClassId} {args : Array Value} {r : Int32} (l : Launch) (ht : Nat → Nat) (St : SMo) (St_st : Nat → Int32) (x1 : Int32) (x2 : Int32) (C : zX p s m meth c cX10_withStamp 5 args RX10 (some FieldType.int) A D (zty cy)) :
    ∀ (n : Nat) (v3 : Int32) (v4 : Int32) (H : Heap) (locs : List Loc) (ls : Array Slot), zl2 (b_X10_withStamp_5 St St_st x1 x2) n v3 v4 = some r → va_P D vwCl (wMo ht cy St ++ (wAI (fun _ => ht 9) cy 325 St_st)) H → va_D A (wMo ht cy St ++ (wAI (fun _ => ht 9) cy 325 St_st)) → va_S A s.heap H locs → lv_has ls 5 [(0, .ref (ht 0)), (1, .int x1), (2, .int x2), (3, .int v3), (4, .int v4)] → W p l e (zRm 0 0) s m args below meth c H locs 0 0 (MQ below (zQI D (zty cy) A (wMo ht cy St ++ (wAI (fun _ => ht 9) cy 325 St_st)) r) args s 0 0 A) (F0 m 5 ls []) := by
  obtain ⟨hx, hb, hr, hts, hown, hlocks, hml, hA, hK⟩ := id C
  intro n
  induction n with
  | zero => intro v3 v4 H locs ls hf; exact zno hf
  | succ n ih =>
    intro v3 v4 H locs ls hf hP hD hS hl
    have hf : b_X10_withStamp_5 St St_st x1 x2 (zl2 (b_X10_withStamp_5 St St_st x1 x2) n) v3 v4 = some r := hf
    have K5 := ih
    refine lv_iload hx hb dX10_withStamp_5 (lv_at hl 4 rfl) ?_
    refine lv_bipush (v := (48 : Int32)) hx hb dX10_withStamp_7 (by decide) ?_
    refine z_icmp_ge (tgt := 51) hx hb dX10_withStamp_9 (by decide) hf (fun hf => ?_) (fun hf => ?_)
    · refine lv_iload_n hx hb dX10_withStamp_51 rfl (lv_at hl 3 rfl) ?_
      obtain rfl := Option.some.inj hf
      exact z_iret (v := v3) C hP hD hS dX10_withStamp_52
    · refine lv_iload_n hx hb dX10_withStamp_12 rfl (lv_at hl 3 rfl) ?_
      refine lv_aload_n hx hb dX10_withStamp_13 rfl (lv_at hl 0 rfl) ?_
      refine va_get (D := D) (ci := 6) (v := .ref (ht 9)) (C := RX10) (T := TX10) (N := 41) hx hb hts in_X10 hown hK hP 0 rfl rfl 21 (by decide) (hts _ q6_66) (fun _ h9 => h9) rfl dX10_withStamp_14 ?_
      refine lv_iconst (v := (0 : Int32)) hx hb dX10_withStamp_17 (by decide) ?_
      refine lv_iload hx hb dX10_withStamp_18 (lv_at hl 4 rfl) ?_
      refine lv_iadd hx hb dX10_withStamp_20 ?_
      refine z_iald (f := St_st) hx hb hK hP 1 0 rfl rfl dX10_withStamp_21 hf (fun hf => ?_)
      refine z_if_le (tgt := 42) hx hb dX10_withStamp_22 (by decide) hf (fun hf => ?_) (fun hf => ?_)
      · refine lv_iconst (v := (0 : Int32)) hx hb dX10_withStamp_42 (by decide) ?_
        refine lv_iadd hx hb dX10_withStamp_43 ?_
        refine lv_istore_n (lv' := [(3, .int (v3 + (0 : Int32))), (0, .ref (ht 0)), (1, .int x1), (2, .int x2), (4, .int v4)]) hx hb dX10_withStamp_44 rfl hl (by decide) rfl (fun ls hl => ?_)
        refine lv_iinc (v := (v4 + (1 : Int32))) (lv' := [(4, .int (v4 + (1 : Int32))), (3, .int (v3 + (0 : Int32))), (0, .ref (ht 0)), (1, .int x1), (2, .int x2)]) hx hb dX10_withStamp_45 hl (k := 4) rfl rfl (by decide) rfl (fun ls hl => ?_)
        refine lv_goto (tgt := 5) hx hb dX10_withStamp_48 (by decide) ?_
        exact K5 (v3 + (0 : Int32)) (v4 + (1 : Int32)) H locs ls hf hP hD hS (lv_sub hl [2, 3, 4, 1, 0] rfl)
      · refine lv_aload_n hx hb dX10_withStamp_25 rfl (lv_at hl 0 rfl) ?_
        refine va_get (D := D) (ci := 6) (v := .ref (ht 9)) (C := RX10) (T := TX10) (N := 41) hx hb hts in_X10 hown hK hP 0 rfl rfl 21 (by decide) (hts _ q6_66) (fun _ h9 => h9) rfl dX10_withStamp_26 ?_
        refine lv_iload_n hx hb dX10_withStamp_29 rfl (lv_at hl 1 rfl) ?_
        refine lv_iload hx hb dX10_withStamp_30 (lv_at hl 4 rfl) ?_
        refine lv_iadd hx hb dX10_withStamp_32 ?_
        refine z_iald (f := St_st) hx hb hK hP 1 0 rfl rfl dX10_withStamp_33 hf (fun hf => ?_)
        refine lv_iload_n hx hb dX10_withStamp_34 rfl (lv_at hl 2 rfl) ?_
        refine z_icmp_ne (tgt := 42) hx hb dX10_withStamp_35 (by decide) hf (fun hf => ?_) (fun hf => ?_)
        · refine lv_iconst (v := (0 : Int32)) hx hb dX10_withStamp_42 (by decide) ?_
          refine lv_iadd hx hb dX10_withStamp_43 ?_
          refine lv_istore_n (lv' := [(3, .int (v3 + (0 : Int32))), (0, .ref (ht 0)), (1, .int x1), (2, .int x2), (4, .int v4)]) hx hb dX10_withStamp_44 rfl hl (by decide) rfl (fun ls hl => ?_)
          refine lv_iinc (v := (v4 + (1 : Int32))) (lv' := [(4, .int (v4 + (1 : Int32))), (3, .int (v3 + (0 : Int32))), (0, .ref (ht 0)), (1, .int x1), (2, .int x2)]) hx hb dX10_withStamp_45 hl (k := 4) rfl rfl (by decide) rfl (fun ls hl => ?_)
          refine lv_goto (tgt := 5) hx hb dX10_withStamp_48 (by decide) ?_
          exact K5 (v3 + (0 : Int32)) (v4 + (1 : Int32)) H locs ls hf hP hD hS (lv_sub hl [2, 3, 4, 1, 0] rfl)
        · refine lv_iconst (v := (1 : Int32)) hx hb dX10_withStamp_38 (by decide) ?_
          refine lv_goto (tgt := 43) hx hb dX10_withStamp_39 (by decide) ?_
          refine lv_iadd hx hb dX10_withStamp_43 ?_
          refine lv_istore_n (lv' := [(3, .int (v3 + (1 : Int32))), (0, .ref (ht 0)), (1, .int x1), (2, .int x2), (4, .int v4)]) hx hb dX10_withStamp_44 rfl hl (by decide) rfl (fun ls hl => ?_)
          refine lv_iinc (v := (v4 + (1 : Int32))) (lv' := [(4, .int (v4 + (1 : Int32))), (3, .int (v3 + (1 : Int32))), (0, .ref (ht 0)), (1, .int x1), (2, .int x2)]) hx hb dX10_withStamp_45 hl (k := 4) rfl rfl (by decide) rfl (fun ls hl => ?_)
          refine lv_goto (tgt := 5) hx hb dX10_withStamp_48 (by decide) ?_
          exact K5 (v3 + (1 : Int32)) (v4 + (1 : Int32)) H locs ls hf hP hD hS (lv_sub hl [2, 3, 4, 1, 0] rfl)
def f_X10_withStamp (St : SMo) (St_st : Nat → Int32) (x1 : Int32) (x2 : Int32) : Option (Int32) :=
  (zl2 (b_X10_withStamp_5 St St_st x1 x2) FU (0 : Int32) (0 : Int32))
set_option maxHeartbeats 4000000 in
set_option maxRecDepth 100000 in
theorem c_X10_withStamp (l : Launch) (D : va_G) (cy : Nat → ClassId) (ht : Nat → Nat) (St : SMo) (St_st : Nat → Int32) (x1 : Int32) (x2 : Int32) (r : Int32) (hf : f_X10_withStamp St St_st x1 x2 = some r) : zCI l yX10_withStamp cX10_withStamp 5 (some FieldType.int) 0 0 D (zty cy) [.ref (ht 0), .int x1, .int x2] (wMo ht cy St ++ (wAI (fun _ => ht 9) cy 325 St_st)) (wMo ht cy St ++ (wAI (fun _ => ht 9) cy 325 St_st)) r := by
  refine zCI_of (by decide +kernel) (Nat.le_of_ble_eq_true rfl) ?_
  intro p e s m below meth c A ls C hP hD hS hl
  generalize hargs : ([.ref (ht 0), .int x1, .int x2] : List Value).toArray = args at C ⊢
  have C : zX p s m meth c cX10_withStamp 5 args RX10 (some FieldType.int) A D (zty cy) := C
  obtain ⟨hx, hb, hr, hts, hown, hlocks, hml, hA, hK⟩ := id C
  have hl : lv_has ls 5 [(0, .ref (ht 0)), (1, .int x1), (2, .int x2)] := hl
  generalize hH : s.heap = H at hP ⊢
  have hS : va_S A s.heap H [] := by rw [← hH]; exact hS
  generalize ([] : List Loc) = locs at hS ⊢
  refine lv_iconst (v := (0 : Int32)) hx hb dX10_withStamp_0 (by decide) ?_
  refine lv_istore_n (lv' := [(3, .int (0 : Int32)), (0, .ref (ht 0)), (1, .int x1), (2, .int x2)]) hx hb dX10_withStamp_1 rfl hl (by decide) rfl (fun ls hl => ?_)
  refine lv_iconst (v := (0 : Int32)) hx hb dX10_withStamp_2 (by decide) ?_
  refine lv_istore (lv' := [(4, .int (0 : Int32)), (3, .int (0 : Int32)), (0, .ref (ht 0)), (1, .int x1), (2, .int x2)]) hx hb dX10_withStamp_3 hl (by decide) rfl (fun ls hl => ?_)
  exact w_X10_withStamp_5 l ht St St_st x1 x2 C FU (0 : Int32) (0 : Int32) H locs ls hf hP hD hS (lv_sub hl [2, 3, 4, 1, 0] rfl)
def f_X10_writer (St : SMo) (St_st : Nat → Int32) (x1 : Int32) (x2 : Int32) : Option (Int32 × SMo) :=
  (f_X10_anew St).bind (fun q1 =>
    (f_X10_isSlot q1 St_st x1).bind (fun q2 =>
      (if q2 = 0 then
        (f_X10_no q1 (1 : Int32)).bind (fun q3 =>
          some (q3.1, q3.2))
        else
        (f_X10_in x2 (0 : Int32) (4 : Int32)).bind (fun q4 =>
          (if q4 = 0 then
            (f_X10_no q1 (1 : Int32)).bind (fun q8 =>
              some (q8.1, q8.2))
            else
            (if x2 = 0 then
              (if zib ((304 : Int32) + x1) 325 then some ((St_st ((304 : Int32) + x1).toNatClampNeg), q1) else none)
              else
              (if x2 = 1 then
                (if zib (310 : Int32) 325 then some ((((St_st (310 : Int32).toNatClampNeg) >>> (x1 &&& 31)) &&& (1 : Int32)), q1) else none)
                else
                (if x2 = 2 then
                  (f_X10_snapshotOf q1 St_st x1).bind (fun q5 =>
                    some (q5, q1))
                  else
                  (if x2 = 3 then
                    (if zib ((304 : Int32) + x1) 325 then (f_X10_withStamp q1 St_st (96 : Int32) (St_st ((304 : Int32) + x1).toNatClampNeg)).bind (fun q6 =>
                        some (q6, q1)) else none)
                    else
                    (if zib ((304 : Int32) + x1) 325 then (f_X10_withStamp q1 St_st (144 : Int32) (St_st ((304 : Int32) + x1).toNatClampNeg)).bind (fun q7 =>
                        some (q7, q1)) else none))))))))))
set_option maxHeartbeats 4000000 in
set_option maxRecDepth 100000 in
theorem c_X10_writer (l : Launch) (D : va_G) (cy : Nat → ClassId) (ht : Nat → Nat) (St : SMo) (St_st : Nat → Int32) (x1 : Int32) (x2 : Int32) (r : Int32 × SMo) (hf : f_X10_writer St St_st x1 x2 = some r) : zCI l yX10_writer cX10_writer 3 (some FieldType.int) 3 67 D (zty cy) [.ref (ht 0), .int x1, .int x2] (wMo ht cy St ++ (wAI (fun _ => ht 9) cy 325 St_st)) (wMo ht cy r.2 ++ (wAI (fun _ => ht 9) cy 325 St_st)) r.1 := by
  refine zCI_of (by decide +kernel) (Nat.le_of_ble_eq_true rfl) ?_
  intro p e s m below meth c A ls C hP hD hS hl
  generalize hargs : ([.ref (ht 0), .int x1, .int x2] : List Value).toArray = args at C ⊢
  have C : zX p s m meth c cX10_writer 3 args RX10 (some FieldType.int) A D (zty cy) := C
  obtain ⟨hx, hb, hr, hts, hown, hlocks, hml, hA, hK⟩ := id C
  have hl : lv_has ls 3 [(0, .ref (ht 0)), (1, .int x1), (2, .int x2)] := hl
  generalize hH : s.heap = H at hP ⊢
  have hS : va_S A s.heap H [] := by rw [← hH]; exact hS
  generalize ([] : List Loc) = locs at hS ⊢
  refine lv_aload_n hx hb dX10_writer_0 rfl (lv_at hl 0 rfl) ?_
  obtain ⟨q1, hc, hf⟩ := zbd hf
  refine z_cVv (As := []) (rest := []) C (c_X10_anew l D cy ht St q1 hc) gV_X10_X10_anew hd_X10_anew ⟨Nat.le_of_ble_eq_true rfl, Nat.le_of_ble_eq_true rfl⟩ ⟨Nat.le_refl _, Nat.le_refl _⟩ (va_recv hK hP (ci := 6) (q0 := 0) rfl rfl) hP hD hS (w2 := wMo ht cy q1 ++ (wAI (fun _ => ht 9) cy 325 St_st)) [0] [1] [1, 0] rfl rfl rfl rfl rfl rfl (by decide) hl.1 (Nat.le_of_ble_eq_true rfl) dX10_writer_1 (fun H locs hP hD hS => ?_)
  refine lv_aload_n hx hb dX10_writer_4 rfl (lv_at hl 0 rfl) ?_
  refine lv_iload_n hx hb dX10_writer_5 rfl (lv_at hl 1 rfl) ?_
  obtain ⟨q2, hc, hf⟩ := zbd hf
  refine z_cVi0 (As := [.int x1]) (rest := []) C (c_X10_isSlot l D cy ht q1 St_st x1 q2 hc) gV_X10_X10_isSlot hd_X10_isSlot ⟨Nat.le_of_ble_eq_true rfl, Nat.le_of_ble_eq_true rfl⟩ ⟨Nat.le_refl _, Nat.le_refl _⟩ (va_recv hK hP (ci := 6) (q0 := 0) rfl rfl) hP hD hS hl.1 (Nat.le_of_ble_eq_true rfl) dX10_writer_6 (fun H locs hP hD hS => ?_)
  have hP : va_P D vwCl (wMo ht cy q1 ++ (wAI (fun _ => ht 9) cy 325 St_st)) H := hP
  have hD : va_D A (wMo ht cy q1 ++ (wAI (fun _ => ht 9) cy 325 St_st)) := hD
  refine z_if_eq (tgt := 21) hx hb dX10_writer_9 (by decide) hf (fun hf => ?_) (fun hf => ?_)
  · refine lv_aload_n hx hb dX10_writer_21 rfl (lv_at hl 0 rfl) ?_
    refine lv_iconst (v := (1 : Int32)) hx hb dX10_writer_22 (by decide) ?_
    obtain ⟨q3, hc, hf⟩ := zbd hf
    refine z_cVi (As := [.int (1 : Int32)]) (rest := []) C (c_X10_no l D cy ht q1 (1 : Int32) q3 hc) gV_X10_X10_no hd_X10_no ⟨Nat.le_of_ble_eq_true rfl, Nat.le_of_ble_eq_true rfl⟩ ⟨Nat.le_refl _, Nat.le_refl _⟩ (va_recv hK hP (ci := 6) (q0 := 0) rfl rfl) hP hD hS (w2 := wMo ht cy q3.2 ++ (wAI (fun _ => ht 9) cy 325 St_st)) [0] [1] [1, 0] rfl rfl rfl rfl rfl rfl (by decide) hl.1 (Nat.le_of_ble_eq_true rfl) dX10_writer_23 (fun H locs hP hD hS => ?_)
    obtain rfl := Option.some.inj hf
    exact z_iret (v := q3.1) C hP hD hS dX10_writer_26
  · refine lv_iload_n hx hb dX10_writer_12 rfl (lv_at hl 2 rfl) ?_
    refine lv_iconst (v := (0 : Int32)) hx hb dX10_writer_13 (by decide) ?_
    refine lv_iconst (v := (4 : Int32)) hx hb dX10_writer_14 (by decide) ?_
    obtain ⟨q4, hc, hf⟩ := zbd hf
    refine z_cSiE (As := [.int x2, .int (0 : Int32), .int (4 : Int32)]) (rest := []) C (c_X10_in l D cy x2 (0 : Int32) (4 : Int32) q4 hc) gS_X10_X10_in hd_X10_in ⟨Nat.le_of_ble_eq_true rfl, Nat.le_of_ble_eq_true rfl⟩ ⟨Nat.le_refl _, Nat.le_refl _⟩ hP hD hS hl.1 (Nat.le_of_ble_eq_true rfl) dX10_writer_15 (fun H locs hP hD hS => ?_)
    refine z_if_ne (tgt := 27) hx hb dX10_writer_18 (by decide) hf (fun hf => ?_) (fun hf => ?_)
    · refine lv_iload_n hx hb dX10_writer_27 rfl (lv_at hl 2 rfl) ?_
      rcases zsw hf with ⟨hq0, hf⟩ | ⟨hq0, hf⟩
      · rw [hq0]
        refine lv_tableIn (tgt := 60) hx hb dX10_writer_28 (by decide) (by decide) rfl (by decide) ?_
        refine lv_aload_n hx hb dX10_writer_60 rfl (lv_at hl 0 rfl) ?_
        refine va_get (D := D) (ci := 6) (v := .ref (ht 9)) (C := RX10) (T := TX10) (N := 41) hx hb hts in_X10 hown hK hP 0 rfl rfl 21 (by decide) (hts _ q6_66) (fun _ h9 => h9) rfl dX10_writer_61 ?_
        refine lv_sipush (v := (304 : Int32)) hx hb dX10_writer_64 (by decide) ?_
        refine lv_iload_n hx hb dX10_writer_67 rfl (lv_at hl 1 rfl) ?_
        refine lv_iadd hx hb dX10_writer_68 ?_
        refine z_iald (f := St_st) hx hb hK hP 1 0 rfl rfl dX10_writer_69 hf (fun hf => ?_)
        obtain rfl := Option.some.inj hf
        exact z_iret (v := (St_st ((304 : Int32) + x1).toNatClampNeg)) C hP hD hS dX10_writer_70
      ·
        rcases zsw hf with ⟨hq1, hf⟩ | ⟨hq1, hf⟩
        · rw [hq1]
          refine lv_tableIn (tgt := 71) hx hb dX10_writer_28 (by decide) (by decide) rfl (by decide) ?_
          refine lv_aload_n hx hb dX10_writer_71 rfl (lv_at hl 0 rfl) ?_
          refine va_get (D := D) (ci := 6) (v := .ref (ht 9)) (C := RX10) (T := TX10) (N := 41) hx hb hts in_X10 hown hK hP 0 rfl rfl 21 (by decide) (hts _ q6_66) (fun _ h9 => h9) rfl dX10_writer_72 ?_
          refine lv_sipush (v := (310 : Int32)) hx hb dX10_writer_75 (by decide) ?_
          refine z_iald (f := St_st) hx hb hK hP 1 0 rfl rfl dX10_writer_78 hf (fun hf => ?_)
          refine lv_iload_n hx hb dX10_writer_79 rfl (lv_at hl 1 rfl) ?_
          refine lv_ishr hx hb dX10_writer_80 ?_
          refine lv_iconst (v := (1 : Int32)) hx hb dX10_writer_81 (by decide) ?_
          refine lv_iand hx hb dX10_writer_82 ?_
          obtain rfl := Option.some.inj hf
          exact z_iret (v := (((St_st (310 : Int32).toNatClampNeg) >>> (x1 &&& 31)) &&& (1 : Int32))) C hP hD hS dX10_writer_83
        ·
          rcases zsw hf with ⟨hq2, hf⟩ | ⟨hq2, hf⟩
          · rw [hq2]
            refine lv_tableIn (tgt := 84) hx hb dX10_writer_28 (by decide) (by decide) rfl (by decide) ?_
            refine lv_aload_n hx hb dX10_writer_84 rfl (lv_at hl 0 rfl) ?_
            refine lv_iload_n hx hb dX10_writer_85 rfl (lv_at hl 1 rfl) ?_
            obtain ⟨q5, hc, hf⟩ := zbd hf
            refine z_cVi0 (As := [.int x1]) (rest := []) C (c_X10_snapshotOf l D cy ht q1 St_st x1 q5 hc) gV_X10_X10_snapshotOf hd_X10_snapshotOf ⟨Nat.le_of_ble_eq_true rfl, Nat.le_of_ble_eq_true rfl⟩ ⟨Nat.le_refl _, Nat.le_refl _⟩ (va_recv hK hP (ci := 6) (q0 := 0) rfl rfl) hP hD hS hl.1 (Nat.le_of_ble_eq_true rfl) dX10_writer_86 (fun H locs hP hD hS => ?_)
            have hP : va_P D vwCl (wMo ht cy q1 ++ (wAI (fun _ => ht 9) cy 325 St_st)) H := hP
            have hD : va_D A (wMo ht cy q1 ++ (wAI (fun _ => ht 9) cy 325 St_st)) := hD
            obtain rfl := Option.some.inj hf
            exact z_iret (v := q5) C hP hD hS dX10_writer_89
          ·
            rcases zsw hf with ⟨hq3, hf⟩ | ⟨hq3, hf⟩
            · rw [hq3]
              refine lv_tableIn (tgt := 90) hx hb dX10_writer_28 (by decide) (by decide) rfl (by decide) ?_
              refine lv_aload_n hx hb dX10_writer_90 rfl (lv_at hl 0 rfl) ?_
              refine lv_bipush (v := (96 : Int32)) hx hb dX10_writer_91 (by decide) ?_
              refine lv_aload_n hx hb dX10_writer_93 rfl (lv_at hl 0 rfl) ?_
              refine va_get (D := D) (ci := 6) (v := .ref (ht 9)) (C := RX10) (T := TX10) (N := 41) hx hb hts in_X10 hown hK hP 0 rfl rfl 21 (by decide) (hts _ q6_66) (fun _ h9 => h9) rfl dX10_writer_94 ?_
              refine lv_sipush (v := (304 : Int32)) hx hb dX10_writer_97 (by decide) ?_
              refine lv_iload_n hx hb dX10_writer_100 rfl (lv_at hl 1 rfl) ?_
              refine lv_iadd hx hb dX10_writer_101 ?_
              refine z_iald (f := St_st) hx hb hK hP 1 0 rfl rfl dX10_writer_102 hf (fun hf => ?_)
              obtain ⟨q6, hc, hf⟩ := zbd hf
              refine z_cVi0 (As := [.int (96 : Int32), .int (St_st ((304 : Int32) + x1).toNatClampNeg)]) (rest := []) C (c_X10_withStamp l D cy ht q1 St_st (96 : Int32) (St_st ((304 : Int32) + x1).toNatClampNeg) q6 hc) gV_X10_X10_withStamp hd_X10_withStamp ⟨Nat.le_of_ble_eq_true rfl, Nat.le_of_ble_eq_true rfl⟩ ⟨Nat.le_refl _, Nat.le_refl _⟩ (va_recv hK hP (ci := 6) (q0 := 0) rfl rfl) hP hD hS hl.1 (Nat.le_of_ble_eq_true rfl) dX10_writer_103 (fun H locs hP hD hS => ?_)
              have hP : va_P D vwCl (wMo ht cy q1 ++ (wAI (fun _ => ht 9) cy 325 St_st)) H := hP
              have hD : va_D A (wMo ht cy q1 ++ (wAI (fun _ => ht 9) cy 325 St_st)) := hD
              obtain rfl := Option.some.inj hf
              exact z_iret (v := q6) C hP hD hS dX10_writer_106
            · refine lv_tableOut (tgt := 107) hx hb dX10_writer_28 (zsw_out4 hq0 hq1 hq2 hq3) (by decide) ?_
              refine lv_aload_n hx hb dX10_writer_107 rfl (lv_at hl 0 rfl) ?_
              refine lv_sipush (v := (144 : Int32)) hx hb dX10_writer_108 (by decide) ?_
              refine lv_aload_n hx hb dX10_writer_111 rfl (lv_at hl 0 rfl) ?_
              refine va_get (D := D) (ci := 6) (v := .ref (ht 9)) (C := RX10) (T := TX10) (N := 41) hx hb hts in_X10 hown hK hP 0 rfl rfl 21 (by decide) (hts _ q6_66) (fun _ h9 => h9) rfl dX10_writer_112 ?_
              refine lv_sipush (v := (304 : Int32)) hx hb dX10_writer_115 (by decide) ?_
              refine lv_iload_n hx hb dX10_writer_118 rfl (lv_at hl 1 rfl) ?_
              refine lv_iadd hx hb dX10_writer_119 ?_
              refine z_iald (f := St_st) hx hb hK hP 1 0 rfl rfl dX10_writer_120 hf (fun hf => ?_)
              obtain ⟨q7, hc, hf⟩ := zbd hf
              refine z_cVi0 (As := [.int (144 : Int32), .int (St_st ((304 : Int32) + x1).toNatClampNeg)]) (rest := []) C (c_X10_withStamp l D cy ht q1 St_st (144 : Int32) (St_st ((304 : Int32) + x1).toNatClampNeg) q7 hc) gV_X10_X10_withStamp hd_X10_withStamp ⟨Nat.le_of_ble_eq_true rfl, Nat.le_of_ble_eq_true rfl⟩ ⟨Nat.le_refl _, Nat.le_refl _⟩ (va_recv hK hP (ci := 6) (q0 := 0) rfl rfl) hP hD hS hl.1 (Nat.le_of_ble_eq_true rfl) dX10_writer_121 (fun H locs hP hD hS => ?_)
              have hP : va_P D vwCl (wMo ht cy q1 ++ (wAI (fun _ => ht 9) cy 325 St_st)) H := hP
              have hD : va_D A (wMo ht cy q1 ++ (wAI (fun _ => ht 9) cy 325 St_st)) := hD
              obtain rfl := Option.some.inj hf
              exact z_iret (v := q7) C hP hD hS dX10_writer_124
    · refine lv_aload_n hx hb dX10_writer_21 rfl (lv_at hl 0 rfl) ?_
      refine lv_iconst (v := (1 : Int32)) hx hb dX10_writer_22 (by decide) ?_
      obtain ⟨q8, hc, hf⟩ := zbd hf
      refine z_cVi (As := [.int (1 : Int32)]) (rest := []) C (c_X10_no l D cy ht q1 (1 : Int32) q8 hc) gV_X10_X10_no hd_X10_no ⟨Nat.le_of_ble_eq_true rfl, Nat.le_of_ble_eq_true rfl⟩ ⟨Nat.le_refl _, Nat.le_refl _⟩ (va_recv hK hP (ci := 6) (q0 := 0) rfl rfl) hP hD hS (w2 := wMo ht cy q8.2 ++ (wAI (fun _ => ht 9) cy 325 St_st)) [0] [1] [1, 0] rfl rfl rfl rfl rfl rfl (by decide) hl.1 (Nat.le_of_ble_eq_true rfl) dX10_writer_23 (fun H locs hP hD hS => ?_)
      obtain rfl := Option.some.inj hf
      exact z_iret (v := q8.1) C hP hD hS dX10_writer_26
def b_X10_running_21 (St_st : Nat → Int32) (k21 : SMo → Int32 → Int32 → Option (Int32 × SMo)) (St : SMo) (v1 : Int32) (v2 : Int32) : Option (Int32 × SMo) :=
  (if (6 : Int32) ≤ v2 then
    some (v1, St)
    else
    (f_X10_doesRun St_st v2).bind (fun q1 =>
      (if q1 = 0 then
        (k21 St (v1 ||| (0 : Int32)) (v2 + (1 : Int32)))
        else
        (k21 St (v1 ||| ((1 : Int32) <<< (v2 &&& 31))) (v2 + (1 : Int32))))))
set_option maxHeartbeats 4000000 in
set_option maxRecDepth 100000 in
theorem w_X10_running_21 {p : Program} {e : Env} {s : State} {m : MethodId} {below : List Frame} {meth : Method} {c : Code} {A : Nat → Prop} {D : va_G} {cy : Nat → ClassId} {args : Array Value} {r : Int32 × SMo} (l : Launch) (ht : Nat → Nat) (St_st : Nat → Int32) (C : zX p s m meth c cX10_running 3 args RX10 (some FieldType.int) A D (zty cy)) :
    ∀ (n : Nat) (St : SMo) (v1 : Int32) (v2 : Int32) (H : Heap) (locs : List Loc) (ls : Array Slot), zl3 (b_X10_running_21 St_st) n St v1 v2 = some r → va_P D vwCl (wMo ht cy St ++ (wAI (fun _ => ht 9) cy 325 St_st)) H → va_D A (wMo ht cy St ++ (wAI (fun _ => ht 9) cy 325 St_st)) → va_S A s.heap H locs → lv_has ls 3 [(0, .ref (ht 0)), (1, .int v1), (2, .int v2)] → W p l e (zRm 1 22) s m args below meth c H locs 0 0 (MQ below (zQI D (zty cy) A (wMo ht cy r.2 ++ (wAI (fun _ => ht 9) cy 325 St_st)) r.1) args s 0 0 A) (F0 m 21 ls []) := by
  obtain ⟨hx, hb, hr, hts, hown, hlocks, hml, hA, hK⟩ := id C
  intro n
  induction n with
  | zero => intro St v1 v2 H locs ls hf; exact zno hf
  | succ n ih =>
    intro St v1 v2 H locs ls hf hP hD hS hl
    have hf : b_X10_running_21 St_st (zl3 (b_X10_running_21 St_st) n) St v1 v2 = some r := hf
    have K21 := ih
    refine lv_iload_n hx hb dX10_running_21 rfl (lv_at hl 2 rfl) ?_
    refine lv_bipush (v := (6 : Int32)) hx hb dX10_running_22 (by decide) ?_
    refine z_icmp_ge (tgt := 55) hx hb dX10_running_24 (by decide) hf (fun hf => ?_) (fun hf => ?_)
    · refine lv_iload_n hx hb dX10_running_55 rfl (lv_at hl 1 rfl) ?_
      obtain rfl := Option.some.inj hf
      exact z_iret (v := v1) C hP hD hS dX10_running_56
    · refine lv_iload_n hx hb dX10_running_27 rfl (lv_at hl 1 rfl) ?_
      refine lv_aload_n hx hb dX10_running_28 rfl (lv_at hl 0 rfl) ?_
      refine lv_aload_n hx hb dX10_running_29 rfl (lv_at hl 0 rfl) ?_
      refine va_get (D := D) (ci := 6) (v := .ref (ht 9)) (C := RX10) (T := TX10) (N := 41) hx hb hts in_X10 hown hK hP 0 rfl rfl 21 (by decide) (hts _ q6_66) (fun _ h9 => h9) rfl dX10_running_30 ?_
      refine lv_iload_n hx hb dX10_running_33 rfl (lv_at hl 2 rfl) ?_
      obtain ⟨q1, hc, hf⟩ := zbd hf
      refine z_cVi (As := [.ref (ht 9), .int v2]) (rest := [.int v1]) C (c_X10_doesRun l D cy ht (fun _ => ht 9) St_st v2 q1 hc) gV_X10_X10_doesRun hd_X10_doesRun ⟨Nat.le_of_ble_eq_true rfl, Nat.le_of_ble_eq_true rfl⟩ ⟨Nat.le_refl _, Nat.le_refl _⟩ (va_recv hK hP (ci := 6) (q0 := 0) rfl rfl) hP hD hS (w2 := wMo ht cy St ++ (wAI (fun _ => ht 9) cy 325 St_st)) [1] [0] [0, 1] rfl rfl rfl rfl rfl rfl (by decide) hl.1 (Nat.le_of_ble_eq_true rfl) dX10_running_34 (fun H locs hP hD hS => ?_)
      refine z_if_eq (tgt := 46) hx hb dX10_running_37 (by decide) hf (fun hf => ?_) (fun hf => ?_)
      · refine lv_iconst (v := (0 : Int32)) hx hb dX10_running_46 (by decide) ?_
        refine lv_ior hx hb dX10_running_47 ?_
        refine lv_istore_n (lv' := [(1, .int (v1 ||| (0 : Int32))), (0, .ref (ht 0)), (2, .int v2)]) hx hb dX10_running_48 rfl hl (by decide) rfl (fun ls hl => ?_)
        refine lv_iinc (v := (v2 + (1 : Int32))) (lv' := [(2, .int (v2 + (1 : Int32))), (1, .int (v1 ||| (0 : Int32))), (0, .ref (ht 0))]) hx hb dX10_running_49 hl (k := 2) rfl rfl (by decide) rfl (fun ls hl => ?_)
        refine lv_goto (tgt := 21) hx hb dX10_running_52 (by decide) ?_
        exact K21 St (v1 ||| (0 : Int32)) (v2 + (1 : Int32)) H locs ls hf hP hD hS (lv_sub hl [2, 1, 0] rfl)
      · refine lv_iconst (v := (1 : Int32)) hx hb dX10_running_40 (by decide) ?_
        refine lv_iload_n hx hb dX10_running_41 rfl (lv_at hl 2 rfl) ?_
        refine lv_ishl hx hb dX10_running_42 ?_
        refine lv_goto (tgt := 47) hx hb dX10_running_43 (by decide) ?_
        refine lv_ior hx hb dX10_running_47 ?_
        refine lv_istore_n (lv' := [(1, .int (v1 ||| ((1 : Int32) <<< (v2 &&& 31)))), (0, .ref (ht 0)), (2, .int v2)]) hx hb dX10_running_48 rfl hl (by decide) rfl (fun ls hl => ?_)
        refine lv_iinc (v := (v2 + (1 : Int32))) (lv' := [(2, .int (v2 + (1 : Int32))), (1, .int (v1 ||| ((1 : Int32) <<< (v2 &&& 31)))), (0, .ref (ht 0))]) hx hb dX10_running_49 hl (k := 2) rfl rfl (by decide) rfl (fun ls hl => ?_)
        refine lv_goto (tgt := 21) hx hb dX10_running_52 (by decide) ?_
        exact K21 St (v1 ||| ((1 : Int32) <<< (v2 &&& 31))) (v2 + (1 : Int32)) H locs ls hf hP hD hS (lv_sub hl [2, 1, 0] rfl)
def f_X10_running (St : SMo) (St_st : Nat → Int32) : Option (Int32 × SMo) :=
  (f_X10_anew St).bind (fun q2 =>
    (if (Mo_hasStore q2) = 0 then
      (f_X10_no q2 (1 : Int32)).bind (fun q3 =>
        some (q3.1, q3.2))
      else
      (zl3 (b_X10_running_21 St_st) FU q2 (0 : Int32) (0 : Int32))))
set_option maxHeartbeats 4000000 in
set_option maxRecDepth 100000 in
theorem c_X10_running (l : Launch) (D : va_G) (cy : Nat → ClassId) (ht : Nat → Nat) (St : SMo) (St_st : Nat → Int32) (r : Int32 × SMo) (hf : f_X10_running St St_st = some r) : zCI l yX10_running cX10_running 3 (some FieldType.int) 1 22 D (zty cy) [.ref (ht 0)] (wMo ht cy St ++ (wAI (fun _ => ht 9) cy 325 St_st)) (wMo ht cy r.2 ++ (wAI (fun _ => ht 9) cy 325 St_st)) r.1 := by
  refine zCI_of (by decide +kernel) (Nat.le_of_ble_eq_true rfl) ?_
  intro p e s m below meth c A ls C hP hD hS hl
  generalize hargs : ([.ref (ht 0)] : List Value).toArray = args at C ⊢
  have C : zX p s m meth c cX10_running 3 args RX10 (some FieldType.int) A D (zty cy) := C
  obtain ⟨hx, hb, hr, hts, hown, hlocks, hml, hA, hK⟩ := id C
  have hl : lv_has ls 3 [(0, .ref (ht 0))] := hl
  generalize hH : s.heap = H at hP ⊢
  have hS : va_S A s.heap H [] := by rw [← hH]; exact hS
  generalize ([] : List Loc) = locs at hS ⊢
  refine lv_aload_n hx hb dX10_running_0 rfl (lv_at hl 0 rfl) ?_
  obtain ⟨q2, hc, hf⟩ := zbd hf
  refine z_cVv (As := []) (rest := []) C (c_X10_anew l D cy ht St q2 hc) gV_X10_X10_anew hd_X10_anew ⟨Nat.le_of_ble_eq_true rfl, Nat.le_of_ble_eq_true rfl⟩ ⟨Nat.le_refl _, Nat.le_refl _⟩ (va_recv hK hP (ci := 6) (q0 := 0) rfl rfl) hP hD hS (w2 := wMo ht cy q2 ++ (wAI (fun _ => ht 9) cy 325 St_st)) [0] [1] [1, 0] rfl rfl rfl rfl rfl rfl (by decide) hl.1 (Nat.le_of_ble_eq_true rfl) dX10_running_1 (fun H locs hP hD hS => ?_)
  refine lv_aload_n hx hb dX10_running_4 rfl (lv_at hl 0 rfl) ?_
  refine va_get (D := D) (ci := 6) (v := .int (Mo_hasStore q2)) (C := RX10) (T := TX10) (N := 41) hx hb hts in_X10 hown hK hP 0 rfl rfl 14 (by decide) (hts _ q6_59) (fun _ h9 => h9) rfl dX10_running_5 ?_
  refine z_if_ne (tgt := 17) hx hb dX10_running_8 (by decide) hf (fun hf => ?_) (fun hf => ?_)
  · refine lv_iconst (v := (0 : Int32)) hx hb dX10_running_17 (by decide) ?_
    refine lv_istore_n (lv' := [(1, .int (0 : Int32)), (0, .ref (ht 0))]) hx hb dX10_running_18 rfl hl (by decide) rfl (fun ls hl => ?_)
    refine lv_iconst (v := (0 : Int32)) hx hb dX10_running_19 (by decide) ?_
    refine lv_istore_n (lv' := [(2, .int (0 : Int32)), (1, .int (0 : Int32)), (0, .ref (ht 0))]) hx hb dX10_running_20 rfl hl (by decide) rfl (fun ls hl => ?_)
    exact w_X10_running_21 l ht St_st C FU q2 (0 : Int32) (0 : Int32) H locs ls hf hP hD hS (lv_sub hl [2, 1, 0] rfl)
  · refine lv_aload_n hx hb dX10_running_11 rfl (lv_at hl 0 rfl) ?_
    refine lv_iconst (v := (1 : Int32)) hx hb dX10_running_12 (by decide) ?_
    obtain ⟨q3, hc, hf⟩ := zbd hf
    refine z_cVi (As := [.int (1 : Int32)]) (rest := []) C (c_X10_no l D cy ht q2 (1 : Int32) q3 hc) gV_X10_X10_no hd_X10_no ⟨Nat.le_of_ble_eq_true rfl, Nat.le_of_ble_eq_true rfl⟩ ⟨Nat.le_refl _, Nat.le_refl _⟩ (va_recv hK hP (ci := 6) (q0 := 0) rfl rfl) hP hD hS (w2 := wMo ht cy q3.2 ++ (wAI (fun _ => ht 9) cy 325 St_st)) [0] [1] [1, 0] rfl rfl rfl rfl rfl rfl (by decide) hl.1 (Nat.le_of_ble_eq_true rfl) dX10_running_13 (fun H locs hP hD hS => ?_)
    obtain rfl := Option.some.inj hf
    exact z_iret (v := q3.1) C hP hD hS dX10_running_16
def f_X10_counts (St : SMo) (St_st : Nat → Int32) (x1 : Int32) (x2 : Int32) : Option (Int32 × SMo) :=
  (f_X10_anew St).bind (fun q1 =>
    (f_X10_isSlot q1 St_st x1).bind (fun q2 =>
      (f_X10_isStamp q1 x2).bind (fun q3 =>
        (f_X10_why q2 q3).bind (fun q4 =>
          (if q4 = 0 then
            (f_X10_doesCount q1 St_st x1 x2).bind (fun q5 =>
              (if q5 = 0 then
                some ((0 : Int32), q1)
                else
                some ((1 : Int32), q1)))
            else
            (f_X10_no q1 q4).bind (fun q6 =>
              some (q6.1, q6.2)))))))
set_option maxHeartbeats 4000000 in
set_option maxRecDepth 100000 in
theorem c_X10_counts (l : Launch) (D : va_G) (cy : Nat → ClassId) (ht : Nat → Nat) (St : SMo) (St_st : Nat → Int32) (x1 : Int32) (x2 : Int32) (r : Int32 × SMo) (hf : f_X10_counts St St_st x1 x2 = some r) : zCI l yX10_counts cX10_counts 4 (some FieldType.int) 3 69 D (zty cy) [.ref (ht 0), .int x1, .int x2] (wMo ht cy St ++ (wAI (fun _ => ht 9) cy 325 St_st)) (wMo ht cy r.2 ++ (wAI (fun _ => ht 9) cy 325 St_st)) r.1 := by
  refine zCI_of (by decide +kernel) (Nat.le_of_ble_eq_true rfl) ?_
  intro p e s m below meth c A ls C hP hD hS hl
  generalize hargs : ([.ref (ht 0), .int x1, .int x2] : List Value).toArray = args at C ⊢
  have C : zX p s m meth c cX10_counts 4 args RX10 (some FieldType.int) A D (zty cy) := C
  obtain ⟨hx, hb, hr, hts, hown, hlocks, hml, hA, hK⟩ := id C
  have hl : lv_has ls 4 [(0, .ref (ht 0)), (1, .int x1), (2, .int x2)] := hl
  generalize hH : s.heap = H at hP ⊢
  have hS : va_S A s.heap H [] := by rw [← hH]; exact hS
  generalize ([] : List Loc) = locs at hS ⊢
  refine lv_aload_n hx hb dX10_counts_0 rfl (lv_at hl 0 rfl) ?_
  obtain ⟨q1, hc, hf⟩ := zbd hf
  refine z_cVv (As := []) (rest := []) C (c_X10_anew l D cy ht St q1 hc) gV_X10_X10_anew hd_X10_anew ⟨Nat.le_of_ble_eq_true rfl, Nat.le_of_ble_eq_true rfl⟩ ⟨Nat.le_refl _, Nat.le_refl _⟩ (va_recv hK hP (ci := 6) (q0 := 0) rfl rfl) hP hD hS (w2 := wMo ht cy q1 ++ (wAI (fun _ => ht 9) cy 325 St_st)) [0] [1] [1, 0] rfl rfl rfl rfl rfl rfl (by decide) hl.1 (Nat.le_of_ble_eq_true rfl) dX10_counts_1 (fun H locs hP hD hS => ?_)
  refine lv_aload_n hx hb dX10_counts_4 rfl (lv_at hl 0 rfl) ?_
  refine lv_aload_n hx hb dX10_counts_5 rfl (lv_at hl 0 rfl) ?_
  refine lv_iload_n hx hb dX10_counts_6 rfl (lv_at hl 1 rfl) ?_
  obtain ⟨q2, hc, hf⟩ := zbd hf
  refine z_cVi0 (As := [.int x1]) (rest := [.ref (ht 0)]) C (c_X10_isSlot l D cy ht q1 St_st x1 q2 hc) gV_X10_X10_isSlot hd_X10_isSlot ⟨Nat.le_of_ble_eq_true rfl, Nat.le_of_ble_eq_true rfl⟩ ⟨Nat.le_refl _, Nat.le_refl _⟩ (va_recv hK hP (ci := 6) (q0 := 0) rfl rfl) hP hD hS hl.1 (Nat.le_of_ble_eq_true rfl) dX10_counts_7 (fun H locs hP hD hS => ?_)
  have hP : va_P D vwCl (wMo ht cy q1 ++ (wAI (fun _ => ht 9) cy 325 St_st)) H := hP
  have hD : va_D A (wMo ht cy q1 ++ (wAI (fun _ => ht 9) cy 325 St_st)) := hD
  refine lv_aload_n hx hb dX10_counts_10 rfl (lv_at hl 0 rfl) ?_
  refine lv_iload_n hx hb dX10_counts_11 rfl (lv_at hl 2 rfl) ?_
  obtain ⟨q3, hc, hf⟩ := zbd hf
  refine z_cVi (As := [.int x2]) (rest := [.int q2, .ref (ht 0)]) C (c_X10_isStamp l D cy ht q1 x2 q3 hc) gV_X10_X10_isStamp hd_X10_isStamp ⟨Nat.le_of_ble_eq_true rfl, Nat.le_of_ble_eq_true rfl⟩ ⟨Nat.le_refl _, Nat.le_refl _⟩ (va_recv hK hP (ci := 6) (q0 := 0) rfl rfl) hP hD hS (w2 := wMo ht cy q1 ++ (wAI (fun _ => ht 9) cy 325 St_st)) [0] [1] [1, 0] rfl rfl rfl rfl rfl rfl (by decide) hl.1 (Nat.le_of_ble_eq_true rfl) dX10_counts_12 (fun H locs hP hD hS => ?_)
  obtain ⟨q4, hc, hf⟩ := zbd hf
  refine z_cVi (As := [.int q2, .int q3]) (rest := []) C (c_X10_why l D cy ht q2 q3 q4 hc) gV_X10_X10_why hd_X10_why ⟨Nat.le_of_ble_eq_true rfl, Nat.le_of_ble_eq_true rfl⟩ ⟨Nat.le_refl _, Nat.le_refl _⟩ (va_recv hK hP (ci := 6) (q0 := 0) rfl rfl) hP hD hS (w2 := wMo ht cy q1 ++ (wAI (fun _ => ht 9) cy 325 St_st)) [] [0, 1] [0, 1] rfl rfl rfl rfl rfl rfl (by decide) hl.1 (Nat.le_of_ble_eq_true rfl) dX10_counts_15 (fun H locs hP hD hS => ?_)
  refine lv_istore_n (lv' := [(3, .int q4), (0, .ref (ht 0)), (1, .int x1), (2, .int x2)]) hx hb dX10_counts_18 rfl hl (by decide) rfl (fun ls hl => ?_)
  refine lv_iload_n hx hb dX10_counts_19 rfl (lv_at hl 0 rfl) ?_
  refine z_if_eq (tgt := 29) hx hb dX10_counts_20 (by decide) hf (fun hf => ?_) (fun hf => ?_)
  · refine lv_aload_n hx hb dX10_counts_29 rfl (lv_at hl 1 rfl) ?_
    refine lv_aload_n hx hb dX10_counts_30 rfl (lv_at hl 1 rfl) ?_
    refine va_get (D := D) (ci := 6) (v := .ref (ht 9)) (C := RX10) (T := TX10) (N := 41) hx hb hts in_X10 hown hK hP 0 rfl rfl 21 (by decide) (hts _ q6_66) (fun _ h9 => h9) rfl dX10_counts_31 ?_
    refine lv_iload_n hx hb dX10_counts_34 rfl (lv_at hl 2 rfl) ?_
    refine lv_iload_n hx hb dX10_counts_35 rfl (lv_at hl 3 rfl) ?_
    obtain ⟨q5, hc, hf⟩ := zbd hf
    refine z_cVi0 (As := [.ref (ht 9), .int x1, .int x2]) (rest := []) C (c_X10_doesCount l D cy ht (fun _ => ht 9) q1 St_st x1 x2 q5 hc) gV_X10_X10_doesCount hd_X10_doesCount ⟨Nat.le_of_ble_eq_true rfl, Nat.le_of_ble_eq_true rfl⟩ ⟨Nat.le_refl _, Nat.le_refl _⟩ (va_recv hK hP (ci := 6) (q0 := 0) rfl rfl) hP hD hS hl.1 (Nat.le_of_ble_eq_true rfl) dX10_counts_36 (fun H locs hP hD hS => ?_)
    have hP : va_P D vwCl (wMo ht cy q1 ++ (wAI (fun _ => ht 9) cy 325 St_st)) H := hP
    have hD : va_D A (wMo ht cy q1 ++ (wAI (fun _ => ht 9) cy 325 St_st)) := hD
    refine z_if_eq (tgt := 46) hx hb dX10_counts_39 (by decide) hf (fun hf => ?_) (fun hf => ?_)
    · refine lv_iconst (v := (0 : Int32)) hx hb dX10_counts_46 (by decide) ?_
      obtain rfl := Option.some.inj hf
      exact z_iret (v := (0 : Int32)) C hP hD hS dX10_counts_47
    · refine lv_iconst (v := (1 : Int32)) hx hb dX10_counts_42 (by decide) ?_
      refine lv_goto (tgt := 47) hx hb dX10_counts_43 (by decide) ?_
      obtain rfl := Option.some.inj hf
      exact z_iret (v := (1 : Int32)) C hP hD hS dX10_counts_47
  · refine lv_aload_n hx hb dX10_counts_23 rfl (lv_at hl 1 rfl) ?_
    refine lv_iload_n hx hb dX10_counts_24 rfl (lv_at hl 0 rfl) ?_
    obtain ⟨q6, hc, hf⟩ := zbd hf
    refine z_cVi (As := [.int q4]) (rest := []) C (c_X10_no l D cy ht q1 q4 q6 hc) gV_X10_X10_no hd_X10_no ⟨Nat.le_of_ble_eq_true rfl, Nat.le_of_ble_eq_true rfl⟩ ⟨Nat.le_refl _, Nat.le_refl _⟩ (va_recv hK hP (ci := 6) (q0 := 0) rfl rfl) hP hD hS (w2 := wMo ht cy q6.2 ++ (wAI (fun _ => ht 9) cy 325 St_st)) [0] [1] [1, 0] rfl rfl rfl rfl rfl rfl (by decide) hl.1 (Nat.le_of_ble_eq_true rfl) dX10_counts_25 (fun H locs hP hD hS => ?_)
    obtain rfl := Option.some.inj hf
    exact z_iret (v := q6.1) C hP hD hS dX10_counts_28
def b_X10_holdsBack_22 (St_st : Nat → Int32) (k22 : SMo → Int32 → Int32 → Option (Int32 × SMo)) (St : SMo) (v1 : Int32) (v2 : Int32) : Option (Int32 × SMo) :=
  (if (6 : Int32) ≤ v2 then
    some (v1, St)
    else
    (f_X10_doesRun St_st v2).bind (fun q1 =>
      (if q1 = 0 then
        (k22 St v1 (v2 + (1 : Int32)))
        else
        (if v1 < 0 then
          (k22 St v2 (v2 + (1 : Int32)))
          else
          (f_X10_ageBack St St_st v2).bind (fun q2 =>
            (f_X10_ageBack St St_st v1).bind (fun q3 =>
              (if q2 ≤ q3 then
                (k22 St v1 (v2 + (1 : Int32)))
                else
                (k22 St v2 (v2 + (1 : Int32))))))))))
set_option maxHeartbeats 4000000 in
set_option maxRecDepth 100000 in
theorem w_X10_holdsBack_22 {p : Program} {e : Env} {s : State} {m : MethodId} {below : List Frame} {meth : Method} {c : Code} {A : Nat → Prop} {D : va_G} {cy : Nat → ClassId} {args : Array Value} {r : Int32 × SMo} (l : Launch) (ht : Nat → Nat) (St_st : Nat → Int32) (C : zX p s m meth c cX10_holdsBack 3 args RX10 (some FieldType.int) A D (zty cy)) :
    ∀ (n : Nat) (St : SMo) (v1 : Int32) (v2 : Int32) (H : Heap) (locs : List Loc) (ls : Array Slot), zl3 (b_X10_holdsBack_22 St_st) n St v1 v2 = some r → va_P D vwCl (wMo ht cy St ++ (wAI (fun _ => ht 9) cy 325 St_st)) H → va_D A (wMo ht cy St ++ (wAI (fun _ => ht 9) cy 325 St_st)) → va_S A s.heap H locs → lv_has ls 3 [(0, .ref (ht 0)), (1, .int v1), (2, .int v2)] → W p l e (zRm 3 68) s m args below meth c H locs 0 0 (MQ below (zQI D (zty cy) A (wMo ht cy r.2 ++ (wAI (fun _ => ht 9) cy 325 St_st)) r.1) args s 0 0 A) (F0 m 22 ls []) := by
  obtain ⟨hx, hb, hr, hts, hown, hlocks, hml, hA, hK⟩ := id C
  intro n
  induction n with
  | zero => intro St v1 v2 H locs ls hf; exact zno hf
  | succ n ih =>
    intro St v1 v2 H locs ls hf hP hD hS hl
    have hf : b_X10_holdsBack_22 St_st (zl3 (b_X10_holdsBack_22 St_st) n) St v1 v2 = some r := hf
    have K22 := ih
    refine lv_iload_n hx hb dX10_holdsBack_22 rfl (lv_at hl 2 rfl) ?_
    refine lv_bipush (v := (6 : Int32)) hx hb dX10_holdsBack_23 (by decide) ?_
    refine z_icmp_ge (tgt := 73) hx hb dX10_holdsBack_25 (by decide) hf (fun hf => ?_) (fun hf => ?_)
    · refine lv_iload_n hx hb dX10_holdsBack_73 rfl (lv_at hl 1 rfl) ?_
      obtain rfl := Option.some.inj hf
      exact z_iret (v := v1) C hP hD hS dX10_holdsBack_74
    · refine lv_aload_n hx hb dX10_holdsBack_28 rfl (lv_at hl 0 rfl) ?_
      refine lv_aload_n hx hb dX10_holdsBack_29 rfl (lv_at hl 0 rfl) ?_
      refine va_get (D := D) (ci := 6) (v := .ref (ht 9)) (C := RX10) (T := TX10) (N := 41) hx hb hts in_X10 hown hK hP 0 rfl rfl 21 (by decide) (hts _ q6_66) (fun _ h9 => h9) rfl dX10_holdsBack_30 ?_
      refine lv_iload_n hx hb dX10_holdsBack_33 rfl (lv_at hl 2 rfl) ?_
      obtain ⟨q1, hc, hf⟩ := zbd hf
      refine z_cVi (As := [.ref (ht 9), .int v2]) (rest := []) C (c_X10_doesRun l D cy ht (fun _ => ht 9) St_st v2 q1 hc) gV_X10_X10_doesRun hd_X10_doesRun ⟨Nat.le_of_ble_eq_true rfl, Nat.le_of_ble_eq_true rfl⟩ ⟨Nat.le_refl _, Nat.le_refl _⟩ (va_recv hK hP (ci := 6) (q0 := 0) rfl rfl) hP hD hS (w2 := wMo ht cy St ++ (wAI (fun _ => ht 9) cy 325 St_st)) [1] [0] [0, 1] rfl rfl rfl rfl rfl rfl (by decide) hl.1 (Nat.le_of_ble_eq_true rfl) dX10_holdsBack_34 (fun H locs hP hD hS => ?_)
      refine z_if_eq (tgt := 67) hx hb dX10_holdsBack_37 (by decide) hf (fun hf => ?_) (fun hf => ?_)
      · refine lv_iinc (v := (v2 + (1 : Int32))) (lv' := [(2, .int (v2 + (1 : Int32))), (0, .ref (ht 0)), (1, .int v1)]) hx hb dX10_holdsBack_67 hl (k := 2) rfl rfl (by decide) rfl (fun ls hl => ?_)
        refine lv_goto (tgt := 22) hx hb dX10_holdsBack_70 (by decide) ?_
        exact K22 St v1 (v2 + (1 : Int32)) H locs ls hf hP hD hS (lv_sub hl [1, 2, 0] rfl)
      · refine lv_iload_n hx hb dX10_holdsBack_40 rfl (lv_at hl 1 rfl) ?_
        refine z_if_lt (tgt := 65) hx hb dX10_holdsBack_41 (by decide) hf (fun hf => ?_) (fun hf => ?_)
        · refine lv_iload_n hx hb dX10_holdsBack_65 rfl (lv_at hl 2 rfl) ?_
          refine lv_istore_n (lv' := [(1, .int v2), (0, .ref (ht 0)), (2, .int v2)]) hx hb dX10_holdsBack_66 rfl hl (by decide) rfl (fun ls hl => ?_)
          refine lv_iinc (v := (v2 + (1 : Int32))) (lv' := [(2, .int (v2 + (1 : Int32))), (1, .int v2), (0, .ref (ht 0))]) hx hb dX10_holdsBack_67 hl (k := 2) rfl rfl (by decide) rfl (fun ls hl => ?_)
          refine lv_goto (tgt := 22) hx hb dX10_holdsBack_70 (by decide) ?_
          exact K22 St v2 (v2 + (1 : Int32)) H locs ls hf hP hD hS (lv_sub hl [2, 1, 0] rfl)
        · refine lv_aload_n hx hb dX10_holdsBack_44 rfl (lv_at hl 0 rfl) ?_
          refine lv_aload_n hx hb dX10_holdsBack_45 rfl (lv_at hl 0 rfl) ?_
          refine va_get (D := D) (ci := 6) (v := .ref (ht 9)) (C := RX10) (T := TX10) (N := 41) hx hb hts in_X10 hown hK hP 0 rfl rfl 21 (by decide) (hts _ q6_66) (fun _ h9 => h9) rfl dX10_holdsBack_46 ?_
          refine lv_iload_n hx hb dX10_holdsBack_49 rfl (lv_at hl 2 rfl) ?_
          obtain ⟨q2, hc, hf⟩ := zbd hf
          refine z_cVi0 (As := [.ref (ht 9), .int v2]) (rest := []) C (c_X10_ageBack l D cy ht (fun _ => ht 9) St St_st v2 q2 hc) gV_X10_X10_ageBack hd_X10_ageBack ⟨Nat.le_of_ble_eq_true rfl, Nat.le_of_ble_eq_true rfl⟩ ⟨Nat.le_refl _, Nat.le_refl _⟩ (va_recv hK hP (ci := 6) (q0 := 0) rfl rfl) hP hD hS hl.1 (Nat.le_of_ble_eq_true rfl) dX10_holdsBack_50 (fun H locs hP hD hS => ?_)
          have hP : va_P D vwCl (wMo ht cy St ++ (wAI (fun _ => ht 9) cy 325 St_st)) H := hP
          have hD : va_D A (wMo ht cy St ++ (wAI (fun _ => ht 9) cy 325 St_st)) := hD
          refine lv_aload_n hx hb dX10_holdsBack_53 rfl (lv_at hl 0 rfl) ?_
          refine lv_aload_n hx hb dX10_holdsBack_54 rfl (lv_at hl 0 rfl) ?_
          refine va_get (D := D) (ci := 6) (v := .ref (ht 9)) (C := RX10) (T := TX10) (N := 41) hx hb hts in_X10 hown hK hP 0 rfl rfl 21 (by decide) (hts _ q6_66) (fun _ h9 => h9) rfl dX10_holdsBack_55 ?_
          refine lv_iload_n hx hb dX10_holdsBack_58 rfl (lv_at hl 1 rfl) ?_
          obtain ⟨q3, hc, hf⟩ := zbd hf
          refine z_cVi0 (As := [.ref (ht 9), .int v1]) (rest := [.int q2]) C (c_X10_ageBack l D cy ht (fun _ => ht 9) St St_st v1 q3 hc) gV_X10_X10_ageBack hd_X10_ageBack ⟨Nat.le_of_ble_eq_true rfl, Nat.le_of_ble_eq_true rfl⟩ ⟨Nat.le_refl _, Nat.le_refl _⟩ (va_recv hK hP (ci := 6) (q0 := 0) rfl rfl) hP hD hS hl.1 (Nat.le_of_ble_eq_true rfl) dX10_holdsBack_59 (fun H locs hP hD hS => ?_)
          have hP : va_P D vwCl (wMo ht cy St ++ (wAI (fun _ => ht 9) cy 325 St_st)) H := hP
          have hD : va_D A (wMo ht cy St ++ (wAI (fun _ => ht 9) cy 325 St_st)) := hD
          refine z_icmp_le (tgt := 67) hx hb dX10_holdsBack_62 (by decide) hf (fun hf => ?_) (fun hf => ?_)
          · refine lv_iinc (v := (v2 + (1 : Int32))) (lv' := [(2, .int (v2 + (1 : Int32))), (0, .ref (ht 0)), (1, .int v1)]) hx hb dX10_holdsBack_67 hl (k := 2) rfl rfl (by decide) rfl (fun ls hl => ?_)
            refine lv_goto (tgt := 22) hx hb dX10_holdsBack_70 (by decide) ?_
            exact K22 St v1 (v2 + (1 : Int32)) H locs ls hf hP hD hS (lv_sub hl [1, 2, 0] rfl)
          · refine lv_iload_n hx hb dX10_holdsBack_65 rfl (lv_at hl 2 rfl) ?_
            refine lv_istore_n (lv' := [(1, .int v2), (0, .ref (ht 0)), (2, .int v2)]) hx hb dX10_holdsBack_66 rfl hl (by decide) rfl (fun ls hl => ?_)
            refine lv_iinc (v := (v2 + (1 : Int32))) (lv' := [(2, .int (v2 + (1 : Int32))), (1, .int v2), (0, .ref (ht 0))]) hx hb dX10_holdsBack_67 hl (k := 2) rfl rfl (by decide) rfl (fun ls hl => ?_)
            refine lv_goto (tgt := 22) hx hb dX10_holdsBack_70 (by decide) ?_
            exact K22 St v2 (v2 + (1 : Int32)) H locs ls hf hP hD hS (lv_sub hl [2, 1, 0] rfl)
def f_X10_holdsBack (St : SMo) (St_st : Nat → Int32) : Option (Int32 × SMo) :=
  (f_X10_anew St).bind (fun q4 =>
    (if (Mo_hasStore q4) = 0 then
      (f_X10_no q4 (1 : Int32)).bind (fun q5 =>
        some (q5.1, q5.2))
      else
      (zl3 (b_X10_holdsBack_22 St_st) FU q4 (-2 : Int32) (0 : Int32))))
set_option maxHeartbeats 4000000 in
set_option maxRecDepth 100000 in
theorem c_X10_holdsBack (l : Launch) (D : va_G) (cy : Nat → ClassId) (ht : Nat → Nat) (St : SMo) (St_st : Nat → Int32) (r : Int32 × SMo) (hf : f_X10_holdsBack St St_st = some r) : zCI l yX10_holdsBack cX10_holdsBack 3 (some FieldType.int) 3 68 D (zty cy) [.ref (ht 0)] (wMo ht cy St ++ (wAI (fun _ => ht 9) cy 325 St_st)) (wMo ht cy r.2 ++ (wAI (fun _ => ht 9) cy 325 St_st)) r.1 := by
  refine zCI_of (by decide +kernel) (Nat.le_of_ble_eq_true rfl) ?_
  intro p e s m below meth c A ls C hP hD hS hl
  generalize hargs : ([.ref (ht 0)] : List Value).toArray = args at C ⊢
  have C : zX p s m meth c cX10_holdsBack 3 args RX10 (some FieldType.int) A D (zty cy) := C
  obtain ⟨hx, hb, hr, hts, hown, hlocks, hml, hA, hK⟩ := id C
  have hl : lv_has ls 3 [(0, .ref (ht 0))] := hl
  generalize hH : s.heap = H at hP ⊢
  have hS : va_S A s.heap H [] := by rw [← hH]; exact hS
  generalize ([] : List Loc) = locs at hS ⊢
  refine lv_aload_n hx hb dX10_holdsBack_0 rfl (lv_at hl 0 rfl) ?_
  obtain ⟨q4, hc, hf⟩ := zbd hf
  refine z_cVv (As := []) (rest := []) C (c_X10_anew l D cy ht St q4 hc) gV_X10_X10_anew hd_X10_anew ⟨Nat.le_of_ble_eq_true rfl, Nat.le_of_ble_eq_true rfl⟩ ⟨Nat.le_refl _, Nat.le_refl _⟩ (va_recv hK hP (ci := 6) (q0 := 0) rfl rfl) hP hD hS (w2 := wMo ht cy q4 ++ (wAI (fun _ => ht 9) cy 325 St_st)) [0] [1] [1, 0] rfl rfl rfl rfl rfl rfl (by decide) hl.1 (Nat.le_of_ble_eq_true rfl) dX10_holdsBack_1 (fun H locs hP hD hS => ?_)
  refine lv_aload_n hx hb dX10_holdsBack_4 rfl (lv_at hl 0 rfl) ?_
  refine va_get (D := D) (ci := 6) (v := .int (Mo_hasStore q4)) (C := RX10) (T := TX10) (N := 41) hx hb hts in_X10 hown hK hP 0 rfl rfl 14 (by decide) (hts _ q6_59) (fun _ h9 => h9) rfl dX10_holdsBack_5 ?_
  refine z_if_ne (tgt := 17) hx hb dX10_holdsBack_8 (by decide) hf (fun hf => ?_) (fun hf => ?_)
  · refine lv_bipush (v := (-2 : Int32)) hx hb dX10_holdsBack_17 (by decide) ?_
    refine lv_istore_n (lv' := [(1, .int (-2 : Int32)), (0, .ref (ht 0))]) hx hb dX10_holdsBack_19 rfl hl (by decide) rfl (fun ls hl => ?_)
    refine lv_iconst (v := (0 : Int32)) hx hb dX10_holdsBack_20 (by decide) ?_
    refine lv_istore_n (lv' := [(2, .int (0 : Int32)), (1, .int (-2 : Int32)), (0, .ref (ht 0))]) hx hb dX10_holdsBack_21 rfl hl (by decide) rfl (fun ls hl => ?_)
    exact w_X10_holdsBack_22 l ht St_st C FU q4 (-2 : Int32) (0 : Int32) H locs ls hf hP hD hS (lv_sub hl [2, 1, 0] rfl)
  · refine lv_aload_n hx hb dX10_holdsBack_11 rfl (lv_at hl 0 rfl) ?_
    refine lv_iconst (v := (1 : Int32)) hx hb dX10_holdsBack_12 (by decide) ?_
    obtain ⟨q5, hc, hf⟩ := zbd hf
    refine z_cVi (As := [.int (1 : Int32)]) (rest := []) C (c_X10_no l D cy ht q4 (1 : Int32) q5 hc) gV_X10_X10_no hd_X10_no ⟨Nat.le_of_ble_eq_true rfl, Nat.le_of_ble_eq_true rfl⟩ ⟨Nat.le_refl _, Nat.le_refl _⟩ (va_recv hK hP (ci := 6) (q0 := 0) rfl rfl) hP hD hS (w2 := wMo ht cy q5.2 ++ (wAI (fun _ => ht 9) cy 325 St_st)) [0] [1] [1, 0] rfl rfl rfl rfl rfl rfl (by decide) hl.1 (Nat.le_of_ble_eq_true rfl) dX10_holdsBack_13 (fun H locs hP hD hS => ?_)
    obtain rfl := Option.some.inj hf
    exact z_iret (v := q5.1) C hP hD hS dX10_holdsBack_16
def b_X10_deadOf_4 (St : SMo) (Sp1 : Nat → Int32) (k4 : Int32 → Int32 → Option (Int32)) (v2 : Int32) (v3 : Int32) : Option (Int32) :=
  (if (48 : Int32) ≤ v3 then
    some v2
    else
    (f_X10_isDead St Sp1 v3).bind (fun q1 =>
      (if q1 = 0 then
        (k4 (v2 + (0 : Int32)) (v3 + (1 : Int32)))
        else
        (k4 (v2 + (1 : Int32)) (v3 + (1 : Int32))))))
set_option maxHeartbeats 4000000 in
set_option maxRecDepth 100000 in
theorem w_X10_deadOf_4 {p : Program} {e : Env} {s : State} {m : MethodId} {below : List Frame} {meth : Method} {c : Code} {A : Nat → Prop} {D : va_G} {cy : Nat → ClassId} {args : Array Value} {r : Int32} (l : Launch) (ht : Nat → Nat) (hp1 : Nat → Nat) (St : SMo) (Sp1 : Nat → Int32) (C : zX p s m meth c cX10_deadOf 4 args RX10 (some FieldType.int) A D (zty cy)) :
    ∀ (n : Nat) (v2 : Int32) (v3 : Int32) (H : Heap) (locs : List Loc) (ls : Array Slot), zl2 (b_X10_deadOf_4 St Sp1) n v2 v3 = some r → va_P D vwCl (wMo ht cy St ++ (wAI hp1 cy 325 Sp1)) H → va_D A (wMo ht cy St ++ (wAI hp1 cy 325 Sp1)) → va_S A s.heap H locs → lv_has ls 4 [(0, .ref (ht 0)), (1, .ref (hp1 0)), (2, .int v2), (3, .int v3)] → W p l e (zRm 5 115) s m args below meth c H locs 0 0 (MQ below (zQI D (zty cy) A (wMo ht cy St ++ (wAI hp1 cy 325 Sp1)) r) args s 0 0 A) (F0 m 4 ls []) := by
  obtain ⟨hx, hb, hr, hts, hown, hlocks, hml, hA, hK⟩ := id C
  intro n
  induction n with
  | zero => intro v2 v3 H locs ls hf; exact zno hf
  | succ n ih =>
    intro v2 v3 H locs ls hf hP hD hS hl
    have hf : b_X10_deadOf_4 St Sp1 (zl2 (b_X10_deadOf_4 St Sp1) n) v2 v3 = some r := hf
    have K4 := ih
    refine lv_iload_n hx hb dX10_deadOf_4 rfl (lv_at hl 3 rfl) ?_
    refine lv_bipush (v := (48 : Int32)) hx hb dX10_deadOf_5 (by decide) ?_
    refine z_icmp_ge (tgt := 33) hx hb dX10_deadOf_7 (by decide) hf (fun hf => ?_) (fun hf => ?_)
    · refine lv_iload_n hx hb dX10_deadOf_33 rfl (lv_at hl 2 rfl) ?_
      obtain rfl := Option.some.inj hf
      exact z_iret (v := v2) C hP hD hS dX10_deadOf_34
    · refine lv_iload_n hx hb dX10_deadOf_10 rfl (lv_at hl 2 rfl) ?_
      refine lv_aload_n hx hb dX10_deadOf_11 rfl (lv_at hl 0 rfl) ?_
      refine lv_aload_n hx hb dX10_deadOf_12 rfl (lv_at hl 1 rfl) ?_
      refine lv_iload_n hx hb dX10_deadOf_13 rfl (lv_at hl 3 rfl) ?_
      obtain ⟨q1, hc, hf⟩ := zbd hf
      refine z_cVi0 (As := [.ref (hp1 0), .int v3]) (rest := [.int v2]) C (c_X10_isDead l D cy ht hp1 St Sp1 v3 q1 hc) gV_X10_X10_isDead hd_X10_isDead ⟨Nat.le_of_ble_eq_true rfl, Nat.le_of_ble_eq_true rfl⟩ ⟨Nat.le_refl _, Nat.le_refl _⟩ (va_recv hK hP (ci := 6) (q0 := 0) rfl rfl) hP hD hS hl.1 (Nat.le_of_ble_eq_true rfl) dX10_deadOf_14 (fun H locs hP hD hS => ?_)
      have hP : va_P D vwCl (wMo ht cy St ++ (wAI hp1 cy 325 Sp1)) H := hP
      have hD : va_D A (wMo ht cy St ++ (wAI hp1 cy 325 Sp1)) := hD
      refine z_if_eq (tgt := 24) hx hb dX10_deadOf_17 (by decide) hf (fun hf => ?_) (fun hf => ?_)
      · refine lv_iconst (v := (0 : Int32)) hx hb dX10_deadOf_24 (by decide) ?_
        refine lv_iadd hx hb dX10_deadOf_25 ?_
        refine lv_istore_n (lv' := [(2, .int (v2 + (0 : Int32))), (0, .ref (ht 0)), (1, .ref (hp1 0)), (3, .int v3)]) hx hb dX10_deadOf_26 rfl hl (by decide) rfl (fun ls hl => ?_)
        refine lv_iinc (v := (v3 + (1 : Int32))) (lv' := [(3, .int (v3 + (1 : Int32))), (2, .int (v2 + (0 : Int32))), (0, .ref (ht 0)), (1, .ref (hp1 0))]) hx hb dX10_deadOf_27 hl (k := 3) rfl rfl (by decide) rfl (fun ls hl => ?_)
        refine lv_goto (tgt := 4) hx hb dX10_deadOf_30 (by decide) ?_
        exact K4 (v2 + (0 : Int32)) (v3 + (1 : Int32)) H locs ls hf hP hD hS (lv_sub hl [2, 3, 1, 0] rfl)
      · refine lv_iconst (v := (1 : Int32)) hx hb dX10_deadOf_20 (by decide) ?_
        refine lv_goto (tgt := 25) hx hb dX10_deadOf_21 (by decide) ?_
        refine lv_iadd hx hb dX10_deadOf_25 ?_
        refine lv_istore_n (lv' := [(2, .int (v2 + (1 : Int32))), (0, .ref (ht 0)), (1, .ref (hp1 0)), (3, .int v3)]) hx hb dX10_deadOf_26 rfl hl (by decide) rfl (fun ls hl => ?_)
        refine lv_iinc (v := (v3 + (1 : Int32))) (lv' := [(3, .int (v3 + (1 : Int32))), (2, .int (v2 + (1 : Int32))), (0, .ref (ht 0)), (1, .ref (hp1 0))]) hx hb dX10_deadOf_27 hl (k := 3) rfl rfl (by decide) rfl (fun ls hl => ?_)
        refine lv_goto (tgt := 4) hx hb dX10_deadOf_30 (by decide) ?_
        exact K4 (v2 + (1 : Int32)) (v3 + (1 : Int32)) H locs ls hf hP hD hS (lv_sub hl [2, 3, 1, 0] rfl)
def f_X10_deadOf (St : SMo) (Sp1 : Nat → Int32) : Option (Int32) :=
  (zl2 (b_X10_deadOf_4 St Sp1) FU (0 : Int32) (0 : Int32))
set_option maxHeartbeats 4000000 in
set_option maxRecDepth 100000 in
theorem c_X10_deadOf (l : Launch) (D : va_G) (cy : Nat → ClassId) (ht : Nat → Nat) (hp1 : Nat → Nat) (St : SMo) (Sp1 : Nat → Int32) (r : Int32) (hf : f_X10_deadOf St Sp1 = some r) : zCI l yX10_deadOf cX10_deadOf 4 (some FieldType.int) 5 115 D (zty cy) [.ref (ht 0), .ref (hp1 0)] (wMo ht cy St ++ (wAI hp1 cy 325 Sp1)) (wMo ht cy St ++ (wAI hp1 cy 325 Sp1)) r := by
  refine zCI_of (by decide +kernel) (Nat.le_of_ble_eq_true rfl) ?_
  intro p e s m below meth c A ls C hP hD hS hl
  generalize hargs : ([.ref (ht 0), .ref (hp1 0)] : List Value).toArray = args at C ⊢
  have C : zX p s m meth c cX10_deadOf 4 args RX10 (some FieldType.int) A D (zty cy) := C
  obtain ⟨hx, hb, hr, hts, hown, hlocks, hml, hA, hK⟩ := id C
  have hl : lv_has ls 4 [(0, .ref (ht 0)), (1, .ref (hp1 0))] := hl
  generalize hH : s.heap = H at hP ⊢
  have hS : va_S A s.heap H [] := by rw [← hH]; exact hS
  generalize ([] : List Loc) = locs at hS ⊢
  refine lv_iconst (v := (0 : Int32)) hx hb dX10_deadOf_0 (by decide) ?_
  refine lv_istore_n (lv' := [(2, .int (0 : Int32)), (0, .ref (ht 0)), (1, .ref (hp1 0))]) hx hb dX10_deadOf_1 rfl hl (by decide) rfl (fun ls hl => ?_)
  refine lv_iconst (v := (0 : Int32)) hx hb dX10_deadOf_2 (by decide) ?_
  refine lv_istore_n (lv' := [(3, .int (0 : Int32)), (2, .int (0 : Int32)), (0, .ref (ht 0)), (1, .ref (hp1 0))]) hx hb dX10_deadOf_3 rfl hl (by decide) rfl (fun ls hl => ?_)
  exact w_X10_deadOf_4 l ht hp1 St Sp1 C FU (0 : Int32) (0 : Int32) H locs ls hf hP hD hS (lv_sub hl [2, 3, 1, 0] rfl)
def f_X10_frees (St : SMo) (St_st : Nat → Int32) (St_trial : Nat → Int32) (x1 : Int32) : Option (Int32 × SMo × (Nat → Int32)) :=
  (f_X10_anew St).bind (fun q1 =>
    (f_X10_isSlot q1 St_st x1).bind (fun q2 =>
      (if q2 = 0 then
        (f_X10_no q1 (1 : Int32)).bind (fun q7 =>
          some (q7.1, q7.2, St_trial))
        else
        (f_X10_copy 325 325 St_st St_trial (0 : Int32) (0 : Int32) (325 : Int32)).bind (fun q3 =>
          (f_X10_endOn q3 x1 (3 : Int32)).bind (fun q4 =>
            (f_X10_deadOf q1 q4.2).bind (fun q5 =>
              (f_X10_deadOf q1 St_st).bind (fun q6 =>
                some ((q5 - q6), q1, q4.2))))))))
set_option maxHeartbeats 4000000 in
set_option maxRecDepth 100000 in
theorem c_X10_frees (l : Launch) (D : va_G) (cy : Nat → ClassId) (ht : Nat → Nat) (St : SMo) (St_st : Nat → Int32) (St_trial : Nat → Int32) (x1 : Int32) (r : Int32 × SMo × (Nat → Int32)) (hf : f_X10_frees St St_st St_trial x1 = some r) : zCI l yX10_frees cX10_frees 2 (some FieldType.int) 6 138 D (zty cy) [.ref (ht 0), .int x1] (wMo ht cy St ++ (wAI (fun _ => ht 9) cy 325 St_st ++ (wAI (fun _ => ht 10) cy 325 St_trial))) (wMo ht cy r.2.1 ++ (wAI (fun _ => ht 9) cy 325 St_st ++ (wAI (fun _ => ht 10) cy 325 r.2.2))) r.1 := by
  refine zCI_of (by decide +kernel) (Nat.le_of_ble_eq_true rfl) ?_
  intro p e s m below meth c A ls C hP hD hS hl
  generalize hargs : ([.ref (ht 0), .int x1] : List Value).toArray = args at C ⊢
  have C : zX p s m meth c cX10_frees 2 args RX10 (some FieldType.int) A D (zty cy) := C
  obtain ⟨hx, hb, hr, hts, hown, hlocks, hml, hA, hK⟩ := id C
  have hl : lv_has ls 2 [(0, .ref (ht 0)), (1, .int x1)] := hl
  generalize hH : s.heap = H at hP ⊢
  have hS : va_S A s.heap H [] := by rw [← hH]; exact hS
  generalize ([] : List Loc) = locs at hS ⊢
  refine lv_aload_n hx hb dX10_frees_0 rfl (lv_at hl 0 rfl) ?_
  obtain ⟨q1, hc, hf⟩ := zbd hf
  refine z_cVv (As := []) (rest := []) C (c_X10_anew l D cy ht St q1 hc) gV_X10_X10_anew hd_X10_anew ⟨Nat.le_of_ble_eq_true rfl, Nat.le_of_ble_eq_true rfl⟩ ⟨Nat.le_refl _, Nat.le_refl _⟩ (va_recv hK hP (ci := 6) (q0 := 0) rfl rfl) hP hD hS (w2 := wMo ht cy q1 ++ (wAI (fun _ => ht 9) cy 325 St_st ++ (wAI (fun _ => ht 10) cy 325 St_trial))) [0] [1, 2] [2, 0, 1] rfl rfl rfl rfl rfl rfl (by decide) hl.1 (Nat.le_of_ble_eq_true rfl) dX10_frees_1 (fun H locs hP hD hS => ?_)
  refine lv_aload_n hx hb dX10_frees_4 rfl (lv_at hl 0 rfl) ?_
  refine lv_iload_n hx hb dX10_frees_5 rfl (lv_at hl 1 rfl) ?_
  obtain ⟨q2, hc, hf⟩ := zbd hf
  refine z_cVi (As := [.int x1]) (rest := []) C (c_X10_isSlot l D cy ht q1 St_st x1 q2 hc) gV_X10_X10_isSlot hd_X10_isSlot ⟨Nat.le_of_ble_eq_true rfl, Nat.le_of_ble_eq_true rfl⟩ ⟨Nat.le_refl _, Nat.le_refl _⟩ (va_recv hK hP (ci := 6) (q0 := 0) rfl rfl) hP hD hS (w2 := wMo ht cy q1 ++ (wAI (fun _ => ht 9) cy 325 St_st ++ (wAI (fun _ => ht 10) cy 325 St_trial))) [0, 1] [2] [1, 2, 0] rfl rfl rfl rfl rfl rfl (by decide) hl.1 (Nat.le_of_ble_eq_true rfl) dX10_frees_6 (fun H locs hP hD hS => ?_)
  refine z_if_ne (tgt := 18) hx hb dX10_frees_9 (by decide) hf (fun hf => ?_) (fun hf => ?_)
  · refine lv_aload_n hx hb dX10_frees_18 rfl (lv_at hl 0 rfl) ?_
    refine va_get (D := D) (ci := 6) (v := .ref (ht 9)) (C := RX10) (T := TX10) (N := 41) hx hb hts in_X10 hown hK hP 0 rfl rfl 21 (by decide) (hts _ q6_66) (fun _ h9 => h9) rfl dX10_frees_19 ?_
    refine lv_iconst (v := (0 : Int32)) hx hb dX10_frees_22 (by decide) ?_
    refine lv_aload_n hx hb dX10_frees_23 rfl (lv_at hl 0 rfl) ?_
    refine va_get (D := D) (ci := 6) (v := .ref (ht 10)) (C := RX10) (T := TX10) (N := 41) hx hb hts in_X10 hown hK hP 0 rfl rfl 22 (by decide) (hts _ q6_67) (fun _ h9 => h9) rfl dX10_frees_24 ?_
    refine lv_iconst (v := (0 : Int32)) hx hb dX10_frees_27 (by decide) ?_
    refine lv_sipush (v := (325 : Int32)) hx hb dX10_frees_28 (by decide) ?_
    obtain ⟨q3, hc, hf⟩ := zbd hf
    refine z_cSv (As := [.ref (ht 9), .int (0 : Int32), .ref (ht 10), .int (0 : Int32), .int (325 : Int32)]) (rest := []) C (c_X10_copy l D cy (fun _ => ht 9) (fun _ => ht 10) 325 325 St_st St_trial (0 : Int32) (0 : Int32) (325 : Int32) q3 hc) gS_X10_X10_copy hd_X10_copy ⟨Nat.le_of_ble_eq_true rfl, Nat.le_of_ble_eq_true rfl⟩ ⟨Nat.le_refl _, Nat.le_refl _⟩ hP hD hS (w2 := wMo ht cy q1 ++ (wAI (fun _ => ht 9) cy 325 St_st ++ (wAI (fun _ => ht 10) cy 325 q3))) [1, 2] [0] [0, 1, 2] rfl rfl rfl rfl rfl rfl (by decide) hl.1 (Nat.le_of_ble_eq_true rfl) dX10_frees_31 (fun H locs hP hD hS => ?_)
    refine lv_aload_n hx hb dX10_frees_34 rfl (lv_at hl 0 rfl) ?_
    refine lv_aload_n hx hb dX10_frees_35 rfl (lv_at hl 0 rfl) ?_
    refine va_get (D := D) (ci := 6) (v := .ref (ht 10)) (C := RX10) (T := TX10) (N := 41) hx hb hts in_X10 hown hK hP 0 rfl rfl 22 (by decide) (hts _ q6_67) (fun _ h9 => h9) rfl dX10_frees_36 ?_
    refine lv_iload_n hx hb dX10_frees_39 rfl (lv_at hl 1 rfl) ?_
    refine lv_iconst (v := (3 : Int32)) hx hb dX10_frees_40 (by decide) ?_
    obtain ⟨q4, hc, hf⟩ := zbd hf
    refine z_cVi (As := [.ref (ht 10), .int x1, .int (3 : Int32)]) (rest := []) C (c_X10_endOn l D cy ht (fun _ => ht 10) q3 x1 (3 : Int32) q4 hc) gV_X10_X10_endOn hd_X10_endOn ⟨Nat.le_of_ble_eq_true rfl, Nat.le_of_ble_eq_true rfl⟩ ⟨Nat.le_refl _, Nat.le_refl _⟩ (va_recv hK hP (ci := 6) (q0 := 0) rfl rfl) hP hD hS (w2 := wMo ht cy q1 ++ (wAI (fun _ => ht 9) cy 325 St_st ++ (wAI (fun _ => ht 10) cy 325 q4.2))) [2] [0, 1] [0, 1, 2] rfl rfl rfl rfl rfl rfl (by decide) hl.1 (Nat.le_of_ble_eq_true rfl) dX10_frees_41 (fun H locs hP hD hS => ?_)
    refine lv_pop hx hb dX10_frees_44 rfl ?_
    refine lv_aload_n hx hb dX10_frees_45 rfl (lv_at hl 0 rfl) ?_
    refine lv_aload_n hx hb dX10_frees_46 rfl (lv_at hl 0 rfl) ?_
    refine va_get (D := D) (ci := 6) (v := .ref (ht 10)) (C := RX10) (T := TX10) (N := 41) hx hb hts in_X10 hown hK hP 0 rfl rfl 22 (by decide) (hts _ q6_67) (fun _ h9 => h9) rfl dX10_frees_47 ?_
    obtain ⟨q5, hc, hf⟩ := zbd hf
    refine z_cVi (As := [.ref (ht 10)]) (rest := []) C (c_X10_deadOf l D cy ht (fun _ => ht 10) q1 q4.2 q5 hc) gV_X10_X10_deadOf hd_X10_deadOf ⟨Nat.le_of_ble_eq_true rfl, Nat.le_of_ble_eq_true rfl⟩ ⟨Nat.le_refl _, Nat.le_refl _⟩ (va_recv hK hP (ci := 6) (q0 := 0) rfl rfl) hP hD hS (w2 := wMo ht cy q1 ++ (wAI (fun _ => ht 9) cy 325 St_st ++ (wAI (fun _ => ht 10) cy 325 q4.2))) [0, 2] [1] [1, 0, 2] rfl rfl rfl rfl rfl rfl (by decide) hl.1 (Nat.le_of_ble_eq_true rfl) dX10_frees_50 (fun H locs hP hD hS => ?_)
    refine lv_aload_n hx hb dX10_frees_53 rfl (lv_at hl 0 rfl) ?_
    refine lv_aload_n hx hb dX10_frees_54 rfl (lv_at hl 0 rfl) ?_
    refine va_get (D := D) (ci := 6) (v := .ref (ht 9)) (C := RX10) (T := TX10) (N := 41) hx hb hts in_X10 hown hK hP 0 rfl rfl 21 (by decide) (hts _ q6_66) (fun _ h9 => h9) rfl dX10_frees_55 ?_
    obtain ⟨q6, hc, hf⟩ := zbd hf
    refine z_cVi (As := [.ref (ht 9)]) (rest := [.int q5]) C (c_X10_deadOf l D cy ht (fun _ => ht 9) q1 St_st q6 hc) gV_X10_X10_deadOf hd_X10_deadOf ⟨Nat.le_of_ble_eq_true rfl, Nat.le_of_ble_eq_true rfl⟩ ⟨Nat.le_refl _, Nat.le_refl _⟩ (va_recv hK hP (ci := 6) (q0 := 0) rfl rfl) hP hD hS (w2 := wMo ht cy q1 ++ (wAI (fun _ => ht 9) cy 325 St_st ++ (wAI (fun _ => ht 10) cy 325 q4.2))) [0, 1] [2] [1, 2, 0] rfl rfl rfl rfl rfl rfl (by decide) hl.1 (Nat.le_of_ble_eq_true rfl) dX10_frees_58 (fun H locs hP hD hS => ?_)
    refine lv_isub hx hb dX10_frees_61 ?_
    obtain rfl := Option.some.inj hf
    exact z_iret (v := (q5 - q6)) C hP hD hS dX10_frees_62
  · refine lv_aload_n hx hb dX10_frees_12 rfl (lv_at hl 0 rfl) ?_
    refine lv_iconst (v := (1 : Int32)) hx hb dX10_frees_13 (by decide) ?_
    obtain ⟨q7, hc, hf⟩ := zbd hf
    refine z_cVi (As := [.int (1 : Int32)]) (rest := []) C (c_X10_no l D cy ht q1 (1 : Int32) q7 hc) gV_X10_X10_no hd_X10_no ⟨Nat.le_of_ble_eq_true rfl, Nat.le_of_ble_eq_true rfl⟩ ⟨Nat.le_refl _, Nat.le_refl _⟩ (va_recv hK hP (ci := 6) (q0 := 0) rfl rfl) hP hD hS (w2 := wMo ht cy q7.2 ++ (wAI (fun _ => ht 9) cy 325 St_st ++ (wAI (fun _ => ht 10) cy 325 St_trial))) [0] [1, 2] [2, 0, 1] rfl rfl rfl rfl rfl rfl (by decide) hl.1 (Nat.le_of_ble_eq_true rfl) dX10_frees_14 (fun H locs hP hD hS => ?_)
    obtain rfl := Option.some.inj hf
    exact z_iret (v := q7.1) C hP hD hS dX10_frees_17
def f_X10_version (St : SMo) (St_st : Nat → Int32) (x1 : Int32) (x2 : Int32) : Option (Int32 × SMo) :=
  (f_X10_anew St).bind (fun q1 =>
    (f_X10_isVersion q1 St_st x1).bind (fun q2 =>
      (if q2 = 0 then
        (f_X10_no q1 (1 : Int32)).bind (fun q3 =>
          some (q3.1, q3.2))
        else
        (f_X10_in x2 (0 : Int32) (5 : Int32)).bind (fun q4 =>
          (if q4 = 0 then
            (f_X10_no q1 (1 : Int32)).bind (fun q7 =>
              some (q7.1, q7.2))
            else
            (if x2 = 0 then
              (if zib ((0 : Int32) + x1) 325 then some (((St_st ((0 : Int32) + x1).toNatClampNeg) - (1 : Int32)), q1) else none)
              else
              (if x2 = 1 then
                (if zib ((48 : Int32) + x1) 325 then some ((St_st ((48 : Int32) + x1).toNatClampNeg), q1) else none)
                else
                (if x2 = 2 then
                  (if zib ((96 : Int32) + x1) 325 then some ((St_st ((96 : Int32) + x1).toNatClampNeg), q1) else none)
                  else
                  (if x2 = 3 then
                    (if zib ((144 : Int32) + x1) 325 then some ((St_st ((144 : Int32) + x1).toNatClampNeg), q1) else none)
                    else
                    (if x2 = 4 then
                      (f_X10_isDead q1 St_st x1).bind (fun q5 =>
                        (if q5 = 0 then
                          some ((0 : Int32), q1)
                          else
                          some ((1 : Int32), q1)))
                      else
                      (f_X10_isFrozenThen q1 St_st x1).bind (fun q6 =>
                        (if q6 = 0 then
                          some ((0 : Int32), q1)
                          else
                          some ((1 : Int32), q1)))))))))))))
set_option maxHeartbeats 4000000 in
set_option maxRecDepth 100000 in
theorem c_X10_version (l : Launch) (D : va_G) (cy : Nat → ClassId) (ht : Nat → Nat) (St : SMo) (St_st : Nat → Int32) (x1 : Int32) (x2 : Int32) (r : Int32 × SMo) (hf : f_X10_version St St_st x1 x2 = some r) : zCI l yX10_version cX10_version 3 (some FieldType.int) 5 115 D (zty cy) [.ref (ht 0), .int x1, .int x2] (wMo ht cy St ++ (wAI (fun _ => ht 9) cy 325 St_st)) (wMo ht cy r.2 ++ (wAI (fun _ => ht 9) cy 325 St_st)) r.1 := by
  refine zCI_of (by decide +kernel) (Nat.le_of_ble_eq_true rfl) ?_
  intro p e s m below meth c A ls C hP hD hS hl
  generalize hargs : ([.ref (ht 0), .int x1, .int x2] : List Value).toArray = args at C ⊢
  have C : zX p s m meth c cX10_version 3 args RX10 (some FieldType.int) A D (zty cy) := C
  obtain ⟨hx, hb, hr, hts, hown, hlocks, hml, hA, hK⟩ := id C
  have hl : lv_has ls 3 [(0, .ref (ht 0)), (1, .int x1), (2, .int x2)] := hl
  generalize hH : s.heap = H at hP ⊢
  have hS : va_S A s.heap H [] := by rw [← hH]; exact hS
  generalize ([] : List Loc) = locs at hS ⊢
  refine lv_aload_n hx hb dX10_version_0 rfl (lv_at hl 0 rfl) ?_
  obtain ⟨q1, hc, hf⟩ := zbd hf
  refine z_cVv (As := []) (rest := []) C (c_X10_anew l D cy ht St q1 hc) gV_X10_X10_anew hd_X10_anew ⟨Nat.le_of_ble_eq_true rfl, Nat.le_of_ble_eq_true rfl⟩ ⟨Nat.le_refl _, Nat.le_refl _⟩ (va_recv hK hP (ci := 6) (q0 := 0) rfl rfl) hP hD hS (w2 := wMo ht cy q1 ++ (wAI (fun _ => ht 9) cy 325 St_st)) [0] [1] [1, 0] rfl rfl rfl rfl rfl rfl (by decide) hl.1 (Nat.le_of_ble_eq_true rfl) dX10_version_1 (fun H locs hP hD hS => ?_)
  refine lv_aload_n hx hb dX10_version_4 rfl (lv_at hl 0 rfl) ?_
  refine lv_iload_n hx hb dX10_version_5 rfl (lv_at hl 1 rfl) ?_
  obtain ⟨q2, hc, hf⟩ := zbd hf
  refine z_cVi0 (As := [.int x1]) (rest := []) C (c_X10_isVersion l D cy ht q1 St_st x1 q2 hc) gV_X10_X10_isVersion hd_X10_isVersion ⟨Nat.le_of_ble_eq_true rfl, Nat.le_of_ble_eq_true rfl⟩ ⟨Nat.le_refl _, Nat.le_refl _⟩ (va_recv hK hP (ci := 6) (q0 := 0) rfl rfl) hP hD hS hl.1 (Nat.le_of_ble_eq_true rfl) dX10_version_6 (fun H locs hP hD hS => ?_)
  have hP : va_P D vwCl (wMo ht cy q1 ++ (wAI (fun _ => ht 9) cy 325 St_st)) H := hP
  have hD : va_D A (wMo ht cy q1 ++ (wAI (fun _ => ht 9) cy 325 St_st)) := hD
  refine z_if_eq (tgt := 21) hx hb dX10_version_9 (by decide) hf (fun hf => ?_) (fun hf => ?_)
  · refine lv_aload_n hx hb dX10_version_21 rfl (lv_at hl 0 rfl) ?_
    refine lv_iconst (v := (1 : Int32)) hx hb dX10_version_22 (by decide) ?_
    obtain ⟨q3, hc, hf⟩ := zbd hf
    refine z_cVi (As := [.int (1 : Int32)]) (rest := []) C (c_X10_no l D cy ht q1 (1 : Int32) q3 hc) gV_X10_X10_no hd_X10_no ⟨Nat.le_of_ble_eq_true rfl, Nat.le_of_ble_eq_true rfl⟩ ⟨Nat.le_refl _, Nat.le_refl _⟩ (va_recv hK hP (ci := 6) (q0 := 0) rfl rfl) hP hD hS (w2 := wMo ht cy q3.2 ++ (wAI (fun _ => ht 9) cy 325 St_st)) [0] [1] [1, 0] rfl rfl rfl rfl rfl rfl (by decide) hl.1 (Nat.le_of_ble_eq_true rfl) dX10_version_23 (fun H locs hP hD hS => ?_)
    obtain rfl := Option.some.inj hf
    exact z_iret (v := q3.1) C hP hD hS dX10_version_26
  · refine lv_iload_n hx hb dX10_version_12 rfl (lv_at hl 2 rfl) ?_
    refine lv_iconst (v := (0 : Int32)) hx hb dX10_version_13 (by decide) ?_
    refine lv_iconst (v := (5 : Int32)) hx hb dX10_version_14 (by decide) ?_
    obtain ⟨q4, hc, hf⟩ := zbd hf
    refine z_cSiE (As := [.int x2, .int (0 : Int32), .int (5 : Int32)]) (rest := []) C (c_X10_in l D cy x2 (0 : Int32) (5 : Int32) q4 hc) gS_X10_X10_in hd_X10_in ⟨Nat.le_of_ble_eq_true rfl, Nat.le_of_ble_eq_true rfl⟩ ⟨Nat.le_refl _, Nat.le_refl _⟩ hP hD hS hl.1 (Nat.le_of_ble_eq_true rfl) dX10_version_15 (fun H locs hP hD hS => ?_)
    refine z_if_ne (tgt := 27) hx hb dX10_version_18 (by decide) hf (fun hf => ?_) (fun hf => ?_)
    · refine lv_iload_n hx hb dX10_version_27 rfl (lv_at hl 2 rfl) ?_
      rcases zsw hf with ⟨hq0, hf⟩ | ⟨hq0, hf⟩
      · rw [hq0]
        refine lv_tableIn (tgt := 64) hx hb dX10_version_28 (by decide) (by decide) rfl (by decide) ?_
        refine lv_aload_n hx hb dX10_version_64 rfl (lv_at hl 0 rfl) ?_
        refine va_get (D := D) (ci := 6) (v := .ref (ht 9)) (C := RX10) (T := TX10) (N := 41) hx hb hts in_X10 hown hK hP 0 rfl rfl 21 (by decide) (hts _ q6_66) (fun _ h9 => h9) rfl dX10_version_65 ?_
        refine lv_iconst (v := (0 : Int32)) hx hb dX10_version_68 (by decide) ?_
        refine lv_iload_n hx hb dX10_version_69 rfl (lv_at hl 1 rfl) ?_
        refine lv_iadd hx hb dX10_version_70 ?_
        refine z_iald (f := St_st) hx hb hK hP 1 0 rfl rfl dX10_version_71 hf (fun hf => ?_)
        refine lv_iconst (v := (1 : Int32)) hx hb dX10_version_72 (by decide) ?_
        refine lv_isub hx hb dX10_version_73 ?_
        obtain rfl := Option.some.inj hf
        exact z_iret (v := ((St_st ((0 : Int32) + x1).toNatClampNeg) - (1 : Int32))) C hP hD hS dX10_version_74
      ·
        rcases zsw hf with ⟨hq1, hf⟩ | ⟨hq1, hf⟩
        · rw [hq1]
          refine lv_tableIn (tgt := 75) hx hb dX10_version_28 (by decide) (by decide) rfl (by decide) ?_
          refine lv_aload_n hx hb dX10_version_75 rfl (lv_at hl 0 rfl) ?_
          refine va_get (D := D) (ci := 6) (v := .ref (ht 9)) (C := RX10) (T := TX10) (N := 41) hx hb hts in_X10 hown hK hP 0 rfl rfl 21 (by decide) (hts _ q6_66) (fun _ h9 => h9) rfl dX10_version_76 ?_
          refine lv_bipush (v := (48 : Int32)) hx hb dX10_version_79 (by decide) ?_
          refine lv_iload_n hx hb dX10_version_81 rfl (lv_at hl 1 rfl) ?_
          refine lv_iadd hx hb dX10_version_82 ?_
          refine z_iald (f := St_st) hx hb hK hP 1 0 rfl rfl dX10_version_83 hf (fun hf => ?_)
          obtain rfl := Option.some.inj hf
          exact z_iret (v := (St_st ((48 : Int32) + x1).toNatClampNeg)) C hP hD hS dX10_version_84
        ·
          rcases zsw hf with ⟨hq2, hf⟩ | ⟨hq2, hf⟩
          · rw [hq2]
            refine lv_tableIn (tgt := 85) hx hb dX10_version_28 (by decide) (by decide) rfl (by decide) ?_
            refine lv_aload_n hx hb dX10_version_85 rfl (lv_at hl 0 rfl) ?_
            refine va_get (D := D) (ci := 6) (v := .ref (ht 9)) (C := RX10) (T := TX10) (N := 41) hx hb hts in_X10 hown hK hP 0 rfl rfl 21 (by decide) (hts _ q6_66) (fun _ h9 => h9) rfl dX10_version_86 ?_
            refine lv_bipush (v := (96 : Int32)) hx hb dX10_version_89 (by decide) ?_
            refine lv_iload_n hx hb dX10_version_91 rfl (lv_at hl 1 rfl) ?_
            refine lv_iadd hx hb dX10_version_92 ?_
            refine z_iald (f := St_st) hx hb hK hP 1 0 rfl rfl dX10_version_93 hf (fun hf => ?_)
            obtain rfl := Option.some.inj hf
            exact z_iret (v := (St_st ((96 : Int32) + x1).toNatClampNeg)) C hP hD hS dX10_version_94
          ·
            rcases zsw hf with ⟨hq3, hf⟩ | ⟨hq3, hf⟩
            · rw [hq3]
              refine lv_tableIn (tgt := 95) hx hb dX10_version_28 (by decide) (by decide) rfl (by decide) ?_
              refine lv_aload_n hx hb dX10_version_95 rfl (lv_at hl 0 rfl) ?_
              refine va_get (D := D) (ci := 6) (v := .ref (ht 9)) (C := RX10) (T := TX10) (N := 41) hx hb hts in_X10 hown hK hP 0 rfl rfl 21 (by decide) (hts _ q6_66) (fun _ h9 => h9) rfl dX10_version_96 ?_
              refine lv_sipush (v := (144 : Int32)) hx hb dX10_version_99 (by decide) ?_
              refine lv_iload_n hx hb dX10_version_102 rfl (lv_at hl 1 rfl) ?_
              refine lv_iadd hx hb dX10_version_103 ?_
              refine z_iald (f := St_st) hx hb hK hP 1 0 rfl rfl dX10_version_104 hf (fun hf => ?_)
              obtain rfl := Option.some.inj hf
              exact z_iret (v := (St_st ((144 : Int32) + x1).toNatClampNeg)) C hP hD hS dX10_version_105
            ·
              rcases zsw hf with ⟨hq4, hf⟩ | ⟨hq4, hf⟩
              · rw [hq4]
                refine lv_tableIn (tgt := 106) hx hb dX10_version_28 (by decide) (by decide) rfl (by decide) ?_
                refine lv_aload_n hx hb dX10_version_106 rfl (lv_at hl 0 rfl) ?_
                refine lv_aload_n hx hb dX10_version_107 rfl (lv_at hl 0 rfl) ?_
                refine va_get (D := D) (ci := 6) (v := .ref (ht 9)) (C := RX10) (T := TX10) (N := 41) hx hb hts in_X10 hown hK hP 0 rfl rfl 21 (by decide) (hts _ q6_66) (fun _ h9 => h9) rfl dX10_version_108 ?_
                refine lv_iload_n hx hb dX10_version_111 rfl (lv_at hl 1 rfl) ?_
                obtain ⟨q5, hc, hf⟩ := zbd hf
                refine z_cVi0 (As := [.ref (ht 9), .int x1]) (rest := []) C (c_X10_isDead l D cy ht (fun _ => ht 9) q1 St_st x1 q5 hc) gV_X10_X10_isDead hd_X10_isDead ⟨Nat.le_of_ble_eq_true rfl, Nat.le_of_ble_eq_true rfl⟩ ⟨Nat.le_refl _, Nat.le_refl _⟩ (va_recv hK hP (ci := 6) (q0 := 0) rfl rfl) hP hD hS hl.1 (Nat.le_of_ble_eq_true rfl) dX10_version_112 (fun H locs hP hD hS => ?_)
                have hP : va_P D vwCl (wMo ht cy q1 ++ (wAI (fun _ => ht 9) cy 325 St_st)) H := hP
                have hD : va_D A (wMo ht cy q1 ++ (wAI (fun _ => ht 9) cy 325 St_st)) := hD
                refine z_if_eq (tgt := 122) hx hb dX10_version_115 (by decide) hf (fun hf => ?_) (fun hf => ?_)
                · refine lv_iconst (v := (0 : Int32)) hx hb dX10_version_122 (by decide) ?_
                  obtain rfl := Option.some.inj hf
                  exact z_iret (v := (0 : Int32)) C hP hD hS dX10_version_123
                · refine lv_iconst (v := (1 : Int32)) hx hb dX10_version_118 (by decide) ?_
                  refine lv_goto (tgt := 123) hx hb dX10_version_119 (by decide) ?_
                  obtain rfl := Option.some.inj hf
                  exact z_iret (v := (1 : Int32)) C hP hD hS dX10_version_123
              · refine lv_tableOut (tgt := 124) hx hb dX10_version_28 (zsw_out5 hq0 hq1 hq2 hq3 hq4) (by decide) ?_
                refine lv_aload_n hx hb dX10_version_124 rfl (lv_at hl 0 rfl) ?_
                refine lv_aload_n hx hb dX10_version_125 rfl (lv_at hl 0 rfl) ?_
                refine va_get (D := D) (ci := 6) (v := .ref (ht 9)) (C := RX10) (T := TX10) (N := 41) hx hb hts in_X10 hown hK hP 0 rfl rfl 21 (by decide) (hts _ q6_66) (fun _ h9 => h9) rfl dX10_version_126 ?_
                refine lv_iload_n hx hb dX10_version_129 rfl (lv_at hl 1 rfl) ?_
                obtain ⟨q6, hc, hf⟩ := zbd hf
                refine z_cVi0 (As := [.ref (ht 9), .int x1]) (rest := []) C (c_X10_isFrozenThen l D cy ht (fun _ => ht 9) q1 St_st x1 q6 hc) gV_X10_X10_isFrozenThen hd_X10_isFrozenThen ⟨Nat.le_of_ble_eq_true rfl, Nat.le_of_ble_eq_true rfl⟩ ⟨Nat.le_refl _, Nat.le_refl _⟩ (va_recv hK hP (ci := 6) (q0 := 0) rfl rfl) hP hD hS hl.1 (Nat.le_of_ble_eq_true rfl) dX10_version_130 (fun H locs hP hD hS => ?_)
                have hP : va_P D vwCl (wMo ht cy q1 ++ (wAI (fun _ => ht 9) cy 325 St_st)) H := hP
                have hD : va_D A (wMo ht cy q1 ++ (wAI (fun _ => ht 9) cy 325 St_st)) := hD
                refine z_if_eq (tgt := 140) hx hb dX10_version_133 (by decide) hf (fun hf => ?_) (fun hf => ?_)
                · refine lv_iconst (v := (0 : Int32)) hx hb dX10_version_140 (by decide) ?_
                  obtain rfl := Option.some.inj hf
                  exact z_iret (v := (0 : Int32)) C hP hD hS dX10_version_141
                · refine lv_iconst (v := (1 : Int32)) hx hb dX10_version_136 (by decide) ?_
                  refine lv_goto (tgt := 141) hx hb dX10_version_137 (by decide) ?_
                  obtain rfl := Option.some.inj hf
                  exact z_iret (v := (1 : Int32)) C hP hD hS dX10_version_141
    · refine lv_aload_n hx hb dX10_version_21 rfl (lv_at hl 0 rfl) ?_
      refine lv_iconst (v := (1 : Int32)) hx hb dX10_version_22 (by decide) ?_
      obtain ⟨q7, hc, hf⟩ := zbd hf
      refine z_cVi (As := [.int (1 : Int32)]) (rest := []) C (c_X10_no l D cy ht q1 (1 : Int32) q7 hc) gV_X10_X10_no hd_X10_no ⟨Nat.le_of_ble_eq_true rfl, Nat.le_of_ble_eq_true rfl⟩ ⟨Nat.le_refl _, Nat.le_refl _⟩ (va_recv hK hP (ci := 6) (q0 := 0) rfl rfl) hP hD hS (w2 := wMo ht cy q7.2 ++ (wAI (fun _ => ht 9) cy 325 St_st)) [0] [1] [1, 0] rfl rfl rfl rfl rfl rfl (by decide) hl.1 (Nat.le_of_ble_eq_true rfl) dX10_version_23 (fun H locs hP hD hS => ?_)
      obtain rfl := Option.some.inj hf
      exact z_iret (v := q7.1) C hP hD hS dX10_version_26
def b_X10_chainOf_31 (St : SMo) (St_st : Nat → Int32) (x1 : Int32) (x2 : Int32) (k2 : Int32 → Option (Int32)) (k31 : Int32 → Int32 → Int32 → Option (Int32)) (v3 : Int32) (v4 : Int32) (v5 : Int32) : Option (Int32) :=
  (if (48 : Int32) ≤ v5 then
    (if v4 = x2 then
      some v3
      else
      (k2 (v3 + (1 : Int32))))
    else
    (if zib ((0 : Int32) + v5) 325 then (if (St_st ((0 : Int32) + v5).toNatClampNeg) = (x1 + (1 : Int32)) then
        (if zib ((192 : Int32) + v5) 325 then (if zib ((192 : Int32) + v3) 325 then (if (St_st ((192 : Int32) + v3).toNatClampNeg) ≤ (St_st ((192 : Int32) + v5).toNatClampNeg) then
              (k31 v3 (v4 + (0 : Int32)) (v5 + (1 : Int32)))
              else
              (k31 v3 (v4 + (1 : Int32)) (v5 + (1 : Int32)))) else none) else none)
        else
        (k31 v3 (v4 + (0 : Int32)) (v5 + (1 : Int32)))) else none))
set_option maxHeartbeats 4000000 in
set_option maxRecDepth 100000 in
theorem w_X10_chainOf_31 {p : Program} {e : Env} {s : State} {m : MethodId} {below : List Frame} {meth : Method} {c : Code} {A : Nat → Prop} {D : va_G} {cy : Nat → ClassId} {args : Array Value} {r : Int32} (l : Launch) (ht : Nat → Nat) (St : SMo) (St_st : Nat → Int32) (x1 : Int32) (x2 : Int32) {k2 : Int32 → Option (Int32)} (C : zX p s m meth c cX10_chainOf 6 args RX10 (some FieldType.int) A D (zty cy))
    (K2 : ∀ (v3 : Int32) (H : Heap) (locs : List Loc) (ls : Array Slot), k2 v3 = some r → va_P D vwCl (wMo ht cy St ++ (wAI (fun _ => ht 9) cy 325 St_st)) H → va_D A (wMo ht cy St ++ (wAI (fun _ => ht 9) cy 325 St_st)) → va_S A s.heap H locs → lv_has ls 6 [(0, .ref (ht 0)), (1, .int x1), (2, .int x2), (3, .int v3)] → W p l e (zRm 0 0) s m args below meth c H locs 0 0 (MQ below (zQI D (zty cy) A (wMo ht cy St ++ (wAI (fun _ => ht 9) cy 325 St_st)) r) args s 0 0 A) (F0 m 2 ls [])) :
    ∀ (n : Nat) (v3 : Int32) (v4 : Int32) (v5 : Int32) (H : Heap) (locs : List Loc) (ls : Array Slot), zl3 (b_X10_chainOf_31 St St_st x1 x2 k2) n v3 v4 v5 = some r → va_P D vwCl (wMo ht cy St ++ (wAI (fun _ => ht 9) cy 325 St_st)) H → va_D A (wMo ht cy St ++ (wAI (fun _ => ht 9) cy 325 St_st)) → va_S A s.heap H locs → lv_has ls 6 [(0, .ref (ht 0)), (1, .int x1), (2, .int x2), (3, .int v3), (4, .int v4), (5, .int v5)] → W p l e (zRm 0 0) s m args below meth c H locs 0 0 (MQ below (zQI D (zty cy) A (wMo ht cy St ++ (wAI (fun _ => ht 9) cy 325 St_st)) r) args s 0 0 A) (F0 m 31 ls []) := by
  obtain ⟨hx, hb, hr, hts, hown, hlocks, hml, hA, hK⟩ := id C
  intro n
  induction n with
  | zero => intro v3 v4 v5 H locs ls hf; exact zno hf
  | succ n ih =>
    intro v3 v4 v5 H locs ls hf hP hD hS hl
    have hf : b_X10_chainOf_31 St St_st x1 x2 k2 (zl3 (b_X10_chainOf_31 St St_st x1 x2 k2) n) v3 v4 v5 = some r := hf
    have K31 := ih
    refine lv_iload hx hb dX10_chainOf_31 (lv_at hl 5 rfl) ?_
    refine lv_bipush (v := (48 : Int32)) hx hb dX10_chainOf_33 (by decide) ?_
    refine z_icmp_ge (tgt := 93) hx hb dX10_chainOf_35 (by decide) hf (fun hf => ?_) (fun hf => ?_)
    · refine lv_iload hx hb dX10_chainOf_93 (lv_at hl 4 rfl) ?_
      refine lv_iload_n hx hb dX10_chainOf_95 rfl (lv_at hl 2 rfl) ?_
      refine z_icmp_ne (tgt := 101) hx hb dX10_chainOf_96 (by decide) hf (fun hf => ?_) (fun hf => ?_)
      · refine lv_iinc (v := (v3 + (1 : Int32))) (lv' := [(3, .int (v3 + (1 : Int32))), (0, .ref (ht 0)), (1, .int x1), (2, .int x2), (4, .int v4), (5, .int v5)]) hx hb dX10_chainOf_101 hl (k := 3) rfl rfl (by decide) rfl (fun ls hl => ?_)
        refine lv_goto (tgt := 2) hx hb dX10_chainOf_104 (by decide) ?_
        exact K2 (v3 + (1 : Int32)) H locs ls hf hP hD hS (lv_sub hl [1, 2, 3, 0] rfl)
      · refine lv_iload_n hx hb dX10_chainOf_99 rfl (lv_at hl 3 rfl) ?_
        obtain rfl := Option.some.inj hf
        exact z_iret (v := v3) C hP hD hS dX10_chainOf_100
    · refine lv_iload hx hb dX10_chainOf_38 (lv_at hl 4 rfl) ?_
      refine lv_aload_n hx hb dX10_chainOf_40 rfl (lv_at hl 0 rfl) ?_
      refine va_get (D := D) (ci := 6) (v := .ref (ht 9)) (C := RX10) (T := TX10) (N := 41) hx hb hts in_X10 hown hK hP 0 rfl rfl 21 (by decide) (hts _ q6_66) (fun _ h9 => h9) rfl dX10_chainOf_41 ?_
      refine lv_iconst (v := (0 : Int32)) hx hb dX10_chainOf_44 (by decide) ?_
      refine lv_iload hx hb dX10_chainOf_45 (lv_at hl 5 rfl) ?_
      refine lv_iadd hx hb dX10_chainOf_47 ?_
      refine z_iald (f := St_st) hx hb hK hP 1 0 rfl rfl dX10_chainOf_48 hf (fun hf => ?_)
      refine lv_iload_n hx hb dX10_chainOf_49 rfl (lv_at hl 1 rfl) ?_
      refine lv_iconst (v := (1 : Int32)) hx hb dX10_chainOf_50 (by decide) ?_
      refine lv_iadd hx hb dX10_chainOf_51 ?_
      refine z_icmp_ne (tgt := 83) hx hb dX10_chainOf_52 (by decide) hf (fun hf => ?_) (fun hf => ?_)
      · refine lv_iconst (v := (0 : Int32)) hx hb dX10_chainOf_83 (by decide) ?_
        refine lv_iadd hx hb dX10_chainOf_84 ?_
        refine lv_istore (lv' := [(4, .int (v4 + (0 : Int32))), (0, .ref (ht 0)), (1, .int x1), (2, .int x2), (3, .int v3), (5, .int v5)]) hx hb dX10_chainOf_85 hl (by decide) rfl (fun ls hl => ?_)
        refine lv_iinc (v := (v5 + (1 : Int32))) (lv' := [(5, .int (v5 + (1 : Int32))), (4, .int (v4 + (0 : Int32))), (0, .ref (ht 0)), (1, .int x1), (2, .int x2), (3, .int v3)]) hx hb dX10_chainOf_87 hl (k := 5) rfl rfl (by decide) rfl (fun ls hl => ?_)
        refine lv_goto (tgt := 31) hx hb dX10_chainOf_90 (by decide) ?_
        exact K31 v3 (v4 + (0 : Int32)) (v5 + (1 : Int32)) H locs ls hf hP hD hS (lv_sub hl [2, 3, 4, 5, 1, 0] rfl)
      · refine lv_aload_n hx hb dX10_chainOf_55 rfl (lv_at hl 0 rfl) ?_
        refine va_get (D := D) (ci := 6) (v := .ref (ht 9)) (C := RX10) (T := TX10) (N := 41) hx hb hts in_X10 hown hK hP 0 rfl rfl 21 (by decide) (hts _ q6_66) (fun _ h9 => h9) rfl dX10_chainOf_56 ?_
        refine lv_sipush (v := (192 : Int32)) hx hb dX10_chainOf_59 (by decide) ?_
        refine lv_iload hx hb dX10_chainOf_62 (lv_at hl 5 rfl) ?_
        refine lv_iadd hx hb dX10_chainOf_64 ?_
        refine z_iald (f := St_st) hx hb hK hP 1 0 rfl rfl dX10_chainOf_65 hf (fun hf => ?_)
        refine lv_aload_n hx hb dX10_chainOf_66 rfl (lv_at hl 0 rfl) ?_
        refine va_get (D := D) (ci := 6) (v := .ref (ht 9)) (C := RX10) (T := TX10) (N := 41) hx hb hts in_X10 hown hK hP 0 rfl rfl 21 (by decide) (hts _ q6_66) (fun _ h9 => h9) rfl dX10_chainOf_67 ?_
        refine lv_sipush (v := (192 : Int32)) hx hb dX10_chainOf_70 (by decide) ?_
        refine lv_iload_n hx hb dX10_chainOf_73 rfl (lv_at hl 3 rfl) ?_
        refine lv_iadd hx hb dX10_chainOf_74 ?_
        refine z_iald (f := St_st) hx hb hK hP 1 0 rfl rfl dX10_chainOf_75 hf (fun hf => ?_)
        refine z_icmp_ge (tgt := 83) hx hb dX10_chainOf_76 (by decide) hf (fun hf => ?_) (fun hf => ?_)
        · refine lv_iconst (v := (0 : Int32)) hx hb dX10_chainOf_83 (by decide) ?_
          refine lv_iadd hx hb dX10_chainOf_84 ?_
          refine lv_istore (lv' := [(4, .int (v4 + (0 : Int32))), (0, .ref (ht 0)), (1, .int x1), (2, .int x2), (3, .int v3), (5, .int v5)]) hx hb dX10_chainOf_85 hl (by decide) rfl (fun ls hl => ?_)
          refine lv_iinc (v := (v5 + (1 : Int32))) (lv' := [(5, .int (v5 + (1 : Int32))), (4, .int (v4 + (0 : Int32))), (0, .ref (ht 0)), (1, .int x1), (2, .int x2), (3, .int v3)]) hx hb dX10_chainOf_87 hl (k := 5) rfl rfl (by decide) rfl (fun ls hl => ?_)
          refine lv_goto (tgt := 31) hx hb dX10_chainOf_90 (by decide) ?_
          exact K31 v3 (v4 + (0 : Int32)) (v5 + (1 : Int32)) H locs ls hf hP hD hS (lv_sub hl [2, 3, 4, 5, 1, 0] rfl)
        · refine lv_iconst (v := (1 : Int32)) hx hb dX10_chainOf_79 (by decide) ?_
          refine lv_goto (tgt := 84) hx hb dX10_chainOf_80 (by decide) ?_
          refine lv_iadd hx hb dX10_chainOf_84 ?_
          refine lv_istore (lv' := [(4, .int (v4 + (1 : Int32))), (0, .ref (ht 0)), (1, .int x1), (2, .int x2), (3, .int v3), (5, .int v5)]) hx hb dX10_chainOf_85 hl (by decide) rfl (fun ls hl => ?_)
          refine lv_iinc (v := (v5 + (1 : Int32))) (lv' := [(5, .int (v5 + (1 : Int32))), (4, .int (v4 + (1 : Int32))), (0, .ref (ht 0)), (1, .int x1), (2, .int x2), (3, .int v3)]) hx hb dX10_chainOf_87 hl (k := 5) rfl rfl (by decide) rfl (fun ls hl => ?_)
          refine lv_goto (tgt := 31) hx hb dX10_chainOf_90 (by decide) ?_
          exact K31 v3 (v4 + (1 : Int32)) (v5 + (1 : Int32)) H locs ls hf hP hD hS (lv_sub hl [2, 3, 4, 5, 1, 0] rfl)
def b_X10_chainOf_2 (St : SMo) (St_st : Nat → Int32) (x1 : Int32) (x2 : Int32) (k2 : Int32 → Option (Int32)) (v3 : Int32) : Option (Int32) :=
  (if (48 : Int32) ≤ v3 then
    some (-2 : Int32)
    else
    (if zib ((0 : Int32) + v3) 325 then (if (St_st ((0 : Int32) + v3).toNatClampNeg) = (x1 + (1 : Int32)) then
        (zl3 (b_X10_chainOf_31 St St_st x1 x2 k2) FU v3 (0 : Int32) (0 : Int32))
        else
        (k2 (v3 + (1 : Int32)))) else none))
set_option maxHeartbeats 4000000 in
set_option maxRecDepth 100000 in
theorem w_X10_chainOf_2 {p : Program} {e : Env} {s : State} {m : MethodId} {below : List Frame} {meth : Method} {c : Code} {A : Nat → Prop} {D : va_G} {cy : Nat → ClassId} {args : Array Value} {r : Int32} (l : Launch) (ht : Nat → Nat) (St : SMo) (St_st : Nat → Int32) (x1 : Int32) (x2 : Int32) (C : zX p s m meth c cX10_chainOf 6 args RX10 (some FieldType.int) A D (zty cy)) :
    ∀ (n : Nat) (v3 : Int32) (H : Heap) (locs : List Loc) (ls : Array Slot), zl1 (b_X10_chainOf_2 St St_st x1 x2) n v3 = some r → va_P D vwCl (wMo ht cy St ++ (wAI (fun _ => ht 9) cy 325 St_st)) H → va_D A (wMo ht cy St ++ (wAI (fun _ => ht 9) cy 325 St_st)) → va_S A s.heap H locs → lv_has ls 6 [(0, .ref (ht 0)), (1, .int x1), (2, .int x2), (3, .int v3)] → W p l e (zRm 0 0) s m args below meth c H locs 0 0 (MQ below (zQI D (zty cy) A (wMo ht cy St ++ (wAI (fun _ => ht 9) cy 325 St_st)) r) args s 0 0 A) (F0 m 2 ls []) := by
  obtain ⟨hx, hb, hr, hts, hown, hlocks, hml, hA, hK⟩ := id C
  intro n
  induction n with
  | zero => intro v3 H locs ls hf; exact zno hf
  | succ n ih =>
    intro v3 H locs ls hf hP hD hS hl
    have hf : b_X10_chainOf_2 St St_st x1 x2 (zl1 (b_X10_chainOf_2 St St_st x1 x2) n) v3 = some r := hf
    have K2 := ih
    refine lv_iload_n hx hb dX10_chainOf_2 rfl (lv_at hl 3 rfl) ?_
    refine lv_bipush (v := (48 : Int32)) hx hb dX10_chainOf_3 (by decide) ?_
    refine z_icmp_ge (tgt := 107) hx hb dX10_chainOf_5 (by decide) hf (fun hf => ?_) (fun hf => ?_)
    · refine lv_bipush (v := (-2 : Int32)) hx hb dX10_chainOf_107 (by decide) ?_
      obtain rfl := Option.some.inj hf
      exact z_iret (v := (-2 : Int32)) C hP hD hS dX10_chainOf_109
    · refine lv_aload_n hx hb dX10_chainOf_8 rfl (lv_at hl 0 rfl) ?_
      refine va_get (D := D) (ci := 6) (v := .ref (ht 9)) (C := RX10) (T := TX10) (N := 41) hx hb hts in_X10 hown hK hP 0 rfl rfl 21 (by decide) (hts _ q6_66) (fun _ h9 => h9) rfl dX10_chainOf_9 ?_
      refine lv_iconst (v := (0 : Int32)) hx hb dX10_chainOf_12 (by decide) ?_
      refine lv_iload_n hx hb dX10_chainOf_13 rfl (lv_at hl 3 rfl) ?_
      refine lv_iadd hx hb dX10_chainOf_14 ?_
      refine z_iald (f := St_st) hx hb hK hP 1 0 rfl rfl dX10_chainOf_15 hf (fun hf => ?_)
      refine lv_iload_n hx hb dX10_chainOf_16 rfl (lv_at hl 1 rfl) ?_
      refine lv_iconst (v := (1 : Int32)) hx hb dX10_chainOf_17 (by decide) ?_
      refine lv_iadd hx hb dX10_chainOf_18 ?_
      refine z_icmp_eq (tgt := 25) hx hb dX10_chainOf_19 (by decide) hf (fun hf => ?_) (fun hf => ?_)
      · refine lv_iconst (v := (0 : Int32)) hx hb dX10_chainOf_25 (by decide) ?_
        refine lv_istore (lv' := [(4, .int (0 : Int32)), (0, .ref (ht 0)), (1, .int x1), (2, .int x2), (3, .int v3)]) hx hb dX10_chainOf_26 hl (by decide) rfl (fun ls hl => ?_)
        refine lv_iconst (v := (0 : Int32)) hx hb dX10_chainOf_28 (by decide) ?_
        refine lv_istore (lv' := [(5, .int (0 : Int32)), (4, .int (0 : Int32)), (0, .ref (ht 0)), (1, .int x1), (2, .int x2), (3, .int v3)]) hx hb dX10_chainOf_29 hl (by decide) rfl (fun ls hl => ?_)
        exact w_X10_chainOf_31 l ht St St_st x1 x2 C K2 FU v3 (0 : Int32) (0 : Int32) H locs ls hf hP hD hS (lv_sub hl [2, 3, 4, 5, 1, 0] rfl)
      · refine lv_goto (tgt := 101) hx hb dX10_chainOf_22 (by decide) ?_
        refine lv_iinc (v := (v3 + (1 : Int32))) (lv' := [(3, .int (v3 + (1 : Int32))), (0, .ref (ht 0)), (1, .int x1), (2, .int x2)]) hx hb dX10_chainOf_101 hl (k := 3) rfl rfl (by decide) rfl (fun ls hl => ?_)
        refine lv_goto (tgt := 2) hx hb dX10_chainOf_104 (by decide) ?_
        exact K2 (v3 + (1 : Int32)) H locs ls hf hP hD hS (lv_sub hl [1, 2, 3, 0] rfl)
def f_X10_chainOf (St : SMo) (St_st : Nat → Int32) (x1 : Int32) (x2 : Int32) : Option (Int32) :=
  (zl1 (b_X10_chainOf_2 St St_st x1 x2) FU (0 : Int32))
set_option maxHeartbeats 4000000 in
set_option maxRecDepth 100000 in
theorem c_X10_chainOf (l : Launch) (D : va_G) (cy : Nat → ClassId) (ht : Nat → Nat) (St : SMo) (St_st : Nat → Int32) (x1 : Int32) (x2 : Int32) (r : Int32) (hf : f_X10_chainOf St St_st x1 x2 = some r) : zCI l yX10_chainOf cX10_chainOf 6 (some FieldType.int) 0 0 D (zty cy) [.ref (ht 0), .int x1, .int x2] (wMo ht cy St ++ (wAI (fun _ => ht 9) cy 325 St_st)) (wMo ht cy St ++ (wAI (fun _ => ht 9) cy 325 St_st)) r := by
  refine zCI_of (by decide +kernel) (Nat.le_of_ble_eq_true rfl) ?_
  intro p e s m below meth c A ls C hP hD hS hl
  generalize hargs : ([.ref (ht 0), .int x1, .int x2] : List Value).toArray = args at C ⊢
  have C : zX p s m meth c cX10_chainOf 6 args RX10 (some FieldType.int) A D (zty cy) := C
  obtain ⟨hx, hb, hr, hts, hown, hlocks, hml, hA, hK⟩ := id C
  have hl : lv_has ls 6 [(0, .ref (ht 0)), (1, .int x1), (2, .int x2)] := hl
  generalize hH : s.heap = H at hP ⊢
  have hS : va_S A s.heap H [] := by rw [← hH]; exact hS
  generalize ([] : List Loc) = locs at hS ⊢
  refine lv_iconst (v := (0 : Int32)) hx hb dX10_chainOf_0 (by decide) ?_
  refine lv_istore_n (lv' := [(3, .int (0 : Int32)), (0, .ref (ht 0)), (1, .int x1), (2, .int x2)]) hx hb dX10_chainOf_1 rfl hl (by decide) rfl (fun ls hl => ?_)
  exact w_X10_chainOf_2 l ht St St_st x1 x2 C FU (0 : Int32) H locs ls hf hP hD hS (lv_sub hl [1, 2, 3, 0] rfl)
def b_X10_chain_22 (St_r : Nat → Int32) (St_st : Nat → Int32) (x1 : Int32) (k22 : SMo → Int32 → Int32 → Option (Int32 × SMo)) (St : SMo) (v2 : Int32) (v3 : Int32) : Option (Int32 × SMo) :=
  (if (48 : Int32) ≤ v3 then
    some (v2, St)
    else
    (if zib ((0 : Int32) + v3) 325 then (if (St_st ((0 : Int32) + v3).toNatClampNeg) = (x1 + (1 : Int32)) then
        (k22 St (v2 + (1 : Int32)) (v3 + (1 : Int32)))
        else
        (k22 St (v2 + (0 : Int32)) (v3 + (1 : Int32)))) else none))
set_option maxHeartbeats 4000000 in
set_option maxRecDepth 100000 in
theorem w_X10_chain_22 {p : Program} {e : Env} {s : State} {m : MethodId} {below : List Frame} {meth : Method} {c : Code} {A : Nat → Prop} {D : va_G} {cy : Nat → ClassId} {args : Array Value} {r : Int32 × SMo} (l : Launch) (ht : Nat → Nat) (St_r : Nat → Int32) (St_st : Nat → Int32) (x1 : Int32) (C : zX p s m meth c cX10_chain 4 args RX10 (some FieldType.int) A D (zty cy)) :
    ∀ (n : Nat) (St : SMo) (v2 : Int32) (v3 : Int32) (H : Heap) (locs : List Loc) (ls : Array Slot), zl3 (b_X10_chain_22 St_r St_st x1) n St v2 v3 = some r → va_P D vwCl (wMo ht cy St ++ (wAI (fun _ => ht 3) cy 140 St_r ++ (wAI (fun _ => ht 9) cy 325 St_st))) H → va_D A (wMo ht cy St ++ (wAI (fun _ => ht 3) cy 140 St_r ++ (wAI (fun _ => ht 9) cy 325 St_st))) → va_S A s.heap H locs → lv_has ls 4 [(0, .ref (ht 0)), (1, .int x1), (2, .int v2), (3, .int v3)] → W p l e (zRm 2 43) s m args below meth c H locs 0 0 (MQ below (zQI D (zty cy) A (wMo ht cy r.2 ++ (wAI (fun _ => ht 3) cy 140 St_r ++ (wAI (fun _ => ht 9) cy 325 St_st))) r.1) args s 0 0 A) (F0 m 22 ls []) := by
  obtain ⟨hx, hb, hr, hts, hown, hlocks, hml, hA, hK⟩ := id C
  intro n
  induction n with
  | zero => intro St v2 v3 H locs ls hf; exact zno hf
  | succ n ih =>
    intro St v2 v3 H locs ls hf hP hD hS hl
    have hf : b_X10_chain_22 St_r St_st x1 (zl3 (b_X10_chain_22 St_r St_st x1) n) St v2 v3 = some r := hf
    have K22 := ih
    refine lv_iload_n hx hb dX10_chain_22 rfl (lv_at hl 3 rfl) ?_
    refine lv_bipush (v := (48 : Int32)) hx hb dX10_chain_23 (by decide) ?_
    refine z_icmp_ge (tgt := 56) hx hb dX10_chain_25 (by decide) hf (fun hf => ?_) (fun hf => ?_)
    · refine lv_iload_n hx hb dX10_chain_56 rfl (lv_at hl 2 rfl) ?_
      obtain rfl := Option.some.inj hf
      exact z_iret (v := v2) C hP hD hS dX10_chain_57
    · refine lv_iload_n hx hb dX10_chain_28 rfl (lv_at hl 2 rfl) ?_
      refine lv_aload_n hx hb dX10_chain_29 rfl (lv_at hl 0 rfl) ?_
      refine va_get (D := D) (ci := 6) (v := .ref (ht 9)) (C := RX10) (T := TX10) (N := 41) hx hb hts in_X10 hown hK hP 0 rfl rfl 21 (by decide) (hts _ q6_66) (fun _ h9 => h9) rfl dX10_chain_30 ?_
      refine lv_iconst (v := (0 : Int32)) hx hb dX10_chain_33 (by decide) ?_
      refine lv_iload_n hx hb dX10_chain_34 rfl (lv_at hl 3 rfl) ?_
      refine lv_iadd hx hb dX10_chain_35 ?_
      refine z_iald (f := St_st) hx hb hK hP 2 0 rfl rfl dX10_chain_36 hf (fun hf => ?_)
      refine lv_iload_n hx hb dX10_chain_37 rfl (lv_at hl 1 rfl) ?_
      refine lv_iconst (v := (1 : Int32)) hx hb dX10_chain_38 (by decide) ?_
      refine lv_iadd hx hb dX10_chain_39 ?_
      refine z_icmp_ne (tgt := 47) hx hb dX10_chain_40 (by decide) hf (fun hf => ?_) (fun hf => ?_)
      · refine lv_iconst (v := (0 : Int32)) hx hb dX10_chain_47 (by decide) ?_
        refine lv_iadd hx hb dX10_chain_48 ?_
        refine lv_istore_n (lv' := [(2, .int (v2 + (0 : Int32))), (0, .ref (ht 0)), (1, .int x1), (3, .int v3)]) hx hb dX10_chain_49 rfl hl (by decide) rfl (fun ls hl => ?_)
        refine lv_iinc (v := (v3 + (1 : Int32))) (lv' := [(3, .int (v3 + (1 : Int32))), (2, .int (v2 + (0 : Int32))), (0, .ref (ht 0)), (1, .int x1)]) hx hb dX10_chain_50 hl (k := 3) rfl rfl (by decide) rfl (fun ls hl => ?_)
        refine lv_goto (tgt := 22) hx hb dX10_chain_53 (by decide) ?_
        exact K22 St (v2 + (0 : Int32)) (v3 + (1 : Int32)) H locs ls hf hP hD hS (lv_sub hl [2, 3, 1, 0] rfl)
      · refine lv_iconst (v := (1 : Int32)) hx hb dX10_chain_43 (by decide) ?_
        refine lv_goto (tgt := 48) hx hb dX10_chain_44 (by decide) ?_
        refine lv_iadd hx hb dX10_chain_48 ?_
        refine lv_istore_n (lv' := [(2, .int (v2 + (1 : Int32))), (0, .ref (ht 0)), (1, .int x1), (3, .int v3)]) hx hb dX10_chain_49 rfl hl (by decide) rfl (fun ls hl => ?_)
        refine lv_iinc (v := (v3 + (1 : Int32))) (lv' := [(3, .int (v3 + (1 : Int32))), (2, .int (v2 + (1 : Int32))), (0, .ref (ht 0)), (1, .int x1)]) hx hb dX10_chain_50 hl (k := 3) rfl rfl (by decide) rfl (fun ls hl => ?_)
        refine lv_goto (tgt := 22) hx hb dX10_chain_53 (by decide) ?_
        exact K22 St (v2 + (1 : Int32)) (v3 + (1 : Int32)) H locs ls hf hP hD hS (lv_sub hl [2, 3, 1, 0] rfl)
def f_X10_chain (St : SMo) (St_r : Nat → Int32) (St_st : Nat → Int32) (x1 : Int32) : Option (Int32 × SMo) :=
  (f_X10_anew St).bind (fun q1 =>
    (f_X10_isRow q1 St_r x1).bind (fun q2 =>
      (if q2 = 0 then
        (f_X10_no q1 (1 : Int32)).bind (fun q3 =>
          some (q3.1, q3.2))
        else
        (zl3 (b_X10_chain_22 St_r St_st x1) FU q1 (0 : Int32) (0 : Int32)))))
set_option maxHeartbeats 4000000 in
set_option maxRecDepth 100000 in
theorem c_X10_chain (l : Launch) (D : va_G) (cy : Nat → ClassId) (ht : Nat → Nat) (St : SMo) (St_r : Nat → Int32) (St_st : Nat → Int32) (x1 : Int32) (r : Int32 × SMo) (hf : f_X10_chain St St_r St_st x1 = some r) : zCI l yX10_chain cX10_chain 4 (some FieldType.int) 2 43 D (zty cy) [.ref (ht 0), .int x1] (wMo ht cy St ++ (wAI (fun _ => ht 3) cy 140 St_r ++ (wAI (fun _ => ht 9) cy 325 St_st))) (wMo ht cy r.2 ++ (wAI (fun _ => ht 3) cy 140 St_r ++ (wAI (fun _ => ht 9) cy 325 St_st))) r.1 := by
  refine zCI_of (by decide +kernel) (Nat.le_of_ble_eq_true rfl) ?_
  intro p e s m below meth c A ls C hP hD hS hl
  generalize hargs : ([.ref (ht 0), .int x1] : List Value).toArray = args at C ⊢
  have C : zX p s m meth c cX10_chain 4 args RX10 (some FieldType.int) A D (zty cy) := C
  obtain ⟨hx, hb, hr, hts, hown, hlocks, hml, hA, hK⟩ := id C
  have hl : lv_has ls 4 [(0, .ref (ht 0)), (1, .int x1)] := hl
  generalize hH : s.heap = H at hP ⊢
  have hS : va_S A s.heap H [] := by rw [← hH]; exact hS
  generalize ([] : List Loc) = locs at hS ⊢
  refine lv_aload_n hx hb dX10_chain_0 rfl (lv_at hl 0 rfl) ?_
  obtain ⟨q1, hc, hf⟩ := zbd hf
  refine z_cVv (As := []) (rest := []) C (c_X10_anew l D cy ht St q1 hc) gV_X10_X10_anew hd_X10_anew ⟨Nat.le_of_ble_eq_true rfl, Nat.le_of_ble_eq_true rfl⟩ ⟨Nat.le_refl _, Nat.le_refl _⟩ (va_recv hK hP (ci := 6) (q0 := 0) rfl rfl) hP hD hS (w2 := wMo ht cy q1 ++ (wAI (fun _ => ht 3) cy 140 St_r ++ (wAI (fun _ => ht 9) cy 325 St_st))) [0] [1, 2] [2, 0, 1] rfl rfl rfl rfl rfl rfl (by decide) hl.1 (Nat.le_of_ble_eq_true rfl) dX10_chain_1 (fun H locs hP hD hS => ?_)
  refine lv_aload_n hx hb dX10_chain_4 rfl (lv_at hl 0 rfl) ?_
  refine lv_iload_n hx hb dX10_chain_5 rfl (lv_at hl 1 rfl) ?_
  obtain ⟨q2, hc, hf⟩ := zbd hf
  refine z_cVi (As := [.int x1]) (rest := []) C (c_X10_isRow l D cy ht q1 St_r x1 q2 hc) gV_X10_X10_isRow hd_X10_isRow ⟨Nat.le_of_ble_eq_true rfl, Nat.le_of_ble_eq_true rfl⟩ ⟨Nat.le_refl _, Nat.le_refl _⟩ (va_recv hK hP (ci := 6) (q0 := 0) rfl rfl) hP hD hS (w2 := wMo ht cy q1 ++ (wAI (fun _ => ht 3) cy 140 St_r ++ (wAI (fun _ => ht 9) cy 325 St_st))) [0, 1] [2] [1, 2, 0] rfl rfl rfl rfl rfl rfl (by decide) hl.1 (Nat.le_of_ble_eq_true rfl) dX10_chain_6 (fun H locs hP hD hS => ?_)
  refine z_if_ne (tgt := 18) hx hb dX10_chain_9 (by decide) hf (fun hf => ?_) (fun hf => ?_)
  · refine lv_iconst (v := (0 : Int32)) hx hb dX10_chain_18 (by decide) ?_
    refine lv_istore_n (lv' := [(2, .int (0 : Int32)), (0, .ref (ht 0)), (1, .int x1)]) hx hb dX10_chain_19 rfl hl (by decide) rfl (fun ls hl => ?_)
    refine lv_iconst (v := (0 : Int32)) hx hb dX10_chain_20 (by decide) ?_
    refine lv_istore_n (lv' := [(3, .int (0 : Int32)), (2, .int (0 : Int32)), (0, .ref (ht 0)), (1, .int x1)]) hx hb dX10_chain_21 rfl hl (by decide) rfl (fun ls hl => ?_)
    exact w_X10_chain_22 l ht St_r St_st x1 C FU q1 (0 : Int32) (0 : Int32) H locs ls hf hP hD hS (lv_sub hl [2, 3, 1, 0] rfl)
  · refine lv_aload_n hx hb dX10_chain_12 rfl (lv_at hl 0 rfl) ?_
    refine lv_iconst (v := (1 : Int32)) hx hb dX10_chain_13 (by decide) ?_
    obtain ⟨q3, hc, hf⟩ := zbd hf
    refine z_cVi (As := [.int (1 : Int32)]) (rest := []) C (c_X10_no l D cy ht q1 (1 : Int32) q3 hc) gV_X10_X10_no hd_X10_no ⟨Nat.le_of_ble_eq_true rfl, Nat.le_of_ble_eq_true rfl⟩ ⟨Nat.le_refl _, Nat.le_refl _⟩ (va_recv hK hP (ci := 6) (q0 := 0) rfl rfl) hP hD hS (w2 := wMo ht cy q3.2 ++ (wAI (fun _ => ht 3) cy 140 St_r ++ (wAI (fun _ => ht 9) cy 325 St_st))) [0] [1, 2] [2, 0, 1] rfl rfl rfl rfl rfl rfl (by decide) hl.1 (Nat.le_of_ble_eq_true rfl) dX10_chain_14 (fun H locs hP hD hS => ?_)
    obtain rfl := Option.some.inj hf
    exact z_iret (v := q3.1) C hP hD hS dX10_chain_17
def b_X10_chainAt_23 (St_r : Nat → Int32) (St_st : Nat → Int32) (x1 : Int32) (x2 : Int32) (St : SMo) (u0 : Int32) : Option (Int32 × SMo) :=
  (if 0 ≤ u0 then
    some (u0, St)
    else
    (f_X10_no St (1 : Int32)).bind (fun q1 =>
      some (q1.1, q1.2)))
set_option maxHeartbeats 4000000 in
set_option maxRecDepth 100000 in
theorem w_X10_chainAt_23 {p : Program} {e : Env} {s : State} {m : MethodId} {below : List Frame} {meth : Method} {c : Code} {A : Nat → Prop} {D : va_G} {cy : Nat → ClassId} {args : Array Value} {r : Int32 × SMo} (l : Launch) (ht : Nat → Nat) (St_r : Nat → Int32) (St_st : Nat → Int32) (x1 : Int32) (x2 : Int32) (C : zX p s m meth c cX10_chainAt 4 args RX10 (some FieldType.int) A D (zty cy)) :
    ∀ (St : SMo) (u0 : Int32) (H : Heap) (locs : List Loc) (ls : Array Slot), b_X10_chainAt_23 St_r St_st x1 x2 St u0 = some r → va_P D vwCl (wMo ht cy St ++ (wAI (fun _ => ht 3) cy 140 St_r ++ (wAI (fun _ => ht 9) cy 325 St_st))) H → va_D A (wMo ht cy St ++ (wAI (fun _ => ht 3) cy 140 St_r ++ (wAI (fun _ => ht 9) cy 325 St_st))) → va_S A s.heap H locs → lv_has ls 4 [(0, .ref (ht 0))] → W p l e (zRm 2 43) s m args below meth c H locs 0 0 (MQ below (zQI D (zty cy) A (wMo ht cy r.2 ++ (wAI (fun _ => ht 3) cy 140 St_r ++ (wAI (fun _ => ht 9) cy 325 St_st))) r.1) args s 0 0 A) (F0 m 23 ls [.int u0]) := by
  obtain ⟨hx, hb, hr, hts, hown, hlocks, hml, hA, hK⟩ := id C
  intro St u0 H locs ls hf hP hD hS hl
  refine lv_istore_n (lv' := [(3, .int u0), (0, .ref (ht 0))]) hx hb dX10_chainAt_23 rfl hl (by decide) rfl (fun ls hl => ?_)
  refine lv_iload_n hx hb dX10_chainAt_24 rfl (lv_at hl 0 rfl) ?_
  refine z_if_ge (tgt := 36) hx hb dX10_chainAt_25 (by decide) hf (fun hf => ?_) (fun hf => ?_)
  · refine lv_iload_n hx hb dX10_chainAt_36 rfl (lv_at hl 0 rfl) ?_
    obtain rfl := Option.some.inj hf
    exact z_iret (v := u0) C hP hD hS dX10_chainAt_37
  · refine lv_aload_n hx hb dX10_chainAt_28 rfl (lv_at hl 1 rfl) ?_
    refine lv_iconst (v := (1 : Int32)) hx hb dX10_chainAt_29 (by decide) ?_
    obtain ⟨q1, hc, hf⟩ := zbd hf
    refine z_cVi (As := [.int (1 : Int32)]) (rest := []) C (c_X10_no l D cy ht St (1 : Int32) q1 hc) gV_X10_X10_no hd_X10_no ⟨Nat.le_of_ble_eq_true rfl, Nat.le_of_ble_eq_true rfl⟩ ⟨Nat.le_refl _, Nat.le_refl _⟩ (va_recv hK hP (ci := 6) (q0 := 0) rfl rfl) hP hD hS (w2 := wMo ht cy q1.2 ++ (wAI (fun _ => ht 3) cy 140 St_r ++ (wAI (fun _ => ht 9) cy 325 St_st))) [0] [1, 2] [2, 0, 1] rfl rfl rfl rfl rfl rfl (by decide) hl.1 (Nat.le_of_ble_eq_true rfl) dX10_chainAt_30 (fun H locs hP hD hS => ?_)
    refine lv_goto (tgt := 37) hx hb dX10_chainAt_33 (by decide) ?_
    obtain rfl := Option.some.inj hf
    exact z_iret (v := q1.1) C hP hD hS dX10_chainAt_37
def f_X10_chainAt (St : SMo) (St_r : Nat → Int32) (St_st : Nat → Int32) (x1 : Int32) (x2 : Int32) : Option (Int32 × SMo) :=
  (f_X10_anew St).bind (fun q2 =>
    (f_X10_isRow q2 St_r x1).bind (fun q3 =>
      (if q3 = 0 then
        (b_X10_chainAt_23 St_r St_st x1 x2 q2 (-2 : Int32))
        else
        (f_X10_chainOf q2 St_st x1 x2).bind (fun q4 =>
          (b_X10_chainAt_23 St_r St_st x1 x2 q2 q4)))))
set_option maxHeartbeats 4000000 in
set_option maxRecDepth 100000 in
theorem c_X10_chainAt (l : Launch) (D : va_G) (cy : Nat → ClassId) (ht : Nat → Nat) (St : SMo) (St_r : Nat → Int32) (St_st : Nat → Int32) (x1 : Int32) (x2 : Int32) (r : Int32 × SMo) (hf : f_X10_chainAt St St_r St_st x1 x2 = some r) : zCI l yX10_chainAt cX10_chainAt 4 (some FieldType.int) 2 43 D (zty cy) [.ref (ht 0), .int x1, .int x2] (wMo ht cy St ++ (wAI (fun _ => ht 3) cy 140 St_r ++ (wAI (fun _ => ht 9) cy 325 St_st))) (wMo ht cy r.2 ++ (wAI (fun _ => ht 3) cy 140 St_r ++ (wAI (fun _ => ht 9) cy 325 St_st))) r.1 := by
  refine zCI_of (by decide +kernel) (Nat.le_of_ble_eq_true rfl) ?_
  intro p e s m below meth c A ls C hP hD hS hl
  generalize hargs : ([.ref (ht 0), .int x1, .int x2] : List Value).toArray = args at C ⊢
  have C : zX p s m meth c cX10_chainAt 4 args RX10 (some FieldType.int) A D (zty cy) := C
  obtain ⟨hx, hb, hr, hts, hown, hlocks, hml, hA, hK⟩ := id C
  have hl : lv_has ls 4 [(0, .ref (ht 0)), (1, .int x1), (2, .int x2)] := hl
  generalize hH : s.heap = H at hP ⊢
  have hS : va_S A s.heap H [] := by rw [← hH]; exact hS
  generalize ([] : List Loc) = locs at hS ⊢
  refine lv_aload_n hx hb dX10_chainAt_0 rfl (lv_at hl 0 rfl) ?_
  obtain ⟨q2, hc, hf⟩ := zbd hf
  refine z_cVv (As := []) (rest := []) C (c_X10_anew l D cy ht St q2 hc) gV_X10_X10_anew hd_X10_anew ⟨Nat.le_of_ble_eq_true rfl, Nat.le_of_ble_eq_true rfl⟩ ⟨Nat.le_refl _, Nat.le_refl _⟩ (va_recv hK hP (ci := 6) (q0 := 0) rfl rfl) hP hD hS (w2 := wMo ht cy q2 ++ (wAI (fun _ => ht 3) cy 140 St_r ++ (wAI (fun _ => ht 9) cy 325 St_st))) [0] [1, 2] [2, 0, 1] rfl rfl rfl rfl rfl rfl (by decide) hl.1 (Nat.le_of_ble_eq_true rfl) dX10_chainAt_1 (fun H locs hP hD hS => ?_)
  refine lv_aload_n hx hb dX10_chainAt_4 rfl (lv_at hl 0 rfl) ?_
  refine lv_iload_n hx hb dX10_chainAt_5 rfl (lv_at hl 1 rfl) ?_
  obtain ⟨q3, hc, hf⟩ := zbd hf
  refine z_cVi (As := [.int x1]) (rest := []) C (c_X10_isRow l D cy ht q2 St_r x1 q3 hc) gV_X10_X10_isRow hd_X10_isRow ⟨Nat.le_of_ble_eq_true rfl, Nat.le_of_ble_eq_true rfl⟩ ⟨Nat.le_refl _, Nat.le_refl _⟩ (va_recv hK hP (ci := 6) (q0 := 0) rfl rfl) hP hD hS (w2 := wMo ht cy q2 ++ (wAI (fun _ => ht 3) cy 140 St_r ++ (wAI (fun _ => ht 9) cy 325 St_st))) [0, 1] [2] [1, 2, 0] rfl rfl rfl rfl rfl rfl (by decide) hl.1 (Nat.le_of_ble_eq_true rfl) dX10_chainAt_6 (fun H locs hP hD hS => ?_)
  refine z_if_eq (tgt := 21) hx hb dX10_chainAt_9 (by decide) hf (fun hf => ?_) (fun hf => ?_)
  · refine lv_bipush (v := (-2 : Int32)) hx hb dX10_chainAt_21 (by decide) ?_
    exact w_X10_chainAt_23 l ht St_r St_st x1 x2 C q2 (-2 : Int32) H locs ls hf hP hD hS (lv_sub hl [0] rfl)
  · refine lv_aload_n hx hb dX10_chainAt_12 rfl (lv_at hl 0 rfl) ?_
    refine lv_iload_n hx hb dX10_chainAt_13 rfl (lv_at hl 1 rfl) ?_
    refine lv_iload_n hx hb dX10_chainAt_14 rfl (lv_at hl 2 rfl) ?_
    obtain ⟨q4, hc, hf⟩ := zbd hf
    refine z_cVi (As := [.int x1, .int x2]) (rest := []) C (c_X10_chainOf l D cy ht q2 St_st x1 x2 q4 hc) gV_X10_X10_chainOf hd_X10_chainOf ⟨Nat.le_of_ble_eq_true rfl, Nat.le_of_ble_eq_true rfl⟩ ⟨Nat.le_refl _, Nat.le_refl _⟩ (va_recv hK hP (ci := 6) (q0 := 0) rfl rfl) hP hD hS (w2 := wMo ht cy q2 ++ (wAI (fun _ => ht 3) cy 140 St_r ++ (wAI (fun _ => ht 9) cy 325 St_st))) [0, 2] [1] [1, 0, 2] rfl rfl rfl rfl rfl rfl (by decide) hl.1 (Nat.le_of_ble_eq_true rfl) dX10_chainAt_15 (fun H locs hP hD hS => ?_)
    refine lv_goto (tgt := 23) hx hb dX10_chainAt_18 (by decide) ?_
    exact w_X10_chainAt_23 l ht St_r St_st x1 x2 C q2 q4 H locs ls hf hP hD hS (lv_sub hl [0] rfl)
def b_X10_seenBy_22 (St_st : Nat → Int32) (x1 : Int32) (k22 : SMo → Int32 → Int32 → Option (Int32 × SMo)) (St : SMo) (v2 : Int32) (v3 : Int32) : Option (Int32 × SMo) :=
  (if (6 : Int32) ≤ v3 then
    some (v2, St)
    else
    (f_X10_doesRun St_st v3).bind (fun q1 =>
      (if q1 = 0 then
        (k22 St (v2 ||| (0 : Int32)) (v3 + (1 : Int32)))
        else
        (f_X10_doesSee St St_st v3 x1).bind (fun q2 =>
          (if q2 = 0 then
            (k22 St (v2 ||| (0 : Int32)) (v3 + (1 : Int32)))
            else
            (k22 St (v2 ||| ((1 : Int32) <<< (v3 &&& 31))) (v3 + (1 : Int32))))))))
set_option maxHeartbeats 4000000 in
set_option maxRecDepth 100000 in
theorem w_X10_seenBy_22 {p : Program} {e : Env} {s : State} {m : MethodId} {below : List Frame} {meth : Method} {c : Code} {A : Nat → Prop} {D : va_G} {cy : Nat → ClassId} {args : Array Value} {r : Int32 × SMo} (l : Launch) (ht : Nat → Nat) (St_st : Nat → Int32) (x1 : Int32) (C : zX p s m meth c cX10_seenBy 4 args RX10 (some FieldType.int) A D (zty cy)) :
    ∀ (n : Nat) (St : SMo) (v2 : Int32) (v3 : Int32) (H : Heap) (locs : List Loc) (ls : Array Slot), zl3 (b_X10_seenBy_22 St_st x1) n St v2 v3 = some r → va_P D vwCl (wMo ht cy St ++ (wAI (fun _ => ht 9) cy 325 St_st)) H → va_D A (wMo ht cy St ++ (wAI (fun _ => ht 9) cy 325 St_st)) → va_S A s.heap H locs → lv_has ls 4 [(0, .ref (ht 0)), (1, .int x1), (2, .int v2), (3, .int v3)] → W p l e (zRm 4 94) s m args below meth c H locs 0 0 (MQ below (zQI D (zty cy) A (wMo ht cy r.2 ++ (wAI (fun _ => ht 9) cy 325 St_st)) r.1) args s 0 0 A) (F0 m 22 ls []) := by
  obtain ⟨hx, hb, hr, hts, hown, hlocks, hml, hA, hK⟩ := id C
  intro n
  induction n with
  | zero => intro St v2 v3 H locs ls hf; exact zno hf
  | succ n ih =>
    intro St v2 v3 H locs ls hf hP hD hS hl
    have hf : b_X10_seenBy_22 St_st x1 (zl3 (b_X10_seenBy_22 St_st x1) n) St v2 v3 = some r := hf
    have K22 := ih
    refine lv_iload_n hx hb dX10_seenBy_22 rfl (lv_at hl 3 rfl) ?_
    refine lv_bipush (v := (6 : Int32)) hx hb dX10_seenBy_23 (by decide) ?_
    refine z_icmp_ge (tgt := 69) hx hb dX10_seenBy_25 (by decide) hf (fun hf => ?_) (fun hf => ?_)
    · refine lv_iload_n hx hb dX10_seenBy_69 rfl (lv_at hl 2 rfl) ?_
      obtain rfl := Option.some.inj hf
      exact z_iret (v := v2) C hP hD hS dX10_seenBy_70
    · refine lv_iload_n hx hb dX10_seenBy_28 rfl (lv_at hl 2 rfl) ?_
      refine lv_aload_n hx hb dX10_seenBy_29 rfl (lv_at hl 0 rfl) ?_
      refine lv_aload_n hx hb dX10_seenBy_30 rfl (lv_at hl 0 rfl) ?_
      refine va_get (D := D) (ci := 6) (v := .ref (ht 9)) (C := RX10) (T := TX10) (N := 41) hx hb hts in_X10 hown hK hP 0 rfl rfl 21 (by decide) (hts _ q6_66) (fun _ h9 => h9) rfl dX10_seenBy_31 ?_
      refine lv_iload_n hx hb dX10_seenBy_34 rfl (lv_at hl 3 rfl) ?_
      obtain ⟨q1, hc, hf⟩ := zbd hf
      refine z_cVi (As := [.ref (ht 9), .int v3]) (rest := [.int v2]) C (c_X10_doesRun l D cy ht (fun _ => ht 9) St_st v3 q1 hc) gV_X10_X10_doesRun hd_X10_doesRun ⟨Nat.le_of_ble_eq_true rfl, Nat.le_of_ble_eq_true rfl⟩ ⟨Nat.le_refl _, Nat.le_refl _⟩ (va_recv hK hP (ci := 6) (q0 := 0) rfl rfl) hP hD hS (w2 := wMo ht cy St ++ (wAI (fun _ => ht 9) cy 325 St_st)) [1] [0] [0, 1] rfl rfl rfl rfl rfl rfl (by decide) hl.1 (Nat.le_of_ble_eq_true rfl) dX10_seenBy_35 (fun H locs hP hD hS => ?_)
      refine z_if_eq (tgt := 60) hx hb dX10_seenBy_38 (by decide) hf (fun hf => ?_) (fun hf => ?_)
      · refine lv_iconst (v := (0 : Int32)) hx hb dX10_seenBy_60 (by decide) ?_
        refine lv_ior hx hb dX10_seenBy_61 ?_
        refine lv_istore_n (lv' := [(2, .int (v2 ||| (0 : Int32))), (0, .ref (ht 0)), (1, .int x1), (3, .int v3)]) hx hb dX10_seenBy_62 rfl hl (by decide) rfl (fun ls hl => ?_)
        refine lv_iinc (v := (v3 + (1 : Int32))) (lv' := [(3, .int (v3 + (1 : Int32))), (2, .int (v2 ||| (0 : Int32))), (0, .ref (ht 0)), (1, .int x1)]) hx hb dX10_seenBy_63 hl (k := 3) rfl rfl (by decide) rfl (fun ls hl => ?_)
        refine lv_goto (tgt := 22) hx hb dX10_seenBy_66 (by decide) ?_
        exact K22 St (v2 ||| (0 : Int32)) (v3 + (1 : Int32)) H locs ls hf hP hD hS (lv_sub hl [2, 3, 1, 0] rfl)
      · refine lv_aload_n hx hb dX10_seenBy_41 rfl (lv_at hl 0 rfl) ?_
        refine lv_aload_n hx hb dX10_seenBy_42 rfl (lv_at hl 0 rfl) ?_
        refine va_get (D := D) (ci := 6) (v := .ref (ht 9)) (C := RX10) (T := TX10) (N := 41) hx hb hts in_X10 hown hK hP 0 rfl rfl 21 (by decide) (hts _ q6_66) (fun _ h9 => h9) rfl dX10_seenBy_43 ?_
        refine lv_iload_n hx hb dX10_seenBy_46 rfl (lv_at hl 3 rfl) ?_
        refine lv_iload_n hx hb dX10_seenBy_47 rfl (lv_at hl 1 rfl) ?_
        obtain ⟨q2, hc, hf⟩ := zbd hf
        refine z_cVi0 (As := [.ref (ht 9), .int v3, .int x1]) (rest := [.int v2]) C (c_X10_doesSee l D cy ht (fun _ => ht 9) St St_st v3 x1 q2 hc) gV_X10_X10_doesSee hd_X10_doesSee ⟨Nat.le_of_ble_eq_true rfl, Nat.le_of_ble_eq_true rfl⟩ ⟨Nat.le_refl _, Nat.le_refl _⟩ (va_recv hK hP (ci := 6) (q0 := 0) rfl rfl) hP hD hS hl.1 (Nat.le_of_ble_eq_true rfl) dX10_seenBy_48 (fun H locs hP hD hS => ?_)
        have hP : va_P D vwCl (wMo ht cy St ++ (wAI (fun _ => ht 9) cy 325 St_st)) H := hP
        have hD : va_D A (wMo ht cy St ++ (wAI (fun _ => ht 9) cy 325 St_st)) := hD
        refine z_if_eq (tgt := 60) hx hb dX10_seenBy_51 (by decide) hf (fun hf => ?_) (fun hf => ?_)
        · refine lv_iconst (v := (0 : Int32)) hx hb dX10_seenBy_60 (by decide) ?_
          refine lv_ior hx hb dX10_seenBy_61 ?_
          refine lv_istore_n (lv' := [(2, .int (v2 ||| (0 : Int32))), (0, .ref (ht 0)), (1, .int x1), (3, .int v3)]) hx hb dX10_seenBy_62 rfl hl (by decide) rfl (fun ls hl => ?_)
          refine lv_iinc (v := (v3 + (1 : Int32))) (lv' := [(3, .int (v3 + (1 : Int32))), (2, .int (v2 ||| (0 : Int32))), (0, .ref (ht 0)), (1, .int x1)]) hx hb dX10_seenBy_63 hl (k := 3) rfl rfl (by decide) rfl (fun ls hl => ?_)
          refine lv_goto (tgt := 22) hx hb dX10_seenBy_66 (by decide) ?_
          exact K22 St (v2 ||| (0 : Int32)) (v3 + (1 : Int32)) H locs ls hf hP hD hS (lv_sub hl [2, 3, 1, 0] rfl)
        · refine lv_iconst (v := (1 : Int32)) hx hb dX10_seenBy_54 (by decide) ?_
          refine lv_iload_n hx hb dX10_seenBy_55 rfl (lv_at hl 3 rfl) ?_
          refine lv_ishl hx hb dX10_seenBy_56 ?_
          refine lv_goto (tgt := 61) hx hb dX10_seenBy_57 (by decide) ?_
          refine lv_ior hx hb dX10_seenBy_61 ?_
          refine lv_istore_n (lv' := [(2, .int (v2 ||| ((1 : Int32) <<< (v3 &&& 31)))), (0, .ref (ht 0)), (1, .int x1), (3, .int v3)]) hx hb dX10_seenBy_62 rfl hl (by decide) rfl (fun ls hl => ?_)
          refine lv_iinc (v := (v3 + (1 : Int32))) (lv' := [(3, .int (v3 + (1 : Int32))), (2, .int (v2 ||| ((1 : Int32) <<< (v3 &&& 31)))), (0, .ref (ht 0)), (1, .int x1)]) hx hb dX10_seenBy_63 hl (k := 3) rfl rfl (by decide) rfl (fun ls hl => ?_)
          refine lv_goto (tgt := 22) hx hb dX10_seenBy_66 (by decide) ?_
          exact K22 St (v2 ||| ((1 : Int32) <<< (v3 &&& 31))) (v3 + (1 : Int32)) H locs ls hf hP hD hS (lv_sub hl [2, 3, 1, 0] rfl)
def f_X10_seenBy (St : SMo) (St_st : Nat → Int32) (x1 : Int32) : Option (Int32 × SMo) :=
  (f_X10_anew St).bind (fun q3 =>
    (f_X10_isVersion q3 St_st x1).bind (fun q4 =>
      (if q4 = 0 then
        (f_X10_no q3 (1 : Int32)).bind (fun q5 =>
          some (q5.1, q5.2))
        else
        (zl3 (b_X10_seenBy_22 St_st x1) FU q3 (0 : Int32) (0 : Int32)))))
set_option maxHeartbeats 4000000 in
set_option maxRecDepth 100000 in
theorem c_X10_seenBy (l : Launch) (D : va_G) (cy : Nat → ClassId) (ht : Nat → Nat) (St : SMo) (St_st : Nat → Int32) (x1 : Int32) (r : Int32 × SMo) (hf : f_X10_seenBy St St_st x1 = some r) : zCI l yX10_seenBy cX10_seenBy 4 (some FieldType.int) 4 94 D (zty cy) [.ref (ht 0), .int x1] (wMo ht cy St ++ (wAI (fun _ => ht 9) cy 325 St_st)) (wMo ht cy r.2 ++ (wAI (fun _ => ht 9) cy 325 St_st)) r.1 := by
  refine zCI_of (by decide +kernel) (Nat.le_of_ble_eq_true rfl) ?_
  intro p e s m below meth c A ls C hP hD hS hl
  generalize hargs : ([.ref (ht 0), .int x1] : List Value).toArray = args at C ⊢
  have C : zX p s m meth c cX10_seenBy 4 args RX10 (some FieldType.int) A D (zty cy) := C
  obtain ⟨hx, hb, hr, hts, hown, hlocks, hml, hA, hK⟩ := id C
  have hl : lv_has ls 4 [(0, .ref (ht 0)), (1, .int x1)] := hl
  generalize hH : s.heap = H at hP ⊢
  have hS : va_S A s.heap H [] := by rw [← hH]; exact hS
  generalize ([] : List Loc) = locs at hS ⊢
  refine lv_aload_n hx hb dX10_seenBy_0 rfl (lv_at hl 0 rfl) ?_
  obtain ⟨q3, hc, hf⟩ := zbd hf
  refine z_cVv (As := []) (rest := []) C (c_X10_anew l D cy ht St q3 hc) gV_X10_X10_anew hd_X10_anew ⟨Nat.le_of_ble_eq_true rfl, Nat.le_of_ble_eq_true rfl⟩ ⟨Nat.le_refl _, Nat.le_refl _⟩ (va_recv hK hP (ci := 6) (q0 := 0) rfl rfl) hP hD hS (w2 := wMo ht cy q3 ++ (wAI (fun _ => ht 9) cy 325 St_st)) [0] [1] [1, 0] rfl rfl rfl rfl rfl rfl (by decide) hl.1 (Nat.le_of_ble_eq_true rfl) dX10_seenBy_1 (fun H locs hP hD hS => ?_)
  refine lv_aload_n hx hb dX10_seenBy_4 rfl (lv_at hl 0 rfl) ?_
  refine lv_iload_n hx hb dX10_seenBy_5 rfl (lv_at hl 1 rfl) ?_
  obtain ⟨q4, hc, hf⟩ := zbd hf
  refine z_cVi0 (As := [.int x1]) (rest := []) C (c_X10_isVersion l D cy ht q3 St_st x1 q4 hc) gV_X10_X10_isVersion hd_X10_isVersion ⟨Nat.le_of_ble_eq_true rfl, Nat.le_of_ble_eq_true rfl⟩ ⟨Nat.le_refl _, Nat.le_refl _⟩ (va_recv hK hP (ci := 6) (q0 := 0) rfl rfl) hP hD hS hl.1 (Nat.le_of_ble_eq_true rfl) dX10_seenBy_6 (fun H locs hP hD hS => ?_)
  have hP : va_P D vwCl (wMo ht cy q3 ++ (wAI (fun _ => ht 9) cy 325 St_st)) H := hP
  have hD : va_D A (wMo ht cy q3 ++ (wAI (fun _ => ht 9) cy 325 St_st)) := hD
  refine z_if_ne (tgt := 18) hx hb dX10_seenBy_9 (by decide) hf (fun hf => ?_) (fun hf => ?_)
  · refine lv_iconst (v := (0 : Int32)) hx hb dX10_seenBy_18 (by decide) ?_
    refine lv_istore_n (lv' := [(2, .int (0 : Int32)), (0, .ref (ht 0)), (1, .int x1)]) hx hb dX10_seenBy_19 rfl hl (by decide) rfl (fun ls hl => ?_)
    refine lv_iconst (v := (0 : Int32)) hx hb dX10_seenBy_20 (by decide) ?_
    refine lv_istore_n (lv' := [(3, .int (0 : Int32)), (2, .int (0 : Int32)), (0, .ref (ht 0)), (1, .int x1)]) hx hb dX10_seenBy_21 rfl hl (by decide) rfl (fun ls hl => ?_)
    exact w_X10_seenBy_22 l ht St_st x1 C FU q3 (0 : Int32) (0 : Int32) H locs ls hf hP hD hS (lv_sub hl [2, 3, 1, 0] rfl)
  · refine lv_aload_n hx hb dX10_seenBy_12 rfl (lv_at hl 0 rfl) ?_
    refine lv_iconst (v := (1 : Int32)) hx hb dX10_seenBy_13 (by decide) ?_
    obtain ⟨q5, hc, hf⟩ := zbd hf
    refine z_cVi (As := [.int (1 : Int32)]) (rest := []) C (c_X10_no l D cy ht q3 (1 : Int32) q5 hc) gV_X10_X10_no hd_X10_no ⟨Nat.le_of_ble_eq_true rfl, Nat.le_of_ble_eq_true rfl⟩ ⟨Nat.le_refl _, Nat.le_refl _⟩ (va_recv hK hP (ci := 6) (q0 := 0) rfl rfl) hP hD hS (w2 := wMo ht cy q5.2 ++ (wAI (fun _ => ht 9) cy 325 St_st)) [0] [1] [1, 0] rfl rfl rfl rfl rfl rfl (by decide) hl.1 (Nat.le_of_ble_eq_true rfl) dX10_seenBy_14 (fun H locs hP hD hS => ?_)
    obtain rfl := Option.some.inj hf
    exact z_iret (v := q5.1) C hP hD hS dX10_seenBy_17
def f_X10_dead (St : SMo) (St_st : Nat → Int32) : Option (Int32 × SMo) :=
  (f_X10_anew St).bind (fun q1 =>
    (if (Mo_hasStore q1) = 0 then
      (f_X10_no q1 (1 : Int32)).bind (fun q2 =>
        some (q2.1, q2.2))
      else
      (f_X10_deadOf q1 St_st).bind (fun q3 =>
        some (q3, q1))))
set_option maxHeartbeats 4000000 in
set_option maxRecDepth 100000 in
theorem c_X10_dead (l : Launch) (D : va_G) (cy : Nat → ClassId) (ht : Nat → Nat) (St : SMo) (St_st : Nat → Int32) (r : Int32 × SMo) (hf : f_X10_dead St St_st = some r) : zCI l yX10_dead cX10_dead 1 (some FieldType.int) 6 138 D (zty cy) [.ref (ht 0)] (wMo ht cy St ++ (wAI (fun _ => ht 9) cy 325 St_st)) (wMo ht cy r.2 ++ (wAI (fun _ => ht 9) cy 325 St_st)) r.1 := by
  refine zCI_of (by decide +kernel) (Nat.le_of_ble_eq_true rfl) ?_
  intro p e s m below meth c A ls C hP hD hS hl
  generalize hargs : ([.ref (ht 0)] : List Value).toArray = args at C ⊢
  have C : zX p s m meth c cX10_dead 1 args RX10 (some FieldType.int) A D (zty cy) := C
  obtain ⟨hx, hb, hr, hts, hown, hlocks, hml, hA, hK⟩ := id C
  have hl : lv_has ls 1 [(0, .ref (ht 0))] := hl
  generalize hH : s.heap = H at hP ⊢
  have hS : va_S A s.heap H [] := by rw [← hH]; exact hS
  generalize ([] : List Loc) = locs at hS ⊢
  refine lv_aload_n hx hb dX10_dead_0 rfl (lv_at hl 0 rfl) ?_
  obtain ⟨q1, hc, hf⟩ := zbd hf
  refine z_cVv (As := []) (rest := []) C (c_X10_anew l D cy ht St q1 hc) gV_X10_X10_anew hd_X10_anew ⟨Nat.le_of_ble_eq_true rfl, Nat.le_of_ble_eq_true rfl⟩ ⟨Nat.le_refl _, Nat.le_refl _⟩ (va_recv hK hP (ci := 6) (q0 := 0) rfl rfl) hP hD hS (w2 := wMo ht cy q1 ++ (wAI (fun _ => ht 9) cy 325 St_st)) [0] [1] [1, 0] rfl rfl rfl rfl rfl rfl (by decide) hl.1 (Nat.le_of_ble_eq_true rfl) dX10_dead_1 (fun H locs hP hD hS => ?_)
  refine lv_aload_n hx hb dX10_dead_4 rfl (lv_at hl 0 rfl) ?_
  refine va_get (D := D) (ci := 6) (v := .int (Mo_hasStore q1)) (C := RX10) (T := TX10) (N := 41) hx hb hts in_X10 hown hK hP 0 rfl rfl 14 (by decide) (hts _ q6_59) (fun _ h9 => h9) rfl dX10_dead_5 ?_
  refine z_if_eq (tgt := 22) hx hb dX10_dead_8 (by decide) hf (fun hf => ?_) (fun hf => ?_)
  · refine lv_aload_n hx hb dX10_dead_22 rfl (lv_at hl 0 rfl) ?_
    refine lv_iconst (v := (1 : Int32)) hx hb dX10_dead_23 (by decide) ?_
    obtain ⟨q2, hc, hf⟩ := zbd hf
    refine z_cVi (As := [.int (1 : Int32)]) (rest := []) C (c_X10_no l D cy ht q1 (1 : Int32) q2 hc) gV_X10_X10_no hd_X10_no ⟨Nat.le_of_ble_eq_true rfl, Nat.le_of_ble_eq_true rfl⟩ ⟨Nat.le_refl _, Nat.le_refl _⟩ (va_recv hK hP (ci := 6) (q0 := 0) rfl rfl) hP hD hS (w2 := wMo ht cy q2.2 ++ (wAI (fun _ => ht 9) cy 325 St_st)) [0] [1] [1, 0] rfl rfl rfl rfl rfl rfl (by decide) hl.1 (Nat.le_of_ble_eq_true rfl) dX10_dead_24 (fun H locs hP hD hS => ?_)
    obtain rfl := Option.some.inj hf
    exact z_iret (v := q2.1) C hP hD hS dX10_dead_27
  · refine lv_aload_n hx hb dX10_dead_11 rfl (lv_at hl 0 rfl) ?_
    refine lv_aload_n hx hb dX10_dead_12 rfl (lv_at hl 0 rfl) ?_
    refine va_get (D := D) (ci := 6) (v := .ref (ht 9)) (C := RX10) (T := TX10) (N := 41) hx hb hts in_X10 hown hK hP 0 rfl rfl 21 (by decide) (hts _ q6_66) (fun _ h9 => h9) rfl dX10_dead_13 ?_
    obtain ⟨q3, hc, hf⟩ := zbd hf
    refine z_cVi0 (As := [.ref (ht 9)]) (rest := []) C (c_X10_deadOf l D cy ht (fun _ => ht 9) q1 St_st q3 hc) gV_X10_X10_deadOf hd_X10_deadOf ⟨Nat.le_of_ble_eq_true rfl, Nat.le_of_ble_eq_true rfl⟩ ⟨Nat.le_refl _, Nat.le_refl _⟩ (va_recv hK hP (ci := 6) (q0 := 0) rfl rfl) hP hD hS hl.1 (Nat.le_of_ble_eq_true rfl) dX10_dead_16 (fun H locs hP hD hS => ?_)
    have hP : va_P D vwCl (wMo ht cy q1 ++ (wAI (fun _ => ht 9) cy 325 St_st)) H := hP
    have hD : va_D A (wMo ht cy q1 ++ (wAI (fun _ => ht 9) cy 325 St_st)) := hD
    refine lv_goto (tgt := 27) hx hb dX10_dead_19 (by decide) ?_
    obtain rfl := Option.some.inj hf
    exact z_iret (v := q3) C hP hD hS dX10_dead_27
def b_X10_freezes_21 (St_st : Nat → Int32) (k21 : SMo → Int32 → Int32 → Option (Int32 × SMo)) (St : SMo) (v1 : Int32) (v2 : Int32) : Option (Int32 × SMo) :=
  (if (48 : Int32) ≤ v2 then
    some (v1, St)
    else
    (f_X10_isFrozenThen St St_st v2).bind (fun q1 =>
      (if q1 = 0 then
        (f_X10_isLetGo St_st v2).bind (fun q2 =>
          (if q2 = 0 then
            (k21 St (v1 + (0 : Int32)) (v2 + (1 : Int32)))
            else
            (k21 St (v1 + (1 : Int32)) (v2 + (1 : Int32)))))
        else
        (k21 St (v1 + (1 : Int32)) (v2 + (1 : Int32))))))
set_option maxHeartbeats 4000000 in
set_option maxRecDepth 100000 in
theorem w_X10_freezes_21 {p : Program} {e : Env} {s : State} {m : MethodId} {below : List Frame} {meth : Method} {c : Code} {A : Nat → Prop} {D : va_G} {cy : Nat → ClassId} {args : Array Value} {r : Int32 × SMo} (l : Launch) (ht : Nat → Nat) (St_st : Nat → Int32) (C : zX p s m meth c cX10_freezes 3 args RX10 (some FieldType.int) A D (zty cy)) :
    ∀ (n : Nat) (St : SMo) (v1 : Int32) (v2 : Int32) (H : Heap) (locs : List Loc) (ls : Array Slot), zl3 (b_X10_freezes_21 St_st) n St v1 v2 = some r → va_P D vwCl (wMo ht cy St ++ (wAI (fun _ => ht 9) cy 325 St_st)) H → va_D A (wMo ht cy St ++ (wAI (fun _ => ht 9) cy 325 St_st)) → va_S A s.heap H locs → lv_has ls 3 [(0, .ref (ht 0)), (1, .int v1), (2, .int v2)] → W p l e (zRm 5 114) s m args below meth c H locs 0 0 (MQ below (zQI D (zty cy) A (wMo ht cy r.2 ++ (wAI (fun _ => ht 9) cy 325 St_st)) r.1) args s 0 0 A) (F0 m 21 ls []) := by
  obtain ⟨hx, hb, hr, hts, hown, hlocks, hml, hA, hK⟩ := id C
  intro n
  induction n with
  | zero => intro St v1 v2 H locs ls hf; exact zno hf
  | succ n ih =>
    intro St v1 v2 H locs ls hf hP hD hS hl
    have hf : b_X10_freezes_21 St_st (zl3 (b_X10_freezes_21 St_st) n) St v1 v2 = some r := hf
    have K21 := ih
    refine lv_iload_n hx hb dX10_freezes_21 rfl (lv_at hl 2 rfl) ?_
    refine lv_bipush (v := (48 : Int32)) hx hb dX10_freezes_22 (by decide) ?_
    refine z_icmp_ge (tgt := 65) hx hb dX10_freezes_24 (by decide) hf (fun hf => ?_) (fun hf => ?_)
    · refine lv_iload_n hx hb dX10_freezes_65 rfl (lv_at hl 1 rfl) ?_
      obtain rfl := Option.some.inj hf
      exact z_iret (v := v1) C hP hD hS dX10_freezes_66
    · refine lv_iload_n hx hb dX10_freezes_27 rfl (lv_at hl 1 rfl) ?_
      refine lv_aload_n hx hb dX10_freezes_28 rfl (lv_at hl 0 rfl) ?_
      refine lv_aload_n hx hb dX10_freezes_29 rfl (lv_at hl 0 rfl) ?_
      refine va_get (D := D) (ci := 6) (v := .ref (ht 9)) (C := RX10) (T := TX10) (N := 41) hx hb hts in_X10 hown hK hP 0 rfl rfl 21 (by decide) (hts _ q6_66) (fun _ h9 => h9) rfl dX10_freezes_30 ?_
      refine lv_iload_n hx hb dX10_freezes_33 rfl (lv_at hl 2 rfl) ?_
      obtain ⟨q1, hc, hf⟩ := zbd hf
      refine z_cVi0 (As := [.ref (ht 9), .int v2]) (rest := [.int v1]) C (c_X10_isFrozenThen l D cy ht (fun _ => ht 9) St St_st v2 q1 hc) gV_X10_X10_isFrozenThen hd_X10_isFrozenThen ⟨Nat.le_of_ble_eq_true rfl, Nat.le_of_ble_eq_true rfl⟩ ⟨Nat.le_refl _, Nat.le_refl _⟩ (va_recv hK hP (ci := 6) (q0 := 0) rfl rfl) hP hD hS hl.1 (Nat.le_of_ble_eq_true rfl) dX10_freezes_34 (fun H locs hP hD hS => ?_)
      have hP : va_P D vwCl (wMo ht cy St ++ (wAI (fun _ => ht 9) cy 325 St_st)) H := hP
      have hD : va_D A (wMo ht cy St ++ (wAI (fun _ => ht 9) cy 325 St_st)) := hD
      refine z_if_ne (tgt := 52) hx hb dX10_freezes_37 (by decide) hf (fun hf => ?_) (fun hf => ?_)
      · refine lv_iconst (v := (1 : Int32)) hx hb dX10_freezes_52 (by decide) ?_
        refine lv_goto (tgt := 57) hx hb dX10_freezes_53 (by decide) ?_
        refine lv_iadd hx hb dX10_freezes_57 ?_
        refine lv_istore_n (lv' := [(1, .int (v1 + (1 : Int32))), (0, .ref (ht 0)), (2, .int v2)]) hx hb dX10_freezes_58 rfl hl (by decide) rfl (fun ls hl => ?_)
        refine lv_iinc (v := (v2 + (1 : Int32))) (lv' := [(2, .int (v2 + (1 : Int32))), (1, .int (v1 + (1 : Int32))), (0, .ref (ht 0))]) hx hb dX10_freezes_59 hl (k := 2) rfl rfl (by decide) rfl (fun ls hl => ?_)
        refine lv_goto (tgt := 21) hx hb dX10_freezes_62 (by decide) ?_
        exact K21 St (v1 + (1 : Int32)) (v2 + (1 : Int32)) H locs ls hf hP hD hS (lv_sub hl [2, 1, 0] rfl)
      · refine lv_aload_n hx hb dX10_freezes_40 rfl (lv_at hl 0 rfl) ?_
        refine lv_aload_n hx hb dX10_freezes_41 rfl (lv_at hl 0 rfl) ?_
        refine va_get (D := D) (ci := 6) (v := .ref (ht 9)) (C := RX10) (T := TX10) (N := 41) hx hb hts in_X10 hown hK hP 0 rfl rfl 21 (by decide) (hts _ q6_66) (fun _ h9 => h9) rfl dX10_freezes_42 ?_
        refine lv_iload_n hx hb dX10_freezes_45 rfl (lv_at hl 2 rfl) ?_
        obtain ⟨q2, hc, hf⟩ := zbd hf
        refine z_cVi (As := [.ref (ht 9), .int v2]) (rest := [.int v1]) C (c_X10_isLetGo l D cy ht (fun _ => ht 9) St_st v2 q2 hc) gV_X10_X10_isLetGo hd_X10_isLetGo ⟨Nat.le_of_ble_eq_true rfl, Nat.le_of_ble_eq_true rfl⟩ ⟨Nat.le_refl _, Nat.le_refl _⟩ (va_recv hK hP (ci := 6) (q0 := 0) rfl rfl) hP hD hS (w2 := wMo ht cy St ++ (wAI (fun _ => ht 9) cy 325 St_st)) [1] [0] [0, 1] rfl rfl rfl rfl rfl rfl (by decide) hl.1 (Nat.le_of_ble_eq_true rfl) dX10_freezes_46 (fun H locs hP hD hS => ?_)
        refine z_if_eq (tgt := 56) hx hb dX10_freezes_49 (by decide) hf (fun hf => ?_) (fun hf => ?_)
        · refine lv_iconst (v := (0 : Int32)) hx hb dX10_freezes_56 (by decide) ?_
          refine lv_iadd hx hb dX10_freezes_57 ?_
          refine lv_istore_n (lv' := [(1, .int (v1 + (0 : Int32))), (0, .ref (ht 0)), (2, .int v2)]) hx hb dX10_freezes_58 rfl hl (by decide) rfl (fun ls hl => ?_)
          refine lv_iinc (v := (v2 + (1 : Int32))) (lv' := [(2, .int (v2 + (1 : Int32))), (1, .int (v1 + (0 : Int32))), (0, .ref (ht 0))]) hx hb dX10_freezes_59 hl (k := 2) rfl rfl (by decide) rfl (fun ls hl => ?_)
          refine lv_goto (tgt := 21) hx hb dX10_freezes_62 (by decide) ?_
          exact K21 St (v1 + (0 : Int32)) (v2 + (1 : Int32)) H locs ls hf hP hD hS (lv_sub hl [2, 1, 0] rfl)
        · refine lv_iconst (v := (1 : Int32)) hx hb dX10_freezes_52 (by decide) ?_
          refine lv_goto (tgt := 57) hx hb dX10_freezes_53 (by decide) ?_
          refine lv_iadd hx hb dX10_freezes_57 ?_
          refine lv_istore_n (lv' := [(1, .int (v1 + (1 : Int32))), (0, .ref (ht 0)), (2, .int v2)]) hx hb dX10_freezes_58 rfl hl (by decide) rfl (fun ls hl => ?_)
          refine lv_iinc (v := (v2 + (1 : Int32))) (lv' := [(2, .int (v2 + (1 : Int32))), (1, .int (v1 + (1 : Int32))), (0, .ref (ht 0))]) hx hb dX10_freezes_59 hl (k := 2) rfl rfl (by decide) rfl (fun ls hl => ?_)
          refine lv_goto (tgt := 21) hx hb dX10_freezes_62 (by decide) ?_
          exact K21 St (v1 + (1 : Int32)) (v2 + (1 : Int32)) H locs ls hf hP hD hS (lv_sub hl [2, 1, 0] rfl)
def f_X10_freezes (St : SMo) (St_st : Nat → Int32) : Option (Int32 × SMo) :=
  (f_X10_anew St).bind (fun q3 =>
    (if (Mo_hasStore q3) = 0 then
      (f_X10_no q3 (1 : Int32)).bind (fun q4 =>
        some (q4.1, q4.2))
      else
      (zl3 (b_X10_freezes_21 St_st) FU q3 (0 : Int32) (0 : Int32))))
set_option maxHeartbeats 4000000 in
set_option maxRecDepth 100000 in
theorem c_X10_freezes (l : Launch) (D : va_G) (cy : Nat → ClassId) (ht : Nat → Nat) (St : SMo) (St_st : Nat → Int32) (r : Int32 × SMo) (hf : f_X10_freezes St St_st = some r) : zCI l yX10_freezes cX10_freezes 3 (some FieldType.int) 5 114 D (zty cy) [.ref (ht 0)] (wMo ht cy St ++ (wAI (fun _ => ht 9) cy 325 St_st)) (wMo ht cy r.2 ++ (wAI (fun _ => ht 9) cy 325 St_st)) r.1 := by
  refine zCI_of (by decide +kernel) (Nat.le_of_ble_eq_true rfl) ?_
  intro p e s m below meth c A ls C hP hD hS hl
  generalize hargs : ([.ref (ht 0)] : List Value).toArray = args at C ⊢
  have C : zX p s m meth c cX10_freezes 3 args RX10 (some FieldType.int) A D (zty cy) := C
  obtain ⟨hx, hb, hr, hts, hown, hlocks, hml, hA, hK⟩ := id C
  have hl : lv_has ls 3 [(0, .ref (ht 0))] := hl
  generalize hH : s.heap = H at hP ⊢
  have hS : va_S A s.heap H [] := by rw [← hH]; exact hS
  generalize ([] : List Loc) = locs at hS ⊢
  refine lv_aload_n hx hb dX10_freezes_0 rfl (lv_at hl 0 rfl) ?_
  obtain ⟨q3, hc, hf⟩ := zbd hf
  refine z_cVv (As := []) (rest := []) C (c_X10_anew l D cy ht St q3 hc) gV_X10_X10_anew hd_X10_anew ⟨Nat.le_of_ble_eq_true rfl, Nat.le_of_ble_eq_true rfl⟩ ⟨Nat.le_refl _, Nat.le_refl _⟩ (va_recv hK hP (ci := 6) (q0 := 0) rfl rfl) hP hD hS (w2 := wMo ht cy q3 ++ (wAI (fun _ => ht 9) cy 325 St_st)) [0] [1] [1, 0] rfl rfl rfl rfl rfl rfl (by decide) hl.1 (Nat.le_of_ble_eq_true rfl) dX10_freezes_1 (fun H locs hP hD hS => ?_)
  refine lv_aload_n hx hb dX10_freezes_4 rfl (lv_at hl 0 rfl) ?_
  refine va_get (D := D) (ci := 6) (v := .int (Mo_hasStore q3)) (C := RX10) (T := TX10) (N := 41) hx hb hts in_X10 hown hK hP 0 rfl rfl 14 (by decide) (hts _ q6_59) (fun _ h9 => h9) rfl dX10_freezes_5 ?_
  refine z_if_ne (tgt := 17) hx hb dX10_freezes_8 (by decide) hf (fun hf => ?_) (fun hf => ?_)
  · refine lv_iconst (v := (0 : Int32)) hx hb dX10_freezes_17 (by decide) ?_
    refine lv_istore_n (lv' := [(1, .int (0 : Int32)), (0, .ref (ht 0))]) hx hb dX10_freezes_18 rfl hl (by decide) rfl (fun ls hl => ?_)
    refine lv_iconst (v := (0 : Int32)) hx hb dX10_freezes_19 (by decide) ?_
    refine lv_istore_n (lv' := [(2, .int (0 : Int32)), (1, .int (0 : Int32)), (0, .ref (ht 0))]) hx hb dX10_freezes_20 rfl hl (by decide) rfl (fun ls hl => ?_)
    exact w_X10_freezes_21 l ht St_st C FU q3 (0 : Int32) (0 : Int32) H locs ls hf hP hD hS (lv_sub hl [2, 1, 0] rfl)
  · refine lv_aload_n hx hb dX10_freezes_11 rfl (lv_at hl 0 rfl) ?_
    refine lv_iconst (v := (1 : Int32)) hx hb dX10_freezes_12 (by decide) ?_
    obtain ⟨q4, hc, hf⟩ := zbd hf
    refine z_cVi (As := [.int (1 : Int32)]) (rest := []) C (c_X10_no l D cy ht q3 (1 : Int32) q4 hc) gV_X10_X10_no hd_X10_no ⟨Nat.le_of_ble_eq_true rfl, Nat.le_of_ble_eq_true rfl⟩ ⟨Nat.le_refl _, Nat.le_refl _⟩ (va_recv hK hP (ci := 6) (q0 := 0) rfl rfl) hP hD hS (w2 := wMo ht cy q4.2 ++ (wAI (fun _ => ht 9) cy 325 St_st)) [0] [1] [1, 0] rfl rfl rfl rfl rfl rfl (by decide) hl.1 (Nat.le_of_ble_eq_true rfl) dX10_freezes_13 (fun H locs hP hD hS => ?_)
    obtain rfl := Option.some.inj hf
    exact z_iret (v := q4.1) C hP hD hS dX10_freezes_16
def f_X10_sees (St : SMo) (St_r : Nat → Int32) (St_st : Nat → Int32) (x1 : Int32) (x2 : Int32) : Option (Int32 × SMo) :=
  (f_X10_anew St).bind (fun q1 =>
    (f_X10_isSlot q1 St_st x1).bind (fun q2 =>
      (if q2 = 0 then
        (f_X10_no q1 (1 : Int32)).bind (fun q3 =>
          some (q3.1, q3.2))
        else
        (f_X10_isRow q1 St_r x2).bind (fun q4 =>
          (if q4 = 0 then
            (f_X10_no q1 (1 : Int32)).bind (fun q5 =>
              some (q5.1, q5.2))
            else
            (f_X10_seenIn q1 St_st x1 x2).bind (fun q6 =>
              some (q6, q1)))))))
set_option maxHeartbeats 4000000 in
set_option maxRecDepth 100000 in
theorem c_X10_sees (l : Launch) (D : va_G) (cy : Nat → ClassId) (ht : Nat → Nat) (St : SMo) (St_r : Nat → Int32) (St_st : Nat → Int32) (x1 : Int32) (x2 : Int32) (r : Int32 × SMo) (hf : f_X10_sees St St_r St_st x1 x2 = some r) : zCI l yX10_sees cX10_sees 3 (some FieldType.int) 5 119 D (zty cy) [.ref (ht 0), .int x1, .int x2] (wMo ht cy St ++ (wAI (fun _ => ht 3) cy 140 St_r ++ (wAI (fun _ => ht 9) cy 325 St_st))) (wMo ht cy r.2 ++ (wAI (fun _ => ht 3) cy 140 St_r ++ (wAI (fun _ => ht 9) cy 325 St_st))) r.1 := by
  refine zCI_of (by decide +kernel) (Nat.le_of_ble_eq_true rfl) ?_
  intro p e s m below meth c A ls C hP hD hS hl
  generalize hargs : ([.ref (ht 0), .int x1, .int x2] : List Value).toArray = args at C ⊢
  have C : zX p s m meth c cX10_sees 3 args RX10 (some FieldType.int) A D (zty cy) := C
  obtain ⟨hx, hb, hr, hts, hown, hlocks, hml, hA, hK⟩ := id C
  have hl : lv_has ls 3 [(0, .ref (ht 0)), (1, .int x1), (2, .int x2)] := hl
  generalize hH : s.heap = H at hP ⊢
  have hS : va_S A s.heap H [] := by rw [← hH]; exact hS
  generalize ([] : List Loc) = locs at hS ⊢
  refine lv_aload_n hx hb dX10_sees_0 rfl (lv_at hl 0 rfl) ?_
  obtain ⟨q1, hc, hf⟩ := zbd hf
  refine z_cVv (As := []) (rest := []) C (c_X10_anew l D cy ht St q1 hc) gV_X10_X10_anew hd_X10_anew ⟨Nat.le_of_ble_eq_true rfl, Nat.le_of_ble_eq_true rfl⟩ ⟨Nat.le_refl _, Nat.le_refl _⟩ (va_recv hK hP (ci := 6) (q0 := 0) rfl rfl) hP hD hS (w2 := wMo ht cy q1 ++ (wAI (fun _ => ht 3) cy 140 St_r ++ (wAI (fun _ => ht 9) cy 325 St_st))) [0] [1, 2] [2, 0, 1] rfl rfl rfl rfl rfl rfl (by decide) hl.1 (Nat.le_of_ble_eq_true rfl) dX10_sees_1 (fun H locs hP hD hS => ?_)
  refine lv_aload_n hx hb dX10_sees_4 rfl (lv_at hl 0 rfl) ?_
  refine lv_iload_n hx hb dX10_sees_5 rfl (lv_at hl 1 rfl) ?_
  obtain ⟨q2, hc, hf⟩ := zbd hf
  refine z_cVi (As := [.int x1]) (rest := []) C (c_X10_isSlot l D cy ht q1 St_st x1 q2 hc) gV_X10_X10_isSlot hd_X10_isSlot ⟨Nat.le_of_ble_eq_true rfl, Nat.le_of_ble_eq_true rfl⟩ ⟨Nat.le_refl _, Nat.le_refl _⟩ (va_recv hK hP (ci := 6) (q0 := 0) rfl rfl) hP hD hS (w2 := wMo ht cy q1 ++ (wAI (fun _ => ht 3) cy 140 St_r ++ (wAI (fun _ => ht 9) cy 325 St_st))) [0, 2] [1] [1, 0, 2] rfl rfl rfl rfl rfl rfl (by decide) hl.1 (Nat.le_of_ble_eq_true rfl) dX10_sees_6 (fun H locs hP hD hS => ?_)
  refine z_if_eq (tgt := 33) hx hb dX10_sees_9 (by decide) hf (fun hf => ?_) (fun hf => ?_)
  · refine lv_aload_n hx hb dX10_sees_33 rfl (lv_at hl 0 rfl) ?_
    refine lv_iconst (v := (1 : Int32)) hx hb dX10_sees_34 (by decide) ?_
    obtain ⟨q3, hc, hf⟩ := zbd hf
    refine z_cVi (As := [.int (1 : Int32)]) (rest := []) C (c_X10_no l D cy ht q1 (1 : Int32) q3 hc) gV_X10_X10_no hd_X10_no ⟨Nat.le_of_ble_eq_true rfl, Nat.le_of_ble_eq_true rfl⟩ ⟨Nat.le_refl _, Nat.le_refl _⟩ (va_recv hK hP (ci := 6) (q0 := 0) rfl rfl) hP hD hS (w2 := wMo ht cy q3.2 ++ (wAI (fun _ => ht 3) cy 140 St_r ++ (wAI (fun _ => ht 9) cy 325 St_st))) [0] [1, 2] [2, 0, 1] rfl rfl rfl rfl rfl rfl (by decide) hl.1 (Nat.le_of_ble_eq_true rfl) dX10_sees_35 (fun H locs hP hD hS => ?_)
    obtain rfl := Option.some.inj hf
    exact z_iret (v := q3.1) C hP hD hS dX10_sees_38
  · refine lv_aload_n hx hb dX10_sees_12 rfl (lv_at hl 0 rfl) ?_
    refine lv_iload_n hx hb dX10_sees_13 rfl (lv_at hl 2 rfl) ?_
    obtain ⟨q4, hc, hf⟩ := zbd hf
    refine z_cVi (As := [.int x2]) (rest := []) C (c_X10_isRow l D cy ht q1 St_r x2 q4 hc) gV_X10_X10_isRow hd_X10_isRow ⟨Nat.le_of_ble_eq_true rfl, Nat.le_of_ble_eq_true rfl⟩ ⟨Nat.le_refl _, Nat.le_refl _⟩ (va_recv hK hP (ci := 6) (q0 := 0) rfl rfl) hP hD hS (w2 := wMo ht cy q1 ++ (wAI (fun _ => ht 3) cy 140 St_r ++ (wAI (fun _ => ht 9) cy 325 St_st))) [0, 1] [2] [1, 2, 0] rfl rfl rfl rfl rfl rfl (by decide) hl.1 (Nat.le_of_ble_eq_true rfl) dX10_sees_14 (fun H locs hP hD hS => ?_)
    refine z_if_eq (tgt := 33) hx hb dX10_sees_17 (by decide) hf (fun hf => ?_) (fun hf => ?_)
    · refine lv_aload_n hx hb dX10_sees_33 rfl (lv_at hl 0 rfl) ?_
      refine lv_iconst (v := (1 : Int32)) hx hb dX10_sees_34 (by decide) ?_
      obtain ⟨q5, hc, hf⟩ := zbd hf
      refine z_cVi (As := [.int (1 : Int32)]) (rest := []) C (c_X10_no l D cy ht q1 (1 : Int32) q5 hc) gV_X10_X10_no hd_X10_no ⟨Nat.le_of_ble_eq_true rfl, Nat.le_of_ble_eq_true rfl⟩ ⟨Nat.le_refl _, Nat.le_refl _⟩ (va_recv hK hP (ci := 6) (q0 := 0) rfl rfl) hP hD hS (w2 := wMo ht cy q5.2 ++ (wAI (fun _ => ht 3) cy 140 St_r ++ (wAI (fun _ => ht 9) cy 325 St_st))) [0] [1, 2] [2, 0, 1] rfl rfl rfl rfl rfl rfl (by decide) hl.1 (Nat.le_of_ble_eq_true rfl) dX10_sees_35 (fun H locs hP hD hS => ?_)
      obtain rfl := Option.some.inj hf
      exact z_iret (v := q5.1) C hP hD hS dX10_sees_38
    · refine lv_aload_n hx hb dX10_sees_20 rfl (lv_at hl 0 rfl) ?_
      refine lv_aload_n hx hb dX10_sees_21 rfl (lv_at hl 0 rfl) ?_
      refine va_get (D := D) (ci := 6) (v := .ref (ht 9)) (C := RX10) (T := TX10) (N := 41) hx hb hts in_X10 hown hK hP 0 rfl rfl 21 (by decide) (hts _ q6_66) (fun _ h9 => h9) rfl dX10_sees_22 ?_
      refine lv_iload_n hx hb dX10_sees_25 rfl (lv_at hl 1 rfl) ?_
      refine lv_iload_n hx hb dX10_sees_26 rfl (lv_at hl 2 rfl) ?_
      obtain ⟨q6, hc, hf⟩ := zbd hf
      refine z_cVi (As := [.ref (ht 9), .int x1, .int x2]) (rest := []) C (c_X10_seenIn l D cy ht (fun _ => ht 9) q1 St_st x1 x2 q6 hc) gV_X10_X10_seenIn hd_X10_seenIn ⟨Nat.le_of_ble_eq_true rfl, Nat.le_of_ble_eq_true rfl⟩ ⟨Nat.le_refl _, Nat.le_refl _⟩ (va_recv hK hP (ci := 6) (q0 := 0) rfl rfl) hP hD hS (w2 := wMo ht cy q1 ++ (wAI (fun _ => ht 3) cy 140 St_r ++ (wAI (fun _ => ht 9) cy 325 St_st))) [0, 2] [1] [1, 0, 2] rfl rfl rfl rfl rfl rfl (by decide) hl.1 (Nat.le_of_ble_eq_true rfl) dX10_sees_27 (fun H locs hP hD hS => ?_)
      refine lv_goto (tgt := 38) hx hb dX10_sees_30 (by decide) ?_
      obtain rfl := Option.some.inj hf
      exact z_iret (v := q6) C hP hD hS dX10_sees_38
def f_X10_valueOf (St : SMo) (Sp1 : Nat → Int32) (x2 : Int32) (x3 : Int32) : Option (Int32) :=
  (f_X10_seenIn St Sp1 x2 x3).bind (fun q1 =>
    (if 0 ≤ q1 then
      (if zib ((48 : Int32) + q1) 325 then some (Sp1 ((48 : Int32) + q1).toNatClampNeg) else none)
      else
      some (-2 : Int32)))
set_option maxHeartbeats 4000000 in
set_option maxRecDepth 100000 in
theorem c_X10_valueOf (l : Launch) (D : va_G) (cy : Nat → ClassId) (ht : Nat → Nat) (hp1 : Nat → Nat) (St : SMo) (Sp1 : Nat → Int32) (x2 : Int32) (x3 : Int32) (r : Int32) (hf : f_X10_valueOf St Sp1 x2 x3 = some r) : zCI l yX10_valueOf cX10_valueOf 5 (some FieldType.int) 5 119 D (zty cy) [.ref (ht 0), .ref (hp1 0), .int x2, .int x3] (wMo ht cy St ++ (wAI hp1 cy 325 Sp1)) (wMo ht cy St ++ (wAI hp1 cy 325 Sp1)) r := by
  refine zCI_of (by decide +kernel) (Nat.le_of_ble_eq_true rfl) ?_
  intro p e s m below meth c A ls C hP hD hS hl
  generalize hargs : ([.ref (ht 0), .ref (hp1 0), .int x2, .int x3] : List Value).toArray = args at C ⊢
  have C : zX p s m meth c cX10_valueOf 5 args RX10 (some FieldType.int) A D (zty cy) := C
  obtain ⟨hx, hb, hr, hts, hown, hlocks, hml, hA, hK⟩ := id C
  have hl : lv_has ls 5 [(0, .ref (ht 0)), (1, .ref (hp1 0)), (2, .int x2), (3, .int x3)] := hl
  generalize hH : s.heap = H at hP ⊢
  have hS : va_S A s.heap H [] := by rw [← hH]; exact hS
  generalize ([] : List Loc) = locs at hS ⊢
  refine lv_aload_n hx hb dX10_valueOf_0 rfl (lv_at hl 0 rfl) ?_
  refine lv_aload_n hx hb dX10_valueOf_1 rfl (lv_at hl 1 rfl) ?_
  refine lv_iload_n hx hb dX10_valueOf_2 rfl (lv_at hl 2 rfl) ?_
  refine lv_iload_n hx hb dX10_valueOf_3 rfl (lv_at hl 3 rfl) ?_
  obtain ⟨q1, hc, hf⟩ := zbd hf
  refine z_cVi0 (As := [.ref (hp1 0), .int x2, .int x3]) (rest := []) C (c_X10_seenIn l D cy ht hp1 St Sp1 x2 x3 q1 hc) gV_X10_X10_seenIn hd_X10_seenIn ⟨Nat.le_of_ble_eq_true rfl, Nat.le_of_ble_eq_true rfl⟩ ⟨Nat.le_refl _, Nat.le_refl _⟩ (va_recv hK hP (ci := 6) (q0 := 0) rfl rfl) hP hD hS hl.1 (Nat.le_of_ble_eq_true rfl) dX10_valueOf_4 (fun H locs hP hD hS => ?_)
  have hP : va_P D vwCl (wMo ht cy St ++ (wAI hp1 cy 325 Sp1)) H := hP
  have hD : va_D A (wMo ht cy St ++ (wAI hp1 cy 325 Sp1)) := hD
  refine lv_istore (lv' := [(4, .int q1), (0, .ref (ht 0)), (1, .ref (hp1 0)), (2, .int x2), (3, .int x3)]) hx hb dX10_valueOf_7 hl (by decide) rfl (fun ls hl => ?_)
  refine lv_iload hx hb dX10_valueOf_9 (lv_at hl 0 rfl) ?_
  refine z_if_ge (tgt := 19) hx hb dX10_valueOf_11 (by decide) hf (fun hf => ?_) (fun hf => ?_)
  · refine lv_aload_n hx hb dX10_valueOf_19 rfl (lv_at hl 2 rfl) ?_
    refine lv_bipush (v := (48 : Int32)) hx hb dX10_valueOf_20 (by decide) ?_
    refine lv_iload hx hb dX10_valueOf_22 (lv_at hl 0 rfl) ?_
    refine lv_iadd hx hb dX10_valueOf_24 ?_
    refine z_iald (f := Sp1) hx hb hK hP 1 0 rfl rfl dX10_valueOf_25 hf (fun hf => ?_)
    obtain rfl := Option.some.inj hf
    exact z_iret (v := (Sp1 ((48 : Int32) + q1).toNatClampNeg)) C hP hD hS dX10_valueOf_26
  · refine lv_bipush (v := (-2 : Int32)) hx hb dX10_valueOf_14 (by decide) ?_
    refine lv_goto (tgt := 26) hx hb dX10_valueOf_16 (by decide) ?_
    obtain rfl := Option.some.inj hf
    exact z_iret (v := (-2 : Int32)) C hP hD hS dX10_valueOf_26
